def relzU_pulse_0_0_p (g0 : xk_St) (k2 : Int32) (gz : xk_St) : Prop := ∃ (g1 : xk_St), g1 = va_up g0 15 (upd (g0 15) 0 k2) ∧ (gz = g1)
set_option maxHeartbeats 4000000 in
set_option maxRecDepth 100000 in
theorem kzU_pulse_0_0_p (l : Launch) (G : va_G) (ac : Nat → ClassId) (ad : Nat → Nat) (g0 : xk_St) (k2 : Int32) (h1 : k2 = 1) (h2 : ((g0 15) 0) = 0) : xk_CV l yzU_pulse czU_pulse 5 xk_WS xk_r1 G xk_cls (xk_tys ac) [.ref (ad 0), .int 0, .int 0, .int k2] (xk_wU ad ac g0) (fun (gz : xk_St) => relzU_pulse_0_0_p g0 k2 gz) (fun gz => xk_wU ad ac gz) := by
  refine xk_ofV (by decide) (Nat.le_of_ble_eq_true rfl) ?_
  intro p e s m args below meth c A Q H locs ls C0 hret hP hD hS hl
  obtain ⟨hx, hb, hml, hts, hown, hK, hA⟩ := C0
  have hl : lv_has ls 5 [(0, .ref (ad 0)), (1, .int 0), (2, .int 0), (3, .int k2)] := hl
  refine lv_aload_n (pc := 0) hx hb dzU_pulse_0 rfl (lv_at hl 0 rfl) ?_
  refine lv_iload_n (pc := 1) hx hb dzU_pulse_1 rfl (lv_at hl 1 rfl) ?_
  refine xk_allVR (As := [.int 0]) (rest := []) (H0 := s.heap) (pc := 2) hx hb hml hts hown hK hA hP hD hS (kzU_findTrack_0 l G ac ad g0) vfzU_63 0 rfl rfl ⟨rfl, rfl⟩ ⟨Nat.le_of_ble_eq_true rfl, Nat.le_of_ble_eq_true rfl⟩ rfl hl.1 rfl (Nat.le_of_ble_eq_true rfl) ⟨Nat.zero_le _, Nat.zero_le _⟩ dzU_pulse_2 (fun H locs hP hD hS => ?_)
  have hP : va_P G xk_cls (xk_wU ad ac g0) H := hP
  have hD : va_D A (xk_wU ad ac g0) := hD
  refine lv_astore (lv' := [(4, .ref (ad 9)), (0, .ref (ad 0)), (1, .int 0), (2, .int 0), (3, .int k2)]) (pc := 5) hx hb dzU_pulse_5 hl (by decide) rfl (fun ls hl => ?_)
  refine lv_iload_n (pc := 7) hx hb dzU_pulse_7 rfl (lv_at hl 3 rfl) ?_
  refine xk_callSV (As := [.int 0]) (rest := []) (H0 := s.heap) (pc := 8) hx hb hml hts hown hK hA hP hD hS (kzU_checkHead_0 l G ac) sfzU_67 [] (by decide) rfl (fun _ => rfl) ⟨rfl, rfl⟩ ⟨Nat.le_of_ble_eq_true rfl, Nat.le_of_ble_eq_true rfl⟩ rfl hl.1 rfl (Nat.le_of_ble_eq_true rfl) ⟨Nat.zero_le _, Nat.zero_le _⟩ dzU_pulse_8 (fun u9 H locs e9 hP hD hS => ?_)
  have hP : va_P G xk_cls (xk_wU ad ac g0) H := hP
  have hD : va_D A (xk_wU ad ac g0) := hD
  refine lv_iload_n (pc := 11) hx hb dzU_pulse_11 rfl (lv_at hl 4 rfl) ?_
  refine lv_iconst (v := 1) (pc := 12) hx hb dzU_pulse_12 (by decide) ?_
  refine lv_icmp_eq (pc := 13) (tgt := 31) hx hb dzU_pulse_13 (by decide) (fun _ => ?_) (fun hq9 => absurd h1 hq9)
  refine lv_aload (pc := 31) hx hb dzU_pulse_31 (lv_at hl 0 rfl) ?_
  refine xk_get (pc := 33) hx hb hts hown hK hP ffzU_77 9 rfl rfl dzU_pulse_33 ?_
  refine lv_iload_n (pc := 36) hx hb dzU_pulse_36 rfl (lv_at hl 3 rfl) ?_
  refine xk_iald (q0 := 15) (t0 := 0) (j := 0) (pc := 37) hx hb hK hP rfl rfl (pk_in 0 4 (by decide)) (pk_cl 0) dzU_pulse_37 ?_
  refine lv_if_eq (pc := 38) (tgt := 51) hx hb dzU_pulse_38 (by decide) (fun _ => ?_) (fun hq9 => absurd h2 hq9)
  refine lv_aload (pc := 51) hx hb dzU_pulse_51 (lv_at hl 0 rfl) ?_
  refine xk_get (pc := 53) hx hb hts hown hK hP ffzU_77 9 rfl rfl dzU_pulse_53 ?_
  refine lv_iload_n (pc := 56) hx hb dzU_pulse_56 rfl (lv_at hl 3 rfl) ?_
  refine lv_iload_n (pc := 57) hx hb dzU_pulse_57 rfl (lv_at hl 4 rfl) ?_
  refine xk_iast (q0 := 15) (t0 := 0) (j := 0) (pc := 58) hx hb hK hP hD hS rfl rfl (pk_in 0 4 (by decide)) (pk_cl 0) dzU_pulse_58 (fun H locs hP hD hS => ?_)
  obtain ⟨g1, eg1⟩ : ∃ z : xk_St, z = va_up g0 15 (upd (g0 15) 0 k2) := ⟨_, rfl⟩
  have hP : va_P G xk_cls (xk_wU ad ac g1) H := by rw [eg1]; exact hP
  have hD : va_D A (xk_wU ad ac g1) := by rw [eg1]; exact hD
  exact hret g1 H locs 59 ls hP hS (by unfold relzU_pulse_0_0_p; exact ⟨g1, eg1, rfl⟩) dzU_pulse_59
theorem frzU_pulse_0_0_p (g0 : xk_St) (k2 : Int32) (gz : xk_St) : relzU_pulse_0_0_p g0 k2 gz → xk_eqv [0, 1, 2, 3, 4, 5, 6, 7, 8, 9, 10, 11, 12, 13, 14, 16, 17, 18, 19, 20, 21, 22, 23, 24, 25, 26, 27, 28, 29, 30, 31, 32, 33] g0 gz := by
  intro h
  unfold relzU_pulse_0_0_p at h
  have s0 : xk_eqv [0, 1, 2, 3, 4, 5, 6, 7, 8, 9, 10, 11, 12, 13, 14, 16, 17, 18, 19, 20, 21, 22, 23, 24, 25, 26, 27, 28, 29, 30, 31, 32, 33] g0 g0 := xk_eqv_rf
  obtain ⟨g1, u1, v2⟩ := h
  have s3 : xk_eqv [0, 1, 2, 3, 4, 5, 6, 7, 8, 9, 10, 11, 12, 13, 14, 16, 17, 18, 19, 20, 21, 22, 23, 24, 25, 26, 27, 28, 29, 30, 31, 32, 33] g0 g1 := by rw [u1]; repeat (first | exact s0 | refine xk_eqv_up (by decide) ?_)
  rw [v2]; exact s3

def relzU_pulse_0_0_m (g0 : xk_St) (k2 : Int32) (gz : xk_St) : Prop := ∃ (g1 : xk_St), g1 = va_up g0 15 (upd (g0 15) 0 k2) ∧ (gz = g1)
set_option maxHeartbeats 4000000 in
set_option maxRecDepth 100000 in
theorem kzU_pulse_0_0_m (l : Launch) (G : va_G) (ac : Nat → ClassId) (ad : Nat → Nat) (g0 : xk_St) (k2 : Int32) (h1 : ¬ k2 = 1) (h3 : k2 = (-1)) (h2 : ((g0 15) 0) = 0) : xk_CV l yzU_pulse czU_pulse 5 xk_WS xk_r1 G xk_cls (xk_tys ac) [.ref (ad 0), .int 0, .int 0, .int k2] (xk_wU ad ac g0) (fun (gz : xk_St) => relzU_pulse_0_0_m g0 k2 gz) (fun gz => xk_wU ad ac gz) := by
  refine xk_ofV (by decide) (Nat.le_of_ble_eq_true rfl) ?_
  intro p e s m args below meth c A Q H locs ls C0 hret hP hD hS hl
  obtain ⟨hx, hb, hml, hts, hown, hK, hA⟩ := C0
  have hl : lv_has ls 5 [(0, .ref (ad 0)), (1, .int 0), (2, .int 0), (3, .int k2)] := hl
  refine lv_aload_n (pc := 0) hx hb dzU_pulse_0 rfl (lv_at hl 0 rfl) ?_
  refine lv_iload_n (pc := 1) hx hb dzU_pulse_1 rfl (lv_at hl 1 rfl) ?_
  refine xk_allVR (As := [.int 0]) (rest := []) (H0 := s.heap) (pc := 2) hx hb hml hts hown hK hA hP hD hS (kzU_findTrack_0 l G ac ad g0) vfzU_63 0 rfl rfl ⟨rfl, rfl⟩ ⟨Nat.le_of_ble_eq_true rfl, Nat.le_of_ble_eq_true rfl⟩ rfl hl.1 rfl (Nat.le_of_ble_eq_true rfl) ⟨Nat.zero_le _, Nat.zero_le _⟩ dzU_pulse_2 (fun H locs hP hD hS => ?_)
  have hP : va_P G xk_cls (xk_wU ad ac g0) H := hP
  have hD : va_D A (xk_wU ad ac g0) := hD
  refine lv_astore (lv' := [(4, .ref (ad 9)), (0, .ref (ad 0)), (1, .int 0), (2, .int 0), (3, .int k2)]) (pc := 5) hx hb dzU_pulse_5 hl (by decide) rfl (fun ls hl => ?_)
  refine lv_iload_n (pc := 7) hx hb dzU_pulse_7 rfl (lv_at hl 3 rfl) ?_
  refine xk_callSV (As := [.int 0]) (rest := []) (H0 := s.heap) (pc := 8) hx hb hml hts hown hK hA hP hD hS (kzU_checkHead_0 l G ac) sfzU_67 [] (by decide) rfl (fun _ => rfl) ⟨rfl, rfl⟩ ⟨Nat.le_of_ble_eq_true rfl, Nat.le_of_ble_eq_true rfl⟩ rfl hl.1 rfl (Nat.le_of_ble_eq_true rfl) ⟨Nat.zero_le _, Nat.zero_le _⟩ dzU_pulse_8 (fun u9 H locs e9 hP hD hS => ?_)
  have hP : va_P G xk_cls (xk_wU ad ac g0) H := hP
  have hD : va_D A (xk_wU ad ac g0) := hD
  refine lv_iload_n (pc := 11) hx hb dzU_pulse_11 rfl (lv_at hl 4 rfl) ?_
  refine lv_iconst (v := 1) (pc := 12) hx hb dzU_pulse_12 (by decide) ?_
  refine lv_icmp_eq (pc := 13) (tgt := 31) hx hb dzU_pulse_13 (by decide) (fun hq9 => absurd hq9 h1) (fun _ => ?_)
  refine lv_iload_n (pc := 16) hx hb dzU_pulse_16 rfl (lv_at hl 4 rfl) ?_
  refine lv_iconst (v := (-1)) (pc := 17) hx hb dzU_pulse_17 (by decide) ?_
  refine lv_icmp_eq (pc := 18) (tgt := 31) hx hb dzU_pulse_18 (by decide) (fun _ => ?_) (fun hq9 => absurd h3 hq9)
  refine lv_aload (pc := 31) hx hb dzU_pulse_31 (lv_at hl 0 rfl) ?_
  refine xk_get (pc := 33) hx hb hts hown hK hP ffzU_77 9 rfl rfl dzU_pulse_33 ?_
  refine lv_iload_n (pc := 36) hx hb dzU_pulse_36 rfl (lv_at hl 3 rfl) ?_
  refine xk_iald (q0 := 15) (t0 := 0) (j := 0) (pc := 37) hx hb hK hP rfl rfl (pk_in 0 4 (by decide)) (pk_cl 0) dzU_pulse_37 ?_
  refine lv_if_eq (pc := 38) (tgt := 51) hx hb dzU_pulse_38 (by decide) (fun _ => ?_) (fun hq9 => absurd h2 hq9)
  refine lv_aload (pc := 51) hx hb dzU_pulse_51 (lv_at hl 0 rfl) ?_
  refine xk_get (pc := 53) hx hb hts hown hK hP ffzU_77 9 rfl rfl dzU_pulse_53 ?_
  refine lv_iload_n (pc := 56) hx hb dzU_pulse_56 rfl (lv_at hl 3 rfl) ?_
  refine lv_iload_n (pc := 57) hx hb dzU_pulse_57 rfl (lv_at hl 4 rfl) ?_
  refine xk_iast (q0 := 15) (t0 := 0) (j := 0) (pc := 58) hx hb hK hP hD hS rfl rfl (pk_in 0 4 (by decide)) (pk_cl 0) dzU_pulse_58 (fun H locs hP hD hS => ?_)
  obtain ⟨g1, eg1⟩ : ∃ z : xk_St, z = va_up g0 15 (upd (g0 15) 0 k2) := ⟨_, rfl⟩
  have hP : va_P G xk_cls (xk_wU ad ac g1) H := by rw [eg1]; exact hP
  have hD : va_D A (xk_wU ad ac g1) := by rw [eg1]; exact hD
  exact hret g1 H locs 59 ls hP hS (by unfold relzU_pulse_0_0_m; exact ⟨g1, eg1, rfl⟩) dzU_pulse_59
theorem frzU_pulse_0_0_m (g0 : xk_St) (k2 : Int32) (gz : xk_St) : relzU_pulse_0_0_m g0 k2 gz → xk_eqv [0, 1, 2, 3, 4, 5, 6, 7, 8, 9, 10, 11, 12, 13, 14, 16, 17, 18, 19, 20, 21, 22, 23, 24, 25, 26, 27, 28, 29, 30, 31, 32, 33] g0 gz := by
  intro h
  unfold relzU_pulse_0_0_m at h
  have s0 : xk_eqv [0, 1, 2, 3, 4, 5, 6, 7, 8, 9, 10, 11, 12, 13, 14, 16, 17, 18, 19, 20, 21, 22, 23, 24, 25, 26, 27, 28, 29, 30, 31, 32, 33] g0 g0 := xk_eqv_rf
  obtain ⟨g1, u1, v2⟩ := h
  have s3 : xk_eqv [0, 1, 2, 3, 4, 5, 6, 7, 8, 9, 10, 11, 12, 13, 14, 16, 17, 18, 19, 20, 21, 22, 23, 24, 25, 26, 27, 28, 29, 30, 31, 32, 33] g0 g1 := by rw [u1]; repeat (first | exact s0 | refine xk_eqv_up (by decide) ?_)
  rw [v2]; exact s3

def relzU_pulse_0_1_p (g0 : xk_St) (k2 : Int32) (gz : xk_St) : Prop := ∃ (g1 : xk_St), g1 = va_up g0 15 (upd (g0 15) 1 k2) ∧ (gz = g1)
set_option maxHeartbeats 4000000 in
set_option maxRecDepth 100000 in
theorem kzU_pulse_0_1_p (l : Launch) (G : va_G) (ac : Nat → ClassId) (ad : Nat → Nat) (g0 : xk_St) (k2 : Int32) (h1 : k2 = 1) (h2 : ((g0 15) 1) = 0) : xk_CV l yzU_pulse czU_pulse 5 xk_WS xk_r1 G xk_cls (xk_tys ac) [.ref (ad 0), .int 0, .int 1, .int k2] (xk_wU ad ac g0) (fun (gz : xk_St) => relzU_pulse_0_1_p g0 k2 gz) (fun gz => xk_wU ad ac gz) := by
  refine xk_ofV (by decide) (Nat.le_of_ble_eq_true rfl) ?_
  intro p e s m args below meth c A Q H locs ls C0 hret hP hD hS hl
  obtain ⟨hx, hb, hml, hts, hown, hK, hA⟩ := C0
  have hl : lv_has ls 5 [(0, .ref (ad 0)), (1, .int 0), (2, .int 1), (3, .int k2)] := hl
  refine lv_aload_n (pc := 0) hx hb dzU_pulse_0 rfl (lv_at hl 0 rfl) ?_
  refine lv_iload_n (pc := 1) hx hb dzU_pulse_1 rfl (lv_at hl 1 rfl) ?_
  refine xk_allVR (As := [.int 0]) (rest := []) (H0 := s.heap) (pc := 2) hx hb hml hts hown hK hA hP hD hS (kzU_findTrack_0 l G ac ad g0) vfzU_63 0 rfl rfl ⟨rfl, rfl⟩ ⟨Nat.le_of_ble_eq_true rfl, Nat.le_of_ble_eq_true rfl⟩ rfl hl.1 rfl (Nat.le_of_ble_eq_true rfl) ⟨Nat.zero_le _, Nat.zero_le _⟩ dzU_pulse_2 (fun H locs hP hD hS => ?_)
  have hP : va_P G xk_cls (xk_wU ad ac g0) H := hP
  have hD : va_D A (xk_wU ad ac g0) := hD
  refine lv_astore (lv' := [(4, .ref (ad 9)), (0, .ref (ad 0)), (1, .int 0), (2, .int 1), (3, .int k2)]) (pc := 5) hx hb dzU_pulse_5 hl (by decide) rfl (fun ls hl => ?_)
  refine lv_iload_n (pc := 7) hx hb dzU_pulse_7 rfl (lv_at hl 3 rfl) ?_
  refine xk_callSV (As := [.int 1]) (rest := []) (H0 := s.heap) (pc := 8) hx hb hml hts hown hK hA hP hD hS (kzU_checkHead_1 l G ac) sfzU_67 [] (by decide) rfl (fun _ => rfl) ⟨rfl, rfl⟩ ⟨Nat.le_of_ble_eq_true rfl, Nat.le_of_ble_eq_true rfl⟩ rfl hl.1 rfl (Nat.le_of_ble_eq_true rfl) ⟨Nat.zero_le _, Nat.zero_le _⟩ dzU_pulse_8 (fun u9 H locs e9 hP hD hS => ?_)
  have hP : va_P G xk_cls (xk_wU ad ac g0) H := hP
  have hD : va_D A (xk_wU ad ac g0) := hD
  refine lv_iload_n (pc := 11) hx hb dzU_pulse_11 rfl (lv_at hl 4 rfl) ?_
  refine lv_iconst (v := 1) (pc := 12) hx hb dzU_pulse_12 (by decide) ?_
  refine lv_icmp_eq (pc := 13) (tgt := 31) hx hb dzU_pulse_13 (by decide) (fun _ => ?_) (fun hq9 => absurd h1 hq9)
  refine lv_aload (pc := 31) hx hb dzU_pulse_31 (lv_at hl 0 rfl) ?_
  refine xk_get (pc := 33) hx hb hts hown hK hP ffzU_77 9 rfl rfl dzU_pulse_33 ?_
  refine lv_iload_n (pc := 36) hx hb dzU_pulse_36 rfl (lv_at hl 3 rfl) ?_
  refine xk_iald (q0 := 15) (t0 := 0) (j := 1) (pc := 37) hx hb hK hP rfl rfl (pk_in 1 4 (by decide)) (pk_cl 1) dzU_pulse_37 ?_
  refine lv_if_eq (pc := 38) (tgt := 51) hx hb dzU_pulse_38 (by decide) (fun _ => ?_) (fun hq9 => absurd h2 hq9)
  refine lv_aload (pc := 51) hx hb dzU_pulse_51 (lv_at hl 0 rfl) ?_
  refine xk_get (pc := 53) hx hb hts hown hK hP ffzU_77 9 rfl rfl dzU_pulse_53 ?_
  refine lv_iload_n (pc := 56) hx hb dzU_pulse_56 rfl (lv_at hl 3 rfl) ?_
  refine lv_iload_n (pc := 57) hx hb dzU_pulse_57 rfl (lv_at hl 4 rfl) ?_
  refine xk_iast (q0 := 15) (t0 := 0) (j := 1) (pc := 58) hx hb hK hP hD hS rfl rfl (pk_in 1 4 (by decide)) (pk_cl 1) dzU_pulse_58 (fun H locs hP hD hS => ?_)
  obtain ⟨g1, eg1⟩ : ∃ z : xk_St, z = va_up g0 15 (upd (g0 15) 1 k2) := ⟨_, rfl⟩
  have hP : va_P G xk_cls (xk_wU ad ac g1) H := by rw [eg1]; exact hP
  have hD : va_D A (xk_wU ad ac g1) := by rw [eg1]; exact hD
  exact hret g1 H locs 59 ls hP hS (by unfold relzU_pulse_0_1_p; exact ⟨g1, eg1, rfl⟩) dzU_pulse_59
theorem frzU_pulse_0_1_p (g0 : xk_St) (k2 : Int32) (gz : xk_St) : relzU_pulse_0_1_p g0 k2 gz → xk_eqv [0, 1, 2, 3, 4, 5, 6, 7, 8, 9, 10, 11, 12, 13, 14, 16, 17, 18, 19, 20, 21, 22, 23, 24, 25, 26, 27, 28, 29, 30, 31, 32, 33] g0 gz := by
  intro h
  unfold relzU_pulse_0_1_p at h
  have s0 : xk_eqv [0, 1, 2, 3, 4, 5, 6, 7, 8, 9, 10, 11, 12, 13, 14, 16, 17, 18, 19, 20, 21, 22, 23, 24, 25, 26, 27, 28, 29, 30, 31, 32, 33] g0 g0 := xk_eqv_rf
  obtain ⟨g1, u1, v2⟩ := h
  have s3 : xk_eqv [0, 1, 2, 3, 4, 5, 6, 7, 8, 9, 10, 11, 12, 13, 14, 16, 17, 18, 19, 20, 21, 22, 23, 24, 25, 26, 27, 28, 29, 30, 31, 32, 33] g0 g1 := by rw [u1]; repeat (first | exact s0 | refine xk_eqv_up (by decide) ?_)
  rw [v2]; exact s3

def relzU_pulse_0_1_m (g0 : xk_St) (k2 : Int32) (gz : xk_St) : Prop := ∃ (g1 : xk_St), g1 = va_up g0 15 (upd (g0 15) 1 k2) ∧ (gz = g1)
set_option maxHeartbeats 4000000 in
set_option maxRecDepth 100000 in
theorem kzU_pulse_0_1_m (l : Launch) (G : va_G) (ac : Nat → ClassId) (ad : Nat → Nat) (g0 : xk_St) (k2 : Int32) (h1 : ¬ k2 = 1) (h3 : k2 = (-1)) (h2 : ((g0 15) 1) = 0) : xk_CV l yzU_pulse czU_pulse 5 xk_WS xk_r1 G xk_cls (xk_tys ac) [.ref (ad 0), .int 0, .int 1, .int k2] (xk_wU ad ac g0) (fun (gz : xk_St) => relzU_pulse_0_1_m g0 k2 gz) (fun gz => xk_wU ad ac gz) := by
  refine xk_ofV (by decide) (Nat.le_of_ble_eq_true rfl) ?_
  intro p e s m args below meth c A Q H locs ls C0 hret hP hD hS hl
  obtain ⟨hx, hb, hml, hts, hown, hK, hA⟩ := C0
  have hl : lv_has ls 5 [(0, .ref (ad 0)), (1, .int 0), (2, .int 1), (3, .int k2)] := hl
  refine lv_aload_n (pc := 0) hx hb dzU_pulse_0 rfl (lv_at hl 0 rfl) ?_
  refine lv_iload_n (pc := 1) hx hb dzU_pulse_1 rfl (lv_at hl 1 rfl) ?_
  refine xk_allVR (As := [.int 0]) (rest := []) (H0 := s.heap) (pc := 2) hx hb hml hts hown hK hA hP hD hS (kzU_findTrack_0 l G ac ad g0) vfzU_63 0 rfl rfl ⟨rfl, rfl⟩ ⟨Nat.le_of_ble_eq_true rfl, Nat.le_of_ble_eq_true rfl⟩ rfl hl.1 rfl (Nat.le_of_ble_eq_true rfl) ⟨Nat.zero_le _, Nat.zero_le _⟩ dzU_pulse_2 (fun H locs hP hD hS => ?_)
  have hP : va_P G xk_cls (xk_wU ad ac g0) H := hP
  have hD : va_D A (xk_wU ad ac g0) := hD
  refine lv_astore (lv' := [(4, .ref (ad 9)), (0, .ref (ad 0)), (1, .int 0), (2, .int 1), (3, .int k2)]) (pc := 5) hx hb dzU_pulse_5 hl (by decide) rfl (fun ls hl => ?_)
  refine lv_iload_n (pc := 7) hx hb dzU_pulse_7 rfl (lv_at hl 3 rfl) ?_
  refine xk_callSV (As := [.int 1]) (rest := []) (H0 := s.heap) (pc := 8) hx hb hml hts hown hK hA hP hD hS (kzU_checkHead_1 l G ac) sfzU_67 [] (by decide) rfl (fun _ => rfl) ⟨rfl, rfl⟩ ⟨Nat.le_of_ble_eq_true rfl, Nat.le_of_ble_eq_true rfl⟩ rfl hl.1 rfl (Nat.le_of_ble_eq_true rfl) ⟨Nat.zero_le _, Nat.zero_le _⟩ dzU_pulse_8 (fun u9 H locs e9 hP hD hS => ?_)
  have hP : va_P G xk_cls (xk_wU ad ac g0) H := hP
  have hD : va_D A (xk_wU ad ac g0) := hD
  refine lv_iload_n (pc := 11) hx hb dzU_pulse_11 rfl (lv_at hl 4 rfl) ?_
  refine lv_iconst (v := 1) (pc := 12) hx hb dzU_pulse_12 (by decide) ?_
  refine lv_icmp_eq (pc := 13) (tgt := 31) hx hb dzU_pulse_13 (by decide) (fun hq9 => absurd hq9 h1) (fun _ => ?_)
  refine lv_iload_n (pc := 16) hx hb dzU_pulse_16 rfl (lv_at hl 4 rfl) ?_
  refine lv_iconst (v := (-1)) (pc := 17) hx hb dzU_pulse_17 (by decide) ?_
  refine lv_icmp_eq (pc := 18) (tgt := 31) hx hb dzU_pulse_18 (by decide) (fun _ => ?_) (fun hq9 => absurd h3 hq9)
  refine lv_aload (pc := 31) hx hb dzU_pulse_31 (lv_at hl 0 rfl) ?_
  refine xk_get (pc := 33) hx hb hts hown hK hP ffzU_77 9 rfl rfl dzU_pulse_33 ?_
  refine lv_iload_n (pc := 36) hx hb dzU_pulse_36 rfl (lv_at hl 3 rfl) ?_
  refine xk_iald (q0 := 15) (t0 := 0) (j := 1) (pc := 37) hx hb hK hP rfl rfl (pk_in 1 4 (by decide)) (pk_cl 1) dzU_pulse_37 ?_
  refine lv_if_eq (pc := 38) (tgt := 51) hx hb dzU_pulse_38 (by decide) (fun _ => ?_) (fun hq9 => absurd h2 hq9)
  refine lv_aload (pc := 51) hx hb dzU_pulse_51 (lv_at hl 0 rfl) ?_
  refine xk_get (pc := 53) hx hb hts hown hK hP ffzU_77 9 rfl rfl dzU_pulse_53 ?_
  refine lv_iload_n (pc := 56) hx hb dzU_pulse_56 rfl (lv_at hl 3 rfl) ?_
  refine lv_iload_n (pc := 57) hx hb dzU_pulse_57 rfl (lv_at hl 4 rfl) ?_
  refine xk_iast (q0 := 15) (t0 := 0) (j := 1) (pc := 58) hx hb hK hP hD hS rfl rfl (pk_in 1 4 (by decide)) (pk_cl 1) dzU_pulse_58 (fun H locs hP hD hS => ?_)
  obtain ⟨g1, eg1⟩ : ∃ z : xk_St, z = va_up g0 15 (upd (g0 15) 1 k2) := ⟨_, rfl⟩
  have hP : va_P G xk_cls (xk_wU ad ac g1) H := by rw [eg1]; exact hP
  have hD : va_D A (xk_wU ad ac g1) := by rw [eg1]; exact hD
  exact hret g1 H locs 59 ls hP hS (by unfold relzU_pulse_0_1_m; exact ⟨g1, eg1, rfl⟩) dzU_pulse_59
theorem frzU_pulse_0_1_m (g0 : xk_St) (k2 : Int32) (gz : xk_St) : relzU_pulse_0_1_m g0 k2 gz → xk_eqv [0, 1, 2, 3, 4, 5, 6, 7, 8, 9, 10, 11, 12, 13, 14, 16, 17, 18, 19, 20, 21, 22, 23, 24, 25, 26, 27, 28, 29, 30, 31, 32, 33] g0 gz := by
  intro h
  unfold relzU_pulse_0_1_m at h
  have s0 : xk_eqv [0, 1, 2, 3, 4, 5, 6, 7, 8, 9, 10, 11, 12, 13, 14, 16, 17, 18, 19, 20, 21, 22, 23, 24, 25, 26, 27, 28, 29, 30, 31, 32, 33] g0 g0 := xk_eqv_rf
  obtain ⟨g1, u1, v2⟩ := h
  have s3 : xk_eqv [0, 1, 2, 3, 4, 5, 6, 7, 8, 9, 10, 11, 12, 13, 14, 16, 17, 18, 19, 20, 21, 22, 23, 24, 25, 26, 27, 28, 29, 30, 31, 32, 33] g0 g1 := by rw [u1]; repeat (first | exact s0 | refine xk_eqv_up (by decide) ?_)
  rw [v2]; exact s3

def relzU_pulse_0_2_p (g0 : xk_St) (k2 : Int32) (gz : xk_St) : Prop := ∃ (g1 : xk_St), g1 = va_up g0 15 (upd (g0 15) 2 k2) ∧ (gz = g1)
set_option maxHeartbeats 4000000 in
set_option maxRecDepth 100000 in
theorem kzU_pulse_0_2_p (l : Launch) (G : va_G) (ac : Nat → ClassId) (ad : Nat → Nat) (g0 : xk_St) (k2 : Int32) (h1 : k2 = 1) (h2 : ((g0 15) 2) = 0) : xk_CV l yzU_pulse czU_pulse 5 xk_WS xk_r1 G xk_cls (xk_tys ac) [.ref (ad 0), .int 0, .int 2, .int k2] (xk_wU ad ac g0) (fun (gz : xk_St) => relzU_pulse_0_2_p g0 k2 gz) (fun gz => xk_wU ad ac gz) := by
  refine xk_ofV (by decide) (Nat.le_of_ble_eq_true rfl) ?_
  intro p e s m args below meth c A Q H locs ls C0 hret hP hD hS hl
  obtain ⟨hx, hb, hml, hts, hown, hK, hA⟩ := C0
  have hl : lv_has ls 5 [(0, .ref (ad 0)), (1, .int 0), (2, .int 2), (3, .int k2)] := hl
  refine lv_aload_n (pc := 0) hx hb dzU_pulse_0 rfl (lv_at hl 0 rfl) ?_
  refine lv_iload_n (pc := 1) hx hb dzU_pulse_1 rfl (lv_at hl 1 rfl) ?_
  refine xk_allVR (As := [.int 0]) (rest := []) (H0 := s.heap) (pc := 2) hx hb hml hts hown hK hA hP hD hS (kzU_findTrack_0 l G ac ad g0) vfzU_63 0 rfl rfl ⟨rfl, rfl⟩ ⟨Nat.le_of_ble_eq_true rfl, Nat.le_of_ble_eq_true rfl⟩ rfl hl.1 rfl (Nat.le_of_ble_eq_true rfl) ⟨Nat.zero_le _, Nat.zero_le _⟩ dzU_pulse_2 (fun H locs hP hD hS => ?_)
  have hP : va_P G xk_cls (xk_wU ad ac g0) H := hP
  have hD : va_D A (xk_wU ad ac g0) := hD
  refine lv_astore (lv' := [(4, .ref (ad 9)), (0, .ref (ad 0)), (1, .int 0), (2, .int 2), (3, .int k2)]) (pc := 5) hx hb dzU_pulse_5 hl (by decide) rfl (fun ls hl => ?_)
  refine lv_iload_n (pc := 7) hx hb dzU_pulse_7 rfl (lv_at hl 3 rfl) ?_
  refine xk_callSV (As := [.int 2]) (rest := []) (H0 := s.heap) (pc := 8) hx hb hml hts hown hK hA hP hD hS (kzU_checkHead_2 l G ac) sfzU_67 [] (by decide) rfl (fun _ => rfl) ⟨rfl, rfl⟩ ⟨Nat.le_of_ble_eq_true rfl, Nat.le_of_ble_eq_true rfl⟩ rfl hl.1 rfl (Nat.le_of_ble_eq_true rfl) ⟨Nat.zero_le _, Nat.zero_le _⟩ dzU_pulse_8 (fun u9 H locs e9 hP hD hS => ?_)
  have hP : va_P G xk_cls (xk_wU ad ac g0) H := hP
  have hD : va_D A (xk_wU ad ac g0) := hD
  refine lv_iload_n (pc := 11) hx hb dzU_pulse_11 rfl (lv_at hl 4 rfl) ?_
  refine lv_iconst (v := 1) (pc := 12) hx hb dzU_pulse_12 (by decide) ?_
  refine lv_icmp_eq (pc := 13) (tgt := 31) hx hb dzU_pulse_13 (by decide) (fun _ => ?_) (fun hq9 => absurd h1 hq9)
  refine lv_aload (pc := 31) hx hb dzU_pulse_31 (lv_at hl 0 rfl) ?_
  refine xk_get (pc := 33) hx hb hts hown hK hP ffzU_77 9 rfl rfl dzU_pulse_33 ?_
  refine lv_iload_n (pc := 36) hx hb dzU_pulse_36 rfl (lv_at hl 3 rfl) ?_
  refine xk_iald (q0 := 15) (t0 := 0) (j := 2) (pc := 37) hx hb hK hP rfl rfl (pk_in 2 4 (by decide)) (pk_cl 2) dzU_pulse_37 ?_
  refine lv_if_eq (pc := 38) (tgt := 51) hx hb dzU_pulse_38 (by decide) (fun _ => ?_) (fun hq9 => absurd h2 hq9)
  refine lv_aload (pc := 51) hx hb dzU_pulse_51 (lv_at hl 0 rfl) ?_
  refine xk_get (pc := 53) hx hb hts hown hK hP ffzU_77 9 rfl rfl dzU_pulse_53 ?_
  refine lv_iload_n (pc := 56) hx hb dzU_pulse_56 rfl (lv_at hl 3 rfl) ?_
  refine lv_iload_n (pc := 57) hx hb dzU_pulse_57 rfl (lv_at hl 4 rfl) ?_
  refine xk_iast (q0 := 15) (t0 := 0) (j := 2) (pc := 58) hx hb hK hP hD hS rfl rfl (pk_in 2 4 (by decide)) (pk_cl 2) dzU_pulse_58 (fun H locs hP hD hS => ?_)
  obtain ⟨g1, eg1⟩ : ∃ z : xk_St, z = va_up g0 15 (upd (g0 15) 2 k2) := ⟨_, rfl⟩
  have hP : va_P G xk_cls (xk_wU ad ac g1) H := by rw [eg1]; exact hP
  have hD : va_D A (xk_wU ad ac g1) := by rw [eg1]; exact hD
  exact hret g1 H locs 59 ls hP hS (by unfold relzU_pulse_0_2_p; exact ⟨g1, eg1, rfl⟩) dzU_pulse_59
theorem frzU_pulse_0_2_p (g0 : xk_St) (k2 : Int32) (gz : xk_St) : relzU_pulse_0_2_p g0 k2 gz → xk_eqv [0, 1, 2, 3, 4, 5, 6, 7, 8, 9, 10, 11, 12, 13, 14, 16, 17, 18, 19, 20, 21, 22, 23, 24, 25, 26, 27, 28, 29, 30, 31, 32, 33] g0 gz := by
  intro h
  unfold relzU_pulse_0_2_p at h
  have s0 : xk_eqv [0, 1, 2, 3, 4, 5, 6, 7, 8, 9, 10, 11, 12, 13, 14, 16, 17, 18, 19, 20, 21, 22, 23, 24, 25, 26, 27, 28, 29, 30, 31, 32, 33] g0 g0 := xk_eqv_rf
  obtain ⟨g1, u1, v2⟩ := h
  have s3 : xk_eqv [0, 1, 2, 3, 4, 5, 6, 7, 8, 9, 10, 11, 12, 13, 14, 16, 17, 18, 19, 20, 21, 22, 23, 24, 25, 26, 27, 28, 29, 30, 31, 32, 33] g0 g1 := by rw [u1]; repeat (first | exact s0 | refine xk_eqv_up (by decide) ?_)
  rw [v2]; exact s3

def relzU_pulse_0_2_m (g0 : xk_St) (k2 : Int32) (gz : xk_St) : Prop := ∃ (g1 : xk_St), g1 = va_up g0 15 (upd (g0 15) 2 k2) ∧ (gz = g1)
set_option maxHeartbeats 4000000 in
set_option maxRecDepth 100000 in
theorem kzU_pulse_0_2_m (l : Launch) (G : va_G) (ac : Nat → ClassId) (ad : Nat → Nat) (g0 : xk_St) (k2 : Int32) (h1 : ¬ k2 = 1) (h3 : k2 = (-1)) (h2 : ((g0 15) 2) = 0) : xk_CV l yzU_pulse czU_pulse 5 xk_WS xk_r1 G xk_cls (xk_tys ac) [.ref (ad 0), .int 0, .int 2, .int k2] (xk_wU ad ac g0) (fun (gz : xk_St) => relzU_pulse_0_2_m g0 k2 gz) (fun gz => xk_wU ad ac gz) := by
  refine xk_ofV (by decide) (Nat.le_of_ble_eq_true rfl) ?_
  intro p e s m args below meth c A Q H locs ls C0 hret hP hD hS hl
  obtain ⟨hx, hb, hml, hts, hown, hK, hA⟩ := C0
  have hl : lv_has ls 5 [(0, .ref (ad 0)), (1, .int 0), (2, .int 2), (3, .int k2)] := hl
  refine lv_aload_n (pc := 0) hx hb dzU_pulse_0 rfl (lv_at hl 0 rfl) ?_
  refine lv_iload_n (pc := 1) hx hb dzU_pulse_1 rfl (lv_at hl 1 rfl) ?_
  refine xk_allVR (As := [.int 0]) (rest := []) (H0 := s.heap) (pc := 2) hx hb hml hts hown hK hA hP hD hS (kzU_findTrack_0 l G ac ad g0) vfzU_63 0 rfl rfl ⟨rfl, rfl⟩ ⟨Nat.le_of_ble_eq_true rfl, Nat.le_of_ble_eq_true rfl⟩ rfl hl.1 rfl (Nat.le_of_ble_eq_true rfl) ⟨Nat.zero_le _, Nat.zero_le _⟩ dzU_pulse_2 (fun H locs hP hD hS => ?_)
  have hP : va_P G xk_cls (xk_wU ad ac g0) H := hP
  have hD : va_D A (xk_wU ad ac g0) := hD
  refine lv_astore (lv' := [(4, .ref (ad 9)), (0, .ref (ad 0)), (1, .int 0), (2, .int 2), (3, .int k2)]) (pc := 5) hx hb dzU_pulse_5 hl (by decide) rfl (fun ls hl => ?_)
  refine lv_iload_n (pc := 7) hx hb dzU_pulse_7 rfl (lv_at hl 3 rfl) ?_
  refine xk_callSV (As := [.int 2]) (rest := []) (H0 := s.heap) (pc := 8) hx hb hml hts hown hK hA hP hD hS (kzU_checkHead_2 l G ac) sfzU_67 [] (by decide) rfl (fun _ => rfl) ⟨rfl, rfl⟩ ⟨Nat.le_of_ble_eq_true rfl, Nat.le_of_ble_eq_true rfl⟩ rfl hl.1 rfl (Nat.le_of_ble_eq_true rfl) ⟨Nat.zero_le _, Nat.zero_le _⟩ dzU_pulse_8 (fun u9 H locs e9 hP hD hS => ?_)
  have hP : va_P G xk_cls (xk_wU ad ac g0) H := hP
  have hD : va_D A (xk_wU ad ac g0) := hD
  refine lv_iload_n (pc := 11) hx hb dzU_pulse_11 rfl (lv_at hl 4 rfl) ?_
  refine lv_iconst (v := 1) (pc := 12) hx hb dzU_pulse_12 (by decide) ?_
  refine lv_icmp_eq (pc := 13) (tgt := 31) hx hb dzU_pulse_13 (by decide) (fun hq9 => absurd hq9 h1) (fun _ => ?_)
  refine lv_iload_n (pc := 16) hx hb dzU_pulse_16 rfl (lv_at hl 4 rfl) ?_
  refine lv_iconst (v := (-1)) (pc := 17) hx hb dzU_pulse_17 (by decide) ?_
  refine lv_icmp_eq (pc := 18) (tgt := 31) hx hb dzU_pulse_18 (by decide) (fun _ => ?_) (fun hq9 => absurd h3 hq9)
  refine lv_aload (pc := 31) hx hb dzU_pulse_31 (lv_at hl 0 rfl) ?_
  refine xk_get (pc := 33) hx hb hts hown hK hP ffzU_77 9 rfl rfl dzU_pulse_33 ?_
  refine lv_iload_n (pc := 36) hx hb dzU_pulse_36 rfl (lv_at hl 3 rfl) ?_
  refine xk_iald (q0 := 15) (t0 := 0) (j := 2) (pc := 37) hx hb hK hP rfl rfl (pk_in 2 4 (by decide)) (pk_cl 2) dzU_pulse_37 ?_
  refine lv_if_eq (pc := 38) (tgt := 51) hx hb dzU_pulse_38 (by decide) (fun _ => ?_) (fun hq9 => absurd h2 hq9)
  refine lv_aload (pc := 51) hx hb dzU_pulse_51 (lv_at hl 0 rfl) ?_
  refine xk_get (pc := 53) hx hb hts hown hK hP ffzU_77 9 rfl rfl dzU_pulse_53 ?_
  refine lv_iload_n (pc := 56) hx hb dzU_pulse_56 rfl (lv_at hl 3 rfl) ?_
  refine lv_iload_n (pc := 57) hx hb dzU_pulse_57 rfl (lv_at hl 4 rfl) ?_
  refine xk_iast (q0 := 15) (t0 := 0) (j := 2) (pc := 58) hx hb hK hP hD hS rfl rfl (pk_in 2 4 (by decide)) (pk_cl 2) dzU_pulse_58 (fun H locs hP hD hS => ?_)
  obtain ⟨g1, eg1⟩ : ∃ z : xk_St, z = va_up g0 15 (upd (g0 15) 2 k2) := ⟨_, rfl⟩
  have hP : va_P G xk_cls (xk_wU ad ac g1) H := by rw [eg1]; exact hP
  have hD : va_D A (xk_wU ad ac g1) := by rw [eg1]; exact hD
  exact hret g1 H locs 59 ls hP hS (by unfold relzU_pulse_0_2_m; exact ⟨g1, eg1, rfl⟩) dzU_pulse_59
theorem frzU_pulse_0_2_m (g0 : xk_St) (k2 : Int32) (gz : xk_St) : relzU_pulse_0_2_m g0 k2 gz → xk_eqv [0, 1, 2, 3, 4, 5, 6, 7, 8, 9, 10, 11, 12, 13, 14, 16, 17, 18, 19, 20, 21, 22, 23, 24, 25, 26, 27, 28, 29, 30, 31, 32, 33] g0 gz := by
  intro h
  unfold relzU_pulse_0_2_m at h
  have s0 : xk_eqv [0, 1, 2, 3, 4, 5, 6, 7, 8, 9, 10, 11, 12, 13, 14, 16, 17, 18, 19, 20, 21, 22, 23, 24, 25, 26, 27, 28, 29, 30, 31, 32, 33] g0 g0 := xk_eqv_rf
  obtain ⟨g1, u1, v2⟩ := h
  have s3 : xk_eqv [0, 1, 2, 3, 4, 5, 6, 7, 8, 9, 10, 11, 12, 13, 14, 16, 17, 18, 19, 20, 21, 22, 23, 24, 25, 26, 27, 28, 29, 30, 31, 32, 33] g0 g1 := by rw [u1]; repeat (first | exact s0 | refine xk_eqv_up (by decide) ?_)
  rw [v2]; exact s3

def relzU_pulse_0_3_p (g0 : xk_St) (k2 : Int32) (gz : xk_St) : Prop := ∃ (g1 : xk_St), g1 = va_up g0 15 (upd (g0 15) 3 k2) ∧ (gz = g1)
set_option maxHeartbeats 4000000 in
set_option maxRecDepth 100000 in
theorem kzU_pulse_0_3_p (l : Launch) (G : va_G) (ac : Nat → ClassId) (ad : Nat → Nat) (g0 : xk_St) (k2 : Int32) (h1 : k2 = 1) (h2 : ((g0 15) 3) = 0) : xk_CV l yzU_pulse czU_pulse 5 xk_WS xk_r1 G xk_cls (xk_tys ac) [.ref (ad 0), .int 0, .int 3, .int k2] (xk_wU ad ac g0) (fun (gz : xk_St) => relzU_pulse_0_3_p g0 k2 gz) (fun gz => xk_wU ad ac gz) := by
  refine xk_ofV (by decide) (Nat.le_of_ble_eq_true rfl) ?_
  intro p e s m args below meth c A Q H locs ls C0 hret hP hD hS hl
  obtain ⟨hx, hb, hml, hts, hown, hK, hA⟩ := C0
  have hl : lv_has ls 5 [(0, .ref (ad 0)), (1, .int 0), (2, .int 3), (3, .int k2)] := hl
  refine lv_aload_n (pc := 0) hx hb dzU_pulse_0 rfl (lv_at hl 0 rfl) ?_
  refine lv_iload_n (pc := 1) hx hb dzU_pulse_1 rfl (lv_at hl 1 rfl) ?_
  refine xk_allVR (As := [.int 0]) (rest := []) (H0 := s.heap) (pc := 2) hx hb hml hts hown hK hA hP hD hS (kzU_findTrack_0 l G ac ad g0) vfzU_63 0 rfl rfl ⟨rfl, rfl⟩ ⟨Nat.le_of_ble_eq_true rfl, Nat.le_of_ble_eq_true rfl⟩ rfl hl.1 rfl (Nat.le_of_ble_eq_true rfl) ⟨Nat.zero_le _, Nat.zero_le _⟩ dzU_pulse_2 (fun H locs hP hD hS => ?_)
  have hP : va_P G xk_cls (xk_wU ad ac g0) H := hP
  have hD : va_D A (xk_wU ad ac g0) := hD
  refine lv_astore (lv' := [(4, .ref (ad 9)), (0, .ref (ad 0)), (1, .int 0), (2, .int 3), (3, .int k2)]) (pc := 5) hx hb dzU_pulse_5 hl (by decide) rfl (fun ls hl => ?_)
  refine lv_iload_n (pc := 7) hx hb dzU_pulse_7 rfl (lv_at hl 3 rfl) ?_
  refine xk_callSV (As := [.int 3]) (rest := []) (H0 := s.heap) (pc := 8) hx hb hml hts hown hK hA hP hD hS (kzU_checkHead_3 l G ac) sfzU_67 [] (by decide) rfl (fun _ => rfl) ⟨rfl, rfl⟩ ⟨Nat.le_of_ble_eq_true rfl, Nat.le_of_ble_eq_true rfl⟩ rfl hl.1 rfl (Nat.le_of_ble_eq_true rfl) ⟨Nat.zero_le _, Nat.zero_le _⟩ dzU_pulse_8 (fun u9 H locs e9 hP hD hS => ?_)
  have hP : va_P G xk_cls (xk_wU ad ac g0) H := hP
  have hD : va_D A (xk_wU ad ac g0) := hD
  refine lv_iload_n (pc := 11) hx hb dzU_pulse_11 rfl (lv_at hl 4 rfl) ?_
  refine lv_iconst (v := 1) (pc := 12) hx hb dzU_pulse_12 (by decide) ?_
  refine lv_icmp_eq (pc := 13) (tgt := 31) hx hb dzU_pulse_13 (by decide) (fun _ => ?_) (fun hq9 => absurd h1 hq9)
  refine lv_aload (pc := 31) hx hb dzU_pulse_31 (lv_at hl 0 rfl) ?_
  refine xk_get (pc := 33) hx hb hts hown hK hP ffzU_77 9 rfl rfl dzU_pulse_33 ?_
  refine lv_iload_n (pc := 36) hx hb dzU_pulse_36 rfl (lv_at hl 3 rfl) ?_
  refine xk_iald (q0 := 15) (t0 := 0) (j := 3) (pc := 37) hx hb hK hP rfl rfl (pk_in 3 4 (by decide)) (pk_cl 3) dzU_pulse_37 ?_
  refine lv_if_eq (pc := 38) (tgt := 51) hx hb dzU_pulse_38 (by decide) (fun _ => ?_) (fun hq9 => absurd h2 hq9)
  refine lv_aload (pc := 51) hx hb dzU_pulse_51 (lv_at hl 0 rfl) ?_
  refine xk_get (pc := 53) hx hb hts hown hK hP ffzU_77 9 rfl rfl dzU_pulse_53 ?_
  refine lv_iload_n (pc := 56) hx hb dzU_pulse_56 rfl (lv_at hl 3 rfl) ?_
  refine lv_iload_n (pc := 57) hx hb dzU_pulse_57 rfl (lv_at hl 4 rfl) ?_
  refine xk_iast (q0 := 15) (t0 := 0) (j := 3) (pc := 58) hx hb hK hP hD hS rfl rfl (pk_in 3 4 (by decide)) (pk_cl 3) dzU_pulse_58 (fun H locs hP hD hS => ?_)
  obtain ⟨g1, eg1⟩ : ∃ z : xk_St, z = va_up g0 15 (upd (g0 15) 3 k2) := ⟨_, rfl⟩
  have hP : va_P G xk_cls (xk_wU ad ac g1) H := by rw [eg1]; exact hP
  have hD : va_D A (xk_wU ad ac g1) := by rw [eg1]; exact hD
  exact hret g1 H locs 59 ls hP hS (by unfold relzU_pulse_0_3_p; exact ⟨g1, eg1, rfl⟩) dzU_pulse_59
theorem frzU_pulse_0_3_p (g0 : xk_St) (k2 : Int32) (gz : xk_St) : relzU_pulse_0_3_p g0 k2 gz → xk_eqv [0, 1, 2, 3, 4, 5, 6, 7, 8, 9, 10, 11, 12, 13, 14, 16, 17, 18, 19, 20, 21, 22, 23, 24, 25, 26, 27, 28, 29, 30, 31, 32, 33] g0 gz := by
  intro h
  unfold relzU_pulse_0_3_p at h
  have s0 : xk_eqv [0, 1, 2, 3, 4, 5, 6, 7, 8, 9, 10, 11, 12, 13, 14, 16, 17, 18, 19, 20, 21, 22, 23, 24, 25, 26, 27, 28, 29, 30, 31, 32, 33] g0 g0 := xk_eqv_rf
  obtain ⟨g1, u1, v2⟩ := h
  have s3 : xk_eqv [0, 1, 2, 3, 4, 5, 6, 7, 8, 9, 10, 11, 12, 13, 14, 16, 17, 18, 19, 20, 21, 22, 23, 24, 25, 26, 27, 28, 29, 30, 31, 32, 33] g0 g1 := by rw [u1]; repeat (first | exact s0 | refine xk_eqv_up (by decide) ?_)
  rw [v2]; exact s3

def relzU_pulse_0_3_m (g0 : xk_St) (k2 : Int32) (gz : xk_St) : Prop := ∃ (g1 : xk_St), g1 = va_up g0 15 (upd (g0 15) 3 k2) ∧ (gz = g1)
set_option maxHeartbeats 4000000 in
set_option maxRecDepth 100000 in
theorem kzU_pulse_0_3_m (l : Launch) (G : va_G) (ac : Nat → ClassId) (ad : Nat → Nat) (g0 : xk_St) (k2 : Int32) (h1 : ¬ k2 = 1) (h3 : k2 = (-1)) (h2 : ((g0 15) 3) = 0) : xk_CV l yzU_pulse czU_pulse 5 xk_WS xk_r1 G xk_cls (xk_tys ac) [.ref (ad 0), .int 0, .int 3, .int k2] (xk_wU ad ac g0) (fun (gz : xk_St) => relzU_pulse_0_3_m g0 k2 gz) (fun gz => xk_wU ad ac gz) := by
  refine xk_ofV (by decide) (Nat.le_of_ble_eq_true rfl) ?_
  intro p e s m args below meth c A Q H locs ls C0 hret hP hD hS hl
  obtain ⟨hx, hb, hml, hts, hown, hK, hA⟩ := C0
  have hl : lv_has ls 5 [(0, .ref (ad 0)), (1, .int 0), (2, .int 3), (3, .int k2)] := hl
  refine lv_aload_n (pc := 0) hx hb dzU_pulse_0 rfl (lv_at hl 0 rfl) ?_
  refine lv_iload_n (pc := 1) hx hb dzU_pulse_1 rfl (lv_at hl 1 rfl) ?_
  refine xk_allVR (As := [.int 0]) (rest := []) (H0 := s.heap) (pc := 2) hx hb hml hts hown hK hA hP hD hS (kzU_findTrack_0 l G ac ad g0) vfzU_63 0 rfl rfl ⟨rfl, rfl⟩ ⟨Nat.le_of_ble_eq_true rfl, Nat.le_of_ble_eq_true rfl⟩ rfl hl.1 rfl (Nat.le_of_ble_eq_true rfl) ⟨Nat.zero_le _, Nat.zero_le _⟩ dzU_pulse_2 (fun H locs hP hD hS => ?_)
  have hP : va_P G xk_cls (xk_wU ad ac g0) H := hP
  have hD : va_D A (xk_wU ad ac g0) := hD
  refine lv_astore (lv' := [(4, .ref (ad 9)), (0, .ref (ad 0)), (1, .int 0), (2, .int 3), (3, .int k2)]) (pc := 5) hx hb dzU_pulse_5 hl (by decide) rfl (fun ls hl => ?_)
  refine lv_iload_n (pc := 7) hx hb dzU_pulse_7 rfl (lv_at hl 3 rfl) ?_
  refine xk_callSV (As := [.int 3]) (rest := []) (H0 := s.heap) (pc := 8) hx hb hml hts hown hK hA hP hD hS (kzU_checkHead_3 l G ac) sfzU_67 [] (by decide) rfl (fun _ => rfl) ⟨rfl, rfl⟩ ⟨Nat.le_of_ble_eq_true rfl, Nat.le_of_ble_eq_true rfl⟩ rfl hl.1 rfl (Nat.le_of_ble_eq_true rfl) ⟨Nat.zero_le _, Nat.zero_le _⟩ dzU_pulse_8 (fun u9 H locs e9 hP hD hS => ?_)
  have hP : va_P G xk_cls (xk_wU ad ac g0) H := hP
  have hD : va_D A (xk_wU ad ac g0) := hD
  refine lv_iload_n (pc := 11) hx hb dzU_pulse_11 rfl (lv_at hl 4 rfl) ?_
  refine lv_iconst (v := 1) (pc := 12) hx hb dzU_pulse_12 (by decide) ?_
  refine lv_icmp_eq (pc := 13) (tgt := 31) hx hb dzU_pulse_13 (by decide) (fun hq9 => absurd hq9 h1) (fun _ => ?_)
  refine lv_iload_n (pc := 16) hx hb dzU_pulse_16 rfl (lv_at hl 4 rfl) ?_
  refine lv_iconst (v := (-1)) (pc := 17) hx hb dzU_pulse_17 (by decide) ?_
  refine lv_icmp_eq (pc := 18) (tgt := 31) hx hb dzU_pulse_18 (by decide) (fun _ => ?_) (fun hq9 => absurd h3 hq9)
  refine lv_aload (pc := 31) hx hb dzU_pulse_31 (lv_at hl 0 rfl) ?_
  refine xk_get (pc := 33) hx hb hts hown hK hP ffzU_77 9 rfl rfl dzU_pulse_33 ?_
  refine lv_iload_n (pc := 36) hx hb dzU_pulse_36 rfl (lv_at hl 3 rfl) ?_
  refine xk_iald (q0 := 15) (t0 := 0) (j := 3) (pc := 37) hx hb hK hP rfl rfl (pk_in 3 4 (by decide)) (pk_cl 3) dzU_pulse_37 ?_
  refine lv_if_eq (pc := 38) (tgt := 51) hx hb dzU_pulse_38 (by decide) (fun _ => ?_) (fun hq9 => absurd h2 hq9)
  refine lv_aload (pc := 51) hx hb dzU_pulse_51 (lv_at hl 0 rfl) ?_
  refine xk_get (pc := 53) hx hb hts hown hK hP ffzU_77 9 rfl rfl dzU_pulse_53 ?_
  refine lv_iload_n (pc := 56) hx hb dzU_pulse_56 rfl (lv_at hl 3 rfl) ?_
  refine lv_iload_n (pc := 57) hx hb dzU_pulse_57 rfl (lv_at hl 4 rfl) ?_
  refine xk_iast (q0 := 15) (t0 := 0) (j := 3) (pc := 58) hx hb hK hP hD hS rfl rfl (pk_in 3 4 (by decide)) (pk_cl 3) dzU_pulse_58 (fun H locs hP hD hS => ?_)
  obtain ⟨g1, eg1⟩ : ∃ z : xk_St, z = va_up g0 15 (upd (g0 15) 3 k2) := ⟨_, rfl⟩
  have hP : va_P G xk_cls (xk_wU ad ac g1) H := by rw [eg1]; exact hP
  have hD : va_D A (xk_wU ad ac g1) := by rw [eg1]; exact hD
  exact hret g1 H locs 59 ls hP hS (by unfold relzU_pulse_0_3_m; exact ⟨g1, eg1, rfl⟩) dzU_pulse_59
theorem frzU_pulse_0_3_m (g0 : xk_St) (k2 : Int32) (gz : xk_St) : relzU_pulse_0_3_m g0 k2 gz → xk_eqv [0, 1, 2, 3, 4, 5, 6, 7, 8, 9, 10, 11, 12, 13, 14, 16, 17, 18, 19, 20, 21, 22, 23, 24, 25, 26, 27, 28, 29, 30, 31, 32, 33] g0 gz := by
  intro h
  unfold relzU_pulse_0_3_m at h
  have s0 : xk_eqv [0, 1, 2, 3, 4, 5, 6, 7, 8, 9, 10, 11, 12, 13, 14, 16, 17, 18, 19, 20, 21, 22, 23, 24, 25, 26, 27, 28, 29, 30, 31, 32, 33] g0 g0 := xk_eqv_rf
  obtain ⟨g1, u1, v2⟩ := h
  have s3 : xk_eqv [0, 1, 2, 3, 4, 5, 6, 7, 8, 9, 10, 11, 12, 13, 14, 16, 17, 18, 19, 20, 21, 22, 23, 24, 25, 26, 27, 28, 29, 30, 31, 32, 33] g0 g1 := by rw [u1]; repeat (first | exact s0 | refine xk_eqv_up (by decide) ?_)
  rw [v2]; exact s3

def relzU_pulse_1_0_p (g0 : xk_St) (k2 : Int32) (gz : xk_St) : Prop := ∃ (g1 : xk_St), g1 = va_up g0 16 (upd (g0 16) 0 k2) ∧ (gz = g1)
set_option maxHeartbeats 4000000 in
set_option maxRecDepth 100000 in
theorem kzU_pulse_1_0_p (l : Launch) (G : va_G) (ac : Nat → ClassId) (ad : Nat → Nat) (g0 : xk_St) (k2 : Int32) (h1 : k2 = 1) (h2 : ((g0 16) 0) = 0) : xk_CV l yzU_pulse czU_pulse 5 xk_WS xk_r1 G xk_cls (xk_tys ac) [.ref (ad 0), .int 1, .int 0, .int k2] (xk_wU ad ac g0) (fun (gz : xk_St) => relzU_pulse_1_0_p g0 k2 gz) (fun gz => xk_wU ad ac gz) := by
  refine xk_ofV (by decide) (Nat.le_of_ble_eq_true rfl) ?_
  intro p e s m args below meth c A Q H locs ls C0 hret hP hD hS hl
  obtain ⟨hx, hb, hml, hts, hown, hK, hA⟩ := C0
  have hl : lv_has ls 5 [(0, .ref (ad 0)), (1, .int 1), (2, .int 0), (3, .int k2)] := hl
  refine lv_aload_n (pc := 0) hx hb dzU_pulse_0 rfl (lv_at hl 0 rfl) ?_
  refine lv_iload_n (pc := 1) hx hb dzU_pulse_1 rfl (lv_at hl 1 rfl) ?_
  refine xk_allVR (As := [.int 1]) (rest := []) (H0 := s.heap) (pc := 2) hx hb hml hts hown hK hA hP hD hS (kzU_findTrack_1 l G ac ad g0) vfzU_63 0 rfl rfl ⟨rfl, rfl⟩ ⟨Nat.le_of_ble_eq_true rfl, Nat.le_of_ble_eq_true rfl⟩ rfl hl.1 rfl (Nat.le_of_ble_eq_true rfl) ⟨Nat.zero_le _, Nat.zero_le _⟩ dzU_pulse_2 (fun H locs hP hD hS => ?_)
  have hP : va_P G xk_cls (xk_wU ad ac g0) H := hP
  have hD : va_D A (xk_wU ad ac g0) := hD
  refine lv_astore (lv' := [(4, .ref (ad 10)), (0, .ref (ad 0)), (1, .int 1), (2, .int 0), (3, .int k2)]) (pc := 5) hx hb dzU_pulse_5 hl (by decide) rfl (fun ls hl => ?_)
  refine lv_iload_n (pc := 7) hx hb dzU_pulse_7 rfl (lv_at hl 3 rfl) ?_
  refine xk_callSV (As := [.int 0]) (rest := []) (H0 := s.heap) (pc := 8) hx hb hml hts hown hK hA hP hD hS (kzU_checkHead_0 l G ac) sfzU_67 [] (by decide) rfl (fun _ => rfl) ⟨rfl, rfl⟩ ⟨Nat.le_of_ble_eq_true rfl, Nat.le_of_ble_eq_true rfl⟩ rfl hl.1 rfl (Nat.le_of_ble_eq_true rfl) ⟨Nat.zero_le _, Nat.zero_le _⟩ dzU_pulse_8 (fun u9 H locs e9 hP hD hS => ?_)
  have hP : va_P G xk_cls (xk_wU ad ac g0) H := hP
  have hD : va_D A (xk_wU ad ac g0) := hD
  refine lv_iload_n (pc := 11) hx hb dzU_pulse_11 rfl (lv_at hl 4 rfl) ?_
  refine lv_iconst (v := 1) (pc := 12) hx hb dzU_pulse_12 (by decide) ?_
  refine lv_icmp_eq (pc := 13) (tgt := 31) hx hb dzU_pulse_13 (by decide) (fun _ => ?_) (fun hq9 => absurd h1 hq9)
  refine lv_aload (pc := 31) hx hb dzU_pulse_31 (lv_at hl 0 rfl) ?_
  refine xk_get (pc := 33) hx hb hts hown hK hP ffzU_77 10 rfl rfl dzU_pulse_33 ?_
  refine lv_iload_n (pc := 36) hx hb dzU_pulse_36 rfl (lv_at hl 3 rfl) ?_
  refine xk_iald (q0 := 16) (t0 := 0) (j := 0) (pc := 37) hx hb hK hP rfl rfl (pk_in 0 4 (by decide)) (pk_cl 0) dzU_pulse_37 ?_
  refine lv_if_eq (pc := 38) (tgt := 51) hx hb dzU_pulse_38 (by decide) (fun _ => ?_) (fun hq9 => absurd h2 hq9)
  refine lv_aload (pc := 51) hx hb dzU_pulse_51 (lv_at hl 0 rfl) ?_
  refine xk_get (pc := 53) hx hb hts hown hK hP ffzU_77 10 rfl rfl dzU_pulse_53 ?_
  refine lv_iload_n (pc := 56) hx hb dzU_pulse_56 rfl (lv_at hl 3 rfl) ?_
  refine lv_iload_n (pc := 57) hx hb dzU_pulse_57 rfl (lv_at hl 4 rfl) ?_
  refine xk_iast (q0 := 16) (t0 := 0) (j := 0) (pc := 58) hx hb hK hP hD hS rfl rfl (pk_in 0 4 (by decide)) (pk_cl 0) dzU_pulse_58 (fun H locs hP hD hS => ?_)
  obtain ⟨g1, eg1⟩ : ∃ z : xk_St, z = va_up g0 16 (upd (g0 16) 0 k2) := ⟨_, rfl⟩
  have hP : va_P G xk_cls (xk_wU ad ac g1) H := by rw [eg1]; exact hP
  have hD : va_D A (xk_wU ad ac g1) := by rw [eg1]; exact hD
  exact hret g1 H locs 59 ls hP hS (by unfold relzU_pulse_1_0_p; exact ⟨g1, eg1, rfl⟩) dzU_pulse_59
theorem frzU_pulse_1_0_p (g0 : xk_St) (k2 : Int32) (gz : xk_St) : relzU_pulse_1_0_p g0 k2 gz → xk_eqv [0, 1, 2, 3, 4, 5, 6, 7, 8, 9, 10, 11, 12, 13, 14, 15, 17, 18, 19, 20, 21, 22, 23, 24, 25, 26, 27, 28, 29, 30, 31, 32, 33] g0 gz := by
  intro h
  unfold relzU_pulse_1_0_p at h
  have s0 : xk_eqv [0, 1, 2, 3, 4, 5, 6, 7, 8, 9, 10, 11, 12, 13, 14, 15, 17, 18, 19, 20, 21, 22, 23, 24, 25, 26, 27, 28, 29, 30, 31, 32, 33] g0 g0 := xk_eqv_rf
  obtain ⟨g1, u1, v2⟩ := h
  have s3 : xk_eqv [0, 1, 2, 3, 4, 5, 6, 7, 8, 9, 10, 11, 12, 13, 14, 15, 17, 18, 19, 20, 21, 22, 23, 24, 25, 26, 27, 28, 29, 30, 31, 32, 33] g0 g1 := by rw [u1]; repeat (first | exact s0 | refine xk_eqv_up (by decide) ?_)
  rw [v2]; exact s3

def relzU_pulse_1_0_m (g0 : xk_St) (k2 : Int32) (gz : xk_St) : Prop := ∃ (g1 : xk_St), g1 = va_up g0 16 (upd (g0 16) 0 k2) ∧ (gz = g1)
set_option maxHeartbeats 4000000 in
set_option maxRecDepth 100000 in
theorem kzU_pulse_1_0_m (l : Launch) (G : va_G) (ac : Nat → ClassId) (ad : Nat → Nat) (g0 : xk_St) (k2 : Int32) (h1 : ¬ k2 = 1) (h3 : k2 = (-1)) (h2 : ((g0 16) 0) = 0) : xk_CV l yzU_pulse czU_pulse 5 xk_WS xk_r1 G xk_cls (xk_tys ac) [.ref (ad 0), .int 1, .int 0, .int k2] (xk_wU ad ac g0) (fun (gz : xk_St) => relzU_pulse_1_0_m g0 k2 gz) (fun gz => xk_wU ad ac gz) := by
  refine xk_ofV (by decide) (Nat.le_of_ble_eq_true rfl) ?_
  intro p e s m args below meth c A Q H locs ls C0 hret hP hD hS hl
  obtain ⟨hx, hb, hml, hts, hown, hK, hA⟩ := C0
  have hl : lv_has ls 5 [(0, .ref (ad 0)), (1, .int 1), (2, .int 0), (3, .int k2)] := hl
  refine lv_aload_n (pc := 0) hx hb dzU_pulse_0 rfl (lv_at hl 0 rfl) ?_
  refine lv_iload_n (pc := 1) hx hb dzU_pulse_1 rfl (lv_at hl 1 rfl) ?_
  refine xk_allVR (As := [.int 1]) (rest := []) (H0 := s.heap) (pc := 2) hx hb hml hts hown hK hA hP hD hS (kzU_findTrack_1 l G ac ad g0) vfzU_63 0 rfl rfl ⟨rfl, rfl⟩ ⟨Nat.le_of_ble_eq_true rfl, Nat.le_of_ble_eq_true rfl⟩ rfl hl.1 rfl (Nat.le_of_ble_eq_true rfl) ⟨Nat.zero_le _, Nat.zero_le _⟩ dzU_pulse_2 (fun H locs hP hD hS => ?_)
  have hP : va_P G xk_cls (xk_wU ad ac g0) H := hP
  have hD : va_D A (xk_wU ad ac g0) := hD
  refine lv_astore (lv' := [(4, .ref (ad 10)), (0, .ref (ad 0)), (1, .int 1), (2, .int 0), (3, .int k2)]) (pc := 5) hx hb dzU_pulse_5 hl (by decide) rfl (fun ls hl => ?_)
  refine lv_iload_n (pc := 7) hx hb dzU_pulse_7 rfl (lv_at hl 3 rfl) ?_
  refine xk_callSV (As := [.int 0]) (rest := []) (H0 := s.heap) (pc := 8) hx hb hml hts hown hK hA hP hD hS (kzU_checkHead_0 l G ac) sfzU_67 [] (by decide) rfl (fun _ => rfl) ⟨rfl, rfl⟩ ⟨Nat.le_of_ble_eq_true rfl, Nat.le_of_ble_eq_true rfl⟩ rfl hl.1 rfl (Nat.le_of_ble_eq_true rfl) ⟨Nat.zero_le _, Nat.zero_le _⟩ dzU_pulse_8 (fun u9 H locs e9 hP hD hS => ?_)
  have hP : va_P G xk_cls (xk_wU ad ac g0) H := hP
  have hD : va_D A (xk_wU ad ac g0) := hD
  refine lv_iload_n (pc := 11) hx hb dzU_pulse_11 rfl (lv_at hl 4 rfl) ?_
  refine lv_iconst (v := 1) (pc := 12) hx hb dzU_pulse_12 (by decide) ?_
  refine lv_icmp_eq (pc := 13) (tgt := 31) hx hb dzU_pulse_13 (by decide) (fun hq9 => absurd hq9 h1) (fun _ => ?_)
  refine lv_iload_n (pc := 16) hx hb dzU_pulse_16 rfl (lv_at hl 4 rfl) ?_
  refine lv_iconst (v := (-1)) (pc := 17) hx hb dzU_pulse_17 (by decide) ?_
  refine lv_icmp_eq (pc := 18) (tgt := 31) hx hb dzU_pulse_18 (by decide) (fun _ => ?_) (fun hq9 => absurd h3 hq9)
  refine lv_aload (pc := 31) hx hb dzU_pulse_31 (lv_at hl 0 rfl) ?_
  refine xk_get (pc := 33) hx hb hts hown hK hP ffzU_77 10 rfl rfl dzU_pulse_33 ?_
  refine lv_iload_n (pc := 36) hx hb dzU_pulse_36 rfl (lv_at hl 3 rfl) ?_
  refine xk_iald (q0 := 16) (t0 := 0) (j := 0) (pc := 37) hx hb hK hP rfl rfl (pk_in 0 4 (by decide)) (pk_cl 0) dzU_pulse_37 ?_
  refine lv_if_eq (pc := 38) (tgt := 51) hx hb dzU_pulse_38 (by decide) (fun _ => ?_) (fun hq9 => absurd h2 hq9)
  refine lv_aload (pc := 51) hx hb dzU_pulse_51 (lv_at hl 0 rfl) ?_
  refine xk_get (pc := 53) hx hb hts hown hK hP ffzU_77 10 rfl rfl dzU_pulse_53 ?_
  refine lv_iload_n (pc := 56) hx hb dzU_pulse_56 rfl (lv_at hl 3 rfl) ?_
  refine lv_iload_n (pc := 57) hx hb dzU_pulse_57 rfl (lv_at hl 4 rfl) ?_
  refine xk_iast (q0 := 16) (t0 := 0) (j := 0) (pc := 58) hx hb hK hP hD hS rfl rfl (pk_in 0 4 (by decide)) (pk_cl 0) dzU_pulse_58 (fun H locs hP hD hS => ?_)
  obtain ⟨g1, eg1⟩ : ∃ z : xk_St, z = va_up g0 16 (upd (g0 16) 0 k2) := ⟨_, rfl⟩
  have hP : va_P G xk_cls (xk_wU ad ac g1) H := by rw [eg1]; exact hP
  have hD : va_D A (xk_wU ad ac g1) := by rw [eg1]; exact hD
  exact hret g1 H locs 59 ls hP hS (by unfold relzU_pulse_1_0_m; exact ⟨g1, eg1, rfl⟩) dzU_pulse_59
theorem frzU_pulse_1_0_m (g0 : xk_St) (k2 : Int32) (gz : xk_St) : relzU_pulse_1_0_m g0 k2 gz → xk_eqv [0, 1, 2, 3, 4, 5, 6, 7, 8, 9, 10, 11, 12, 13, 14, 15, 17, 18, 19, 20, 21, 22, 23, 24, 25, 26, 27, 28, 29, 30, 31, 32, 33] g0 gz := by
  intro h
  unfold relzU_pulse_1_0_m at h
  have s0 : xk_eqv [0, 1, 2, 3, 4, 5, 6, 7, 8, 9, 10, 11, 12, 13, 14, 15, 17, 18, 19, 20, 21, 22, 23, 24, 25, 26, 27, 28, 29, 30, 31, 32, 33] g0 g0 := xk_eqv_rf
  obtain ⟨g1, u1, v2⟩ := h
  have s3 : xk_eqv [0, 1, 2, 3, 4, 5, 6, 7, 8, 9, 10, 11, 12, 13, 14, 15, 17, 18, 19, 20, 21, 22, 23, 24, 25, 26, 27, 28, 29, 30, 31, 32, 33] g0 g1 := by rw [u1]; repeat (first | exact s0 | refine xk_eqv_up (by decide) ?_)
  rw [v2]; exact s3

def relzU_pulse_1_1_p (g0 : xk_St) (k2 : Int32) (gz : xk_St) : Prop := ∃ (g1 : xk_St), g1 = va_up g0 16 (upd (g0 16) 1 k2) ∧ (gz = g1)
set_option maxHeartbeats 4000000 in
set_option maxRecDepth 100000 in
theorem kzU_pulse_1_1_p (l : Launch) (G : va_G) (ac : Nat → ClassId) (ad : Nat → Nat) (g0 : xk_St) (k2 : Int32) (h1 : k2 = 1) (h2 : ((g0 16) 1) = 0) : xk_CV l yzU_pulse czU_pulse 5 xk_WS xk_r1 G xk_cls (xk_tys ac) [.ref (ad 0), .int 1, .int 1, .int k2] (xk_wU ad ac g0) (fun (gz : xk_St) => relzU_pulse_1_1_p g0 k2 gz) (fun gz => xk_wU ad ac gz) := by
  refine xk_ofV (by decide) (Nat.le_of_ble_eq_true rfl) ?_
  intro p e s m args below meth c A Q H locs ls C0 hret hP hD hS hl
  obtain ⟨hx, hb, hml, hts, hown, hK, hA⟩ := C0
  have hl : lv_has ls 5 [(0, .ref (ad 0)), (1, .int 1), (2, .int 1), (3, .int k2)] := hl
  refine lv_aload_n (pc := 0) hx hb dzU_pulse_0 rfl (lv_at hl 0 rfl) ?_
  refine lv_iload_n (pc := 1) hx hb dzU_pulse_1 rfl (lv_at hl 1 rfl) ?_
  refine xk_allVR (As := [.int 1]) (rest := []) (H0 := s.heap) (pc := 2) hx hb hml hts hown hK hA hP hD hS (kzU_findTrack_1 l G ac ad g0) vfzU_63 0 rfl rfl ⟨rfl, rfl⟩ ⟨Nat.le_of_ble_eq_true rfl, Nat.le_of_ble_eq_true rfl⟩ rfl hl.1 rfl (Nat.le_of_ble_eq_true rfl) ⟨Nat.zero_le _, Nat.zero_le _⟩ dzU_pulse_2 (fun H locs hP hD hS => ?_)
  have hP : va_P G xk_cls (xk_wU ad ac g0) H := hP
  have hD : va_D A (xk_wU ad ac g0) := hD
  refine lv_astore (lv' := [(4, .ref (ad 10)), (0, .ref (ad 0)), (1, .int 1), (2, .int 1), (3, .int k2)]) (pc := 5) hx hb dzU_pulse_5 hl (by decide) rfl (fun ls hl => ?_)
  refine lv_iload_n (pc := 7) hx hb dzU_pulse_7 rfl (lv_at hl 3 rfl) ?_
  refine xk_callSV (As := [.int 1]) (rest := []) (H0 := s.heap) (pc := 8) hx hb hml hts hown hK hA hP hD hS (kzU_checkHead_1 l G ac) sfzU_67 [] (by decide) rfl (fun _ => rfl) ⟨rfl, rfl⟩ ⟨Nat.le_of_ble_eq_true rfl, Nat.le_of_ble_eq_true rfl⟩ rfl hl.1 rfl (Nat.le_of_ble_eq_true rfl) ⟨Nat.zero_le _, Nat.zero_le _⟩ dzU_pulse_8 (fun u9 H locs e9 hP hD hS => ?_)
  have hP : va_P G xk_cls (xk_wU ad ac g0) H := hP
  have hD : va_D A (xk_wU ad ac g0) := hD
  refine lv_iload_n (pc := 11) hx hb dzU_pulse_11 rfl (lv_at hl 4 rfl) ?_
  refine lv_iconst (v := 1) (pc := 12) hx hb dzU_pulse_12 (by decide) ?_
  refine lv_icmp_eq (pc := 13) (tgt := 31) hx hb dzU_pulse_13 (by decide) (fun _ => ?_) (fun hq9 => absurd h1 hq9)
  refine lv_aload (pc := 31) hx hb dzU_pulse_31 (lv_at hl 0 rfl) ?_
  refine xk_get (pc := 33) hx hb hts hown hK hP ffzU_77 10 rfl rfl dzU_pulse_33 ?_
  refine lv_iload_n (pc := 36) hx hb dzU_pulse_36 rfl (lv_at hl 3 rfl) ?_
  refine xk_iald (q0 := 16) (t0 := 0) (j := 1) (pc := 37) hx hb hK hP rfl rfl (pk_in 1 4 (by decide)) (pk_cl 1) dzU_pulse_37 ?_
  refine lv_if_eq (pc := 38) (tgt := 51) hx hb dzU_pulse_38 (by decide) (fun _ => ?_) (fun hq9 => absurd h2 hq9)
  refine lv_aload (pc := 51) hx hb dzU_pulse_51 (lv_at hl 0 rfl) ?_
  refine xk_get (pc := 53) hx hb hts hown hK hP ffzU_77 10 rfl rfl dzU_pulse_53 ?_
  refine lv_iload_n (pc := 56) hx hb dzU_pulse_56 rfl (lv_at hl 3 rfl) ?_
  refine lv_iload_n (pc := 57) hx hb dzU_pulse_57 rfl (lv_at hl 4 rfl) ?_
  refine xk_iast (q0 := 16) (t0 := 0) (j := 1) (pc := 58) hx hb hK hP hD hS rfl rfl (pk_in 1 4 (by decide)) (pk_cl 1) dzU_pulse_58 (fun H locs hP hD hS => ?_)
  obtain ⟨g1, eg1⟩ : ∃ z : xk_St, z = va_up g0 16 (upd (g0 16) 1 k2) := ⟨_, rfl⟩
  have hP : va_P G xk_cls (xk_wU ad ac g1) H := by rw [eg1]; exact hP
  have hD : va_D A (xk_wU ad ac g1) := by rw [eg1]; exact hD
  exact hret g1 H locs 59 ls hP hS (by unfold relzU_pulse_1_1_p; exact ⟨g1, eg1, rfl⟩) dzU_pulse_59
theorem frzU_pulse_1_1_p (g0 : xk_St) (k2 : Int32) (gz : xk_St) : relzU_pulse_1_1_p g0 k2 gz → xk_eqv [0, 1, 2, 3, 4, 5, 6, 7, 8, 9, 10, 11, 12, 13, 14, 15, 17, 18, 19, 20, 21, 22, 23, 24, 25, 26, 27, 28, 29, 30, 31, 32, 33] g0 gz := by
  intro h
  unfold relzU_pulse_1_1_p at h
  have s0 : xk_eqv [0, 1, 2, 3, 4, 5, 6, 7, 8, 9, 10, 11, 12, 13, 14, 15, 17, 18, 19, 20, 21, 22, 23, 24, 25, 26, 27, 28, 29, 30, 31, 32, 33] g0 g0 := xk_eqv_rf
  obtain ⟨g1, u1, v2⟩ := h
  have s3 : xk_eqv [0, 1, 2, 3, 4, 5, 6, 7, 8, 9, 10, 11, 12, 13, 14, 15, 17, 18, 19, 20, 21, 22, 23, 24, 25, 26, 27, 28, 29, 30, 31, 32, 33] g0 g1 := by rw [u1]; repeat (first | exact s0 | refine xk_eqv_up (by decide) ?_)
  rw [v2]; exact s3

def relzU_pulse_1_1_m (g0 : xk_St) (k2 : Int32) (gz : xk_St) : Prop := ∃ (g1 : xk_St), g1 = va_up g0 16 (upd (g0 16) 1 k2) ∧ (gz = g1)
set_option maxHeartbeats 4000000 in
set_option maxRecDepth 100000 in
theorem kzU_pulse_1_1_m (l : Launch) (G : va_G) (ac : Nat → ClassId) (ad : Nat → Nat) (g0 : xk_St) (k2 : Int32) (h1 : ¬ k2 = 1) (h3 : k2 = (-1)) (h2 : ((g0 16) 1) = 0) : xk_CV l yzU_pulse czU_pulse 5 xk_WS xk_r1 G xk_cls (xk_tys ac) [.ref (ad 0), .int 1, .int 1, .int k2] (xk_wU ad ac g0) (fun (gz : xk_St) => relzU_pulse_1_1_m g0 k2 gz) (fun gz => xk_wU ad ac gz) := by
  refine xk_ofV (by decide) (Nat.le_of_ble_eq_true rfl) ?_
  intro p e s m args below meth c A Q H locs ls C0 hret hP hD hS hl
  obtain ⟨hx, hb, hml, hts, hown, hK, hA⟩ := C0
  have hl : lv_has ls 5 [(0, .ref (ad 0)), (1, .int 1), (2, .int 1), (3, .int k2)] := hl
  refine lv_aload_n (pc := 0) hx hb dzU_pulse_0 rfl (lv_at hl 0 rfl) ?_
  refine lv_iload_n (pc := 1) hx hb dzU_pulse_1 rfl (lv_at hl 1 rfl) ?_
  refine xk_allVR (As := [.int 1]) (rest := []) (H0 := s.heap) (pc := 2) hx hb hml hts hown hK hA hP hD hS (kzU_findTrack_1 l G ac ad g0) vfzU_63 0 rfl rfl ⟨rfl, rfl⟩ ⟨Nat.le_of_ble_eq_true rfl, Nat.le_of_ble_eq_true rfl⟩ rfl hl.1 rfl (Nat.le_of_ble_eq_true rfl) ⟨Nat.zero_le _, Nat.zero_le _⟩ dzU_pulse_2 (fun H locs hP hD hS => ?_)
  have hP : va_P G xk_cls (xk_wU ad ac g0) H := hP
  have hD : va_D A (xk_wU ad ac g0) := hD
  refine lv_astore (lv' := [(4, .ref (ad 10)), (0, .ref (ad 0)), (1, .int 1), (2, .int 1), (3, .int k2)]) (pc := 5) hx hb dzU_pulse_5 hl (by decide) rfl (fun ls hl => ?_)
  refine lv_iload_n (pc := 7) hx hb dzU_pulse_7 rfl (lv_at hl 3 rfl) ?_
  refine xk_callSV (As := [.int 1]) (rest := []) (H0 := s.heap) (pc := 8) hx hb hml hts hown hK hA hP hD hS (kzU_checkHead_1 l G ac) sfzU_67 [] (by decide) rfl (fun _ => rfl) ⟨rfl, rfl⟩ ⟨Nat.le_of_ble_eq_true rfl, Nat.le_of_ble_eq_true rfl⟩ rfl hl.1 rfl (Nat.le_of_ble_eq_true rfl) ⟨Nat.zero_le _, Nat.zero_le _⟩ dzU_pulse_8 (fun u9 H locs e9 hP hD hS => ?_)
  have hP : va_P G xk_cls (xk_wU ad ac g0) H := hP
  have hD : va_D A (xk_wU ad ac g0) := hD
  refine lv_iload_n (pc := 11) hx hb dzU_pulse_11 rfl (lv_at hl 4 rfl) ?_
  refine lv_iconst (v := 1) (pc := 12) hx hb dzU_pulse_12 (by decide) ?_
  refine lv_icmp_eq (pc := 13) (tgt := 31) hx hb dzU_pulse_13 (by decide) (fun hq9 => absurd hq9 h1) (fun _ => ?_)
  refine lv_iload_n (pc := 16) hx hb dzU_pulse_16 rfl (lv_at hl 4 rfl) ?_
  refine lv_iconst (v := (-1)) (pc := 17) hx hb dzU_pulse_17 (by decide) ?_
  refine lv_icmp_eq (pc := 18) (tgt := 31) hx hb dzU_pulse_18 (by decide) (fun _ => ?_) (fun hq9 => absurd h3 hq9)
  refine lv_aload (pc := 31) hx hb dzU_pulse_31 (lv_at hl 0 rfl) ?_
  refine xk_get (pc := 33) hx hb hts hown hK hP ffzU_77 10 rfl rfl dzU_pulse_33 ?_
  refine lv_iload_n (pc := 36) hx hb dzU_pulse_36 rfl (lv_at hl 3 rfl) ?_
  refine xk_iald (q0 := 16) (t0 := 0) (j := 1) (pc := 37) hx hb hK hP rfl rfl (pk_in 1 4 (by decide)) (pk_cl 1) dzU_pulse_37 ?_
  refine lv_if_eq (pc := 38) (tgt := 51) hx hb dzU_pulse_38 (by decide) (fun _ => ?_) (fun hq9 => absurd h2 hq9)
  refine lv_aload (pc := 51) hx hb dzU_pulse_51 (lv_at hl 0 rfl) ?_
  refine xk_get (pc := 53) hx hb hts hown hK hP ffzU_77 10 rfl rfl dzU_pulse_53 ?_
  refine lv_iload_n (pc := 56) hx hb dzU_pulse_56 rfl (lv_at hl 3 rfl) ?_
  refine lv_iload_n (pc := 57) hx hb dzU_pulse_57 rfl (lv_at hl 4 rfl) ?_
  refine xk_iast (q0 := 16) (t0 := 0) (j := 1) (pc := 58) hx hb hK hP hD hS rfl rfl (pk_in 1 4 (by decide)) (pk_cl 1) dzU_pulse_58 (fun H locs hP hD hS => ?_)
  obtain ⟨g1, eg1⟩ : ∃ z : xk_St, z = va_up g0 16 (upd (g0 16) 1 k2) := ⟨_, rfl⟩
  have hP : va_P G xk_cls (xk_wU ad ac g1) H := by rw [eg1]; exact hP
  have hD : va_D A (xk_wU ad ac g1) := by rw [eg1]; exact hD
  exact hret g1 H locs 59 ls hP hS (by unfold relzU_pulse_1_1_m; exact ⟨g1, eg1, rfl⟩) dzU_pulse_59
theorem frzU_pulse_1_1_m (g0 : xk_St) (k2 : Int32) (gz : xk_St) : relzU_pulse_1_1_m g0 k2 gz → xk_eqv [0, 1, 2, 3, 4, 5, 6, 7, 8, 9, 10, 11, 12, 13, 14, 15, 17, 18, 19, 20, 21, 22, 23, 24, 25, 26, 27, 28, 29, 30, 31, 32, 33] g0 gz := by
  intro h
  unfold relzU_pulse_1_1_m at h
  have s0 : xk_eqv [0, 1, 2, 3, 4, 5, 6, 7, 8, 9, 10, 11, 12, 13, 14, 15, 17, 18, 19, 20, 21, 22, 23, 24, 25, 26, 27, 28, 29, 30, 31, 32, 33] g0 g0 := xk_eqv_rf
  obtain ⟨g1, u1, v2⟩ := h
  have s3 : xk_eqv [0, 1, 2, 3, 4, 5, 6, 7, 8, 9, 10, 11, 12, 13, 14, 15, 17, 18, 19, 20, 21, 22, 23, 24, 25, 26, 27, 28, 29, 30, 31, 32, 33] g0 g1 := by rw [u1]; repeat (first | exact s0 | refine xk_eqv_up (by decide) ?_)
  rw [v2]; exact s3

def relzU_pulse_1_2_p (g0 : xk_St) (k2 : Int32) (gz : xk_St) : Prop := ∃ (g1 : xk_St), g1 = va_up g0 16 (upd (g0 16) 2 k2) ∧ (gz = g1)
set_option maxHeartbeats 4000000 in
set_option maxRecDepth 100000 in
theorem kzU_pulse_1_2_p (l : Launch) (G : va_G) (ac : Nat → ClassId) (ad : Nat → Nat) (g0 : xk_St) (k2 : Int32) (h1 : k2 = 1) (h2 : ((g0 16) 2) = 0) : xk_CV l yzU_pulse czU_pulse 5 xk_WS xk_r1 G xk_cls (xk_tys ac) [.ref (ad 0), .int 1, .int 2, .int k2] (xk_wU ad ac g0) (fun (gz : xk_St) => relzU_pulse_1_2_p g0 k2 gz) (fun gz => xk_wU ad ac gz) := by
  refine xk_ofV (by decide) (Nat.le_of_ble_eq_true rfl) ?_
  intro p e s m args below meth c A Q H locs ls C0 hret hP hD hS hl
  obtain ⟨hx, hb, hml, hts, hown, hK, hA⟩ := C0
  have hl : lv_has ls 5 [(0, .ref (ad 0)), (1, .int 1), (2, .int 2), (3, .int k2)] := hl
  refine lv_aload_n (pc := 0) hx hb dzU_pulse_0 rfl (lv_at hl 0 rfl) ?_
  refine lv_iload_n (pc := 1) hx hb dzU_pulse_1 rfl (lv_at hl 1 rfl) ?_
  refine xk_allVR (As := [.int 1]) (rest := []) (H0 := s.heap) (pc := 2) hx hb hml hts hown hK hA hP hD hS (kzU_findTrack_1 l G ac ad g0) vfzU_63 0 rfl rfl ⟨rfl, rfl⟩ ⟨Nat.le_of_ble_eq_true rfl, Nat.le_of_ble_eq_true rfl⟩ rfl hl.1 rfl (Nat.le_of_ble_eq_true rfl) ⟨Nat.zero_le _, Nat.zero_le _⟩ dzU_pulse_2 (fun H locs hP hD hS => ?_)
  have hP : va_P G xk_cls (xk_wU ad ac g0) H := hP
  have hD : va_D A (xk_wU ad ac g0) := hD
  refine lv_astore (lv' := [(4, .ref (ad 10)), (0, .ref (ad 0)), (1, .int 1), (2, .int 2), (3, .int k2)]) (pc := 5) hx hb dzU_pulse_5 hl (by decide) rfl (fun ls hl => ?_)
  refine lv_iload_n (pc := 7) hx hb dzU_pulse_7 rfl (lv_at hl 3 rfl) ?_
  refine xk_callSV (As := [.int 2]) (rest := []) (H0 := s.heap) (pc := 8) hx hb hml hts hown hK hA hP hD hS (kzU_checkHead_2 l G ac) sfzU_67 [] (by decide) rfl (fun _ => rfl) ⟨rfl, rfl⟩ ⟨Nat.le_of_ble_eq_true rfl, Nat.le_of_ble_eq_true rfl⟩ rfl hl.1 rfl (Nat.le_of_ble_eq_true rfl) ⟨Nat.zero_le _, Nat.zero_le _⟩ dzU_pulse_8 (fun u9 H locs e9 hP hD hS => ?_)
  have hP : va_P G xk_cls (xk_wU ad ac g0) H := hP
  have hD : va_D A (xk_wU ad ac g0) := hD
  refine lv_iload_n (pc := 11) hx hb dzU_pulse_11 rfl (lv_at hl 4 rfl) ?_
  refine lv_iconst (v := 1) (pc := 12) hx hb dzU_pulse_12 (by decide) ?_
  refine lv_icmp_eq (pc := 13) (tgt := 31) hx hb dzU_pulse_13 (by decide) (fun _ => ?_) (fun hq9 => absurd h1 hq9)
  refine lv_aload (pc := 31) hx hb dzU_pulse_31 (lv_at hl 0 rfl) ?_
  refine xk_get (pc := 33) hx hb hts hown hK hP ffzU_77 10 rfl rfl dzU_pulse_33 ?_
  refine lv_iload_n (pc := 36) hx hb dzU_pulse_36 rfl (lv_at hl 3 rfl) ?_
  refine xk_iald (q0 := 16) (t0 := 0) (j := 2) (pc := 37) hx hb hK hP rfl rfl (pk_in 2 4 (by decide)) (pk_cl 2) dzU_pulse_37 ?_
  refine lv_if_eq (pc := 38) (tgt := 51) hx hb dzU_pulse_38 (by decide) (fun _ => ?_) (fun hq9 => absurd h2 hq9)
  refine lv_aload (pc := 51) hx hb dzU_pulse_51 (lv_at hl 0 rfl) ?_
  refine xk_get (pc := 53) hx hb hts hown hK hP ffzU_77 10 rfl rfl dzU_pulse_53 ?_
  refine lv_iload_n (pc := 56) hx hb dzU_pulse_56 rfl (lv_at hl 3 rfl) ?_
  refine lv_iload_n (pc := 57) hx hb dzU_pulse_57 rfl (lv_at hl 4 rfl) ?_
  refine xk_iast (q0 := 16) (t0 := 0) (j := 2) (pc := 58) hx hb hK hP hD hS rfl rfl (pk_in 2 4 (by decide)) (pk_cl 2) dzU_pulse_58 (fun H locs hP hD hS => ?_)
  obtain ⟨g1, eg1⟩ : ∃ z : xk_St, z = va_up g0 16 (upd (g0 16) 2 k2) := ⟨_, rfl⟩
  have hP : va_P G xk_cls (xk_wU ad ac g1) H := by rw [eg1]; exact hP
  have hD : va_D A (xk_wU ad ac g1) := by rw [eg1]; exact hD
  exact hret g1 H locs 59 ls hP hS (by unfold relzU_pulse_1_2_p; exact ⟨g1, eg1, rfl⟩) dzU_pulse_59
theorem frzU_pulse_1_2_p (g0 : xk_St) (k2 : Int32) (gz : xk_St) : relzU_pulse_1_2_p g0 k2 gz → xk_eqv [0, 1, 2, 3, 4, 5, 6, 7, 8, 9, 10, 11, 12, 13, 14, 15, 17, 18, 19, 20, 21, 22, 23, 24, 25, 26, 27, 28, 29, 30, 31, 32, 33] g0 gz := by
  intro h
  unfold relzU_pulse_1_2_p at h
  have s0 : xk_eqv [0, 1, 2, 3, 4, 5, 6, 7, 8, 9, 10, 11, 12, 13, 14, 15, 17, 18, 19, 20, 21, 22, 23, 24, 25, 26, 27, 28, 29, 30, 31, 32, 33] g0 g0 := xk_eqv_rf
  obtain ⟨g1, u1, v2⟩ := h
  have s3 : xk_eqv [0, 1, 2, 3, 4, 5, 6, 7, 8, 9, 10, 11, 12, 13, 14, 15, 17, 18, 19, 20, 21, 22, 23, 24, 25, 26, 27, 28, 29, 30, 31, 32, 33] g0 g1 := by rw [u1]; repeat (first | exact s0 | refine xk_eqv_up (by decide) ?_)
  rw [v2]; exact s3

def relzU_pulse_1_2_m (g0 : xk_St) (k2 : Int32) (gz : xk_St) : Prop := ∃ (g1 : xk_St), g1 = va_up g0 16 (upd (g0 16) 2 k2) ∧ (gz = g1)
set_option maxHeartbeats 4000000 in
set_option maxRecDepth 100000 in
theorem kzU_pulse_1_2_m (l : Launch) (G : va_G) (ac : Nat → ClassId) (ad : Nat → Nat) (g0 : xk_St) (k2 : Int32) (h1 : ¬ k2 = 1) (h3 : k2 = (-1)) (h2 : ((g0 16) 2) = 0) : xk_CV l yzU_pulse czU_pulse 5 xk_WS xk_r1 G xk_cls (xk_tys ac) [.ref (ad 0), .int 1, .int 2, .int k2] (xk_wU ad ac g0) (fun (gz : xk_St) => relzU_pulse_1_2_m g0 k2 gz) (fun gz => xk_wU ad ac gz) := by
  refine xk_ofV (by decide) (Nat.le_of_ble_eq_true rfl) ?_
  intro p e s m args below meth c A Q H locs ls C0 hret hP hD hS hl
  obtain ⟨hx, hb, hml, hts, hown, hK, hA⟩ := C0
  have hl : lv_has ls 5 [(0, .ref (ad 0)), (1, .int 1), (2, .int 2), (3, .int k2)] := hl
  refine lv_aload_n (pc := 0) hx hb dzU_pulse_0 rfl (lv_at hl 0 rfl) ?_
  refine lv_iload_n (pc := 1) hx hb dzU_pulse_1 rfl (lv_at hl 1 rfl) ?_
  refine xk_allVR (As := [.int 1]) (rest := []) (H0 := s.heap) (pc := 2) hx hb hml hts hown hK hA hP hD hS (kzU_findTrack_1 l G ac ad g0) vfzU_63 0 rfl rfl ⟨rfl, rfl⟩ ⟨Nat.le_of_ble_eq_true rfl, Nat.le_of_ble_eq_true rfl⟩ rfl hl.1 rfl (Nat.le_of_ble_eq_true rfl) ⟨Nat.zero_le _, Nat.zero_le _⟩ dzU_pulse_2 (fun H locs hP hD hS => ?_)
  have hP : va_P G xk_cls (xk_wU ad ac g0) H := hP
  have hD : va_D A (xk_wU ad ac g0) := hD
  refine lv_astore (lv' := [(4, .ref (ad 10)), (0, .ref (ad 0)), (1, .int 1), (2, .int 2), (3, .int k2)]) (pc := 5) hx hb dzU_pulse_5 hl (by decide) rfl (fun ls hl => ?_)
  refine lv_iload_n (pc := 7) hx hb dzU_pulse_7 rfl (lv_at hl 3 rfl) ?_
  refine xk_callSV (As := [.int 2]) (rest := []) (H0 := s.heap) (pc := 8) hx hb hml hts hown hK hA hP hD hS (kzU_checkHead_2 l G ac) sfzU_67 [] (by decide) rfl (fun _ => rfl) ⟨rfl, rfl⟩ ⟨Nat.le_of_ble_eq_true rfl, Nat.le_of_ble_eq_true rfl⟩ rfl hl.1 rfl (Nat.le_of_ble_eq_true rfl) ⟨Nat.zero_le _, Nat.zero_le _⟩ dzU_pulse_8 (fun u9 H locs e9 hP hD hS => ?_)
  have hP : va_P G xk_cls (xk_wU ad ac g0) H := hP
  have hD : va_D A (xk_wU ad ac g0) := hD
  refine lv_iload_n (pc := 11) hx hb dzU_pulse_11 rfl (lv_at hl 4 rfl) ?_
  refine lv_iconst (v := 1) (pc := 12) hx hb dzU_pulse_12 (by decide) ?_
  refine lv_icmp_eq (pc := 13) (tgt := 31) hx hb dzU_pulse_13 (by decide) (fun hq9 => absurd hq9 h1) (fun _ => ?_)
  refine lv_iload_n (pc := 16) hx hb dzU_pulse_16 rfl (lv_at hl 4 rfl) ?_
  refine lv_iconst (v := (-1)) (pc := 17) hx hb dzU_pulse_17 (by decide) ?_
  refine lv_icmp_eq (pc := 18) (tgt := 31) hx hb dzU_pulse_18 (by decide) (fun _ => ?_) (fun hq9 => absurd h3 hq9)
  refine lv_aload (pc := 31) hx hb dzU_pulse_31 (lv_at hl 0 rfl) ?_
  refine xk_get (pc := 33) hx hb hts hown hK hP ffzU_77 10 rfl rfl dzU_pulse_33 ?_
  refine lv_iload_n (pc := 36) hx hb dzU_pulse_36 rfl (lv_at hl 3 rfl) ?_
  refine xk_iald (q0 := 16) (t0 := 0) (j := 2) (pc := 37) hx hb hK hP rfl rfl (pk_in 2 4 (by decide)) (pk_cl 2) dzU_pulse_37 ?_
  refine lv_if_eq (pc := 38) (tgt := 51) hx hb dzU_pulse_38 (by decide) (fun _ => ?_) (fun hq9 => absurd h2 hq9)
  refine lv_aload (pc := 51) hx hb dzU_pulse_51 (lv_at hl 0 rfl) ?_
  refine xk_get (pc := 53) hx hb hts hown hK hP ffzU_77 10 rfl rfl dzU_pulse_53 ?_
  refine lv_iload_n (pc := 56) hx hb dzU_pulse_56 rfl (lv_at hl 3 rfl) ?_
  refine lv_iload_n (pc := 57) hx hb dzU_pulse_57 rfl (lv_at hl 4 rfl) ?_
  refine xk_iast (q0 := 16) (t0 := 0) (j := 2) (pc := 58) hx hb hK hP hD hS rfl rfl (pk_in 2 4 (by decide)) (pk_cl 2) dzU_pulse_58 (fun H locs hP hD hS => ?_)
  obtain ⟨g1, eg1⟩ : ∃ z : xk_St, z = va_up g0 16 (upd (g0 16) 2 k2) := ⟨_, rfl⟩
  have hP : va_P G xk_cls (xk_wU ad ac g1) H := by rw [eg1]; exact hP
  have hD : va_D A (xk_wU ad ac g1) := by rw [eg1]; exact hD
  exact hret g1 H locs 59 ls hP hS (by unfold relzU_pulse_1_2_m; exact ⟨g1, eg1, rfl⟩) dzU_pulse_59
theorem frzU_pulse_1_2_m (g0 : xk_St) (k2 : Int32) (gz : xk_St) : relzU_pulse_1_2_m g0 k2 gz → xk_eqv [0, 1, 2, 3, 4, 5, 6, 7, 8, 9, 10, 11, 12, 13, 14, 15, 17, 18, 19, 20, 21, 22, 23, 24, 25, 26, 27, 28, 29, 30, 31, 32, 33] g0 gz := by
  intro h
  unfold relzU_pulse_1_2_m at h
  have s0 : xk_eqv [0, 1, 2, 3, 4, 5, 6, 7, 8, 9, 10, 11, 12, 13, 14, 15, 17, 18, 19, 20, 21, 22, 23, 24, 25, 26, 27, 28, 29, 30, 31, 32, 33] g0 g0 := xk_eqv_rf
  obtain ⟨g1, u1, v2⟩ := h
  have s3 : xk_eqv [0, 1, 2, 3, 4, 5, 6, 7, 8, 9, 10, 11, 12, 13, 14, 15, 17, 18, 19, 20, 21, 22, 23, 24, 25, 26, 27, 28, 29, 30, 31, 32, 33] g0 g1 := by rw [u1]; repeat (first | exact s0 | refine xk_eqv_up (by decide) ?_)
  rw [v2]; exact s3

def relzU_pulse_1_3_p (g0 : xk_St) (k2 : Int32) (gz : xk_St) : Prop := ∃ (g1 : xk_St), g1 = va_up g0 16 (upd (g0 16) 3 k2) ∧ (gz = g1)
set_option maxHeartbeats 4000000 in
set_option maxRecDepth 100000 in
theorem kzU_pulse_1_3_p (l : Launch) (G : va_G) (ac : Nat → ClassId) (ad : Nat → Nat) (g0 : xk_St) (k2 : Int32) (h1 : k2 = 1) (h2 : ((g0 16) 3) = 0) : xk_CV l yzU_pulse czU_pulse 5 xk_WS xk_r1 G xk_cls (xk_tys ac) [.ref (ad 0), .int 1, .int 3, .int k2] (xk_wU ad ac g0) (fun (gz : xk_St) => relzU_pulse_1_3_p g0 k2 gz) (fun gz => xk_wU ad ac gz) := by
  refine xk_ofV (by decide) (Nat.le_of_ble_eq_true rfl) ?_
  intro p e s m args below meth c A Q H locs ls C0 hret hP hD hS hl
  obtain ⟨hx, hb, hml, hts, hown, hK, hA⟩ := C0
  have hl : lv_has ls 5 [(0, .ref (ad 0)), (1, .int 1), (2, .int 3), (3, .int k2)] := hl
  refine lv_aload_n (pc := 0) hx hb dzU_pulse_0 rfl (lv_at hl 0 rfl) ?_
  refine lv_iload_n (pc := 1) hx hb dzU_pulse_1 rfl (lv_at hl 1 rfl) ?_
  refine xk_allVR (As := [.int 1]) (rest := []) (H0 := s.heap) (pc := 2) hx hb hml hts hown hK hA hP hD hS (kzU_findTrack_1 l G ac ad g0) vfzU_63 0 rfl rfl ⟨rfl, rfl⟩ ⟨Nat.le_of_ble_eq_true rfl, Nat.le_of_ble_eq_true rfl⟩ rfl hl.1 rfl (Nat.le_of_ble_eq_true rfl) ⟨Nat.zero_le _, Nat.zero_le _⟩ dzU_pulse_2 (fun H locs hP hD hS => ?_)
  have hP : va_P G xk_cls (xk_wU ad ac g0) H := hP
  have hD : va_D A (xk_wU ad ac g0) := hD
  refine lv_astore (lv' := [(4, .ref (ad 10)), (0, .ref (ad 0)), (1, .int 1), (2, .int 3), (3, .int k2)]) (pc := 5) hx hb dzU_pulse_5 hl (by decide) rfl (fun ls hl => ?_)
  refine lv_iload_n (pc := 7) hx hb dzU_pulse_7 rfl (lv_at hl 3 rfl) ?_
  refine xk_callSV (As := [.int 3]) (rest := []) (H0 := s.heap) (pc := 8) hx hb hml hts hown hK hA hP hD hS (kzU_checkHead_3 l G ac) sfzU_67 [] (by decide) rfl (fun _ => rfl) ⟨rfl, rfl⟩ ⟨Nat.le_of_ble_eq_true rfl, Nat.le_of_ble_eq_true rfl⟩ rfl hl.1 rfl (Nat.le_of_ble_eq_true rfl) ⟨Nat.zero_le _, Nat.zero_le _⟩ dzU_pulse_8 (fun u9 H locs e9 hP hD hS => ?_)
  have hP : va_P G xk_cls (xk_wU ad ac g0) H := hP
  have hD : va_D A (xk_wU ad ac g0) := hD
  refine lv_iload_n (pc := 11) hx hb dzU_pulse_11 rfl (lv_at hl 4 rfl) ?_
  refine lv_iconst (v := 1) (pc := 12) hx hb dzU_pulse_12 (by decide) ?_
  refine lv_icmp_eq (pc := 13) (tgt := 31) hx hb dzU_pulse_13 (by decide) (fun _ => ?_) (fun hq9 => absurd h1 hq9)
  refine lv_aload (pc := 31) hx hb dzU_pulse_31 (lv_at hl 0 rfl) ?_
  refine xk_get (pc := 33) hx hb hts hown hK hP ffzU_77 10 rfl rfl dzU_pulse_33 ?_
  refine lv_iload_n (pc := 36) hx hb dzU_pulse_36 rfl (lv_at hl 3 rfl) ?_
  refine xk_iald (q0 := 16) (t0 := 0) (j := 3) (pc := 37) hx hb hK hP rfl rfl (pk_in 3 4 (by decide)) (pk_cl 3) dzU_pulse_37 ?_
  refine lv_if_eq (pc := 38) (tgt := 51) hx hb dzU_pulse_38 (by decide) (fun _ => ?_) (fun hq9 => absurd h2 hq9)
  refine lv_aload (pc := 51) hx hb dzU_pulse_51 (lv_at hl 0 rfl) ?_
  refine xk_get (pc := 53) hx hb hts hown hK hP ffzU_77 10 rfl rfl dzU_pulse_53 ?_
  refine lv_iload_n (pc := 56) hx hb dzU_pulse_56 rfl (lv_at hl 3 rfl) ?_
  refine lv_iload_n (pc := 57) hx hb dzU_pulse_57 rfl (lv_at hl 4 rfl) ?_
  refine xk_iast (q0 := 16) (t0 := 0) (j := 3) (pc := 58) hx hb hK hP hD hS rfl rfl (pk_in 3 4 (by decide)) (pk_cl 3) dzU_pulse_58 (fun H locs hP hD hS => ?_)
  obtain ⟨g1, eg1⟩ : ∃ z : xk_St, z = va_up g0 16 (upd (g0 16) 3 k2) := ⟨_, rfl⟩
  have hP : va_P G xk_cls (xk_wU ad ac g1) H := by rw [eg1]; exact hP
  have hD : va_D A (xk_wU ad ac g1) := by rw [eg1]; exact hD
  exact hret g1 H locs 59 ls hP hS (by unfold relzU_pulse_1_3_p; exact ⟨g1, eg1, rfl⟩) dzU_pulse_59
theorem frzU_pulse_1_3_p (g0 : xk_St) (k2 : Int32) (gz : xk_St) : relzU_pulse_1_3_p g0 k2 gz → xk_eqv [0, 1, 2, 3, 4, 5, 6, 7, 8, 9, 10, 11, 12, 13, 14, 15, 17, 18, 19, 20, 21, 22, 23, 24, 25, 26, 27, 28, 29, 30, 31, 32, 33] g0 gz := by
  intro h
  unfold relzU_pulse_1_3_p at h
  have s0 : xk_eqv [0, 1, 2, 3, 4, 5, 6, 7, 8, 9, 10, 11, 12, 13, 14, 15, 17, 18, 19, 20, 21, 22, 23, 24, 25, 26, 27, 28, 29, 30, 31, 32, 33] g0 g0 := xk_eqv_rf
  obtain ⟨g1, u1, v2⟩ := h
  have s3 : xk_eqv [0, 1, 2, 3, 4, 5, 6, 7, 8, 9, 10, 11, 12, 13, 14, 15, 17, 18, 19, 20, 21, 22, 23, 24, 25, 26, 27, 28, 29, 30, 31, 32, 33] g0 g1 := by rw [u1]; repeat (first | exact s0 | refine xk_eqv_up (by decide) ?_)
  rw [v2]; exact s3

def relzU_pulse_1_3_m (g0 : xk_St) (k2 : Int32) (gz : xk_St) : Prop := ∃ (g1 : xk_St), g1 = va_up g0 16 (upd (g0 16) 3 k2) ∧ (gz = g1)
set_option maxHeartbeats 4000000 in
set_option maxRecDepth 100000 in
theorem kzU_pulse_1_3_m (l : Launch) (G : va_G) (ac : Nat → ClassId) (ad : Nat → Nat) (g0 : xk_St) (k2 : Int32) (h1 : ¬ k2 = 1) (h3 : k2 = (-1)) (h2 : ((g0 16) 3) = 0) : xk_CV l yzU_pulse czU_pulse 5 xk_WS xk_r1 G xk_cls (xk_tys ac) [.ref (ad 0), .int 1, .int 3, .int k2] (xk_wU ad ac g0) (fun (gz : xk_St) => relzU_pulse_1_3_m g0 k2 gz) (fun gz => xk_wU ad ac gz) := by
  refine xk_ofV (by decide) (Nat.le_of_ble_eq_true rfl) ?_
  intro p e s m args below meth c A Q H locs ls C0 hret hP hD hS hl
  obtain ⟨hx, hb, hml, hts, hown, hK, hA⟩ := C0
  have hl : lv_has ls 5 [(0, .ref (ad 0)), (1, .int 1), (2, .int 3), (3, .int k2)] := hl
  refine lv_aload_n (pc := 0) hx hb dzU_pulse_0 rfl (lv_at hl 0 rfl) ?_
  refine lv_iload_n (pc := 1) hx hb dzU_pulse_1 rfl (lv_at hl 1 rfl) ?_
  refine xk_allVR (As := [.int 1]) (rest := []) (H0 := s.heap) (pc := 2) hx hb hml hts hown hK hA hP hD hS (kzU_findTrack_1 l G ac ad g0) vfzU_63 0 rfl rfl ⟨rfl, rfl⟩ ⟨Nat.le_of_ble_eq_true rfl, Nat.le_of_ble_eq_true rfl⟩ rfl hl.1 rfl (Nat.le_of_ble_eq_true rfl) ⟨Nat.zero_le _, Nat.zero_le _⟩ dzU_pulse_2 (fun H locs hP hD hS => ?_)
  have hP : va_P G xk_cls (xk_wU ad ac g0) H := hP
  have hD : va_D A (xk_wU ad ac g0) := hD
  refine lv_astore (lv' := [(4, .ref (ad 10)), (0, .ref (ad 0)), (1, .int 1), (2, .int 3), (3, .int k2)]) (pc := 5) hx hb dzU_pulse_5 hl (by decide) rfl (fun ls hl => ?_)
  refine lv_iload_n (pc := 7) hx hb dzU_pulse_7 rfl (lv_at hl 3 rfl) ?_
  refine xk_callSV (As := [.int 3]) (rest := []) (H0 := s.heap) (pc := 8) hx hb hml hts hown hK hA hP hD hS (kzU_checkHead_3 l G ac) sfzU_67 [] (by decide) rfl (fun _ => rfl) ⟨rfl, rfl⟩ ⟨Nat.le_of_ble_eq_true rfl, Nat.le_of_ble_eq_true rfl⟩ rfl hl.1 rfl (Nat.le_of_ble_eq_true rfl) ⟨Nat.zero_le _, Nat.zero_le _⟩ dzU_pulse_8 (fun u9 H locs e9 hP hD hS => ?_)
  have hP : va_P G xk_cls (xk_wU ad ac g0) H := hP
  have hD : va_D A (xk_wU ad ac g0) := hD
  refine lv_iload_n (pc := 11) hx hb dzU_pulse_11 rfl (lv_at hl 4 rfl) ?_
  refine lv_iconst (v := 1) (pc := 12) hx hb dzU_pulse_12 (by decide) ?_
  refine lv_icmp_eq (pc := 13) (tgt := 31) hx hb dzU_pulse_13 (by decide) (fun hq9 => absurd hq9 h1) (fun _ => ?_)
  refine lv_iload_n (pc := 16) hx hb dzU_pulse_16 rfl (lv_at hl 4 rfl) ?_
  refine lv_iconst (v := (-1)) (pc := 17) hx hb dzU_pulse_17 (by decide) ?_
  refine lv_icmp_eq (pc := 18) (tgt := 31) hx hb dzU_pulse_18 (by decide) (fun _ => ?_) (fun hq9 => absurd h3 hq9)
  refine lv_aload (pc := 31) hx hb dzU_pulse_31 (lv_at hl 0 rfl) ?_
  refine xk_get (pc := 33) hx hb hts hown hK hP ffzU_77 10 rfl rfl dzU_pulse_33 ?_
  refine lv_iload_n (pc := 36) hx hb dzU_pulse_36 rfl (lv_at hl 3 rfl) ?_
  refine xk_iald (q0 := 16) (t0 := 0) (j := 3) (pc := 37) hx hb hK hP rfl rfl (pk_in 3 4 (by decide)) (pk_cl 3) dzU_pulse_37 ?_
  refine lv_if_eq (pc := 38) (tgt := 51) hx hb dzU_pulse_38 (by decide) (fun _ => ?_) (fun hq9 => absurd h2 hq9)
  refine lv_aload (pc := 51) hx hb dzU_pulse_51 (lv_at hl 0 rfl) ?_
  refine xk_get (pc := 53) hx hb hts hown hK hP ffzU_77 10 rfl rfl dzU_pulse_53 ?_
  refine lv_iload_n (pc := 56) hx hb dzU_pulse_56 rfl (lv_at hl 3 rfl) ?_
  refine lv_iload_n (pc := 57) hx hb dzU_pulse_57 rfl (lv_at hl 4 rfl) ?_
  refine xk_iast (q0 := 16) (t0 := 0) (j := 3) (pc := 58) hx hb hK hP hD hS rfl rfl (pk_in 3 4 (by decide)) (pk_cl 3) dzU_pulse_58 (fun H locs hP hD hS => ?_)
  obtain ⟨g1, eg1⟩ : ∃ z : xk_St, z = va_up g0 16 (upd (g0 16) 3 k2) := ⟨_, rfl⟩
  have hP : va_P G xk_cls (xk_wU ad ac g1) H := by rw [eg1]; exact hP
  have hD : va_D A (xk_wU ad ac g1) := by rw [eg1]; exact hD
  exact hret g1 H locs 59 ls hP hS (by unfold relzU_pulse_1_3_m; exact ⟨g1, eg1, rfl⟩) dzU_pulse_59
theorem frzU_pulse_1_3_m (g0 : xk_St) (k2 : Int32) (gz : xk_St) : relzU_pulse_1_3_m g0 k2 gz → xk_eqv [0, 1, 2, 3, 4, 5, 6, 7, 8, 9, 10, 11, 12, 13, 14, 15, 17, 18, 19, 20, 21, 22, 23, 24, 25, 26, 27, 28, 29, 30, 31, 32, 33] g0 gz := by
  intro h
  unfold relzU_pulse_1_3_m at h
  have s0 : xk_eqv [0, 1, 2, 3, 4, 5, 6, 7, 8, 9, 10, 11, 12, 13, 14, 15, 17, 18, 19, 20, 21, 22, 23, 24, 25, 26, 27, 28, 29, 30, 31, 32, 33] g0 g0 := xk_eqv_rf
  obtain ⟨g1, u1, v2⟩ := h
  have s3 : xk_eqv [0, 1, 2, 3, 4, 5, 6, 7, 8, 9, 10, 11, 12, 13, 14, 15, 17, 18, 19, 20, 21, 22, 23, 24, 25, 26, 27, 28, 29, 30, 31, 32, 33] g0 g1 := by rw [u1]; repeat (first | exact s0 | refine xk_eqv_up (by decide) ?_)
  rw [v2]; exact s3

