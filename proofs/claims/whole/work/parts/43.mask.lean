def relzM_ask_bad (g0 : xk_St) (gz : xk_St) : Prop := ∃ (r2 : Int32) (g1 : xk_St), relzM_goes_0 g0 r2 g1 ∧ (gz = g1)
set_option maxHeartbeats 4000000 in
set_option maxRecDepth 100000 in
theorem kzM_ask_bad (l : Launch) (G : va_G) (ac : Nat → ClassId) (ad : Nat → Nat) (g0 : xk_St) (k0 : Int32) (k1 : Int32) (k2 : Int32) (B : Nat) (hq : qzM_isSection k0 k1 = 0) (Ig0 : xk_cnt B g0) (hB : B + 1 < 2147483648) : xk_CV l yzM_ask czM_ask 6 xk_WS xk_r2 G xk_cls (xk_tys ac) [.ref (ad 0), .int k0, .int k1, .int k2] (xk_wM ad ac g0) (fun (gz : xk_St) => relzM_ask_bad g0 gz) (fun gz => xk_wM ad ac gz) := by
  refine xk_ofV (by decide) (Nat.le_of_ble_eq_true rfl) ?_
  intro p e s m args below meth c A Q H locs ls C0 hret hP hD hS hl
  obtain ⟨hx, hb, hml, hts, hown, hK, hA⟩ := C0
  have hl : lv_has ls 6 [(0, .ref (ad 0)), (1, .int k0), (2, .int k1), (3, .int k2)] := hl
  have Ig0 : xk_cnt (B + 0) g0 := Ig0
  refine lv_iload_n (pc := 0) hx hb dzM_ask_0 rfl (lv_at hl 1 rfl) ?_
  refine lv_iload_n (pc := 1) hx hb dzM_ask_1 rfl (lv_at hl 2 rfl) ?_
  refine xk_callSI (As := [.int k0, .int k1]) (rest := []) (H0 := s.heap) (pc := 2) hx hb hml hts hown hK hA hP hD hS (kzM_isSection l G ac k0 k1) sfzM_132 [] (by decide) rfl (fun _ => rfl) ⟨rfl, rfl⟩ ⟨Nat.le_of_ble_eq_true rfl, Nat.le_of_ble_eq_true rfl⟩ rfl hl.1 rfl (Nat.le_of_ble_eq_true rfl) ⟨Nat.zero_le _, Nat.zero_le _⟩ dzM_ask_2 (fun r1 u9 H locs e9 hP hD hS => ?_)
  obtain rfl : r1 = qzM_isSection k0 k1 := e9
  refine xk_is (y := 0) hq ?_
  have hP : va_P G xk_cls (xk_wM ad ac g0) H := hP
  have hD : va_D A (xk_wM ad ac g0) := hD
  refine lv_if_eq (pc := 5) (tgt := 17) hx hb dzM_ask_5 (by decide) (fun _ => ?_) (fun hq9 => absurd (by decide) hq9)
  refine lv_iconst (v := 0) (pc := 17) hx hb dzM_ask_17 (by decide) ?_
  refine lv_istore (lv' := [(4, .int 0), (0, .ref (ad 0)), (1, .int k0), (2, .int k1), (3, .int k2)]) (pc := 18) hx hb dzM_ask_18 hl (by decide) rfl (fun ls hl => ?_)
  refine lv_iload (pc := 20) hx hb dzM_ask_20 (lv_at hl 0 rfl) ?_
  refine lv_if_eq (pc := 22) (tgt := 33) hx hb dzM_ask_22 (by decide) (fun _ => ?_) (fun hq9 => absurd (by decide) hq9)
  refine lv_iconst (v := 0) (pc := 33) hx hb dzM_ask_33 (by decide) ?_
  refine lv_istore (lv' := [(5, .int 0), (4, .int 0), (0, .ref (ad 0)), (1, .int k0), (2, .int k1), (3, .int k2)]) (pc := 34) hx hb dzM_ask_34 hl (by decide) rfl (fun ls hl => ?_)
  refine lv_aload_n (pc := 36) hx hb dzM_ask_36 rfl (lv_at hl 2 rfl) ?_
  refine lv_iload (pc := 37) hx hb dzM_ask_37 (lv_at hl 1 rfl) ?_
  refine lv_iload (pc := 39) hx hb dzM_ask_39 (lv_at hl 1 rfl) ?_
  refine lv_if_eq (pc := 41) (tgt := 58) hx hb dzM_ask_41 (by decide) (fun _ => ?_) (fun hq9 => absurd (by decide) hq9)
  refine lv_iconst (v := 0) (pc := 58) hx hb dzM_ask_58 (by decide) ?_
  refine lv_iconst (v := 1) (pc := 59) hx hb dzM_ask_59 (by decide) ?_
  refine xk_allVI (As := [.int 0, .int 0, .int 1]) (rest := []) (H0 := s.heap) (pc := 60) hx hb hml hts hown hK hA hP hD hS (kzM_goes_0 l G ac ad g0 0 1 (B + 0) Ig0 (by omega)) vfzM_114 (fun _ => rfl) 0 rfl rfl ⟨rfl, rfl⟩ ⟨Nat.le_of_ble_eq_true rfl, Nat.le_of_ble_eq_true rfl⟩ rfl hl.1 rfl (Nat.le_of_ble_eq_true rfl) ⟨Nat.zero_le _, Nat.zero_le _⟩ dzM_ask_60 (fun r2 g1 H locs hg1 hP hD hS => ?_)
  have qr2 : r2 = 0 := rczM_goes_0 _ _ _ hg1
  refine xk_is (y := 0) qr2 ?_
  have hP : va_P G xk_cls (xk_wM ad ac g1) H := hP
  have hD : va_D A (xk_wM ad ac g1) := hD
  have Ig1 : xk_cnt (B + 0) g1 := xk_cnt_le (iczM_goes_0 (B + 0) _ _ _ hg1 Ig0) (by omega)
  refine lv_if_eq (pc := 63) (tgt := 106) hx hb dzM_ask_63 (by decide) (fun _ => ?_) (fun hq9 => absurd (by decide) hq9)
  exact hret g1 H locs 106 ls hP hS (by unfold relzM_ask_bad; exact ⟨r2, g1, hg1, rfl⟩) dzM_ask_106
theorem frzM_ask_bad (g0 : xk_St) (gz : xk_St) : relzM_ask_bad g0 gz → xk_eqv [1, 2, 3, 4, 5, 6, 7, 8, 9, 10, 11, 12, 13, 14, 15, 16, 17, 18, 19, 20, 21, 22, 23, 24, 25, 26, 27] g0 gz := by
  intro h
  unfold relzM_ask_bad at h
  have s0 : xk_eqv [1, 2, 3, 4, 5, 6, 7, 8, 9, 10, 11, 12, 13, 14, 15, 16, 17, 18, 19, 20, 21, 22, 23, 24, 25, 26, 27] g0 g0 := xk_eqv_rf
  obtain ⟨r2, g1, u1, v2⟩ := h
  have s3 : xk_eqv [1, 2, 3, 4, 5, 6, 7, 8, 9, 10, 11, 12, 13, 14, 15, 16, 17, 18, 19, 20, 21, 22, 23, 24, 25, 26, 27] g0 g1 := xk_eqv_tr s0 (xk_eqv_sub (frzM_goes_0 _ _ _ u1) (by decide))
  rw [v2]; exact s3
theorem iczM_ask_bad (B : Nat) (g0 : xk_St) (gz : xk_St) : relzM_ask_bad g0 gz → xk_cnt B g0 → xk_cnt (B + 0) gz := by
  intro h Ig0
  unfold relzM_ask_bad at h
  have Ig0 : xk_cnt (B + 0) g0 := Ig0
  obtain ⟨r2, g1, u1, v2⟩ := h
  have Ig1 : xk_cnt (B + 0) g1 := xk_cnt_le (iczM_goes_0 (B + 0) _ _ _ u1 Ig0) (by omega)
  rw [v2]; exact xk_cnt_le Ig1 (by omega)

def relzM_ask_who (g0 : xk_St) (gz : xk_St) : Prop := ∃ (r2 : Int32) (g1 : xk_St), relzM_goes_0 g0 r2 g1 ∧ (gz = g1)
set_option maxHeartbeats 4000000 in
set_option maxRecDepth 100000 in
theorem kzM_ask_who (l : Launch) (G : va_G) (ac : Nat → ClassId) (ad : Nat → Nat) (g0 : xk_St) (k0 : Int32) (k1 : Int32) (k2 : Int32) (B : Nat) (hq : qzM_isSection k0 k1 = 1) (hw : k2 < 1) (Ig0 : xk_cnt B g0) (hB : B + 1 < 2147483648) : xk_CV l yzM_ask czM_ask 6 xk_WS xk_r2 G xk_cls (xk_tys ac) [.ref (ad 0), .int k0, .int k1, .int k2] (xk_wM ad ac g0) (fun (gz : xk_St) => relzM_ask_who g0 gz) (fun gz => xk_wM ad ac gz) := by
  refine xk_ofV (by decide) (Nat.le_of_ble_eq_true rfl) ?_
  intro p e s m args below meth c A Q H locs ls C0 hret hP hD hS hl
  obtain ⟨hx, hb, hml, hts, hown, hK, hA⟩ := C0
  have hl : lv_has ls 6 [(0, .ref (ad 0)), (1, .int k0), (2, .int k1), (3, .int k2)] := hl
  have Ig0 : xk_cnt (B + 0) g0 := Ig0
  refine lv_iload_n (pc := 0) hx hb dzM_ask_0 rfl (lv_at hl 1 rfl) ?_
  refine lv_iload_n (pc := 1) hx hb dzM_ask_1 rfl (lv_at hl 2 rfl) ?_
  refine xk_callSI (As := [.int k0, .int k1]) (rest := []) (H0 := s.heap) (pc := 2) hx hb hml hts hown hK hA hP hD hS (kzM_isSection l G ac k0 k1) sfzM_132 [] (by decide) rfl (fun _ => rfl) ⟨rfl, rfl⟩ ⟨Nat.le_of_ble_eq_true rfl, Nat.le_of_ble_eq_true rfl⟩ rfl hl.1 rfl (Nat.le_of_ble_eq_true rfl) ⟨Nat.zero_le _, Nat.zero_le _⟩ dzM_ask_2 (fun r1 u9 H locs e9 hP hD hS => ?_)
  obtain rfl : r1 = qzM_isSection k0 k1 := e9
  refine xk_is (y := 1) hq ?_
  have hP : va_P G xk_cls (xk_wM ad ac g0) H := hP
  have hD : va_D A (xk_wM ad ac g0) := hD
  refine lv_if_eq (pc := 5) (tgt := 17) hx hb dzM_ask_5 (by decide) (fun hq9 => absurd hq9 (by decide)) (fun _ => ?_)
  refine lv_iload_n (pc := 8) hx hb dzM_ask_8 rfl (lv_at hl 3 rfl) ?_
  refine lv_iconst (v := 1) (pc := 9) hx hb dzM_ask_9 (by decide) ?_
  refine lv_icmp_lt (pc := 10) (tgt := 17) hx hb dzM_ask_10 (by decide) (fun _ => ?_) (fun hq9 => absurd hw hq9)
  refine lv_iconst (v := 0) (pc := 17) hx hb dzM_ask_17 (by decide) ?_
  refine lv_istore (lv' := [(4, .int 0), (0, .ref (ad 0)), (1, .int k0), (2, .int k1), (3, .int k2)]) (pc := 18) hx hb dzM_ask_18 hl (by decide) rfl (fun ls hl => ?_)
  refine lv_iload (pc := 20) hx hb dzM_ask_20 (lv_at hl 0 rfl) ?_
  refine lv_if_eq (pc := 22) (tgt := 33) hx hb dzM_ask_22 (by decide) (fun _ => ?_) (fun hq9 => absurd (by decide) hq9)
  refine lv_iconst (v := 0) (pc := 33) hx hb dzM_ask_33 (by decide) ?_
  refine lv_istore (lv' := [(5, .int 0), (4, .int 0), (0, .ref (ad 0)), (1, .int k0), (2, .int k1), (3, .int k2)]) (pc := 34) hx hb dzM_ask_34 hl (by decide) rfl (fun ls hl => ?_)
  refine lv_aload_n (pc := 36) hx hb dzM_ask_36 rfl (lv_at hl 2 rfl) ?_
  refine lv_iload (pc := 37) hx hb dzM_ask_37 (lv_at hl 1 rfl) ?_
  refine lv_iload (pc := 39) hx hb dzM_ask_39 (lv_at hl 1 rfl) ?_
  refine lv_if_eq (pc := 41) (tgt := 58) hx hb dzM_ask_41 (by decide) (fun _ => ?_) (fun hq9 => absurd (by decide) hq9)
  refine lv_iconst (v := 0) (pc := 58) hx hb dzM_ask_58 (by decide) ?_
  refine lv_iconst (v := 1) (pc := 59) hx hb dzM_ask_59 (by decide) ?_
  refine xk_allVI (As := [.int 0, .int 0, .int 1]) (rest := []) (H0 := s.heap) (pc := 60) hx hb hml hts hown hK hA hP hD hS (kzM_goes_0 l G ac ad g0 0 1 (B + 0) Ig0 (by omega)) vfzM_114 (fun _ => rfl) 0 rfl rfl ⟨rfl, rfl⟩ ⟨Nat.le_of_ble_eq_true rfl, Nat.le_of_ble_eq_true rfl⟩ rfl hl.1 rfl (Nat.le_of_ble_eq_true rfl) ⟨Nat.zero_le _, Nat.zero_le _⟩ dzM_ask_60 (fun r2 g1 H locs hg1 hP hD hS => ?_)
  have qr2 : r2 = 0 := rczM_goes_0 _ _ _ hg1
  refine xk_is (y := 0) qr2 ?_
  have hP : va_P G xk_cls (xk_wM ad ac g1) H := hP
  have hD : va_D A (xk_wM ad ac g1) := hD
  have Ig1 : xk_cnt (B + 0) g1 := xk_cnt_le (iczM_goes_0 (B + 0) _ _ _ hg1 Ig0) (by omega)
  refine lv_if_eq (pc := 63) (tgt := 106) hx hb dzM_ask_63 (by decide) (fun _ => ?_) (fun hq9 => absurd (by decide) hq9)
  exact hret g1 H locs 106 ls hP hS (by unfold relzM_ask_who; exact ⟨r2, g1, hg1, rfl⟩) dzM_ask_106
theorem frzM_ask_who (g0 : xk_St) (gz : xk_St) : relzM_ask_who g0 gz → xk_eqv [1, 2, 3, 4, 5, 6, 7, 8, 9, 10, 11, 12, 13, 14, 15, 16, 17, 18, 19, 20, 21, 22, 23, 24, 25, 26, 27] g0 gz := by
  intro h
  unfold relzM_ask_who at h
  have s0 : xk_eqv [1, 2, 3, 4, 5, 6, 7, 8, 9, 10, 11, 12, 13, 14, 15, 16, 17, 18, 19, 20, 21, 22, 23, 24, 25, 26, 27] g0 g0 := xk_eqv_rf
  obtain ⟨r2, g1, u1, v2⟩ := h
  have s3 : xk_eqv [1, 2, 3, 4, 5, 6, 7, 8, 9, 10, 11, 12, 13, 14, 15, 16, 17, 18, 19, 20, 21, 22, 23, 24, 25, 26, 27] g0 g1 := xk_eqv_tr s0 (xk_eqv_sub (frzM_goes_0 _ _ _ u1) (by decide))
  rw [v2]; exact s3
theorem iczM_ask_who (B : Nat) (g0 : xk_St) (gz : xk_St) : relzM_ask_who g0 gz → xk_cnt B g0 → xk_cnt (B + 0) gz := by
  intro h Ig0
  unfold relzM_ask_who at h
  have Ig0 : xk_cnt (B + 0) g0 := Ig0
  obtain ⟨r2, g1, u1, v2⟩ := h
  have Ig1 : xk_cnt (B + 0) g1 := xk_cnt_le (iczM_goes_0 (B + 0) _ _ _ u1 Ig0) (by omega)
  rw [v2]; exact xk_cnt_le Ig1 (by omega)

def relzM_ask_0_0 (g0 : xk_St) (k2 : Int32) (gz : xk_St) : Prop := ∃ (x1 : Int32), (if ((g0 5) 0) = 0 then (x1 = 0) else (x1 = 1)) ∧ (∃ (r2 : Int32) (g1 : xk_St), relzM_goes g0 1 x1 1 r2 g1 ∧ (∃ (g7 : xk_St), (if r2 = 0 then (g7 = g1) else (∃ (g2 : xk_St), g2 = va_up g1 6 (upd (g1 6) 0 k2) ∧ (∃ (g3 : xk_St), g3 = va_up g2 7 (upd (g2 7) 0 0) ∧ (∃ (g4 : xk_St), g4 = va_up g3 8 (upd (g3 8) 0 0) ∧ (∃ (g5 : xk_St), g5 = va_up g4 9 (upd (g4 9) 0 0) ∧ (∃ (g6 : xk_St), g6 = va_up g5 10 (upd (g5 10) 0 0) ∧ (g7 = g6))))))) ∧ (gz = g7)))
set_option maxHeartbeats 4000000 in
set_option maxRecDepth 100000 in
theorem kzM_ask_0_0 (l : Launch) (G : va_G) (ac : Nat → ClassId) (ad : Nat → Nat) (g0 : xk_St) (k2 : Int32) (B : Nat) (hw : ¬ k2 < 1) (Ig0 : xk_cnt B g0) (hB : B + 1 < 2147483648) : xk_CV l yzM_ask czM_ask 6 xk_WS xk_r2 G xk_cls (xk_tys ac) [.ref (ad 0), .int 0, .int 0, .int k2] (xk_wM ad ac g0) (fun (gz : xk_St) => relzM_ask_0_0 g0 k2 gz) (fun gz => xk_wM ad ac gz) := by
  refine xk_ofV (by decide) (Nat.le_of_ble_eq_true rfl) ?_
  intro p e s m args below meth c A Q H locs ls C0 hret hP hD hS hl
  obtain ⟨hx, hb, hml, hts, hown, hK, hA⟩ := C0
  have hl : lv_has ls 6 [(0, .ref (ad 0)), (1, .int 0), (2, .int 0), (3, .int k2)] := hl
  have Ig0 : xk_cnt (B + 0) g0 := Ig0
  refine lv_iload_n (pc := 0) hx hb dzM_ask_0 rfl (lv_at hl 1 rfl) ?_
  refine lv_iload_n (pc := 1) hx hb dzM_ask_1 rfl (lv_at hl 2 rfl) ?_
  refine xk_callSI (As := [.int 0, .int 0]) (rest := []) (H0 := s.heap) (pc := 2) hx hb hml hts hown hK hA hP hD hS (kzM_isSection l G ac 0 0) sfzM_132 [] (by decide) rfl (fun _ => rfl) ⟨rfl, rfl⟩ ⟨Nat.le_of_ble_eq_true rfl, Nat.le_of_ble_eq_true rfl⟩ rfl hl.1 rfl (Nat.le_of_ble_eq_true rfl) ⟨Nat.zero_le _, Nat.zero_le _⟩ dzM_ask_2 (fun r1 u9 H locs e9 hP hD hS => ?_)
  obtain rfl : r1 = qzM_isSection 0 0 := e9
  refine xk_is (y := 1) (by decide) ?_
  have hP : va_P G xk_cls (xk_wM ad ac g0) H := hP
  have hD : va_D A (xk_wM ad ac g0) := hD
  refine lv_if_eq (pc := 5) (tgt := 17) hx hb dzM_ask_5 (by decide) (fun hq9 => absurd hq9 (by decide)) (fun _ => ?_)
  refine lv_iload_n (pc := 8) hx hb dzM_ask_8 rfl (lv_at hl 3 rfl) ?_
  refine lv_iconst (v := 1) (pc := 9) hx hb dzM_ask_9 (by decide) ?_
  refine lv_icmp_lt (pc := 10) (tgt := 17) hx hb dzM_ask_10 (by decide) (fun hq9 => absurd hq9 hw) (fun _ => ?_)
  refine lv_iconst (v := 1) (pc := 13) hx hb dzM_ask_13 (by decide) ?_
  refine lv_goto (tgt := 18) (pc := 14) hx hb dzM_ask_14 (by decide) ?_
  refine lv_istore (lv' := [(4, .int 1), (0, .ref (ad 0)), (1, .int 0), (2, .int 0), (3, .int k2)]) (pc := 18) hx hb dzM_ask_18 hl (by decide) rfl (fun ls hl => ?_)
  refine lv_iload (pc := 20) hx hb dzM_ask_20 (lv_at hl 0 rfl) ?_
  refine lv_if_eq (pc := 22) (tgt := 33) hx hb dzM_ask_22 (by decide) (fun hq9 => absurd hq9 (by decide)) (fun _ => ?_)
  refine lv_iconst (v := 3) (pc := 25) hx hb dzM_ask_25 (by decide) ?_
  refine lv_iload_n (pc := 26) hx hb dzM_ask_26 rfl (lv_at hl 2 rfl) ?_
  refine lv_imul (pc := 27) hx hb dzM_ask_27 ?_
  refine xk_is (y := 0) (by decide) ?_
  refine lv_iload_n (pc := 28) hx hb dzM_ask_28 rfl (lv_at hl 3 rfl) ?_
  refine lv_iadd (pc := 29) hx hb dzM_ask_29 ?_
  refine xk_is (y := 0) (by decide) ?_
  refine lv_goto (tgt := 34) (pc := 30) hx hb dzM_ask_30 (by decide) ?_
  refine lv_istore (lv' := [(5, .int 0), (4, .int 1), (0, .ref (ad 0)), (1, .int 0), (2, .int 0), (3, .int k2)]) (pc := 34) hx hb dzM_ask_34 hl (by decide) rfl (fun ls hl => ?_)
  refine lv_aload_n (pc := 36) hx hb dzM_ask_36 rfl (lv_at hl 2 rfl) ?_
  refine lv_iload (pc := 37) hx hb dzM_ask_37 (lv_at hl 1 rfl) ?_
  refine lv_iload (pc := 39) hx hb dzM_ask_39 (lv_at hl 1 rfl) ?_
  refine lv_if_eq (pc := 41) (tgt := 58) hx hb dzM_ask_41 (by decide) (fun hq9 => absurd hq9 (by decide)) (fun _ => ?_)
  refine lv_aload_n (pc := 44) hx hb dzM_ask_44 rfl (lv_at hl 2 rfl) ?_
  refine xk_get (pc := 45) hx hb hts hown hK hP ffzM_23 0 rfl rfl dzM_ask_45 ?_
  refine lv_iload (pc := 48) hx hb dzM_ask_48 (lv_at hl 0 rfl) ?_
  refine xk_zald (q0 := 5) (t0 := 1) (j := 0) (pc := 50) hx hb hK hP rfl rfl (pk_in 0 6 (by decide)) (pk_cl 0) dzM_ask_50 ?_
  have K1 : ∀ (x1 : Int32), (if ((g0 5) 0) = 0 then (x1 = 0) else (x1 = 1)) → (xk_b x1) → W p l e xk_r2 s m args below meth c H locs 0 0 Q (F0 m 59 ls [.int x1, .int 1, .ref (ad 0)]) := by
    intro x1 R1 bx1
    refine lv_iconst (v := 1) (pc := 59) hx hb dzM_ask_59 (by decide) ?_
    refine xk_allVI (As := [.int 1, .int x1, .int 1]) (rest := []) (H0 := s.heap) (pc := 60) hx hb hml hts hown hK hA hP hD hS (kzM_goes l G ac ad g0 1 x1 1 (B + 0) Ig0 (by omega)) vfzM_114 (fun _ => rfl) 0 rfl rfl ⟨rfl, rfl⟩ ⟨Nat.le_of_ble_eq_true rfl, Nat.le_of_ble_eq_true rfl⟩ rfl hl.1 rfl (Nat.le_of_ble_eq_true rfl) ⟨Nat.zero_le _, Nat.zero_le _⟩ dzM_ask_60 (fun r2 g1 H locs hg1 hP hD hS => ?_)
    have hP : va_P G xk_cls (xk_wM ad ac g1) H := hP
    have hD : va_D A (xk_wM ad ac g1) := hD
    have Ig1 : xk_cnt (B + 0) g1 := xk_cnt_le (iczM_goes (B + 0) _ _ _ _ _ _ hg1 Ig0) (by omega)
    have K2 : ∀ (g7 : xk_St) (H : Heap) (locs : List Loc), (if r2 = 0 then (g7 = g1) else (∃ (g2 : xk_St), g2 = va_up g1 6 (upd (g1 6) 0 k2) ∧ (∃ (g3 : xk_St), g3 = va_up g2 7 (upd (g2 7) 0 0) ∧ (∃ (g4 : xk_St), g4 = va_up g3 8 (upd (g3 8) 0 0) ∧ (∃ (g5 : xk_St), g5 = va_up g4 9 (upd (g4 9) 0 0) ∧ (∃ (g6 : xk_St), g6 = va_up g5 10 (upd (g5 10) 0 0) ∧ (g7 = g6))))))) → (xk_cnt (B + 0) g7) → (va_P G xk_cls (xk_wM ad ac g7) H) → (va_D A (xk_wM ad ac g7)) → (va_S A s.heap H locs) → W p l e xk_r2 s m args below meth c H locs 0 0 Q (F0 m 106 ls []) := by
      intro g7 H locs R2 Ig7 hP hD hS
      exact hret g7 H locs 106 ls hP hS (by unfold relzM_ask_0_0; exact ⟨x1, R1, ⟨r2, g1, hg1, ⟨g7, R2, rfl⟩⟩⟩) dzM_ask_106
    refine lv_if_eq (pc := 63) (tgt := 106) hx hb dzM_ask_63 (by decide) (fun h2 => ?_) (fun h2 => ?_)
    ·
      exact K2 g1 H locs (Eq.mpr (if_pos h2) rfl) (xk_cnt_le Ig1 (by omega)) hP hD hS
    ·
      refine lv_aload_n (pc := 66) hx hb dzM_ask_66 rfl (lv_at hl 2 rfl) ?_
      refine xk_get (pc := 67) hx hb hts hown hK hP ffzM_26 0 rfl rfl dzM_ask_67 ?_
      refine lv_iload (pc := 70) hx hb dzM_ask_70 (lv_at hl 0 rfl) ?_
      refine lv_iload_n (pc := 72) hx hb dzM_ask_72 rfl (lv_at hl 5 rfl) ?_
      refine xk_iast (q0 := 6) (t0 := 0) (j := 0) (pc := 73) hx hb hK hP hD hS rfl rfl (pk_in 0 6 (by decide)) (pk_cl 0) dzM_ask_73 (fun H locs hP hD hS => ?_)
      obtain ⟨g2, eg2⟩ : ∃ z : xk_St, z = va_up g1 6 (upd (g1 6) 0 k2) := ⟨_, rfl⟩
      have hP : va_P G xk_cls (xk_wM ad ac g2) H := by rw [eg2]; exact hP
      have hD : va_D A (xk_wM ad ac g2) := by rw [eg2]; exact hD
      have Ig2 : xk_cnt (B + 0) g2 := by rw [eg2]; repeat (first | exact Ig1 | refine xk_cnt_k (by decide) ?_ | refine xk_cnt_f (by decide) ?_ | refine xk_cnt_s ?_)
      refine lv_aload_n (pc := 74) hx hb dzM_ask_74 rfl (lv_at hl 2 rfl) ?_
      refine xk_get (pc := 75) hx hb hts hown hK hP ffzM_29 0 rfl rfl dzM_ask_75 ?_
      refine lv_iload (pc := 78) hx hb dzM_ask_78 (lv_at hl 0 rfl) ?_
      refine lv_iconst (v := 0) (pc := 80) hx hb dzM_ask_80 (by decide) ?_
      refine xk_iast (q0 := 7) (t0 := 0) (j := 0) (pc := 81) hx hb hK hP hD hS rfl rfl (pk_in 0 6 (by decide)) (pk_cl 0) dzM_ask_81 (fun H locs hP hD hS => ?_)
      obtain ⟨g3, eg3⟩ : ∃ z : xk_St, z = va_up g2 7 (upd (g2 7) 0 0) := ⟨_, rfl⟩
      have hP : va_P G xk_cls (xk_wM ad ac g3) H := by rw [eg3]; exact hP
      have hD : va_D A (xk_wM ad ac g3) := by rw [eg3]; exact hD
      have Ig3 : xk_cnt (B + 0) g3 := by rw [eg3]; repeat (first | exact Ig2 | refine xk_cnt_k (by decide) ?_ | refine xk_cnt_f (by decide) ?_ | refine xk_cnt_s ?_)
      refine lv_aload_n (pc := 82) hx hb dzM_ask_82 rfl (lv_at hl 2 rfl) ?_
      refine xk_get (pc := 83) hx hb hts hown hK hP ffzM_32 0 rfl rfl dzM_ask_83 ?_
      refine lv_iload (pc := 86) hx hb dzM_ask_86 (lv_at hl 0 rfl) ?_
      refine lv_iconst (v := 0) (pc := 88) hx hb dzM_ask_88 (by decide) ?_
      refine xk_iast (q0 := 8) (t0 := 0) (j := 0) (pc := 89) hx hb hK hP hD hS rfl rfl (pk_in 0 6 (by decide)) (pk_cl 0) dzM_ask_89 (fun H locs hP hD hS => ?_)
      obtain ⟨g4, eg4⟩ : ∃ z : xk_St, z = va_up g3 8 (upd (g3 8) 0 0) := ⟨_, rfl⟩
      have hP : va_P G xk_cls (xk_wM ad ac g4) H := by rw [eg4]; exact hP
      have hD : va_D A (xk_wM ad ac g4) := by rw [eg4]; exact hD
      have Ig4 : xk_cnt (B + 0) g4 := by rw [eg4]; repeat (first | exact Ig3 | refine xk_cnt_k (by decide) ?_ | refine xk_cnt_f (by decide) ?_ | refine xk_cnt_s ?_)
      refine lv_aload_n (pc := 90) hx hb dzM_ask_90 rfl (lv_at hl 2 rfl) ?_
      refine xk_get (pc := 91) hx hb hts hown hK hP ffzM_35 0 rfl rfl dzM_ask_91 ?_
      refine lv_iload (pc := 94) hx hb dzM_ask_94 (lv_at hl 0 rfl) ?_
      refine lv_iconst (v := 0) (pc := 96) hx hb dzM_ask_96 (by decide) ?_
      refine xk_iast (q0 := 9) (t0 := 0) (j := 0) (pc := 97) hx hb hK hP hD hS rfl rfl (pk_in 0 6 (by decide)) (pk_cl 0) dzM_ask_97 (fun H locs hP hD hS => ?_)
      obtain ⟨g5, eg5⟩ : ∃ z : xk_St, z = va_up g4 9 (upd (g4 9) 0 0) := ⟨_, rfl⟩
      have hP : va_P G xk_cls (xk_wM ad ac g5) H := by rw [eg5]; exact hP
      have hD : va_D A (xk_wM ad ac g5) := by rw [eg5]; exact hD
      have Ig5 : xk_cnt (B + 0) g5 := by rw [eg5]; repeat (first | exact Ig4 | refine xk_cnt_k (by decide) ?_ | refine xk_cnt_f (by decide) ?_ | refine xk_cnt_s ?_)
      refine lv_aload_n (pc := 98) hx hb dzM_ask_98 rfl (lv_at hl 2 rfl) ?_
      refine xk_get (pc := 99) hx hb hts hown hK hP ffzM_38 0 rfl rfl dzM_ask_99 ?_
      refine lv_iload (pc := 102) hx hb dzM_ask_102 (lv_at hl 0 rfl) ?_
      refine lv_iconst (v := 0) (pc := 104) hx hb dzM_ask_104 (by decide) ?_
      refine xk_iast (q0 := 10) (t0 := 0) (j := 0) (pc := 105) hx hb hK hP hD hS rfl rfl (pk_in 0 6 (by decide)) (pk_cl 0) dzM_ask_105 (fun H locs hP hD hS => ?_)
      obtain ⟨g6, eg6⟩ : ∃ z : xk_St, z = va_up g5 10 (upd (g5 10) 0 0) := ⟨_, rfl⟩
      have hP : va_P G xk_cls (xk_wM ad ac g6) H := by rw [eg6]; exact hP
      have hD : va_D A (xk_wM ad ac g6) := by rw [eg6]; exact hD
      have Ig6 : xk_cnt (B + 0) g6 := by rw [eg6]; repeat (first | exact Ig5 | refine xk_cnt_k (by decide) ?_ | refine xk_cnt_f (by decide) ?_ | refine xk_cnt_s ?_)
      exact K2 g6 H locs (Eq.mpr (if_neg h2) ⟨g2, eg2, ⟨g3, eg3, ⟨g4, eg4, ⟨g5, eg5, ⟨g6, eg6, rfl⟩⟩⟩⟩⟩) (xk_cnt_le Ig6 (by omega)) hP hD hS
  refine lv_if_eq (pc := 51) (tgt := 58) hx hb dzM_ask_51 (by decide) (fun h1 => ?_) (fun h1 => ?_)
  ·
    refine lv_iconst (v := 0) (pc := 58) hx hb dzM_ask_58 (by decide) ?_
    exact K1 0 (Eq.mpr (if_pos h1) rfl) xk_b0
  ·
    refine lv_iconst (v := 1) (pc := 54) hx hb dzM_ask_54 (by decide) ?_
    refine lv_goto (tgt := 59) (pc := 55) hx hb dzM_ask_55 (by decide) ?_
    exact K1 1 (Eq.mpr (if_neg h1) rfl) xk_b1
theorem frzM_ask_0_0 (g0 : xk_St) (k2 : Int32) (gz : xk_St) : relzM_ask_0_0 g0 k2 gz → xk_eqv [1, 2, 3, 4, 5, 11, 12, 13, 14, 15, 16, 17, 18, 19, 20, 21, 22, 23, 24, 25, 26, 27] g0 gz := by
  intro h
  unfold relzM_ask_0_0 at h
  have s0 : xk_eqv [1, 2, 3, 4, 5, 11, 12, 13, 14, 15, 16, 17, 18, 19, 20, 21, 22, 23, 24, 25, 26, 27] g0 g0 := xk_eqv_rf
  obtain ⟨x1, u1, v2⟩ := h
  obtain ⟨r2, g1, u3, v4⟩ := v2
  have s5 : xk_eqv [1, 2, 3, 4, 5, 11, 12, 13, 14, 15, 16, 17, 18, 19, 20, 21, 22, 23, 24, 25, 26, 27] g0 g1 := xk_eqv_tr s0 (xk_eqv_sub (frzM_goes _ _ _ _ _ _ u3) (by decide))
  obtain ⟨g7, u6, v7⟩ := v4
  have s8 : xk_eqv [1, 2, 3, 4, 5, 11, 12, 13, 14, 15, 16, 17, 18, 19, 20, 21, 22, 23, 24, 25, 26, 27] g0 g7 := by
    by_cases hc : r2 = 0
    · rw [if_pos hc] at u6
      rw [u6]; exact s5
    · rw [if_neg hc] at u6
      obtain ⟨g2, u9, v10⟩ := u6
      have s11 : xk_eqv [1, 2, 3, 4, 5, 11, 12, 13, 14, 15, 16, 17, 18, 19, 20, 21, 22, 23, 24, 25, 26, 27] g0 g2 := by rw [u9]; repeat (first | exact s5 | refine xk_eqv_up (by decide) ?_)
      obtain ⟨g3, u12, v13⟩ := v10
      have s14 : xk_eqv [1, 2, 3, 4, 5, 11, 12, 13, 14, 15, 16, 17, 18, 19, 20, 21, 22, 23, 24, 25, 26, 27] g0 g3 := by rw [u12]; repeat (first | exact s11 | refine xk_eqv_up (by decide) ?_)
      obtain ⟨g4, u15, v16⟩ := v13
      have s17 : xk_eqv [1, 2, 3, 4, 5, 11, 12, 13, 14, 15, 16, 17, 18, 19, 20, 21, 22, 23, 24, 25, 26, 27] g0 g4 := by rw [u15]; repeat (first | exact s14 | refine xk_eqv_up (by decide) ?_)
      obtain ⟨g5, u18, v19⟩ := v16
      have s20 : xk_eqv [1, 2, 3, 4, 5, 11, 12, 13, 14, 15, 16, 17, 18, 19, 20, 21, 22, 23, 24, 25, 26, 27] g0 g5 := by rw [u18]; repeat (first | exact s17 | refine xk_eqv_up (by decide) ?_)
      obtain ⟨g6, u21, v22⟩ := v19
      have s23 : xk_eqv [1, 2, 3, 4, 5, 11, 12, 13, 14, 15, 16, 17, 18, 19, 20, 21, 22, 23, 24, 25, 26, 27] g0 g6 := by rw [u21]; repeat (first | exact s20 | refine xk_eqv_up (by decide) ?_)
      rw [v22]; exact s23
  rw [v7]; exact s8
theorem iczM_ask_0_0 (B : Nat) (g0 : xk_St) (k2 : Int32) (gz : xk_St) : relzM_ask_0_0 g0 k2 gz → xk_cnt B g0 → xk_cnt (B + 0) gz := by
  intro h Ig0
  unfold relzM_ask_0_0 at h
  have Ig0 : xk_cnt (B + 0) g0 := Ig0
  obtain ⟨x1, u1, v2⟩ := h
  obtain ⟨r2, g1, u3, v4⟩ := v2
  have Ig1 : xk_cnt (B + 0) g1 := xk_cnt_le (iczM_goes (B + 0) _ _ _ _ _ _ u3 Ig0) (by omega)
  obtain ⟨g7, u5, v6⟩ := v4
  have Ig7 : xk_cnt (B + 0) g7 := by
    by_cases hc : r2 = 0
    · rw [if_pos hc] at u5
      rw [u5]; exact xk_cnt_le Ig1 (by omega)
    · rw [if_neg hc] at u5
      obtain ⟨g2, u7, v8⟩ := u5
      have Ig2 : xk_cnt (B + 0) g2 := by rw [u7]; repeat (first | exact Ig1 | refine xk_cnt_k (by decide) ?_ | refine xk_cnt_f (by decide) ?_ | refine xk_cnt_s ?_)
      obtain ⟨g3, u9, v10⟩ := v8
      have Ig3 : xk_cnt (B + 0) g3 := by rw [u9]; repeat (first | exact Ig2 | refine xk_cnt_k (by decide) ?_ | refine xk_cnt_f (by decide) ?_ | refine xk_cnt_s ?_)
      obtain ⟨g4, u11, v12⟩ := v10
      have Ig4 : xk_cnt (B + 0) g4 := by rw [u11]; repeat (first | exact Ig3 | refine xk_cnt_k (by decide) ?_ | refine xk_cnt_f (by decide) ?_ | refine xk_cnt_s ?_)
      obtain ⟨g5, u13, v14⟩ := v12
      have Ig5 : xk_cnt (B + 0) g5 := by rw [u13]; repeat (first | exact Ig4 | refine xk_cnt_k (by decide) ?_ | refine xk_cnt_f (by decide) ?_ | refine xk_cnt_s ?_)
      obtain ⟨g6, u15, v16⟩ := v14
      have Ig6 : xk_cnt (B + 0) g6 := by rw [u15]; repeat (first | exact Ig5 | refine xk_cnt_k (by decide) ?_ | refine xk_cnt_f (by decide) ?_ | refine xk_cnt_s ?_)
      rw [v16]; exact xk_cnt_le Ig6 (by omega)
  rw [v6]; exact xk_cnt_le Ig7 (by omega)

def relzM_ask_0_1 (g0 : xk_St) (k2 : Int32) (gz : xk_St) : Prop := ∃ (x1 : Int32), (if ((g0 5) 1) = 0 then (x1 = 0) else (x1 = 1)) ∧ (∃ (r2 : Int32) (g1 : xk_St), relzM_goes g0 1 x1 1 r2 g1 ∧ (∃ (g7 : xk_St), (if r2 = 0 then (g7 = g1) else (∃ (g2 : xk_St), g2 = va_up g1 6 (upd (g1 6) 1 k2) ∧ (∃ (g3 : xk_St), g3 = va_up g2 7 (upd (g2 7) 1 0) ∧ (∃ (g4 : xk_St), g4 = va_up g3 8 (upd (g3 8) 1 0) ∧ (∃ (g5 : xk_St), g5 = va_up g4 9 (upd (g4 9) 1 0) ∧ (∃ (g6 : xk_St), g6 = va_up g5 10 (upd (g5 10) 1 0) ∧ (g7 = g6))))))) ∧ (gz = g7)))
set_option maxHeartbeats 4000000 in
set_option maxRecDepth 100000 in
theorem kzM_ask_0_1 (l : Launch) (G : va_G) (ac : Nat → ClassId) (ad : Nat → Nat) (g0 : xk_St) (k2 : Int32) (B : Nat) (hw : ¬ k2 < 1) (Ig0 : xk_cnt B g0) (hB : B + 1 < 2147483648) : xk_CV l yzM_ask czM_ask 6 xk_WS xk_r2 G xk_cls (xk_tys ac) [.ref (ad 0), .int 0, .int 1, .int k2] (xk_wM ad ac g0) (fun (gz : xk_St) => relzM_ask_0_1 g0 k2 gz) (fun gz => xk_wM ad ac gz) := by
  refine xk_ofV (by decide) (Nat.le_of_ble_eq_true rfl) ?_
  intro p e s m args below meth c A Q H locs ls C0 hret hP hD hS hl
  obtain ⟨hx, hb, hml, hts, hown, hK, hA⟩ := C0
  have hl : lv_has ls 6 [(0, .ref (ad 0)), (1, .int 0), (2, .int 1), (3, .int k2)] := hl
  have Ig0 : xk_cnt (B + 0) g0 := Ig0
  refine lv_iload_n (pc := 0) hx hb dzM_ask_0 rfl (lv_at hl 1 rfl) ?_
  refine lv_iload_n (pc := 1) hx hb dzM_ask_1 rfl (lv_at hl 2 rfl) ?_
  refine xk_callSI (As := [.int 0, .int 1]) (rest := []) (H0 := s.heap) (pc := 2) hx hb hml hts hown hK hA hP hD hS (kzM_isSection l G ac 0 1) sfzM_132 [] (by decide) rfl (fun _ => rfl) ⟨rfl, rfl⟩ ⟨Nat.le_of_ble_eq_true rfl, Nat.le_of_ble_eq_true rfl⟩ rfl hl.1 rfl (Nat.le_of_ble_eq_true rfl) ⟨Nat.zero_le _, Nat.zero_le _⟩ dzM_ask_2 (fun r1 u9 H locs e9 hP hD hS => ?_)
  obtain rfl : r1 = qzM_isSection 0 1 := e9
  refine xk_is (y := 1) (by decide) ?_
  have hP : va_P G xk_cls (xk_wM ad ac g0) H := hP
  have hD : va_D A (xk_wM ad ac g0) := hD
  refine lv_if_eq (pc := 5) (tgt := 17) hx hb dzM_ask_5 (by decide) (fun hq9 => absurd hq9 (by decide)) (fun _ => ?_)
  refine lv_iload_n (pc := 8) hx hb dzM_ask_8 rfl (lv_at hl 3 rfl) ?_
  refine lv_iconst (v := 1) (pc := 9) hx hb dzM_ask_9 (by decide) ?_
  refine lv_icmp_lt (pc := 10) (tgt := 17) hx hb dzM_ask_10 (by decide) (fun hq9 => absurd hq9 hw) (fun _ => ?_)
  refine lv_iconst (v := 1) (pc := 13) hx hb dzM_ask_13 (by decide) ?_
  refine lv_goto (tgt := 18) (pc := 14) hx hb dzM_ask_14 (by decide) ?_
  refine lv_istore (lv' := [(4, .int 1), (0, .ref (ad 0)), (1, .int 0), (2, .int 1), (3, .int k2)]) (pc := 18) hx hb dzM_ask_18 hl (by decide) rfl (fun ls hl => ?_)
  refine lv_iload (pc := 20) hx hb dzM_ask_20 (lv_at hl 0 rfl) ?_
  refine lv_if_eq (pc := 22) (tgt := 33) hx hb dzM_ask_22 (by decide) (fun hq9 => absurd hq9 (by decide)) (fun _ => ?_)
  refine lv_iconst (v := 3) (pc := 25) hx hb dzM_ask_25 (by decide) ?_
  refine lv_iload_n (pc := 26) hx hb dzM_ask_26 rfl (lv_at hl 2 rfl) ?_
  refine lv_imul (pc := 27) hx hb dzM_ask_27 ?_
  refine xk_is (y := 0) (by decide) ?_
  refine lv_iload_n (pc := 28) hx hb dzM_ask_28 rfl (lv_at hl 3 rfl) ?_
  refine lv_iadd (pc := 29) hx hb dzM_ask_29 ?_
  refine xk_is (y := 1) (by decide) ?_
  refine lv_goto (tgt := 34) (pc := 30) hx hb dzM_ask_30 (by decide) ?_
  refine lv_istore (lv' := [(5, .int 1), (4, .int 1), (0, .ref (ad 0)), (1, .int 0), (2, .int 1), (3, .int k2)]) (pc := 34) hx hb dzM_ask_34 hl (by decide) rfl (fun ls hl => ?_)
  refine lv_aload_n (pc := 36) hx hb dzM_ask_36 rfl (lv_at hl 2 rfl) ?_
  refine lv_iload (pc := 37) hx hb dzM_ask_37 (lv_at hl 1 rfl) ?_
  refine lv_iload (pc := 39) hx hb dzM_ask_39 (lv_at hl 1 rfl) ?_
  refine lv_if_eq (pc := 41) (tgt := 58) hx hb dzM_ask_41 (by decide) (fun hq9 => absurd hq9 (by decide)) (fun _ => ?_)
  refine lv_aload_n (pc := 44) hx hb dzM_ask_44 rfl (lv_at hl 2 rfl) ?_
  refine xk_get (pc := 45) hx hb hts hown hK hP ffzM_23 0 rfl rfl dzM_ask_45 ?_
  refine lv_iload (pc := 48) hx hb dzM_ask_48 (lv_at hl 0 rfl) ?_
  refine xk_zald (q0 := 5) (t0 := 1) (j := 1) (pc := 50) hx hb hK hP rfl rfl (pk_in 1 6 (by decide)) (pk_cl 1) dzM_ask_50 ?_
  have K1 : ∀ (x1 : Int32), (if ((g0 5) 1) = 0 then (x1 = 0) else (x1 = 1)) → (xk_b x1) → W p l e xk_r2 s m args below meth c H locs 0 0 Q (F0 m 59 ls [.int x1, .int 1, .ref (ad 0)]) := by
    intro x1 R1 bx1
    refine lv_iconst (v := 1) (pc := 59) hx hb dzM_ask_59 (by decide) ?_
    refine xk_allVI (As := [.int 1, .int x1, .int 1]) (rest := []) (H0 := s.heap) (pc := 60) hx hb hml hts hown hK hA hP hD hS (kzM_goes l G ac ad g0 1 x1 1 (B + 0) Ig0 (by omega)) vfzM_114 (fun _ => rfl) 0 rfl rfl ⟨rfl, rfl⟩ ⟨Nat.le_of_ble_eq_true rfl, Nat.le_of_ble_eq_true rfl⟩ rfl hl.1 rfl (Nat.le_of_ble_eq_true rfl) ⟨Nat.zero_le _, Nat.zero_le _⟩ dzM_ask_60 (fun r2 g1 H locs hg1 hP hD hS => ?_)
    have hP : va_P G xk_cls (xk_wM ad ac g1) H := hP
    have hD : va_D A (xk_wM ad ac g1) := hD
    have Ig1 : xk_cnt (B + 0) g1 := xk_cnt_le (iczM_goes (B + 0) _ _ _ _ _ _ hg1 Ig0) (by omega)
    have K2 : ∀ (g7 : xk_St) (H : Heap) (locs : List Loc), (if r2 = 0 then (g7 = g1) else (∃ (g2 : xk_St), g2 = va_up g1 6 (upd (g1 6) 1 k2) ∧ (∃ (g3 : xk_St), g3 = va_up g2 7 (upd (g2 7) 1 0) ∧ (∃ (g4 : xk_St), g4 = va_up g3 8 (upd (g3 8) 1 0) ∧ (∃ (g5 : xk_St), g5 = va_up g4 9 (upd (g4 9) 1 0) ∧ (∃ (g6 : xk_St), g6 = va_up g5 10 (upd (g5 10) 1 0) ∧ (g7 = g6))))))) → (xk_cnt (B + 0) g7) → (va_P G xk_cls (xk_wM ad ac g7) H) → (va_D A (xk_wM ad ac g7)) → (va_S A s.heap H locs) → W p l e xk_r2 s m args below meth c H locs 0 0 Q (F0 m 106 ls []) := by
      intro g7 H locs R2 Ig7 hP hD hS
      exact hret g7 H locs 106 ls hP hS (by unfold relzM_ask_0_1; exact ⟨x1, R1, ⟨r2, g1, hg1, ⟨g7, R2, rfl⟩⟩⟩) dzM_ask_106
    refine lv_if_eq (pc := 63) (tgt := 106) hx hb dzM_ask_63 (by decide) (fun h2 => ?_) (fun h2 => ?_)
    ·
      exact K2 g1 H locs (Eq.mpr (if_pos h2) rfl) (xk_cnt_le Ig1 (by omega)) hP hD hS
    ·
      refine lv_aload_n (pc := 66) hx hb dzM_ask_66 rfl (lv_at hl 2 rfl) ?_
      refine xk_get (pc := 67) hx hb hts hown hK hP ffzM_26 0 rfl rfl dzM_ask_67 ?_
      refine lv_iload (pc := 70) hx hb dzM_ask_70 (lv_at hl 0 rfl) ?_
      refine lv_iload_n (pc := 72) hx hb dzM_ask_72 rfl (lv_at hl 5 rfl) ?_
      refine xk_iast (q0 := 6) (t0 := 0) (j := 1) (pc := 73) hx hb hK hP hD hS rfl rfl (pk_in 1 6 (by decide)) (pk_cl 1) dzM_ask_73 (fun H locs hP hD hS => ?_)
      obtain ⟨g2, eg2⟩ : ∃ z : xk_St, z = va_up g1 6 (upd (g1 6) 1 k2) := ⟨_, rfl⟩
      have hP : va_P G xk_cls (xk_wM ad ac g2) H := by rw [eg2]; exact hP
      have hD : va_D A (xk_wM ad ac g2) := by rw [eg2]; exact hD
      have Ig2 : xk_cnt (B + 0) g2 := by rw [eg2]; repeat (first | exact Ig1 | refine xk_cnt_k (by decide) ?_ | refine xk_cnt_f (by decide) ?_ | refine xk_cnt_s ?_)
      refine lv_aload_n (pc := 74) hx hb dzM_ask_74 rfl (lv_at hl 2 rfl) ?_
      refine xk_get (pc := 75) hx hb hts hown hK hP ffzM_29 0 rfl rfl dzM_ask_75 ?_
      refine lv_iload (pc := 78) hx hb dzM_ask_78 (lv_at hl 0 rfl) ?_
      refine lv_iconst (v := 0) (pc := 80) hx hb dzM_ask_80 (by decide) ?_
      refine xk_iast (q0 := 7) (t0 := 0) (j := 1) (pc := 81) hx hb hK hP hD hS rfl rfl (pk_in 1 6 (by decide)) (pk_cl 1) dzM_ask_81 (fun H locs hP hD hS => ?_)
      obtain ⟨g3, eg3⟩ : ∃ z : xk_St, z = va_up g2 7 (upd (g2 7) 1 0) := ⟨_, rfl⟩
      have hP : va_P G xk_cls (xk_wM ad ac g3) H := by rw [eg3]; exact hP
      have hD : va_D A (xk_wM ad ac g3) := by rw [eg3]; exact hD
      have Ig3 : xk_cnt (B + 0) g3 := by rw [eg3]; repeat (first | exact Ig2 | refine xk_cnt_k (by decide) ?_ | refine xk_cnt_f (by decide) ?_ | refine xk_cnt_s ?_)
      refine lv_aload_n (pc := 82) hx hb dzM_ask_82 rfl (lv_at hl 2 rfl) ?_
      refine xk_get (pc := 83) hx hb hts hown hK hP ffzM_32 0 rfl rfl dzM_ask_83 ?_
      refine lv_iload (pc := 86) hx hb dzM_ask_86 (lv_at hl 0 rfl) ?_
      refine lv_iconst (v := 0) (pc := 88) hx hb dzM_ask_88 (by decide) ?_
      refine xk_iast (q0 := 8) (t0 := 0) (j := 1) (pc := 89) hx hb hK hP hD hS rfl rfl (pk_in 1 6 (by decide)) (pk_cl 1) dzM_ask_89 (fun H locs hP hD hS => ?_)
      obtain ⟨g4, eg4⟩ : ∃ z : xk_St, z = va_up g3 8 (upd (g3 8) 1 0) := ⟨_, rfl⟩
      have hP : va_P G xk_cls (xk_wM ad ac g4) H := by rw [eg4]; exact hP
      have hD : va_D A (xk_wM ad ac g4) := by rw [eg4]; exact hD
      have Ig4 : xk_cnt (B + 0) g4 := by rw [eg4]; repeat (first | exact Ig3 | refine xk_cnt_k (by decide) ?_ | refine xk_cnt_f (by decide) ?_ | refine xk_cnt_s ?_)
      refine lv_aload_n (pc := 90) hx hb dzM_ask_90 rfl (lv_at hl 2 rfl) ?_
      refine xk_get (pc := 91) hx hb hts hown hK hP ffzM_35 0 rfl rfl dzM_ask_91 ?_
      refine lv_iload (pc := 94) hx hb dzM_ask_94 (lv_at hl 0 rfl) ?_
      refine lv_iconst (v := 0) (pc := 96) hx hb dzM_ask_96 (by decide) ?_
      refine xk_iast (q0 := 9) (t0 := 0) (j := 1) (pc := 97) hx hb hK hP hD hS rfl rfl (pk_in 1 6 (by decide)) (pk_cl 1) dzM_ask_97 (fun H locs hP hD hS => ?_)
      obtain ⟨g5, eg5⟩ : ∃ z : xk_St, z = va_up g4 9 (upd (g4 9) 1 0) := ⟨_, rfl⟩
      have hP : va_P G xk_cls (xk_wM ad ac g5) H := by rw [eg5]; exact hP
      have hD : va_D A (xk_wM ad ac g5) := by rw [eg5]; exact hD
      have Ig5 : xk_cnt (B + 0) g5 := by rw [eg5]; repeat (first | exact Ig4 | refine xk_cnt_k (by decide) ?_ | refine xk_cnt_f (by decide) ?_ | refine xk_cnt_s ?_)
      refine lv_aload_n (pc := 98) hx hb dzM_ask_98 rfl (lv_at hl 2 rfl) ?_
      refine xk_get (pc := 99) hx hb hts hown hK hP ffzM_38 0 rfl rfl dzM_ask_99 ?_
      refine lv_iload (pc := 102) hx hb dzM_ask_102 (lv_at hl 0 rfl) ?_
      refine lv_iconst (v := 0) (pc := 104) hx hb dzM_ask_104 (by decide) ?_
      refine xk_iast (q0 := 10) (t0 := 0) (j := 1) (pc := 105) hx hb hK hP hD hS rfl rfl (pk_in 1 6 (by decide)) (pk_cl 1) dzM_ask_105 (fun H locs hP hD hS => ?_)
      obtain ⟨g6, eg6⟩ : ∃ z : xk_St, z = va_up g5 10 (upd (g5 10) 1 0) := ⟨_, rfl⟩
      have hP : va_P G xk_cls (xk_wM ad ac g6) H := by rw [eg6]; exact hP
      have hD : va_D A (xk_wM ad ac g6) := by rw [eg6]; exact hD
      have Ig6 : xk_cnt (B + 0) g6 := by rw [eg6]; repeat (first | exact Ig5 | refine xk_cnt_k (by decide) ?_ | refine xk_cnt_f (by decide) ?_ | refine xk_cnt_s ?_)
      exact K2 g6 H locs (Eq.mpr (if_neg h2) ⟨g2, eg2, ⟨g3, eg3, ⟨g4, eg4, ⟨g5, eg5, ⟨g6, eg6, rfl⟩⟩⟩⟩⟩) (xk_cnt_le Ig6 (by omega)) hP hD hS
  refine lv_if_eq (pc := 51) (tgt := 58) hx hb dzM_ask_51 (by decide) (fun h1 => ?_) (fun h1 => ?_)
  ·
    refine lv_iconst (v := 0) (pc := 58) hx hb dzM_ask_58 (by decide) ?_
    exact K1 0 (Eq.mpr (if_pos h1) rfl) xk_b0
  ·
    refine lv_iconst (v := 1) (pc := 54) hx hb dzM_ask_54 (by decide) ?_
    refine lv_goto (tgt := 59) (pc := 55) hx hb dzM_ask_55 (by decide) ?_
    exact K1 1 (Eq.mpr (if_neg h1) rfl) xk_b1
theorem frzM_ask_0_1 (g0 : xk_St) (k2 : Int32) (gz : xk_St) : relzM_ask_0_1 g0 k2 gz → xk_eqv [1, 2, 3, 4, 5, 11, 12, 13, 14, 15, 16, 17, 18, 19, 20, 21, 22, 23, 24, 25, 26, 27] g0 gz := by
  intro h
  unfold relzM_ask_0_1 at h
  have s0 : xk_eqv [1, 2, 3, 4, 5, 11, 12, 13, 14, 15, 16, 17, 18, 19, 20, 21, 22, 23, 24, 25, 26, 27] g0 g0 := xk_eqv_rf
  obtain ⟨x1, u1, v2⟩ := h
  obtain ⟨r2, g1, u3, v4⟩ := v2
  have s5 : xk_eqv [1, 2, 3, 4, 5, 11, 12, 13, 14, 15, 16, 17, 18, 19, 20, 21, 22, 23, 24, 25, 26, 27] g0 g1 := xk_eqv_tr s0 (xk_eqv_sub (frzM_goes _ _ _ _ _ _ u3) (by decide))
  obtain ⟨g7, u6, v7⟩ := v4
  have s8 : xk_eqv [1, 2, 3, 4, 5, 11, 12, 13, 14, 15, 16, 17, 18, 19, 20, 21, 22, 23, 24, 25, 26, 27] g0 g7 := by
    by_cases hc : r2 = 0
    · rw [if_pos hc] at u6
      rw [u6]; exact s5
    · rw [if_neg hc] at u6
      obtain ⟨g2, u9, v10⟩ := u6
      have s11 : xk_eqv [1, 2, 3, 4, 5, 11, 12, 13, 14, 15, 16, 17, 18, 19, 20, 21, 22, 23, 24, 25, 26, 27] g0 g2 := by rw [u9]; repeat (first | exact s5 | refine xk_eqv_up (by decide) ?_)
      obtain ⟨g3, u12, v13⟩ := v10
      have s14 : xk_eqv [1, 2, 3, 4, 5, 11, 12, 13, 14, 15, 16, 17, 18, 19, 20, 21, 22, 23, 24, 25, 26, 27] g0 g3 := by rw [u12]; repeat (first | exact s11 | refine xk_eqv_up (by decide) ?_)
      obtain ⟨g4, u15, v16⟩ := v13
      have s17 : xk_eqv [1, 2, 3, 4, 5, 11, 12, 13, 14, 15, 16, 17, 18, 19, 20, 21, 22, 23, 24, 25, 26, 27] g0 g4 := by rw [u15]; repeat (first | exact s14 | refine xk_eqv_up (by decide) ?_)
      obtain ⟨g5, u18, v19⟩ := v16
      have s20 : xk_eqv [1, 2, 3, 4, 5, 11, 12, 13, 14, 15, 16, 17, 18, 19, 20, 21, 22, 23, 24, 25, 26, 27] g0 g5 := by rw [u18]; repeat (first | exact s17 | refine xk_eqv_up (by decide) ?_)
      obtain ⟨g6, u21, v22⟩ := v19
      have s23 : xk_eqv [1, 2, 3, 4, 5, 11, 12, 13, 14, 15, 16, 17, 18, 19, 20, 21, 22, 23, 24, 25, 26, 27] g0 g6 := by rw [u21]; repeat (first | exact s20 | refine xk_eqv_up (by decide) ?_)
      rw [v22]; exact s23
  rw [v7]; exact s8
theorem iczM_ask_0_1 (B : Nat) (g0 : xk_St) (k2 : Int32) (gz : xk_St) : relzM_ask_0_1 g0 k2 gz → xk_cnt B g0 → xk_cnt (B + 0) gz := by
  intro h Ig0
  unfold relzM_ask_0_1 at h
  have Ig0 : xk_cnt (B + 0) g0 := Ig0
  obtain ⟨x1, u1, v2⟩ := h
  obtain ⟨r2, g1, u3, v4⟩ := v2
  have Ig1 : xk_cnt (B + 0) g1 := xk_cnt_le (iczM_goes (B + 0) _ _ _ _ _ _ u3 Ig0) (by omega)
  obtain ⟨g7, u5, v6⟩ := v4
  have Ig7 : xk_cnt (B + 0) g7 := by
    by_cases hc : r2 = 0
    · rw [if_pos hc] at u5
      rw [u5]; exact xk_cnt_le Ig1 (by omega)
    · rw [if_neg hc] at u5
      obtain ⟨g2, u7, v8⟩ := u5
      have Ig2 : xk_cnt (B + 0) g2 := by rw [u7]; repeat (first | exact Ig1 | refine xk_cnt_k (by decide) ?_ | refine xk_cnt_f (by decide) ?_ | refine xk_cnt_s ?_)
      obtain ⟨g3, u9, v10⟩ := v8
      have Ig3 : xk_cnt (B + 0) g3 := by rw [u9]; repeat (first | exact Ig2 | refine xk_cnt_k (by decide) ?_ | refine xk_cnt_f (by decide) ?_ | refine xk_cnt_s ?_)
      obtain ⟨g4, u11, v12⟩ := v10
      have Ig4 : xk_cnt (B + 0) g4 := by rw [u11]; repeat (first | exact Ig3 | refine xk_cnt_k (by decide) ?_ | refine xk_cnt_f (by decide) ?_ | refine xk_cnt_s ?_)
      obtain ⟨g5, u13, v14⟩ := v12
      have Ig5 : xk_cnt (B + 0) g5 := by rw [u13]; repeat (first | exact Ig4 | refine xk_cnt_k (by decide) ?_ | refine xk_cnt_f (by decide) ?_ | refine xk_cnt_s ?_)
      obtain ⟨g6, u15, v16⟩ := v14
      have Ig6 : xk_cnt (B + 0) g6 := by rw [u15]; repeat (first | exact Ig5 | refine xk_cnt_k (by decide) ?_ | refine xk_cnt_f (by decide) ?_ | refine xk_cnt_s ?_)
      rw [v16]; exact xk_cnt_le Ig6 (by omega)
  rw [v6]; exact xk_cnt_le Ig7 (by omega)

def relzM_ask_0_2 (g0 : xk_St) (k2 : Int32) (gz : xk_St) : Prop := ∃ (x1 : Int32), (if ((g0 5) 2) = 0 then (x1 = 0) else (x1 = 1)) ∧ (∃ (r2 : Int32) (g1 : xk_St), relzM_goes g0 1 x1 1 r2 g1 ∧ (∃ (g7 : xk_St), (if r2 = 0 then (g7 = g1) else (∃ (g2 : xk_St), g2 = va_up g1 6 (upd (g1 6) 2 k2) ∧ (∃ (g3 : xk_St), g3 = va_up g2 7 (upd (g2 7) 2 0) ∧ (∃ (g4 : xk_St), g4 = va_up g3 8 (upd (g3 8) 2 0) ∧ (∃ (g5 : xk_St), g5 = va_up g4 9 (upd (g4 9) 2 0) ∧ (∃ (g6 : xk_St), g6 = va_up g5 10 (upd (g5 10) 2 0) ∧ (g7 = g6))))))) ∧ (gz = g7)))
set_option maxHeartbeats 4000000 in
set_option maxRecDepth 100000 in
theorem kzM_ask_0_2 (l : Launch) (G : va_G) (ac : Nat → ClassId) (ad : Nat → Nat) (g0 : xk_St) (k2 : Int32) (B : Nat) (hw : ¬ k2 < 1) (Ig0 : xk_cnt B g0) (hB : B + 1 < 2147483648) : xk_CV l yzM_ask czM_ask 6 xk_WS xk_r2 G xk_cls (xk_tys ac) [.ref (ad 0), .int 0, .int 2, .int k2] (xk_wM ad ac g0) (fun (gz : xk_St) => relzM_ask_0_2 g0 k2 gz) (fun gz => xk_wM ad ac gz) := by
  refine xk_ofV (by decide) (Nat.le_of_ble_eq_true rfl) ?_
  intro p e s m args below meth c A Q H locs ls C0 hret hP hD hS hl
  obtain ⟨hx, hb, hml, hts, hown, hK, hA⟩ := C0
  have hl : lv_has ls 6 [(0, .ref (ad 0)), (1, .int 0), (2, .int 2), (3, .int k2)] := hl
  have Ig0 : xk_cnt (B + 0) g0 := Ig0
  refine lv_iload_n (pc := 0) hx hb dzM_ask_0 rfl (lv_at hl 1 rfl) ?_
  refine lv_iload_n (pc := 1) hx hb dzM_ask_1 rfl (lv_at hl 2 rfl) ?_
  refine xk_callSI (As := [.int 0, .int 2]) (rest := []) (H0 := s.heap) (pc := 2) hx hb hml hts hown hK hA hP hD hS (kzM_isSection l G ac 0 2) sfzM_132 [] (by decide) rfl (fun _ => rfl) ⟨rfl, rfl⟩ ⟨Nat.le_of_ble_eq_true rfl, Nat.le_of_ble_eq_true rfl⟩ rfl hl.1 rfl (Nat.le_of_ble_eq_true rfl) ⟨Nat.zero_le _, Nat.zero_le _⟩ dzM_ask_2 (fun r1 u9 H locs e9 hP hD hS => ?_)
  obtain rfl : r1 = qzM_isSection 0 2 := e9
  refine xk_is (y := 1) (by decide) ?_
  have hP : va_P G xk_cls (xk_wM ad ac g0) H := hP
  have hD : va_D A (xk_wM ad ac g0) := hD
  refine lv_if_eq (pc := 5) (tgt := 17) hx hb dzM_ask_5 (by decide) (fun hq9 => absurd hq9 (by decide)) (fun _ => ?_)
  refine lv_iload_n (pc := 8) hx hb dzM_ask_8 rfl (lv_at hl 3 rfl) ?_
  refine lv_iconst (v := 1) (pc := 9) hx hb dzM_ask_9 (by decide) ?_
  refine lv_icmp_lt (pc := 10) (tgt := 17) hx hb dzM_ask_10 (by decide) (fun hq9 => absurd hq9 hw) (fun _ => ?_)
  refine lv_iconst (v := 1) (pc := 13) hx hb dzM_ask_13 (by decide) ?_
  refine lv_goto (tgt := 18) (pc := 14) hx hb dzM_ask_14 (by decide) ?_
  refine lv_istore (lv' := [(4, .int 1), (0, .ref (ad 0)), (1, .int 0), (2, .int 2), (3, .int k2)]) (pc := 18) hx hb dzM_ask_18 hl (by decide) rfl (fun ls hl => ?_)
  refine lv_iload (pc := 20) hx hb dzM_ask_20 (lv_at hl 0 rfl) ?_
  refine lv_if_eq (pc := 22) (tgt := 33) hx hb dzM_ask_22 (by decide) (fun hq9 => absurd hq9 (by decide)) (fun _ => ?_)
  refine lv_iconst (v := 3) (pc := 25) hx hb dzM_ask_25 (by decide) ?_
  refine lv_iload_n (pc := 26) hx hb dzM_ask_26 rfl (lv_at hl 2 rfl) ?_
  refine lv_imul (pc := 27) hx hb dzM_ask_27 ?_
  refine xk_is (y := 0) (by decide) ?_
  refine lv_iload_n (pc := 28) hx hb dzM_ask_28 rfl (lv_at hl 3 rfl) ?_
  refine lv_iadd (pc := 29) hx hb dzM_ask_29 ?_
  refine xk_is (y := 2) (by decide) ?_
  refine lv_goto (tgt := 34) (pc := 30) hx hb dzM_ask_30 (by decide) ?_
  refine lv_istore (lv' := [(5, .int 2), (4, .int 1), (0, .ref (ad 0)), (1, .int 0), (2, .int 2), (3, .int k2)]) (pc := 34) hx hb dzM_ask_34 hl (by decide) rfl (fun ls hl => ?_)
  refine lv_aload_n (pc := 36) hx hb dzM_ask_36 rfl (lv_at hl 2 rfl) ?_
  refine lv_iload (pc := 37) hx hb dzM_ask_37 (lv_at hl 1 rfl) ?_
  refine lv_iload (pc := 39) hx hb dzM_ask_39 (lv_at hl 1 rfl) ?_
  refine lv_if_eq (pc := 41) (tgt := 58) hx hb dzM_ask_41 (by decide) (fun hq9 => absurd hq9 (by decide)) (fun _ => ?_)
  refine lv_aload_n (pc := 44) hx hb dzM_ask_44 rfl (lv_at hl 2 rfl) ?_
  refine xk_get (pc := 45) hx hb hts hown hK hP ffzM_23 0 rfl rfl dzM_ask_45 ?_
  refine lv_iload (pc := 48) hx hb dzM_ask_48 (lv_at hl 0 rfl) ?_
  refine xk_zald (q0 := 5) (t0 := 1) (j := 2) (pc := 50) hx hb hK hP rfl rfl (pk_in 2 6 (by decide)) (pk_cl 2) dzM_ask_50 ?_
  have K1 : ∀ (x1 : Int32), (if ((g0 5) 2) = 0 then (x1 = 0) else (x1 = 1)) → (xk_b x1) → W p l e xk_r2 s m args below meth c H locs 0 0 Q (F0 m 59 ls [.int x1, .int 1, .ref (ad 0)]) := by
    intro x1 R1 bx1
    refine lv_iconst (v := 1) (pc := 59) hx hb dzM_ask_59 (by decide) ?_
    refine xk_allVI (As := [.int 1, .int x1, .int 1]) (rest := []) (H0 := s.heap) (pc := 60) hx hb hml hts hown hK hA hP hD hS (kzM_goes l G ac ad g0 1 x1 1 (B + 0) Ig0 (by omega)) vfzM_114 (fun _ => rfl) 0 rfl rfl ⟨rfl, rfl⟩ ⟨Nat.le_of_ble_eq_true rfl, Nat.le_of_ble_eq_true rfl⟩ rfl hl.1 rfl (Nat.le_of_ble_eq_true rfl) ⟨Nat.zero_le _, Nat.zero_le _⟩ dzM_ask_60 (fun r2 g1 H locs hg1 hP hD hS => ?_)
    have hP : va_P G xk_cls (xk_wM ad ac g1) H := hP
    have hD : va_D A (xk_wM ad ac g1) := hD
    have Ig1 : xk_cnt (B + 0) g1 := xk_cnt_le (iczM_goes (B + 0) _ _ _ _ _ _ hg1 Ig0) (by omega)
    have K2 : ∀ (g7 : xk_St) (H : Heap) (locs : List Loc), (if r2 = 0 then (g7 = g1) else (∃ (g2 : xk_St), g2 = va_up g1 6 (upd (g1 6) 2 k2) ∧ (∃ (g3 : xk_St), g3 = va_up g2 7 (upd (g2 7) 2 0) ∧ (∃ (g4 : xk_St), g4 = va_up g3 8 (upd (g3 8) 2 0) ∧ (∃ (g5 : xk_St), g5 = va_up g4 9 (upd (g4 9) 2 0) ∧ (∃ (g6 : xk_St), g6 = va_up g5 10 (upd (g5 10) 2 0) ∧ (g7 = g6))))))) → (xk_cnt (B + 0) g7) → (va_P G xk_cls (xk_wM ad ac g7) H) → (va_D A (xk_wM ad ac g7)) → (va_S A s.heap H locs) → W p l e xk_r2 s m args below meth c H locs 0 0 Q (F0 m 106 ls []) := by
      intro g7 H locs R2 Ig7 hP hD hS
      exact hret g7 H locs 106 ls hP hS (by unfold relzM_ask_0_2; exact ⟨x1, R1, ⟨r2, g1, hg1, ⟨g7, R2, rfl⟩⟩⟩) dzM_ask_106
    refine lv_if_eq (pc := 63) (tgt := 106) hx hb dzM_ask_63 (by decide) (fun h2 => ?_) (fun h2 => ?_)
    ·
      exact K2 g1 H locs (Eq.mpr (if_pos h2) rfl) (xk_cnt_le Ig1 (by omega)) hP hD hS
    ·
      refine lv_aload_n (pc := 66) hx hb dzM_ask_66 rfl (lv_at hl 2 rfl) ?_
      refine xk_get (pc := 67) hx hb hts hown hK hP ffzM_26 0 rfl rfl dzM_ask_67 ?_
      refine lv_iload (pc := 70) hx hb dzM_ask_70 (lv_at hl 0 rfl) ?_
      refine lv_iload_n (pc := 72) hx hb dzM_ask_72 rfl (lv_at hl 5 rfl) ?_
      refine xk_iast (q0 := 6) (t0 := 0) (j := 2) (pc := 73) hx hb hK hP hD hS rfl rfl (pk_in 2 6 (by decide)) (pk_cl 2) dzM_ask_73 (fun H locs hP hD hS => ?_)
      obtain ⟨g2, eg2⟩ : ∃ z : xk_St, z = va_up g1 6 (upd (g1 6) 2 k2) := ⟨_, rfl⟩
      have hP : va_P G xk_cls (xk_wM ad ac g2) H := by rw [eg2]; exact hP
      have hD : va_D A (xk_wM ad ac g2) := by rw [eg2]; exact hD
      have Ig2 : xk_cnt (B + 0) g2 := by rw [eg2]; repeat (first | exact Ig1 | refine xk_cnt_k (by decide) ?_ | refine xk_cnt_f (by decide) ?_ | refine xk_cnt_s ?_)
      refine lv_aload_n (pc := 74) hx hb dzM_ask_74 rfl (lv_at hl 2 rfl) ?_
      refine xk_get (pc := 75) hx hb hts hown hK hP ffzM_29 0 rfl rfl dzM_ask_75 ?_
      refine lv_iload (pc := 78) hx hb dzM_ask_78 (lv_at hl 0 rfl) ?_
      refine lv_iconst (v := 0) (pc := 80) hx hb dzM_ask_80 (by decide) ?_
      refine xk_iast (q0 := 7) (t0 := 0) (j := 2) (pc := 81) hx hb hK hP hD hS rfl rfl (pk_in 2 6 (by decide)) (pk_cl 2) dzM_ask_81 (fun H locs hP hD hS => ?_)
      obtain ⟨g3, eg3⟩ : ∃ z : xk_St, z = va_up g2 7 (upd (g2 7) 2 0) := ⟨_, rfl⟩
      have hP : va_P G xk_cls (xk_wM ad ac g3) H := by rw [eg3]; exact hP
      have hD : va_D A (xk_wM ad ac g3) := by rw [eg3]; exact hD
      have Ig3 : xk_cnt (B + 0) g3 := by rw [eg3]; repeat (first | exact Ig2 | refine xk_cnt_k (by decide) ?_ | refine xk_cnt_f (by decide) ?_ | refine xk_cnt_s ?_)
      refine lv_aload_n (pc := 82) hx hb dzM_ask_82 rfl (lv_at hl 2 rfl) ?_
      refine xk_get (pc := 83) hx hb hts hown hK hP ffzM_32 0 rfl rfl dzM_ask_83 ?_
      refine lv_iload (pc := 86) hx hb dzM_ask_86 (lv_at hl 0 rfl) ?_
      refine lv_iconst (v := 0) (pc := 88) hx hb dzM_ask_88 (by decide) ?_
      refine xk_iast (q0 := 8) (t0 := 0) (j := 2) (pc := 89) hx hb hK hP hD hS rfl rfl (pk_in 2 6 (by decide)) (pk_cl 2) dzM_ask_89 (fun H locs hP hD hS => ?_)
      obtain ⟨g4, eg4⟩ : ∃ z : xk_St, z = va_up g3 8 (upd (g3 8) 2 0) := ⟨_, rfl⟩
      have hP : va_P G xk_cls (xk_wM ad ac g4) H := by rw [eg4]; exact hP
      have hD : va_D A (xk_wM ad ac g4) := by rw [eg4]; exact hD
      have Ig4 : xk_cnt (B + 0) g4 := by rw [eg4]; repeat (first | exact Ig3 | refine xk_cnt_k (by decide) ?_ | refine xk_cnt_f (by decide) ?_ | refine xk_cnt_s ?_)
      refine lv_aload_n (pc := 90) hx hb dzM_ask_90 rfl (lv_at hl 2 rfl) ?_
      refine xk_get (pc := 91) hx hb hts hown hK hP ffzM_35 0 rfl rfl dzM_ask_91 ?_
      refine lv_iload (pc := 94) hx hb dzM_ask_94 (lv_at hl 0 rfl) ?_
      refine lv_iconst (v := 0) (pc := 96) hx hb dzM_ask_96 (by decide) ?_
      refine xk_iast (q0 := 9) (t0 := 0) (j := 2) (pc := 97) hx hb hK hP hD hS rfl rfl (pk_in 2 6 (by decide)) (pk_cl 2) dzM_ask_97 (fun H locs hP hD hS => ?_)
      obtain ⟨g5, eg5⟩ : ∃ z : xk_St, z = va_up g4 9 (upd (g4 9) 2 0) := ⟨_, rfl⟩
      have hP : va_P G xk_cls (xk_wM ad ac g5) H := by rw [eg5]; exact hP
      have hD : va_D A (xk_wM ad ac g5) := by rw [eg5]; exact hD
      have Ig5 : xk_cnt (B + 0) g5 := by rw [eg5]; repeat (first | exact Ig4 | refine xk_cnt_k (by decide) ?_ | refine xk_cnt_f (by decide) ?_ | refine xk_cnt_s ?_)
      refine lv_aload_n (pc := 98) hx hb dzM_ask_98 rfl (lv_at hl 2 rfl) ?_
      refine xk_get (pc := 99) hx hb hts hown hK hP ffzM_38 0 rfl rfl dzM_ask_99 ?_
      refine lv_iload (pc := 102) hx hb dzM_ask_102 (lv_at hl 0 rfl) ?_
      refine lv_iconst (v := 0) (pc := 104) hx hb dzM_ask_104 (by decide) ?_
      refine xk_iast (q0 := 10) (t0 := 0) (j := 2) (pc := 105) hx hb hK hP hD hS rfl rfl (pk_in 2 6 (by decide)) (pk_cl 2) dzM_ask_105 (fun H locs hP hD hS => ?_)
      obtain ⟨g6, eg6⟩ : ∃ z : xk_St, z = va_up g5 10 (upd (g5 10) 2 0) := ⟨_, rfl⟩
      have hP : va_P G xk_cls (xk_wM ad ac g6) H := by rw [eg6]; exact hP
      have hD : va_D A (xk_wM ad ac g6) := by rw [eg6]; exact hD
      have Ig6 : xk_cnt (B + 0) g6 := by rw [eg6]; repeat (first | exact Ig5 | refine xk_cnt_k (by decide) ?_ | refine xk_cnt_f (by decide) ?_ | refine xk_cnt_s ?_)
      exact K2 g6 H locs (Eq.mpr (if_neg h2) ⟨g2, eg2, ⟨g3, eg3, ⟨g4, eg4, ⟨g5, eg5, ⟨g6, eg6, rfl⟩⟩⟩⟩⟩) (xk_cnt_le Ig6 (by omega)) hP hD hS
  refine lv_if_eq (pc := 51) (tgt := 58) hx hb dzM_ask_51 (by decide) (fun h1 => ?_) (fun h1 => ?_)
  ·
    refine lv_iconst (v := 0) (pc := 58) hx hb dzM_ask_58 (by decide) ?_
    exact K1 0 (Eq.mpr (if_pos h1) rfl) xk_b0
  ·
    refine lv_iconst (v := 1) (pc := 54) hx hb dzM_ask_54 (by decide) ?_
    refine lv_goto (tgt := 59) (pc := 55) hx hb dzM_ask_55 (by decide) ?_
    exact K1 1 (Eq.mpr (if_neg h1) rfl) xk_b1
theorem frzM_ask_0_2 (g0 : xk_St) (k2 : Int32) (gz : xk_St) : relzM_ask_0_2 g0 k2 gz → xk_eqv [1, 2, 3, 4, 5, 11, 12, 13, 14, 15, 16, 17, 18, 19, 20, 21, 22, 23, 24, 25, 26, 27] g0 gz := by
  intro h
  unfold relzM_ask_0_2 at h
  have s0 : xk_eqv [1, 2, 3, 4, 5, 11, 12, 13, 14, 15, 16, 17, 18, 19, 20, 21, 22, 23, 24, 25, 26, 27] g0 g0 := xk_eqv_rf
  obtain ⟨x1, u1, v2⟩ := h
  obtain ⟨r2, g1, u3, v4⟩ := v2
  have s5 : xk_eqv [1, 2, 3, 4, 5, 11, 12, 13, 14, 15, 16, 17, 18, 19, 20, 21, 22, 23, 24, 25, 26, 27] g0 g1 := xk_eqv_tr s0 (xk_eqv_sub (frzM_goes _ _ _ _ _ _ u3) (by decide))
  obtain ⟨g7, u6, v7⟩ := v4
  have s8 : xk_eqv [1, 2, 3, 4, 5, 11, 12, 13, 14, 15, 16, 17, 18, 19, 20, 21, 22, 23, 24, 25, 26, 27] g0 g7 := by
    by_cases hc : r2 = 0
    · rw [if_pos hc] at u6
      rw [u6]; exact s5
    · rw [if_neg hc] at u6
      obtain ⟨g2, u9, v10⟩ := u6
      have s11 : xk_eqv [1, 2, 3, 4, 5, 11, 12, 13, 14, 15, 16, 17, 18, 19, 20, 21, 22, 23, 24, 25, 26, 27] g0 g2 := by rw [u9]; repeat (first | exact s5 | refine xk_eqv_up (by decide) ?_)
      obtain ⟨g3, u12, v13⟩ := v10
      have s14 : xk_eqv [1, 2, 3, 4, 5, 11, 12, 13, 14, 15, 16, 17, 18, 19, 20, 21, 22, 23, 24, 25, 26, 27] g0 g3 := by rw [u12]; repeat (first | exact s11 | refine xk_eqv_up (by decide) ?_)
      obtain ⟨g4, u15, v16⟩ := v13
      have s17 : xk_eqv [1, 2, 3, 4, 5, 11, 12, 13, 14, 15, 16, 17, 18, 19, 20, 21, 22, 23, 24, 25, 26, 27] g0 g4 := by rw [u15]; repeat (first | exact s14 | refine xk_eqv_up (by decide) ?_)
      obtain ⟨g5, u18, v19⟩ := v16
      have s20 : xk_eqv [1, 2, 3, 4, 5, 11, 12, 13, 14, 15, 16, 17, 18, 19, 20, 21, 22, 23, 24, 25, 26, 27] g0 g5 := by rw [u18]; repeat (first | exact s17 | refine xk_eqv_up (by decide) ?_)
      obtain ⟨g6, u21, v22⟩ := v19
      have s23 : xk_eqv [1, 2, 3, 4, 5, 11, 12, 13, 14, 15, 16, 17, 18, 19, 20, 21, 22, 23, 24, 25, 26, 27] g0 g6 := by rw [u21]; repeat (first | exact s20 | refine xk_eqv_up (by decide) ?_)
      rw [v22]; exact s23
  rw [v7]; exact s8
theorem iczM_ask_0_2 (B : Nat) (g0 : xk_St) (k2 : Int32) (gz : xk_St) : relzM_ask_0_2 g0 k2 gz → xk_cnt B g0 → xk_cnt (B + 0) gz := by
  intro h Ig0
  unfold relzM_ask_0_2 at h
  have Ig0 : xk_cnt (B + 0) g0 := Ig0
  obtain ⟨x1, u1, v2⟩ := h
  obtain ⟨r2, g1, u3, v4⟩ := v2
  have Ig1 : xk_cnt (B + 0) g1 := xk_cnt_le (iczM_goes (B + 0) _ _ _ _ _ _ u3 Ig0) (by omega)
  obtain ⟨g7, u5, v6⟩ := v4
  have Ig7 : xk_cnt (B + 0) g7 := by
    by_cases hc : r2 = 0
    · rw [if_pos hc] at u5
      rw [u5]; exact xk_cnt_le Ig1 (by omega)
    · rw [if_neg hc] at u5
      obtain ⟨g2, u7, v8⟩ := u5
      have Ig2 : xk_cnt (B + 0) g2 := by rw [u7]; repeat (first | exact Ig1 | refine xk_cnt_k (by decide) ?_ | refine xk_cnt_f (by decide) ?_ | refine xk_cnt_s ?_)
      obtain ⟨g3, u9, v10⟩ := v8
      have Ig3 : xk_cnt (B + 0) g3 := by rw [u9]; repeat (first | exact Ig2 | refine xk_cnt_k (by decide) ?_ | refine xk_cnt_f (by decide) ?_ | refine xk_cnt_s ?_)
      obtain ⟨g4, u11, v12⟩ := v10
      have Ig4 : xk_cnt (B + 0) g4 := by rw [u11]; repeat (first | exact Ig3 | refine xk_cnt_k (by decide) ?_ | refine xk_cnt_f (by decide) ?_ | refine xk_cnt_s ?_)
      obtain ⟨g5, u13, v14⟩ := v12
      have Ig5 : xk_cnt (B + 0) g5 := by rw [u13]; repeat (first | exact Ig4 | refine xk_cnt_k (by decide) ?_ | refine xk_cnt_f (by decide) ?_ | refine xk_cnt_s ?_)
      obtain ⟨g6, u15, v16⟩ := v14
      have Ig6 : xk_cnt (B + 0) g6 := by rw [u15]; repeat (first | exact Ig5 | refine xk_cnt_k (by decide) ?_ | refine xk_cnt_f (by decide) ?_ | refine xk_cnt_s ?_)
      rw [v16]; exact xk_cnt_le Ig6 (by omega)
  rw [v6]; exact xk_cnt_le Ig7 (by omega)

def relzM_ask_1_0 (g0 : xk_St) (k2 : Int32) (gz : xk_St) : Prop := ∃ (x1 : Int32), (if ((g0 5) 3) = 0 then (x1 = 0) else (x1 = 1)) ∧ (∃ (r2 : Int32) (g1 : xk_St), relzM_goes g0 1 x1 1 r2 g1 ∧ (∃ (g7 : xk_St), (if r2 = 0 then (g7 = g1) else (∃ (g2 : xk_St), g2 = va_up g1 6 (upd (g1 6) 3 k2) ∧ (∃ (g3 : xk_St), g3 = va_up g2 7 (upd (g2 7) 3 0) ∧ (∃ (g4 : xk_St), g4 = va_up g3 8 (upd (g3 8) 3 0) ∧ (∃ (g5 : xk_St), g5 = va_up g4 9 (upd (g4 9) 3 0) ∧ (∃ (g6 : xk_St), g6 = va_up g5 10 (upd (g5 10) 3 0) ∧ (g7 = g6))))))) ∧ (gz = g7)))
set_option maxHeartbeats 4000000 in
set_option maxRecDepth 100000 in
theorem kzM_ask_1_0 (l : Launch) (G : va_G) (ac : Nat → ClassId) (ad : Nat → Nat) (g0 : xk_St) (k2 : Int32) (B : Nat) (hw : ¬ k2 < 1) (Ig0 : xk_cnt B g0) (hB : B + 1 < 2147483648) : xk_CV l yzM_ask czM_ask 6 xk_WS xk_r2 G xk_cls (xk_tys ac) [.ref (ad 0), .int 1, .int 0, .int k2] (xk_wM ad ac g0) (fun (gz : xk_St) => relzM_ask_1_0 g0 k2 gz) (fun gz => xk_wM ad ac gz) := by
  refine xk_ofV (by decide) (Nat.le_of_ble_eq_true rfl) ?_
  intro p e s m args below meth c A Q H locs ls C0 hret hP hD hS hl
  obtain ⟨hx, hb, hml, hts, hown, hK, hA⟩ := C0
  have hl : lv_has ls 6 [(0, .ref (ad 0)), (1, .int 1), (2, .int 0), (3, .int k2)] := hl
  have Ig0 : xk_cnt (B + 0) g0 := Ig0
  refine lv_iload_n (pc := 0) hx hb dzM_ask_0 rfl (lv_at hl 1 rfl) ?_
  refine lv_iload_n (pc := 1) hx hb dzM_ask_1 rfl (lv_at hl 2 rfl) ?_
  refine xk_callSI (As := [.int 1, .int 0]) (rest := []) (H0 := s.heap) (pc := 2) hx hb hml hts hown hK hA hP hD hS (kzM_isSection l G ac 1 0) sfzM_132 [] (by decide) rfl (fun _ => rfl) ⟨rfl, rfl⟩ ⟨Nat.le_of_ble_eq_true rfl, Nat.le_of_ble_eq_true rfl⟩ rfl hl.1 rfl (Nat.le_of_ble_eq_true rfl) ⟨Nat.zero_le _, Nat.zero_le _⟩ dzM_ask_2 (fun r1 u9 H locs e9 hP hD hS => ?_)
  obtain rfl : r1 = qzM_isSection 1 0 := e9
  refine xk_is (y := 1) (by decide) ?_
  have hP : va_P G xk_cls (xk_wM ad ac g0) H := hP
  have hD : va_D A (xk_wM ad ac g0) := hD
  refine lv_if_eq (pc := 5) (tgt := 17) hx hb dzM_ask_5 (by decide) (fun hq9 => absurd hq9 (by decide)) (fun _ => ?_)
  refine lv_iload_n (pc := 8) hx hb dzM_ask_8 rfl (lv_at hl 3 rfl) ?_
  refine lv_iconst (v := 1) (pc := 9) hx hb dzM_ask_9 (by decide) ?_
  refine lv_icmp_lt (pc := 10) (tgt := 17) hx hb dzM_ask_10 (by decide) (fun hq9 => absurd hq9 hw) (fun _ => ?_)
  refine lv_iconst (v := 1) (pc := 13) hx hb dzM_ask_13 (by decide) ?_
  refine lv_goto (tgt := 18) (pc := 14) hx hb dzM_ask_14 (by decide) ?_
  refine lv_istore (lv' := [(4, .int 1), (0, .ref (ad 0)), (1, .int 1), (2, .int 0), (3, .int k2)]) (pc := 18) hx hb dzM_ask_18 hl (by decide) rfl (fun ls hl => ?_)
  refine lv_iload (pc := 20) hx hb dzM_ask_20 (lv_at hl 0 rfl) ?_
  refine lv_if_eq (pc := 22) (tgt := 33) hx hb dzM_ask_22 (by decide) (fun hq9 => absurd hq9 (by decide)) (fun _ => ?_)
  refine lv_iconst (v := 3) (pc := 25) hx hb dzM_ask_25 (by decide) ?_
  refine lv_iload_n (pc := 26) hx hb dzM_ask_26 rfl (lv_at hl 2 rfl) ?_
  refine lv_imul (pc := 27) hx hb dzM_ask_27 ?_
  refine xk_is (y := 3) (by decide) ?_
  refine lv_iload_n (pc := 28) hx hb dzM_ask_28 rfl (lv_at hl 3 rfl) ?_
  refine lv_iadd (pc := 29) hx hb dzM_ask_29 ?_
  refine xk_is (y := 3) (by decide) ?_
  refine lv_goto (tgt := 34) (pc := 30) hx hb dzM_ask_30 (by decide) ?_
  refine lv_istore (lv' := [(5, .int 3), (4, .int 1), (0, .ref (ad 0)), (1, .int 1), (2, .int 0), (3, .int k2)]) (pc := 34) hx hb dzM_ask_34 hl (by decide) rfl (fun ls hl => ?_)
  refine lv_aload_n (pc := 36) hx hb dzM_ask_36 rfl (lv_at hl 2 rfl) ?_
  refine lv_iload (pc := 37) hx hb dzM_ask_37 (lv_at hl 1 rfl) ?_
  refine lv_iload (pc := 39) hx hb dzM_ask_39 (lv_at hl 1 rfl) ?_
  refine lv_if_eq (pc := 41) (tgt := 58) hx hb dzM_ask_41 (by decide) (fun hq9 => absurd hq9 (by decide)) (fun _ => ?_)
  refine lv_aload_n (pc := 44) hx hb dzM_ask_44 rfl (lv_at hl 2 rfl) ?_
  refine xk_get (pc := 45) hx hb hts hown hK hP ffzM_23 0 rfl rfl dzM_ask_45 ?_
  refine lv_iload (pc := 48) hx hb dzM_ask_48 (lv_at hl 0 rfl) ?_
  refine xk_zald (q0 := 5) (t0 := 1) (j := 3) (pc := 50) hx hb hK hP rfl rfl (pk_in 3 6 (by decide)) (pk_cl 3) dzM_ask_50 ?_
  have K1 : ∀ (x1 : Int32), (if ((g0 5) 3) = 0 then (x1 = 0) else (x1 = 1)) → (xk_b x1) → W p l e xk_r2 s m args below meth c H locs 0 0 Q (F0 m 59 ls [.int x1, .int 1, .ref (ad 0)]) := by
    intro x1 R1 bx1
    refine lv_iconst (v := 1) (pc := 59) hx hb dzM_ask_59 (by decide) ?_
    refine xk_allVI (As := [.int 1, .int x1, .int 1]) (rest := []) (H0 := s.heap) (pc := 60) hx hb hml hts hown hK hA hP hD hS (kzM_goes l G ac ad g0 1 x1 1 (B + 0) Ig0 (by omega)) vfzM_114 (fun _ => rfl) 0 rfl rfl ⟨rfl, rfl⟩ ⟨Nat.le_of_ble_eq_true rfl, Nat.le_of_ble_eq_true rfl⟩ rfl hl.1 rfl (Nat.le_of_ble_eq_true rfl) ⟨Nat.zero_le _, Nat.zero_le _⟩ dzM_ask_60 (fun r2 g1 H locs hg1 hP hD hS => ?_)
    have hP : va_P G xk_cls (xk_wM ad ac g1) H := hP
    have hD : va_D A (xk_wM ad ac g1) := hD
    have Ig1 : xk_cnt (B + 0) g1 := xk_cnt_le (iczM_goes (B + 0) _ _ _ _ _ _ hg1 Ig0) (by omega)
    have K2 : ∀ (g7 : xk_St) (H : Heap) (locs : List Loc), (if r2 = 0 then (g7 = g1) else (∃ (g2 : xk_St), g2 = va_up g1 6 (upd (g1 6) 3 k2) ∧ (∃ (g3 : xk_St), g3 = va_up g2 7 (upd (g2 7) 3 0) ∧ (∃ (g4 : xk_St), g4 = va_up g3 8 (upd (g3 8) 3 0) ∧ (∃ (g5 : xk_St), g5 = va_up g4 9 (upd (g4 9) 3 0) ∧ (∃ (g6 : xk_St), g6 = va_up g5 10 (upd (g5 10) 3 0) ∧ (g7 = g6))))))) → (xk_cnt (B + 0) g7) → (va_P G xk_cls (xk_wM ad ac g7) H) → (va_D A (xk_wM ad ac g7)) → (va_S A s.heap H locs) → W p l e xk_r2 s m args below meth c H locs 0 0 Q (F0 m 106 ls []) := by
      intro g7 H locs R2 Ig7 hP hD hS
      exact hret g7 H locs 106 ls hP hS (by unfold relzM_ask_1_0; exact ⟨x1, R1, ⟨r2, g1, hg1, ⟨g7, R2, rfl⟩⟩⟩) dzM_ask_106
    refine lv_if_eq (pc := 63) (tgt := 106) hx hb dzM_ask_63 (by decide) (fun h2 => ?_) (fun h2 => ?_)
    ·
      exact K2 g1 H locs (Eq.mpr (if_pos h2) rfl) (xk_cnt_le Ig1 (by omega)) hP hD hS
    ·
      refine lv_aload_n (pc := 66) hx hb dzM_ask_66 rfl (lv_at hl 2 rfl) ?_
      refine xk_get (pc := 67) hx hb hts hown hK hP ffzM_26 0 rfl rfl dzM_ask_67 ?_
      refine lv_iload (pc := 70) hx hb dzM_ask_70 (lv_at hl 0 rfl) ?_
      refine lv_iload_n (pc := 72) hx hb dzM_ask_72 rfl (lv_at hl 5 rfl) ?_
      refine xk_iast (q0 := 6) (t0 := 0) (j := 3) (pc := 73) hx hb hK hP hD hS rfl rfl (pk_in 3 6 (by decide)) (pk_cl 3) dzM_ask_73 (fun H locs hP hD hS => ?_)
      obtain ⟨g2, eg2⟩ : ∃ z : xk_St, z = va_up g1 6 (upd (g1 6) 3 k2) := ⟨_, rfl⟩
      have hP : va_P G xk_cls (xk_wM ad ac g2) H := by rw [eg2]; exact hP
      have hD : va_D A (xk_wM ad ac g2) := by rw [eg2]; exact hD
      have Ig2 : xk_cnt (B + 0) g2 := by rw [eg2]; repeat (first | exact Ig1 | refine xk_cnt_k (by decide) ?_ | refine xk_cnt_f (by decide) ?_ | refine xk_cnt_s ?_)
      refine lv_aload_n (pc := 74) hx hb dzM_ask_74 rfl (lv_at hl 2 rfl) ?_
      refine xk_get (pc := 75) hx hb hts hown hK hP ffzM_29 0 rfl rfl dzM_ask_75 ?_
      refine lv_iload (pc := 78) hx hb dzM_ask_78 (lv_at hl 0 rfl) ?_
      refine lv_iconst (v := 0) (pc := 80) hx hb dzM_ask_80 (by decide) ?_
      refine xk_iast (q0 := 7) (t0 := 0) (j := 3) (pc := 81) hx hb hK hP hD hS rfl rfl (pk_in 3 6 (by decide)) (pk_cl 3) dzM_ask_81 (fun H locs hP hD hS => ?_)
      obtain ⟨g3, eg3⟩ : ∃ z : xk_St, z = va_up g2 7 (upd (g2 7) 3 0) := ⟨_, rfl⟩
      have hP : va_P G xk_cls (xk_wM ad ac g3) H := by rw [eg3]; exact hP
      have hD : va_D A (xk_wM ad ac g3) := by rw [eg3]; exact hD
      have Ig3 : xk_cnt (B + 0) g3 := by rw [eg3]; repeat (first | exact Ig2 | refine xk_cnt_k (by decide) ?_ | refine xk_cnt_f (by decide) ?_ | refine xk_cnt_s ?_)
      refine lv_aload_n (pc := 82) hx hb dzM_ask_82 rfl (lv_at hl 2 rfl) ?_
      refine xk_get (pc := 83) hx hb hts hown hK hP ffzM_32 0 rfl rfl dzM_ask_83 ?_
      refine lv_iload (pc := 86) hx hb dzM_ask_86 (lv_at hl 0 rfl) ?_
      refine lv_iconst (v := 0) (pc := 88) hx hb dzM_ask_88 (by decide) ?_
      refine xk_iast (q0 := 8) (t0 := 0) (j := 3) (pc := 89) hx hb hK hP hD hS rfl rfl (pk_in 3 6 (by decide)) (pk_cl 3) dzM_ask_89 (fun H locs hP hD hS => ?_)
      obtain ⟨g4, eg4⟩ : ∃ z : xk_St, z = va_up g3 8 (upd (g3 8) 3 0) := ⟨_, rfl⟩
      have hP : va_P G xk_cls (xk_wM ad ac g4) H := by rw [eg4]; exact hP
      have hD : va_D A (xk_wM ad ac g4) := by rw [eg4]; exact hD
      have Ig4 : xk_cnt (B + 0) g4 := by rw [eg4]; repeat (first | exact Ig3 | refine xk_cnt_k (by decide) ?_ | refine xk_cnt_f (by decide) ?_ | refine xk_cnt_s ?_)
      refine lv_aload_n (pc := 90) hx hb dzM_ask_90 rfl (lv_at hl 2 rfl) ?_
      refine xk_get (pc := 91) hx hb hts hown hK hP ffzM_35 0 rfl rfl dzM_ask_91 ?_
      refine lv_iload (pc := 94) hx hb dzM_ask_94 (lv_at hl 0 rfl) ?_
      refine lv_iconst (v := 0) (pc := 96) hx hb dzM_ask_96 (by decide) ?_
      refine xk_iast (q0 := 9) (t0 := 0) (j := 3) (pc := 97) hx hb hK hP hD hS rfl rfl (pk_in 3 6 (by decide)) (pk_cl 3) dzM_ask_97 (fun H locs hP hD hS => ?_)
      obtain ⟨g5, eg5⟩ : ∃ z : xk_St, z = va_up g4 9 (upd (g4 9) 3 0) := ⟨_, rfl⟩
      have hP : va_P G xk_cls (xk_wM ad ac g5) H := by rw [eg5]; exact hP
      have hD : va_D A (xk_wM ad ac g5) := by rw [eg5]; exact hD
      have Ig5 : xk_cnt (B + 0) g5 := by rw [eg5]; repeat (first | exact Ig4 | refine xk_cnt_k (by decide) ?_ | refine xk_cnt_f (by decide) ?_ | refine xk_cnt_s ?_)
      refine lv_aload_n (pc := 98) hx hb dzM_ask_98 rfl (lv_at hl 2 rfl) ?_
      refine xk_get (pc := 99) hx hb hts hown hK hP ffzM_38 0 rfl rfl dzM_ask_99 ?_
      refine lv_iload (pc := 102) hx hb dzM_ask_102 (lv_at hl 0 rfl) ?_
      refine lv_iconst (v := 0) (pc := 104) hx hb dzM_ask_104 (by decide) ?_
      refine xk_iast (q0 := 10) (t0 := 0) (j := 3) (pc := 105) hx hb hK hP hD hS rfl rfl (pk_in 3 6 (by decide)) (pk_cl 3) dzM_ask_105 (fun H locs hP hD hS => ?_)
      obtain ⟨g6, eg6⟩ : ∃ z : xk_St, z = va_up g5 10 (upd (g5 10) 3 0) := ⟨_, rfl⟩
      have hP : va_P G xk_cls (xk_wM ad ac g6) H := by rw [eg6]; exact hP
      have hD : va_D A (xk_wM ad ac g6) := by rw [eg6]; exact hD
      have Ig6 : xk_cnt (B + 0) g6 := by rw [eg6]; repeat (first | exact Ig5 | refine xk_cnt_k (by decide) ?_ | refine xk_cnt_f (by decide) ?_ | refine xk_cnt_s ?_)
      exact K2 g6 H locs (Eq.mpr (if_neg h2) ⟨g2, eg2, ⟨g3, eg3, ⟨g4, eg4, ⟨g5, eg5, ⟨g6, eg6, rfl⟩⟩⟩⟩⟩) (xk_cnt_le Ig6 (by omega)) hP hD hS
  refine lv_if_eq (pc := 51) (tgt := 58) hx hb dzM_ask_51 (by decide) (fun h1 => ?_) (fun h1 => ?_)
  ·
    refine lv_iconst (v := 0) (pc := 58) hx hb dzM_ask_58 (by decide) ?_
    exact K1 0 (Eq.mpr (if_pos h1) rfl) xk_b0
  ·
    refine lv_iconst (v := 1) (pc := 54) hx hb dzM_ask_54 (by decide) ?_
    refine lv_goto (tgt := 59) (pc := 55) hx hb dzM_ask_55 (by decide) ?_
    exact K1 1 (Eq.mpr (if_neg h1) rfl) xk_b1
theorem frzM_ask_1_0 (g0 : xk_St) (k2 : Int32) (gz : xk_St) : relzM_ask_1_0 g0 k2 gz → xk_eqv [1, 2, 3, 4, 5, 11, 12, 13, 14, 15, 16, 17, 18, 19, 20, 21, 22, 23, 24, 25, 26, 27] g0 gz := by
  intro h
  unfold relzM_ask_1_0 at h
  have s0 : xk_eqv [1, 2, 3, 4, 5, 11, 12, 13, 14, 15, 16, 17, 18, 19, 20, 21, 22, 23, 24, 25, 26, 27] g0 g0 := xk_eqv_rf
  obtain ⟨x1, u1, v2⟩ := h
  obtain ⟨r2, g1, u3, v4⟩ := v2
  have s5 : xk_eqv [1, 2, 3, 4, 5, 11, 12, 13, 14, 15, 16, 17, 18, 19, 20, 21, 22, 23, 24, 25, 26, 27] g0 g1 := xk_eqv_tr s0 (xk_eqv_sub (frzM_goes _ _ _ _ _ _ u3) (by decide))
  obtain ⟨g7, u6, v7⟩ := v4
  have s8 : xk_eqv [1, 2, 3, 4, 5, 11, 12, 13, 14, 15, 16, 17, 18, 19, 20, 21, 22, 23, 24, 25, 26, 27] g0 g7 := by
    by_cases hc : r2 = 0
    · rw [if_pos hc] at u6
      rw [u6]; exact s5
    · rw [if_neg hc] at u6
      obtain ⟨g2, u9, v10⟩ := u6
      have s11 : xk_eqv [1, 2, 3, 4, 5, 11, 12, 13, 14, 15, 16, 17, 18, 19, 20, 21, 22, 23, 24, 25, 26, 27] g0 g2 := by rw [u9]; repeat (first | exact s5 | refine xk_eqv_up (by decide) ?_)
      obtain ⟨g3, u12, v13⟩ := v10
      have s14 : xk_eqv [1, 2, 3, 4, 5, 11, 12, 13, 14, 15, 16, 17, 18, 19, 20, 21, 22, 23, 24, 25, 26, 27] g0 g3 := by rw [u12]; repeat (first | exact s11 | refine xk_eqv_up (by decide) ?_)
      obtain ⟨g4, u15, v16⟩ := v13
      have s17 : xk_eqv [1, 2, 3, 4, 5, 11, 12, 13, 14, 15, 16, 17, 18, 19, 20, 21, 22, 23, 24, 25, 26, 27] g0 g4 := by rw [u15]; repeat (first | exact s14 | refine xk_eqv_up (by decide) ?_)
      obtain ⟨g5, u18, v19⟩ := v16
      have s20 : xk_eqv [1, 2, 3, 4, 5, 11, 12, 13, 14, 15, 16, 17, 18, 19, 20, 21, 22, 23, 24, 25, 26, 27] g0 g5 := by rw [u18]; repeat (first | exact s17 | refine xk_eqv_up (by decide) ?_)
      obtain ⟨g6, u21, v22⟩ := v19
      have s23 : xk_eqv [1, 2, 3, 4, 5, 11, 12, 13, 14, 15, 16, 17, 18, 19, 20, 21, 22, 23, 24, 25, 26, 27] g0 g6 := by rw [u21]; repeat (first | exact s20 | refine xk_eqv_up (by decide) ?_)
      rw [v22]; exact s23
  rw [v7]; exact s8
theorem iczM_ask_1_0 (B : Nat) (g0 : xk_St) (k2 : Int32) (gz : xk_St) : relzM_ask_1_0 g0 k2 gz → xk_cnt B g0 → xk_cnt (B + 0) gz := by
  intro h Ig0
  unfold relzM_ask_1_0 at h
  have Ig0 : xk_cnt (B + 0) g0 := Ig0
  obtain ⟨x1, u1, v2⟩ := h
  obtain ⟨r2, g1, u3, v4⟩ := v2
  have Ig1 : xk_cnt (B + 0) g1 := xk_cnt_le (iczM_goes (B + 0) _ _ _ _ _ _ u3 Ig0) (by omega)
  obtain ⟨g7, u5, v6⟩ := v4
  have Ig7 : xk_cnt (B + 0) g7 := by
    by_cases hc : r2 = 0
    · rw [if_pos hc] at u5
      rw [u5]; exact xk_cnt_le Ig1 (by omega)
    · rw [if_neg hc] at u5
      obtain ⟨g2, u7, v8⟩ := u5
      have Ig2 : xk_cnt (B + 0) g2 := by rw [u7]; repeat (first | exact Ig1 | refine xk_cnt_k (by decide) ?_ | refine xk_cnt_f (by decide) ?_ | refine xk_cnt_s ?_)
      obtain ⟨g3, u9, v10⟩ := v8
      have Ig3 : xk_cnt (B + 0) g3 := by rw [u9]; repeat (first | exact Ig2 | refine xk_cnt_k (by decide) ?_ | refine xk_cnt_f (by decide) ?_ | refine xk_cnt_s ?_)
      obtain ⟨g4, u11, v12⟩ := v10
      have Ig4 : xk_cnt (B + 0) g4 := by rw [u11]; repeat (first | exact Ig3 | refine xk_cnt_k (by decide) ?_ | refine xk_cnt_f (by decide) ?_ | refine xk_cnt_s ?_)
      obtain ⟨g5, u13, v14⟩ := v12
      have Ig5 : xk_cnt (B + 0) g5 := by rw [u13]; repeat (first | exact Ig4 | refine xk_cnt_k (by decide) ?_ | refine xk_cnt_f (by decide) ?_ | refine xk_cnt_s ?_)
      obtain ⟨g6, u15, v16⟩ := v14
      have Ig6 : xk_cnt (B + 0) g6 := by rw [u15]; repeat (first | exact Ig5 | refine xk_cnt_k (by decide) ?_ | refine xk_cnt_f (by decide) ?_ | refine xk_cnt_s ?_)
      rw [v16]; exact xk_cnt_le Ig6 (by omega)
  rw [v6]; exact xk_cnt_le Ig7 (by omega)

def relzM_ask_1_1 (g0 : xk_St) (k2 : Int32) (gz : xk_St) : Prop := ∃ (x1 : Int32), (if ((g0 5) 4) = 0 then (x1 = 0) else (x1 = 1)) ∧ (∃ (r2 : Int32) (g1 : xk_St), relzM_goes g0 1 x1 1 r2 g1 ∧ (∃ (g7 : xk_St), (if r2 = 0 then (g7 = g1) else (∃ (g2 : xk_St), g2 = va_up g1 6 (upd (g1 6) 4 k2) ∧ (∃ (g3 : xk_St), g3 = va_up g2 7 (upd (g2 7) 4 0) ∧ (∃ (g4 : xk_St), g4 = va_up g3 8 (upd (g3 8) 4 0) ∧ (∃ (g5 : xk_St), g5 = va_up g4 9 (upd (g4 9) 4 0) ∧ (∃ (g6 : xk_St), g6 = va_up g5 10 (upd (g5 10) 4 0) ∧ (g7 = g6))))))) ∧ (gz = g7)))
set_option maxHeartbeats 4000000 in
set_option maxRecDepth 100000 in
theorem kzM_ask_1_1 (l : Launch) (G : va_G) (ac : Nat → ClassId) (ad : Nat → Nat) (g0 : xk_St) (k2 : Int32) (B : Nat) (hw : ¬ k2 < 1) (Ig0 : xk_cnt B g0) (hB : B + 1 < 2147483648) : xk_CV l yzM_ask czM_ask 6 xk_WS xk_r2 G xk_cls (xk_tys ac) [.ref (ad 0), .int 1, .int 1, .int k2] (xk_wM ad ac g0) (fun (gz : xk_St) => relzM_ask_1_1 g0 k2 gz) (fun gz => xk_wM ad ac gz) := by
  refine xk_ofV (by decide) (Nat.le_of_ble_eq_true rfl) ?_
  intro p e s m args below meth c A Q H locs ls C0 hret hP hD hS hl
  obtain ⟨hx, hb, hml, hts, hown, hK, hA⟩ := C0
  have hl : lv_has ls 6 [(0, .ref (ad 0)), (1, .int 1), (2, .int 1), (3, .int k2)] := hl
  have Ig0 : xk_cnt (B + 0) g0 := Ig0
  refine lv_iload_n (pc := 0) hx hb dzM_ask_0 rfl (lv_at hl 1 rfl) ?_
  refine lv_iload_n (pc := 1) hx hb dzM_ask_1 rfl (lv_at hl 2 rfl) ?_
  refine xk_callSI (As := [.int 1, .int 1]) (rest := []) (H0 := s.heap) (pc := 2) hx hb hml hts hown hK hA hP hD hS (kzM_isSection l G ac 1 1) sfzM_132 [] (by decide) rfl (fun _ => rfl) ⟨rfl, rfl⟩ ⟨Nat.le_of_ble_eq_true rfl, Nat.le_of_ble_eq_true rfl⟩ rfl hl.1 rfl (Nat.le_of_ble_eq_true rfl) ⟨Nat.zero_le _, Nat.zero_le _⟩ dzM_ask_2 (fun r1 u9 H locs e9 hP hD hS => ?_)
  obtain rfl : r1 = qzM_isSection 1 1 := e9
  refine xk_is (y := 1) (by decide) ?_
  have hP : va_P G xk_cls (xk_wM ad ac g0) H := hP
  have hD : va_D A (xk_wM ad ac g0) := hD
  refine lv_if_eq (pc := 5) (tgt := 17) hx hb dzM_ask_5 (by decide) (fun hq9 => absurd hq9 (by decide)) (fun _ => ?_)
  refine lv_iload_n (pc := 8) hx hb dzM_ask_8 rfl (lv_at hl 3 rfl) ?_
  refine lv_iconst (v := 1) (pc := 9) hx hb dzM_ask_9 (by decide) ?_
  refine lv_icmp_lt (pc := 10) (tgt := 17) hx hb dzM_ask_10 (by decide) (fun hq9 => absurd hq9 hw) (fun _ => ?_)
  refine lv_iconst (v := 1) (pc := 13) hx hb dzM_ask_13 (by decide) ?_
  refine lv_goto (tgt := 18) (pc := 14) hx hb dzM_ask_14 (by decide) ?_
  refine lv_istore (lv' := [(4, .int 1), (0, .ref (ad 0)), (1, .int 1), (2, .int 1), (3, .int k2)]) (pc := 18) hx hb dzM_ask_18 hl (by decide) rfl (fun ls hl => ?_)
  refine lv_iload (pc := 20) hx hb dzM_ask_20 (lv_at hl 0 rfl) ?_
  refine lv_if_eq (pc := 22) (tgt := 33) hx hb dzM_ask_22 (by decide) (fun hq9 => absurd hq9 (by decide)) (fun _ => ?_)
  refine lv_iconst (v := 3) (pc := 25) hx hb dzM_ask_25 (by decide) ?_
  refine lv_iload_n (pc := 26) hx hb dzM_ask_26 rfl (lv_at hl 2 rfl) ?_
  refine lv_imul (pc := 27) hx hb dzM_ask_27 ?_
  refine xk_is (y := 3) (by decide) ?_
  refine lv_iload_n (pc := 28) hx hb dzM_ask_28 rfl (lv_at hl 3 rfl) ?_
  refine lv_iadd (pc := 29) hx hb dzM_ask_29 ?_
  refine xk_is (y := 4) (by decide) ?_
  refine lv_goto (tgt := 34) (pc := 30) hx hb dzM_ask_30 (by decide) ?_
  refine lv_istore (lv' := [(5, .int 4), (4, .int 1), (0, .ref (ad 0)), (1, .int 1), (2, .int 1), (3, .int k2)]) (pc := 34) hx hb dzM_ask_34 hl (by decide) rfl (fun ls hl => ?_)
  refine lv_aload_n (pc := 36) hx hb dzM_ask_36 rfl (lv_at hl 2 rfl) ?_
  refine lv_iload (pc := 37) hx hb dzM_ask_37 (lv_at hl 1 rfl) ?_
  refine lv_iload (pc := 39) hx hb dzM_ask_39 (lv_at hl 1 rfl) ?_
  refine lv_if_eq (pc := 41) (tgt := 58) hx hb dzM_ask_41 (by decide) (fun hq9 => absurd hq9 (by decide)) (fun _ => ?_)
  refine lv_aload_n (pc := 44) hx hb dzM_ask_44 rfl (lv_at hl 2 rfl) ?_
  refine xk_get (pc := 45) hx hb hts hown hK hP ffzM_23 0 rfl rfl dzM_ask_45 ?_
  refine lv_iload (pc := 48) hx hb dzM_ask_48 (lv_at hl 0 rfl) ?_
  refine xk_zald (q0 := 5) (t0 := 1) (j := 4) (pc := 50) hx hb hK hP rfl rfl (pk_in 4 6 (by decide)) (pk_cl 4) dzM_ask_50 ?_
  have K1 : ∀ (x1 : Int32), (if ((g0 5) 4) = 0 then (x1 = 0) else (x1 = 1)) → (xk_b x1) → W p l e xk_r2 s m args below meth c H locs 0 0 Q (F0 m 59 ls [.int x1, .int 1, .ref (ad 0)]) := by
    intro x1 R1 bx1
    refine lv_iconst (v := 1) (pc := 59) hx hb dzM_ask_59 (by decide) ?_
    refine xk_allVI (As := [.int 1, .int x1, .int 1]) (rest := []) (H0 := s.heap) (pc := 60) hx hb hml hts hown hK hA hP hD hS (kzM_goes l G ac ad g0 1 x1 1 (B + 0) Ig0 (by omega)) vfzM_114 (fun _ => rfl) 0 rfl rfl ⟨rfl, rfl⟩ ⟨Nat.le_of_ble_eq_true rfl, Nat.le_of_ble_eq_true rfl⟩ rfl hl.1 rfl (Nat.le_of_ble_eq_true rfl) ⟨Nat.zero_le _, Nat.zero_le _⟩ dzM_ask_60 (fun r2 g1 H locs hg1 hP hD hS => ?_)
    have hP : va_P G xk_cls (xk_wM ad ac g1) H := hP
    have hD : va_D A (xk_wM ad ac g1) := hD
    have Ig1 : xk_cnt (B + 0) g1 := xk_cnt_le (iczM_goes (B + 0) _ _ _ _ _ _ hg1 Ig0) (by omega)
    have K2 : ∀ (g7 : xk_St) (H : Heap) (locs : List Loc), (if r2 = 0 then (g7 = g1) else (∃ (g2 : xk_St), g2 = va_up g1 6 (upd (g1 6) 4 k2) ∧ (∃ (g3 : xk_St), g3 = va_up g2 7 (upd (g2 7) 4 0) ∧ (∃ (g4 : xk_St), g4 = va_up g3 8 (upd (g3 8) 4 0) ∧ (∃ (g5 : xk_St), g5 = va_up g4 9 (upd (g4 9) 4 0) ∧ (∃ (g6 : xk_St), g6 = va_up g5 10 (upd (g5 10) 4 0) ∧ (g7 = g6))))))) → (xk_cnt (B + 0) g7) → (va_P G xk_cls (xk_wM ad ac g7) H) → (va_D A (xk_wM ad ac g7)) → (va_S A s.heap H locs) → W p l e xk_r2 s m args below meth c H locs 0 0 Q (F0 m 106 ls []) := by
      intro g7 H locs R2 Ig7 hP hD hS
      exact hret g7 H locs 106 ls hP hS (by unfold relzM_ask_1_1; exact ⟨x1, R1, ⟨r2, g1, hg1, ⟨g7, R2, rfl⟩⟩⟩) dzM_ask_106
    refine lv_if_eq (pc := 63) (tgt := 106) hx hb dzM_ask_63 (by decide) (fun h2 => ?_) (fun h2 => ?_)
    ·
      exact K2 g1 H locs (Eq.mpr (if_pos h2) rfl) (xk_cnt_le Ig1 (by omega)) hP hD hS
    ·
      refine lv_aload_n (pc := 66) hx hb dzM_ask_66 rfl (lv_at hl 2 rfl) ?_
      refine xk_get (pc := 67) hx hb hts hown hK hP ffzM_26 0 rfl rfl dzM_ask_67 ?_
      refine lv_iload (pc := 70) hx hb dzM_ask_70 (lv_at hl 0 rfl) ?_
      refine lv_iload_n (pc := 72) hx hb dzM_ask_72 rfl (lv_at hl 5 rfl) ?_
      refine xk_iast (q0 := 6) (t0 := 0) (j := 4) (pc := 73) hx hb hK hP hD hS rfl rfl (pk_in 4 6 (by decide)) (pk_cl 4) dzM_ask_73 (fun H locs hP hD hS => ?_)
      obtain ⟨g2, eg2⟩ : ∃ z : xk_St, z = va_up g1 6 (upd (g1 6) 4 k2) := ⟨_, rfl⟩
      have hP : va_P G xk_cls (xk_wM ad ac g2) H := by rw [eg2]; exact hP
      have hD : va_D A (xk_wM ad ac g2) := by rw [eg2]; exact hD
      have Ig2 : xk_cnt (B + 0) g2 := by rw [eg2]; repeat (first | exact Ig1 | refine xk_cnt_k (by decide) ?_ | refine xk_cnt_f (by decide) ?_ | refine xk_cnt_s ?_)
      refine lv_aload_n (pc := 74) hx hb dzM_ask_74 rfl (lv_at hl 2 rfl) ?_
      refine xk_get (pc := 75) hx hb hts hown hK hP ffzM_29 0 rfl rfl dzM_ask_75 ?_
      refine lv_iload (pc := 78) hx hb dzM_ask_78 (lv_at hl 0 rfl) ?_
      refine lv_iconst (v := 0) (pc := 80) hx hb dzM_ask_80 (by decide) ?_
      refine xk_iast (q0 := 7) (t0 := 0) (j := 4) (pc := 81) hx hb hK hP hD hS rfl rfl (pk_in 4 6 (by decide)) (pk_cl 4) dzM_ask_81 (fun H locs hP hD hS => ?_)
      obtain ⟨g3, eg3⟩ : ∃ z : xk_St, z = va_up g2 7 (upd (g2 7) 4 0) := ⟨_, rfl⟩
      have hP : va_P G xk_cls (xk_wM ad ac g3) H := by rw [eg3]; exact hP
      have hD : va_D A (xk_wM ad ac g3) := by rw [eg3]; exact hD
      have Ig3 : xk_cnt (B + 0) g3 := by rw [eg3]; repeat (first | exact Ig2 | refine xk_cnt_k (by decide) ?_ | refine xk_cnt_f (by decide) ?_ | refine xk_cnt_s ?_)
      refine lv_aload_n (pc := 82) hx hb dzM_ask_82 rfl (lv_at hl 2 rfl) ?_
      refine xk_get (pc := 83) hx hb hts hown hK hP ffzM_32 0 rfl rfl dzM_ask_83 ?_
      refine lv_iload (pc := 86) hx hb dzM_ask_86 (lv_at hl 0 rfl) ?_
      refine lv_iconst (v := 0) (pc := 88) hx hb dzM_ask_88 (by decide) ?_
      refine xk_iast (q0 := 8) (t0 := 0) (j := 4) (pc := 89) hx hb hK hP hD hS rfl rfl (pk_in 4 6 (by decide)) (pk_cl 4) dzM_ask_89 (fun H locs hP hD hS => ?_)
      obtain ⟨g4, eg4⟩ : ∃ z : xk_St, z = va_up g3 8 (upd (g3 8) 4 0) := ⟨_, rfl⟩
      have hP : va_P G xk_cls (xk_wM ad ac g4) H := by rw [eg4]; exact hP
      have hD : va_D A (xk_wM ad ac g4) := by rw [eg4]; exact hD
      have Ig4 : xk_cnt (B + 0) g4 := by rw [eg4]; repeat (first | exact Ig3 | refine xk_cnt_k (by decide) ?_ | refine xk_cnt_f (by decide) ?_ | refine xk_cnt_s ?_)
      refine lv_aload_n (pc := 90) hx hb dzM_ask_90 rfl (lv_at hl 2 rfl) ?_
      refine xk_get (pc := 91) hx hb hts hown hK hP ffzM_35 0 rfl rfl dzM_ask_91 ?_
      refine lv_iload (pc := 94) hx hb dzM_ask_94 (lv_at hl 0 rfl) ?_
      refine lv_iconst (v := 0) (pc := 96) hx hb dzM_ask_96 (by decide) ?_
      refine xk_iast (q0 := 9) (t0 := 0) (j := 4) (pc := 97) hx hb hK hP hD hS rfl rfl (pk_in 4 6 (by decide)) (pk_cl 4) dzM_ask_97 (fun H locs hP hD hS => ?_)
      obtain ⟨g5, eg5⟩ : ∃ z : xk_St, z = va_up g4 9 (upd (g4 9) 4 0) := ⟨_, rfl⟩
      have hP : va_P G xk_cls (xk_wM ad ac g5) H := by rw [eg5]; exact hP
      have hD : va_D A (xk_wM ad ac g5) := by rw [eg5]; exact hD
      have Ig5 : xk_cnt (B + 0) g5 := by rw [eg5]; repeat (first | exact Ig4 | refine xk_cnt_k (by decide) ?_ | refine xk_cnt_f (by decide) ?_ | refine xk_cnt_s ?_)
      refine lv_aload_n (pc := 98) hx hb dzM_ask_98 rfl (lv_at hl 2 rfl) ?_
      refine xk_get (pc := 99) hx hb hts hown hK hP ffzM_38 0 rfl rfl dzM_ask_99 ?_
      refine lv_iload (pc := 102) hx hb dzM_ask_102 (lv_at hl 0 rfl) ?_
      refine lv_iconst (v := 0) (pc := 104) hx hb dzM_ask_104 (by decide) ?_
      refine xk_iast (q0 := 10) (t0 := 0) (j := 4) (pc := 105) hx hb hK hP hD hS rfl rfl (pk_in 4 6 (by decide)) (pk_cl 4) dzM_ask_105 (fun H locs hP hD hS => ?_)
      obtain ⟨g6, eg6⟩ : ∃ z : xk_St, z = va_up g5 10 (upd (g5 10) 4 0) := ⟨_, rfl⟩
      have hP : va_P G xk_cls (xk_wM ad ac g6) H := by rw [eg6]; exact hP
      have hD : va_D A (xk_wM ad ac g6) := by rw [eg6]; exact hD
      have Ig6 : xk_cnt (B + 0) g6 := by rw [eg6]; repeat (first | exact Ig5 | refine xk_cnt_k (by decide) ?_ | refine xk_cnt_f (by decide) ?_ | refine xk_cnt_s ?_)
      exact K2 g6 H locs (Eq.mpr (if_neg h2) ⟨g2, eg2, ⟨g3, eg3, ⟨g4, eg4, ⟨g5, eg5, ⟨g6, eg6, rfl⟩⟩⟩⟩⟩) (xk_cnt_le Ig6 (by omega)) hP hD hS
  refine lv_if_eq (pc := 51) (tgt := 58) hx hb dzM_ask_51 (by decide) (fun h1 => ?_) (fun h1 => ?_)
  ·
    refine lv_iconst (v := 0) (pc := 58) hx hb dzM_ask_58 (by decide) ?_
    exact K1 0 (Eq.mpr (if_pos h1) rfl) xk_b0
  ·
    refine lv_iconst (v := 1) (pc := 54) hx hb dzM_ask_54 (by decide) ?_
    refine lv_goto (tgt := 59) (pc := 55) hx hb dzM_ask_55 (by decide) ?_
    exact K1 1 (Eq.mpr (if_neg h1) rfl) xk_b1
theorem frzM_ask_1_1 (g0 : xk_St) (k2 : Int32) (gz : xk_St) : relzM_ask_1_1 g0 k2 gz → xk_eqv [1, 2, 3, 4, 5, 11, 12, 13, 14, 15, 16, 17, 18, 19, 20, 21, 22, 23, 24, 25, 26, 27] g0 gz := by
  intro h
  unfold relzM_ask_1_1 at h
  have s0 : xk_eqv [1, 2, 3, 4, 5, 11, 12, 13, 14, 15, 16, 17, 18, 19, 20, 21, 22, 23, 24, 25, 26, 27] g0 g0 := xk_eqv_rf
  obtain ⟨x1, u1, v2⟩ := h
  obtain ⟨r2, g1, u3, v4⟩ := v2
  have s5 : xk_eqv [1, 2, 3, 4, 5, 11, 12, 13, 14, 15, 16, 17, 18, 19, 20, 21, 22, 23, 24, 25, 26, 27] g0 g1 := xk_eqv_tr s0 (xk_eqv_sub (frzM_goes _ _ _ _ _ _ u3) (by decide))
  obtain ⟨g7, u6, v7⟩ := v4
  have s8 : xk_eqv [1, 2, 3, 4, 5, 11, 12, 13, 14, 15, 16, 17, 18, 19, 20, 21, 22, 23, 24, 25, 26, 27] g0 g7 := by
    by_cases hc : r2 = 0
    · rw [if_pos hc] at u6
      rw [u6]; exact s5
    · rw [if_neg hc] at u6
      obtain ⟨g2, u9, v10⟩ := u6
      have s11 : xk_eqv [1, 2, 3, 4, 5, 11, 12, 13, 14, 15, 16, 17, 18, 19, 20, 21, 22, 23, 24, 25, 26, 27] g0 g2 := by rw [u9]; repeat (first | exact s5 | refine xk_eqv_up (by decide) ?_)
      obtain ⟨g3, u12, v13⟩ := v10
      have s14 : xk_eqv [1, 2, 3, 4, 5, 11, 12, 13, 14, 15, 16, 17, 18, 19, 20, 21, 22, 23, 24, 25, 26, 27] g0 g3 := by rw [u12]; repeat (first | exact s11 | refine xk_eqv_up (by decide) ?_)
      obtain ⟨g4, u15, v16⟩ := v13
      have s17 : xk_eqv [1, 2, 3, 4, 5, 11, 12, 13, 14, 15, 16, 17, 18, 19, 20, 21, 22, 23, 24, 25, 26, 27] g0 g4 := by rw [u15]; repeat (first | exact s14 | refine xk_eqv_up (by decide) ?_)
      obtain ⟨g5, u18, v19⟩ := v16
      have s20 : xk_eqv [1, 2, 3, 4, 5, 11, 12, 13, 14, 15, 16, 17, 18, 19, 20, 21, 22, 23, 24, 25, 26, 27] g0 g5 := by rw [u18]; repeat (first | exact s17 | refine xk_eqv_up (by decide) ?_)
      obtain ⟨g6, u21, v22⟩ := v19
      have s23 : xk_eqv [1, 2, 3, 4, 5, 11, 12, 13, 14, 15, 16, 17, 18, 19, 20, 21, 22, 23, 24, 25, 26, 27] g0 g6 := by rw [u21]; repeat (first | exact s20 | refine xk_eqv_up (by decide) ?_)
      rw [v22]; exact s23
  rw [v7]; exact s8
theorem iczM_ask_1_1 (B : Nat) (g0 : xk_St) (k2 : Int32) (gz : xk_St) : relzM_ask_1_1 g0 k2 gz → xk_cnt B g0 → xk_cnt (B + 0) gz := by
  intro h Ig0
  unfold relzM_ask_1_1 at h
  have Ig0 : xk_cnt (B + 0) g0 := Ig0
  obtain ⟨x1, u1, v2⟩ := h
  obtain ⟨r2, g1, u3, v4⟩ := v2
  have Ig1 : xk_cnt (B + 0) g1 := xk_cnt_le (iczM_goes (B + 0) _ _ _ _ _ _ u3 Ig0) (by omega)
  obtain ⟨g7, u5, v6⟩ := v4
  have Ig7 : xk_cnt (B + 0) g7 := by
    by_cases hc : r2 = 0
    · rw [if_pos hc] at u5
      rw [u5]; exact xk_cnt_le Ig1 (by omega)
    · rw [if_neg hc] at u5
      obtain ⟨g2, u7, v8⟩ := u5
      have Ig2 : xk_cnt (B + 0) g2 := by rw [u7]; repeat (first | exact Ig1 | refine xk_cnt_k (by decide) ?_ | refine xk_cnt_f (by decide) ?_ | refine xk_cnt_s ?_)
      obtain ⟨g3, u9, v10⟩ := v8
      have Ig3 : xk_cnt (B + 0) g3 := by rw [u9]; repeat (first | exact Ig2 | refine xk_cnt_k (by decide) ?_ | refine xk_cnt_f (by decide) ?_ | refine xk_cnt_s ?_)
      obtain ⟨g4, u11, v12⟩ := v10
      have Ig4 : xk_cnt (B + 0) g4 := by rw [u11]; repeat (first | exact Ig3 | refine xk_cnt_k (by decide) ?_ | refine xk_cnt_f (by decide) ?_ | refine xk_cnt_s ?_)
      obtain ⟨g5, u13, v14⟩ := v12
      have Ig5 : xk_cnt (B + 0) g5 := by rw [u13]; repeat (first | exact Ig4 | refine xk_cnt_k (by decide) ?_ | refine xk_cnt_f (by decide) ?_ | refine xk_cnt_s ?_)
      obtain ⟨g6, u15, v16⟩ := v14
      have Ig6 : xk_cnt (B + 0) g6 := by rw [u15]; repeat (first | exact Ig5 | refine xk_cnt_k (by decide) ?_ | refine xk_cnt_f (by decide) ?_ | refine xk_cnt_s ?_)
      rw [v16]; exact xk_cnt_le Ig6 (by omega)
  rw [v6]; exact xk_cnt_le Ig7 (by omega)

def relzM_ask_1_2 (g0 : xk_St) (k2 : Int32) (gz : xk_St) : Prop := ∃ (x1 : Int32), (if ((g0 5) 5) = 0 then (x1 = 0) else (x1 = 1)) ∧ (∃ (r2 : Int32) (g1 : xk_St), relzM_goes g0 1 x1 1 r2 g1 ∧ (∃ (g7 : xk_St), (if r2 = 0 then (g7 = g1) else (∃ (g2 : xk_St), g2 = va_up g1 6 (upd (g1 6) 5 k2) ∧ (∃ (g3 : xk_St), g3 = va_up g2 7 (upd (g2 7) 5 0) ∧ (∃ (g4 : xk_St), g4 = va_up g3 8 (upd (g3 8) 5 0) ∧ (∃ (g5 : xk_St), g5 = va_up g4 9 (upd (g4 9) 5 0) ∧ (∃ (g6 : xk_St), g6 = va_up g5 10 (upd (g5 10) 5 0) ∧ (g7 = g6))))))) ∧ (gz = g7)))
set_option maxHeartbeats 4000000 in
set_option maxRecDepth 100000 in
theorem kzM_ask_1_2 (l : Launch) (G : va_G) (ac : Nat → ClassId) (ad : Nat → Nat) (g0 : xk_St) (k2 : Int32) (B : Nat) (hw : ¬ k2 < 1) (Ig0 : xk_cnt B g0) (hB : B + 1 < 2147483648) : xk_CV l yzM_ask czM_ask 6 xk_WS xk_r2 G xk_cls (xk_tys ac) [.ref (ad 0), .int 1, .int 2, .int k2] (xk_wM ad ac g0) (fun (gz : xk_St) => relzM_ask_1_2 g0 k2 gz) (fun gz => xk_wM ad ac gz) := by
  refine xk_ofV (by decide) (Nat.le_of_ble_eq_true rfl) ?_
  intro p e s m args below meth c A Q H locs ls C0 hret hP hD hS hl
  obtain ⟨hx, hb, hml, hts, hown, hK, hA⟩ := C0
  have hl : lv_has ls 6 [(0, .ref (ad 0)), (1, .int 1), (2, .int 2), (3, .int k2)] := hl
  have Ig0 : xk_cnt (B + 0) g0 := Ig0
  refine lv_iload_n (pc := 0) hx hb dzM_ask_0 rfl (lv_at hl 1 rfl) ?_
  refine lv_iload_n (pc := 1) hx hb dzM_ask_1 rfl (lv_at hl 2 rfl) ?_
  refine xk_callSI (As := [.int 1, .int 2]) (rest := []) (H0 := s.heap) (pc := 2) hx hb hml hts hown hK hA hP hD hS (kzM_isSection l G ac 1 2) sfzM_132 [] (by decide) rfl (fun _ => rfl) ⟨rfl, rfl⟩ ⟨Nat.le_of_ble_eq_true rfl, Nat.le_of_ble_eq_true rfl⟩ rfl hl.1 rfl (Nat.le_of_ble_eq_true rfl) ⟨Nat.zero_le _, Nat.zero_le _⟩ dzM_ask_2 (fun r1 u9 H locs e9 hP hD hS => ?_)
  obtain rfl : r1 = qzM_isSection 1 2 := e9
  refine xk_is (y := 1) (by decide) ?_
  have hP : va_P G xk_cls (xk_wM ad ac g0) H := hP
  have hD : va_D A (xk_wM ad ac g0) := hD
  refine lv_if_eq (pc := 5) (tgt := 17) hx hb dzM_ask_5 (by decide) (fun hq9 => absurd hq9 (by decide)) (fun _ => ?_)
  refine lv_iload_n (pc := 8) hx hb dzM_ask_8 rfl (lv_at hl 3 rfl) ?_
  refine lv_iconst (v := 1) (pc := 9) hx hb dzM_ask_9 (by decide) ?_
  refine lv_icmp_lt (pc := 10) (tgt := 17) hx hb dzM_ask_10 (by decide) (fun hq9 => absurd hq9 hw) (fun _ => ?_)
  refine lv_iconst (v := 1) (pc := 13) hx hb dzM_ask_13 (by decide) ?_
  refine lv_goto (tgt := 18) (pc := 14) hx hb dzM_ask_14 (by decide) ?_
  refine lv_istore (lv' := [(4, .int 1), (0, .ref (ad 0)), (1, .int 1), (2, .int 2), (3, .int k2)]) (pc := 18) hx hb dzM_ask_18 hl (by decide) rfl (fun ls hl => ?_)
  refine lv_iload (pc := 20) hx hb dzM_ask_20 (lv_at hl 0 rfl) ?_
  refine lv_if_eq (pc := 22) (tgt := 33) hx hb dzM_ask_22 (by decide) (fun hq9 => absurd hq9 (by decide)) (fun _ => ?_)
  refine lv_iconst (v := 3) (pc := 25) hx hb dzM_ask_25 (by decide) ?_
  refine lv_iload_n (pc := 26) hx hb dzM_ask_26 rfl (lv_at hl 2 rfl) ?_
  refine lv_imul (pc := 27) hx hb dzM_ask_27 ?_
  refine xk_is (y := 3) (by decide) ?_
  refine lv_iload_n (pc := 28) hx hb dzM_ask_28 rfl (lv_at hl 3 rfl) ?_
  refine lv_iadd (pc := 29) hx hb dzM_ask_29 ?_
  refine xk_is (y := 5) (by decide) ?_
  refine lv_goto (tgt := 34) (pc := 30) hx hb dzM_ask_30 (by decide) ?_
  refine lv_istore (lv' := [(5, .int 5), (4, .int 1), (0, .ref (ad 0)), (1, .int 1), (2, .int 2), (3, .int k2)]) (pc := 34) hx hb dzM_ask_34 hl (by decide) rfl (fun ls hl => ?_)
  refine lv_aload_n (pc := 36) hx hb dzM_ask_36 rfl (lv_at hl 2 rfl) ?_
  refine lv_iload (pc := 37) hx hb dzM_ask_37 (lv_at hl 1 rfl) ?_
  refine lv_iload (pc := 39) hx hb dzM_ask_39 (lv_at hl 1 rfl) ?_
  refine lv_if_eq (pc := 41) (tgt := 58) hx hb dzM_ask_41 (by decide) (fun hq9 => absurd hq9 (by decide)) (fun _ => ?_)
  refine lv_aload_n (pc := 44) hx hb dzM_ask_44 rfl (lv_at hl 2 rfl) ?_
  refine xk_get (pc := 45) hx hb hts hown hK hP ffzM_23 0 rfl rfl dzM_ask_45 ?_
  refine lv_iload (pc := 48) hx hb dzM_ask_48 (lv_at hl 0 rfl) ?_
  refine xk_zald (q0 := 5) (t0 := 1) (j := 5) (pc := 50) hx hb hK hP rfl rfl (pk_in 5 6 (by decide)) (pk_cl 5) dzM_ask_50 ?_
  have K1 : ∀ (x1 : Int32), (if ((g0 5) 5) = 0 then (x1 = 0) else (x1 = 1)) → (xk_b x1) → W p l e xk_r2 s m args below meth c H locs 0 0 Q (F0 m 59 ls [.int x1, .int 1, .ref (ad 0)]) := by
    intro x1 R1 bx1
    refine lv_iconst (v := 1) (pc := 59) hx hb dzM_ask_59 (by decide) ?_
    refine xk_allVI (As := [.int 1, .int x1, .int 1]) (rest := []) (H0 := s.heap) (pc := 60) hx hb hml hts hown hK hA hP hD hS (kzM_goes l G ac ad g0 1 x1 1 (B + 0) Ig0 (by omega)) vfzM_114 (fun _ => rfl) 0 rfl rfl ⟨rfl, rfl⟩ ⟨Nat.le_of_ble_eq_true rfl, Nat.le_of_ble_eq_true rfl⟩ rfl hl.1 rfl (Nat.le_of_ble_eq_true rfl) ⟨Nat.zero_le _, Nat.zero_le _⟩ dzM_ask_60 (fun r2 g1 H locs hg1 hP hD hS => ?_)
    have hP : va_P G xk_cls (xk_wM ad ac g1) H := hP
    have hD : va_D A (xk_wM ad ac g1) := hD
    have Ig1 : xk_cnt (B + 0) g1 := xk_cnt_le (iczM_goes (B + 0) _ _ _ _ _ _ hg1 Ig0) (by omega)
    have K2 : ∀ (g7 : xk_St) (H : Heap) (locs : List Loc), (if r2 = 0 then (g7 = g1) else (∃ (g2 : xk_St), g2 = va_up g1 6 (upd (g1 6) 5 k2) ∧ (∃ (g3 : xk_St), g3 = va_up g2 7 (upd (g2 7) 5 0) ∧ (∃ (g4 : xk_St), g4 = va_up g3 8 (upd (g3 8) 5 0) ∧ (∃ (g5 : xk_St), g5 = va_up g4 9 (upd (g4 9) 5 0) ∧ (∃ (g6 : xk_St), g6 = va_up g5 10 (upd (g5 10) 5 0) ∧ (g7 = g6))))))) → (xk_cnt (B + 0) g7) → (va_P G xk_cls (xk_wM ad ac g7) H) → (va_D A (xk_wM ad ac g7)) → (va_S A s.heap H locs) → W p l e xk_r2 s m args below meth c H locs 0 0 Q (F0 m 106 ls []) := by
      intro g7 H locs R2 Ig7 hP hD hS
      exact hret g7 H locs 106 ls hP hS (by unfold relzM_ask_1_2; exact ⟨x1, R1, ⟨r2, g1, hg1, ⟨g7, R2, rfl⟩⟩⟩) dzM_ask_106
    refine lv_if_eq (pc := 63) (tgt := 106) hx hb dzM_ask_63 (by decide) (fun h2 => ?_) (fun h2 => ?_)
    ·
      exact K2 g1 H locs (Eq.mpr (if_pos h2) rfl) (xk_cnt_le Ig1 (by omega)) hP hD hS
    ·
      refine lv_aload_n (pc := 66) hx hb dzM_ask_66 rfl (lv_at hl 2 rfl) ?_
      refine xk_get (pc := 67) hx hb hts hown hK hP ffzM_26 0 rfl rfl dzM_ask_67 ?_
      refine lv_iload (pc := 70) hx hb dzM_ask_70 (lv_at hl 0 rfl) ?_
      refine lv_iload_n (pc := 72) hx hb dzM_ask_72 rfl (lv_at hl 5 rfl) ?_
      refine xk_iast (q0 := 6) (t0 := 0) (j := 5) (pc := 73) hx hb hK hP hD hS rfl rfl (pk_in 5 6 (by decide)) (pk_cl 5) dzM_ask_73 (fun H locs hP hD hS => ?_)
      obtain ⟨g2, eg2⟩ : ∃ z : xk_St, z = va_up g1 6 (upd (g1 6) 5 k2) := ⟨_, rfl⟩
      have hP : va_P G xk_cls (xk_wM ad ac g2) H := by rw [eg2]; exact hP
      have hD : va_D A (xk_wM ad ac g2) := by rw [eg2]; exact hD
      have Ig2 : xk_cnt (B + 0) g2 := by rw [eg2]; repeat (first | exact Ig1 | refine xk_cnt_k (by decide) ?_ | refine xk_cnt_f (by decide) ?_ | refine xk_cnt_s ?_)
      refine lv_aload_n (pc := 74) hx hb dzM_ask_74 rfl (lv_at hl 2 rfl) ?_
      refine xk_get (pc := 75) hx hb hts hown hK hP ffzM_29 0 rfl rfl dzM_ask_75 ?_
      refine lv_iload (pc := 78) hx hb dzM_ask_78 (lv_at hl 0 rfl) ?_
      refine lv_iconst (v := 0) (pc := 80) hx hb dzM_ask_80 (by decide) ?_
      refine xk_iast (q0 := 7) (t0 := 0) (j := 5) (pc := 81) hx hb hK hP hD hS rfl rfl (pk_in 5 6 (by decide)) (pk_cl 5) dzM_ask_81 (fun H locs hP hD hS => ?_)
      obtain ⟨g3, eg3⟩ : ∃ z : xk_St, z = va_up g2 7 (upd (g2 7) 5 0) := ⟨_, rfl⟩
      have hP : va_P G xk_cls (xk_wM ad ac g3) H := by rw [eg3]; exact hP
      have hD : va_D A (xk_wM ad ac g3) := by rw [eg3]; exact hD
      have Ig3 : xk_cnt (B + 0) g3 := by rw [eg3]; repeat (first | exact Ig2 | refine xk_cnt_k (by decide) ?_ | refine xk_cnt_f (by decide) ?_ | refine xk_cnt_s ?_)
      refine lv_aload_n (pc := 82) hx hb dzM_ask_82 rfl (lv_at hl 2 rfl) ?_
      refine xk_get (pc := 83) hx hb hts hown hK hP ffzM_32 0 rfl rfl dzM_ask_83 ?_
      refine lv_iload (pc := 86) hx hb dzM_ask_86 (lv_at hl 0 rfl) ?_
      refine lv_iconst (v := 0) (pc := 88) hx hb dzM_ask_88 (by decide) ?_
      refine xk_iast (q0 := 8) (t0 := 0) (j := 5) (pc := 89) hx hb hK hP hD hS rfl rfl (pk_in 5 6 (by decide)) (pk_cl 5) dzM_ask_89 (fun H locs hP hD hS => ?_)
      obtain ⟨g4, eg4⟩ : ∃ z : xk_St, z = va_up g3 8 (upd (g3 8) 5 0) := ⟨_, rfl⟩
      have hP : va_P G xk_cls (xk_wM ad ac g4) H := by rw [eg4]; exact hP
      have hD : va_D A (xk_wM ad ac g4) := by rw [eg4]; exact hD
      have Ig4 : xk_cnt (B + 0) g4 := by rw [eg4]; repeat (first | exact Ig3 | refine xk_cnt_k (by decide) ?_ | refine xk_cnt_f (by decide) ?_ | refine xk_cnt_s ?_)
      refine lv_aload_n (pc := 90) hx hb dzM_ask_90 rfl (lv_at hl 2 rfl) ?_
      refine xk_get (pc := 91) hx hb hts hown hK hP ffzM_35 0 rfl rfl dzM_ask_91 ?_
      refine lv_iload (pc := 94) hx hb dzM_ask_94 (lv_at hl 0 rfl) ?_
      refine lv_iconst (v := 0) (pc := 96) hx hb dzM_ask_96 (by decide) ?_
      refine xk_iast (q0 := 9) (t0 := 0) (j := 5) (pc := 97) hx hb hK hP hD hS rfl rfl (pk_in 5 6 (by decide)) (pk_cl 5) dzM_ask_97 (fun H locs hP hD hS => ?_)
      obtain ⟨g5, eg5⟩ : ∃ z : xk_St, z = va_up g4 9 (upd (g4 9) 5 0) := ⟨_, rfl⟩
      have hP : va_P G xk_cls (xk_wM ad ac g5) H := by rw [eg5]; exact hP
      have hD : va_D A (xk_wM ad ac g5) := by rw [eg5]; exact hD
      have Ig5 : xk_cnt (B + 0) g5 := by rw [eg5]; repeat (first | exact Ig4 | refine xk_cnt_k (by decide) ?_ | refine xk_cnt_f (by decide) ?_ | refine xk_cnt_s ?_)
      refine lv_aload_n (pc := 98) hx hb dzM_ask_98 rfl (lv_at hl 2 rfl) ?_
      refine xk_get (pc := 99) hx hb hts hown hK hP ffzM_38 0 rfl rfl dzM_ask_99 ?_
      refine lv_iload (pc := 102) hx hb dzM_ask_102 (lv_at hl 0 rfl) ?_
      refine lv_iconst (v := 0) (pc := 104) hx hb dzM_ask_104 (by decide) ?_
      refine xk_iast (q0 := 10) (t0 := 0) (j := 5) (pc := 105) hx hb hK hP hD hS rfl rfl (pk_in 5 6 (by decide)) (pk_cl 5) dzM_ask_105 (fun H locs hP hD hS => ?_)
      obtain ⟨g6, eg6⟩ : ∃ z : xk_St, z = va_up g5 10 (upd (g5 10) 5 0) := ⟨_, rfl⟩
      have hP : va_P G xk_cls (xk_wM ad ac g6) H := by rw [eg6]; exact hP
      have hD : va_D A (xk_wM ad ac g6) := by rw [eg6]; exact hD
      have Ig6 : xk_cnt (B + 0) g6 := by rw [eg6]; repeat (first | exact Ig5 | refine xk_cnt_k (by decide) ?_ | refine xk_cnt_f (by decide) ?_ | refine xk_cnt_s ?_)
      exact K2 g6 H locs (Eq.mpr (if_neg h2) ⟨g2, eg2, ⟨g3, eg3, ⟨g4, eg4, ⟨g5, eg5, ⟨g6, eg6, rfl⟩⟩⟩⟩⟩) (xk_cnt_le Ig6 (by omega)) hP hD hS
  refine lv_if_eq (pc := 51) (tgt := 58) hx hb dzM_ask_51 (by decide) (fun h1 => ?_) (fun h1 => ?_)
  ·
    refine lv_iconst (v := 0) (pc := 58) hx hb dzM_ask_58 (by decide) ?_
    exact K1 0 (Eq.mpr (if_pos h1) rfl) xk_b0
  ·
    refine lv_iconst (v := 1) (pc := 54) hx hb dzM_ask_54 (by decide) ?_
    refine lv_goto (tgt := 59) (pc := 55) hx hb dzM_ask_55 (by decide) ?_
    exact K1 1 (Eq.mpr (if_neg h1) rfl) xk_b1
theorem frzM_ask_1_2 (g0 : xk_St) (k2 : Int32) (gz : xk_St) : relzM_ask_1_2 g0 k2 gz → xk_eqv [1, 2, 3, 4, 5, 11, 12, 13, 14, 15, 16, 17, 18, 19, 20, 21, 22, 23, 24, 25, 26, 27] g0 gz := by
  intro h
  unfold relzM_ask_1_2 at h
  have s0 : xk_eqv [1, 2, 3, 4, 5, 11, 12, 13, 14, 15, 16, 17, 18, 19, 20, 21, 22, 23, 24, 25, 26, 27] g0 g0 := xk_eqv_rf
  obtain ⟨x1, u1, v2⟩ := h
  obtain ⟨r2, g1, u3, v4⟩ := v2
  have s5 : xk_eqv [1, 2, 3, 4, 5, 11, 12, 13, 14, 15, 16, 17, 18, 19, 20, 21, 22, 23, 24, 25, 26, 27] g0 g1 := xk_eqv_tr s0 (xk_eqv_sub (frzM_goes _ _ _ _ _ _ u3) (by decide))
  obtain ⟨g7, u6, v7⟩ := v4
  have s8 : xk_eqv [1, 2, 3, 4, 5, 11, 12, 13, 14, 15, 16, 17, 18, 19, 20, 21, 22, 23, 24, 25, 26, 27] g0 g7 := by
    by_cases hc : r2 = 0
    · rw [if_pos hc] at u6
      rw [u6]; exact s5
    · rw [if_neg hc] at u6
      obtain ⟨g2, u9, v10⟩ := u6
      have s11 : xk_eqv [1, 2, 3, 4, 5, 11, 12, 13, 14, 15, 16, 17, 18, 19, 20, 21, 22, 23, 24, 25, 26, 27] g0 g2 := by rw [u9]; repeat (first | exact s5 | refine xk_eqv_up (by decide) ?_)
      obtain ⟨g3, u12, v13⟩ := v10
      have s14 : xk_eqv [1, 2, 3, 4, 5, 11, 12, 13, 14, 15, 16, 17, 18, 19, 20, 21, 22, 23, 24, 25, 26, 27] g0 g3 := by rw [u12]; repeat (first | exact s11 | refine xk_eqv_up (by decide) ?_)
      obtain ⟨g4, u15, v16⟩ := v13
      have s17 : xk_eqv [1, 2, 3, 4, 5, 11, 12, 13, 14, 15, 16, 17, 18, 19, 20, 21, 22, 23, 24, 25, 26, 27] g0 g4 := by rw [u15]; repeat (first | exact s14 | refine xk_eqv_up (by decide) ?_)
      obtain ⟨g5, u18, v19⟩ := v16
      have s20 : xk_eqv [1, 2, 3, 4, 5, 11, 12, 13, 14, 15, 16, 17, 18, 19, 20, 21, 22, 23, 24, 25, 26, 27] g0 g5 := by rw [u18]; repeat (first | exact s17 | refine xk_eqv_up (by decide) ?_)
      obtain ⟨g6, u21, v22⟩ := v19
      have s23 : xk_eqv [1, 2, 3, 4, 5, 11, 12, 13, 14, 15, 16, 17, 18, 19, 20, 21, 22, 23, 24, 25, 26, 27] g0 g6 := by rw [u21]; repeat (first | exact s20 | refine xk_eqv_up (by decide) ?_)
      rw [v22]; exact s23
  rw [v7]; exact s8
theorem iczM_ask_1_2 (B : Nat) (g0 : xk_St) (k2 : Int32) (gz : xk_St) : relzM_ask_1_2 g0 k2 gz → xk_cnt B g0 → xk_cnt (B + 0) gz := by
  intro h Ig0
  unfold relzM_ask_1_2 at h
  have Ig0 : xk_cnt (B + 0) g0 := Ig0
  obtain ⟨x1, u1, v2⟩ := h
  obtain ⟨r2, g1, u3, v4⟩ := v2
  have Ig1 : xk_cnt (B + 0) g1 := xk_cnt_le (iczM_goes (B + 0) _ _ _ _ _ _ u3 Ig0) (by omega)
  obtain ⟨g7, u5, v6⟩ := v4
  have Ig7 : xk_cnt (B + 0) g7 := by
    by_cases hc : r2 = 0
    · rw [if_pos hc] at u5
      rw [u5]; exact xk_cnt_le Ig1 (by omega)
    · rw [if_neg hc] at u5
      obtain ⟨g2, u7, v8⟩ := u5
      have Ig2 : xk_cnt (B + 0) g2 := by rw [u7]; repeat (first | exact Ig1 | refine xk_cnt_k (by decide) ?_ | refine xk_cnt_f (by decide) ?_ | refine xk_cnt_s ?_)
      obtain ⟨g3, u9, v10⟩ := v8
      have Ig3 : xk_cnt (B + 0) g3 := by rw [u9]; repeat (first | exact Ig2 | refine xk_cnt_k (by decide) ?_ | refine xk_cnt_f (by decide) ?_ | refine xk_cnt_s ?_)
      obtain ⟨g4, u11, v12⟩ := v10
      have Ig4 : xk_cnt (B + 0) g4 := by rw [u11]; repeat (first | exact Ig3 | refine xk_cnt_k (by decide) ?_ | refine xk_cnt_f (by decide) ?_ | refine xk_cnt_s ?_)
      obtain ⟨g5, u13, v14⟩ := v12
      have Ig5 : xk_cnt (B + 0) g5 := by rw [u13]; repeat (first | exact Ig4 | refine xk_cnt_k (by decide) ?_ | refine xk_cnt_f (by decide) ?_ | refine xk_cnt_s ?_)
      obtain ⟨g6, u15, v16⟩ := v14
      have Ig6 : xk_cnt (B + 0) g6 := by rw [u15]; repeat (first | exact Ig5 | refine xk_cnt_k (by decide) ?_ | refine xk_cnt_f (by decide) ?_ | refine xk_cnt_s ?_)
      rw [v16]; exact xk_cnt_le Ig6 (by omega)
  rw [v6]; exact xk_cnt_le Ig7 (by omega)

def relzM_confirm_bad (g0 : xk_St) (rz : Int32) (gz : xk_St) : Prop := ∃ (r2 : Int32) (g1 : xk_St), relzM_goes_0 g0 r2 g1 ∧ (rz = 0 ∧ xk_b rz ∧ gz = g1)
set_option maxHeartbeats 4000000 in
set_option maxRecDepth 100000 in
theorem kzM_confirm_bad (l : Launch) (G : va_G) (ac : Nat → ClassId) (ad : Nat → Nat) (g0 : xk_St) (k0 : Int32) (k1 : Int32) (k2 : Int32) (B : Nat) (hq : qzM_isSection k0 k1 = 0) (Ig0 : xk_cnt B g0) (hB : B + 1 < 2147483648) : xk_CI l yzM_confirm czM_confirm 7 .boolean xk_WS xk_r2 G xk_cls (xk_tys ac) [.ref (ad 0), .int k0, .int k1, .int k2] (xk_wM ad ac g0) (fun rz (gz : xk_St) => relzM_confirm_bad g0 rz gz) (fun gz => xk_wM ad ac gz) := by
  refine xk_ofI (by decide) (Nat.le_of_ble_eq_true rfl) ?_
  intro p e s m args below meth c A Q H locs ls C0 hret hP hD hS hl
  obtain ⟨hx, hb, hml, hts, hown, hK, hA⟩ := C0
  have hl : lv_has ls 7 [(0, .ref (ad 0)), (1, .int k0), (2, .int k1), (3, .int k2)] := hl
  have Ig0 : xk_cnt (B + 0) g0 := Ig0
  refine lv_iload_n (pc := 0) hx hb dzM_confirm_0 rfl (lv_at hl 1 rfl) ?_
  refine lv_iload_n (pc := 1) hx hb dzM_confirm_1 rfl (lv_at hl 2 rfl) ?_
  refine xk_callSI (As := [.int k0, .int k1]) (rest := []) (H0 := s.heap) (pc := 2) hx hb hml hts hown hK hA hP hD hS (kzM_isSection l G ac k0 k1) sfzM_132 [] (by decide) rfl (fun _ => rfl) ⟨rfl, rfl⟩ ⟨Nat.le_of_ble_eq_true rfl, Nat.le_of_ble_eq_true rfl⟩ rfl hl.1 rfl (Nat.le_of_ble_eq_true rfl) ⟨Nat.zero_le _, Nat.zero_le _⟩ dzM_confirm_2 (fun r1 u9 H locs e9 hP hD hS => ?_)
  obtain rfl : r1 = qzM_isSection k0 k1 := e9
  refine xk_is (y := 0) hq ?_
  have hP : va_P G xk_cls (xk_wM ad ac g0) H := hP
  have hD : va_D A (xk_wM ad ac g0) := hD
  refine lv_if_eq (pc := 5) (tgt := 17) hx hb dzM_confirm_5 (by decide) (fun _ => ?_) (fun hq9 => absurd (by decide) hq9)
  refine lv_iconst (v := 0) (pc := 17) hx hb dzM_confirm_17 (by decide) ?_
  refine lv_istore (lv' := [(4, .int 0), (0, .ref (ad 0)), (1, .int k0), (2, .int k1), (3, .int k2)]) (pc := 18) hx hb dzM_confirm_18 hl (by decide) rfl (fun ls hl => ?_)
  refine lv_iload (pc := 20) hx hb dzM_confirm_20 (lv_at hl 0 rfl) ?_
  refine lv_if_eq (pc := 22) (tgt := 33) hx hb dzM_confirm_22 (by decide) (fun _ => ?_) (fun hq9 => absurd (by decide) hq9)
  refine lv_iconst (v := 0) (pc := 33) hx hb dzM_confirm_33 (by decide) ?_
  refine lv_istore (lv' := [(5, .int 0), (4, .int 0), (0, .ref (ad 0)), (1, .int k0), (2, .int k1), (3, .int k2)]) (pc := 34) hx hb dzM_confirm_34 hl (by decide) rfl (fun ls hl => ?_)
  refine lv_aload_n (pc := 36) hx hb dzM_confirm_36 rfl (lv_at hl 2 rfl) ?_
  refine lv_iload (pc := 37) hx hb dzM_confirm_37 (lv_at hl 1 rfl) ?_
  refine lv_iload (pc := 39) hx hb dzM_confirm_39 (lv_at hl 1 rfl) ?_
  refine lv_if_eq (pc := 41) (tgt := 69) hx hb dzM_confirm_41 (by decide) (fun _ => ?_) (fun hq9 => absurd (by decide) hq9)
  refine lv_iconst (v := 0) (pc := 69) hx hb dzM_confirm_69 (by decide) ?_
  refine lv_iconst (v := 1) (pc := 70) hx hb dzM_confirm_70 (by decide) ?_
  refine xk_allVI (As := [.int 0, .int 0, .int 1]) (rest := []) (H0 := s.heap) (pc := 71) hx hb hml hts hown hK hA hP hD hS (kzM_goes_0 l G ac ad g0 0 1 (B + 0) Ig0 (by omega)) vfzM_114 (fun _ => rfl) 0 rfl rfl ⟨rfl, rfl⟩ ⟨Nat.le_of_ble_eq_true rfl, Nat.le_of_ble_eq_true rfl⟩ rfl hl.1 rfl (Nat.le_of_ble_eq_true rfl) ⟨Nat.zero_le _, Nat.zero_le _⟩ dzM_confirm_71 (fun r2 g1 H locs hg1 hP hD hS => ?_)
  have qr2 : r2 = 0 := rczM_goes_0 _ _ _ hg1
  refine xk_is (y := 0) qr2 ?_
  have hP : va_P G xk_cls (xk_wM ad ac g1) H := hP
  have hD : va_D A (xk_wM ad ac g1) := hD
  have Ig1 : xk_cnt (B + 0) g1 := xk_cnt_le (iczM_goes_0 (B + 0) _ _ _ hg1 Ig0) (by omega)
  refine lv_if_ne (pc := 74) (tgt := 79) hx hb dzM_confirm_74 (by decide) (fun hq9 => absurd (by decide) hq9) (fun _ => ?_)
  refine lv_iconst (v := 0) (pc := 77) hx hb dzM_confirm_77 (by decide) ?_
  exact hret _ g1 H locs 78 ls hP hS (xk_bn xk_b0) (by unfold relzM_confirm_bad; exact ⟨r2, g1, hg1, ⟨rfl, xk_b0, rfl⟩⟩) dzM_confirm_78
theorem frzM_confirm_bad (g0 : xk_St) (rz : Int32) (gz : xk_St) : relzM_confirm_bad g0 rz gz → xk_eqv [1, 2, 3, 4, 5, 6, 7, 8, 9, 10, 11, 12, 13, 14, 15, 16, 17, 18, 19, 20, 21, 22, 23, 24, 25, 26, 27] g0 gz := by
  intro h
  unfold relzM_confirm_bad at h
  have s0 : xk_eqv [1, 2, 3, 4, 5, 6, 7, 8, 9, 10, 11, 12, 13, 14, 15, 16, 17, 18, 19, 20, 21, 22, 23, 24, 25, 26, 27] g0 g0 := xk_eqv_rf
  obtain ⟨r2, g1, u1, v2⟩ := h
  have s3 : xk_eqv [1, 2, 3, 4, 5, 6, 7, 8, 9, 10, 11, 12, 13, 14, 15, 16, 17, 18, 19, 20, 21, 22, 23, 24, 25, 26, 27] g0 g1 := xk_eqv_tr s0 (xk_eqv_sub (frzM_goes_0 _ _ _ u1) (by decide))
  rw [v2.2.2]; exact s3
theorem iczM_confirm_bad (B : Nat) (g0 : xk_St) (rz : Int32) (gz : xk_St) : relzM_confirm_bad g0 rz gz → xk_cnt B g0 → xk_cnt (B + 0) gz := by
  intro h Ig0
  unfold relzM_confirm_bad at h
  have Ig0 : xk_cnt (B + 0) g0 := Ig0
  obtain ⟨r2, g1, u1, v2⟩ := h
  have Ig1 : xk_cnt (B + 0) g1 := xk_cnt_le (iczM_goes_0 (B + 0) _ _ _ u1 Ig0) (by omega)
  rw [v2.2.2]; exact xk_cnt_le Ig1 (by omega)
theorem rczM_confirm_bad (g0 : xk_St) (rz : Int32) (gz : xk_St) : relzM_confirm_bad g0 rz gz → rz = 0 := by
  intro h
  unfold relzM_confirm_bad at h
  obtain ⟨_, _, _, v1⟩ := h
  exact v1.1

def relzM_confirm_who (g0 : xk_St) (rz : Int32) (gz : xk_St) : Prop := ∃ (r2 : Int32) (g1 : xk_St), relzM_goes_0 g0 r2 g1 ∧ (rz = 0 ∧ xk_b rz ∧ gz = g1)
set_option maxHeartbeats 4000000 in
set_option maxRecDepth 100000 in
theorem kzM_confirm_who (l : Launch) (G : va_G) (ac : Nat → ClassId) (ad : Nat → Nat) (g0 : xk_St) (k0 : Int32) (k1 : Int32) (k2 : Int32) (B : Nat) (hq : qzM_isSection k0 k1 = 1) (hw : k2 < 1) (Ig0 : xk_cnt B g0) (hB : B + 1 < 2147483648) : xk_CI l yzM_confirm czM_confirm 7 .boolean xk_WS xk_r2 G xk_cls (xk_tys ac) [.ref (ad 0), .int k0, .int k1, .int k2] (xk_wM ad ac g0) (fun rz (gz : xk_St) => relzM_confirm_who g0 rz gz) (fun gz => xk_wM ad ac gz) := by
  refine xk_ofI (by decide) (Nat.le_of_ble_eq_true rfl) ?_
  intro p e s m args below meth c A Q H locs ls C0 hret hP hD hS hl
  obtain ⟨hx, hb, hml, hts, hown, hK, hA⟩ := C0
  have hl : lv_has ls 7 [(0, .ref (ad 0)), (1, .int k0), (2, .int k1), (3, .int k2)] := hl
  have Ig0 : xk_cnt (B + 0) g0 := Ig0
  refine lv_iload_n (pc := 0) hx hb dzM_confirm_0 rfl (lv_at hl 1 rfl) ?_
  refine lv_iload_n (pc := 1) hx hb dzM_confirm_1 rfl (lv_at hl 2 rfl) ?_
  refine xk_callSI (As := [.int k0, .int k1]) (rest := []) (H0 := s.heap) (pc := 2) hx hb hml hts hown hK hA hP hD hS (kzM_isSection l G ac k0 k1) sfzM_132 [] (by decide) rfl (fun _ => rfl) ⟨rfl, rfl⟩ ⟨Nat.le_of_ble_eq_true rfl, Nat.le_of_ble_eq_true rfl⟩ rfl hl.1 rfl (Nat.le_of_ble_eq_true rfl) ⟨Nat.zero_le _, Nat.zero_le _⟩ dzM_confirm_2 (fun r1 u9 H locs e9 hP hD hS => ?_)
  obtain rfl : r1 = qzM_isSection k0 k1 := e9
  refine xk_is (y := 1) hq ?_
  have hP : va_P G xk_cls (xk_wM ad ac g0) H := hP
  have hD : va_D A (xk_wM ad ac g0) := hD
  refine lv_if_eq (pc := 5) (tgt := 17) hx hb dzM_confirm_5 (by decide) (fun hq9 => absurd hq9 (by decide)) (fun _ => ?_)
  refine lv_iload_n (pc := 8) hx hb dzM_confirm_8 rfl (lv_at hl 3 rfl) ?_
  refine lv_iconst (v := 1) (pc := 9) hx hb dzM_confirm_9 (by decide) ?_
  refine lv_icmp_lt (pc := 10) (tgt := 17) hx hb dzM_confirm_10 (by decide) (fun _ => ?_) (fun hq9 => absurd hw hq9)
  refine lv_iconst (v := 0) (pc := 17) hx hb dzM_confirm_17 (by decide) ?_
  refine lv_istore (lv' := [(4, .int 0), (0, .ref (ad 0)), (1, .int k0), (2, .int k1), (3, .int k2)]) (pc := 18) hx hb dzM_confirm_18 hl (by decide) rfl (fun ls hl => ?_)
  refine lv_iload (pc := 20) hx hb dzM_confirm_20 (lv_at hl 0 rfl) ?_
  refine lv_if_eq (pc := 22) (tgt := 33) hx hb dzM_confirm_22 (by decide) (fun _ => ?_) (fun hq9 => absurd (by decide) hq9)
  refine lv_iconst (v := 0) (pc := 33) hx hb dzM_confirm_33 (by decide) ?_
  refine lv_istore (lv' := [(5, .int 0), (4, .int 0), (0, .ref (ad 0)), (1, .int k0), (2, .int k1), (3, .int k2)]) (pc := 34) hx hb dzM_confirm_34 hl (by decide) rfl (fun ls hl => ?_)
  refine lv_aload_n (pc := 36) hx hb dzM_confirm_36 rfl (lv_at hl 2 rfl) ?_
  refine lv_iload (pc := 37) hx hb dzM_confirm_37 (lv_at hl 1 rfl) ?_
  refine lv_iload (pc := 39) hx hb dzM_confirm_39 (lv_at hl 1 rfl) ?_
  refine lv_if_eq (pc := 41) (tgt := 69) hx hb dzM_confirm_41 (by decide) (fun _ => ?_) (fun hq9 => absurd (by decide) hq9)
  refine lv_iconst (v := 0) (pc := 69) hx hb dzM_confirm_69 (by decide) ?_
  refine lv_iconst (v := 1) (pc := 70) hx hb dzM_confirm_70 (by decide) ?_
  refine xk_allVI (As := [.int 0, .int 0, .int 1]) (rest := []) (H0 := s.heap) (pc := 71) hx hb hml hts hown hK hA hP hD hS (kzM_goes_0 l G ac ad g0 0 1 (B + 0) Ig0 (by omega)) vfzM_114 (fun _ => rfl) 0 rfl rfl ⟨rfl, rfl⟩ ⟨Nat.le_of_ble_eq_true rfl, Nat.le_of_ble_eq_true rfl⟩ rfl hl.1 rfl (Nat.le_of_ble_eq_true rfl) ⟨Nat.zero_le _, Nat.zero_le _⟩ dzM_confirm_71 (fun r2 g1 H locs hg1 hP hD hS => ?_)
  have qr2 : r2 = 0 := rczM_goes_0 _ _ _ hg1
  refine xk_is (y := 0) qr2 ?_
  have hP : va_P G xk_cls (xk_wM ad ac g1) H := hP
  have hD : va_D A (xk_wM ad ac g1) := hD
  have Ig1 : xk_cnt (B + 0) g1 := xk_cnt_le (iczM_goes_0 (B + 0) _ _ _ hg1 Ig0) (by omega)
  refine lv_if_ne (pc := 74) (tgt := 79) hx hb dzM_confirm_74 (by decide) (fun hq9 => absurd (by decide) hq9) (fun _ => ?_)
  refine lv_iconst (v := 0) (pc := 77) hx hb dzM_confirm_77 (by decide) ?_
  exact hret _ g1 H locs 78 ls hP hS (xk_bn xk_b0) (by unfold relzM_confirm_who; exact ⟨r2, g1, hg1, ⟨rfl, xk_b0, rfl⟩⟩) dzM_confirm_78
theorem frzM_confirm_who (g0 : xk_St) (rz : Int32) (gz : xk_St) : relzM_confirm_who g0 rz gz → xk_eqv [1, 2, 3, 4, 5, 6, 7, 8, 9, 10, 11, 12, 13, 14, 15, 16, 17, 18, 19, 20, 21, 22, 23, 24, 25, 26, 27] g0 gz := by
  intro h
  unfold relzM_confirm_who at h
  have s0 : xk_eqv [1, 2, 3, 4, 5, 6, 7, 8, 9, 10, 11, 12, 13, 14, 15, 16, 17, 18, 19, 20, 21, 22, 23, 24, 25, 26, 27] g0 g0 := xk_eqv_rf
  obtain ⟨r2, g1, u1, v2⟩ := h
  have s3 : xk_eqv [1, 2, 3, 4, 5, 6, 7, 8, 9, 10, 11, 12, 13, 14, 15, 16, 17, 18, 19, 20, 21, 22, 23, 24, 25, 26, 27] g0 g1 := xk_eqv_tr s0 (xk_eqv_sub (frzM_goes_0 _ _ _ u1) (by decide))
  rw [v2.2.2]; exact s3
theorem iczM_confirm_who (B : Nat) (g0 : xk_St) (rz : Int32) (gz : xk_St) : relzM_confirm_who g0 rz gz → xk_cnt B g0 → xk_cnt (B + 0) gz := by
  intro h Ig0
  unfold relzM_confirm_who at h
  have Ig0 : xk_cnt (B + 0) g0 := Ig0
  obtain ⟨r2, g1, u1, v2⟩ := h
  have Ig1 : xk_cnt (B + 0) g1 := xk_cnt_le (iczM_goes_0 (B + 0) _ _ _ u1 Ig0) (by omega)
  rw [v2.2.2]; exact xk_cnt_le Ig1 (by omega)
theorem rczM_confirm_who (g0 : xk_St) (rz : Int32) (gz : xk_St) : relzM_confirm_who g0 rz gz → rz = 0 := by
  intro h
  unfold relzM_confirm_who at h
  obtain ⟨_, _, _, v1⟩ := h
  exact v1.1

def relzM_confirm_0_0 (g0 : xk_St) (k2 : Int32) (rz : Int32) (gz : xk_St) : Prop := ∃ (x1 : Int32), (if ((g0 6) 0) = 0 then (x1 = 0) else (if ((g0 6) 0) = k2 then (x1 = 0) else (x1 = 1))) ∧ (∃ (r2 : Int32) (g1 : xk_St), relzM_goes g0 1 x1 1 r2 g1 ∧ (if r2 = 0 then (rz = 0 ∧ xk_b rz ∧ gz = g1) else (∃ (x2 : Int32), (if (qzM_swept_0 g1) = 0 then (x2 = 0) else (if ((g1 2) 0) = 0 then (if ((g1 2) 1) = 0 then (x2 = 1) else (x2 = 0)) else (x2 = 0))) ∧ (∃ (g6 : xk_St), (if x2 = 0 then (g6 = g1) else (∃ (g2 : xk_St), g2 = va_up g1 5 (upd (g1 5) 0 0) ∧ (∃ (g3 : xk_St), g3 = va_up g2 3 (upd (g2 3) 0 0) ∧ (∃ (g4 : xk_St), g4 = va_up g3 6 (upd (g3 6) 0 0) ∧ (∃ (g5 : xk_St), relzM_note g4 2 0 g5 ∧ (g6 = g5)))))) ∧ (rz = x2 ∧ xk_b rz ∧ gz = g6)))))
set_option maxHeartbeats 4000000 in
set_option maxRecDepth 100000 in
theorem kzM_confirm_0_0 (l : Launch) (G : va_G) (ac : Nat → ClassId) (ad : Nat → Nat) (g0 : xk_St) (k2 : Int32) (B : Nat) (hw : ¬ k2 < 1) (Ig0 : xk_cnt B g0) (hB : B + 2 < 2147483648) : xk_CI l yzM_confirm czM_confirm 7 .boolean xk_WS xk_r2 G xk_cls (xk_tys ac) [.ref (ad 0), .int 0, .int 0, .int k2] (xk_wM ad ac g0) (fun rz (gz : xk_St) => relzM_confirm_0_0 g0 k2 rz gz) (fun gz => xk_wM ad ac gz) := by
  refine xk_ofI (by decide) (Nat.le_of_ble_eq_true rfl) ?_
  intro p e s m args below meth c A Q H locs ls C0 hret hP hD hS hl
  obtain ⟨hx, hb, hml, hts, hown, hK, hA⟩ := C0
  have hl : lv_has ls 7 [(0, .ref (ad 0)), (1, .int 0), (2, .int 0), (3, .int k2)] := hl
  have Ig0 : xk_cnt (B + 0) g0 := Ig0
  refine lv_iload_n (pc := 0) hx hb dzM_confirm_0 rfl (lv_at hl 1 rfl) ?_
  refine lv_iload_n (pc := 1) hx hb dzM_confirm_1 rfl (lv_at hl 2 rfl) ?_
  refine xk_callSI (As := [.int 0, .int 0]) (rest := []) (H0 := s.heap) (pc := 2) hx hb hml hts hown hK hA hP hD hS (kzM_isSection l G ac 0 0) sfzM_132 [] (by decide) rfl (fun _ => rfl) ⟨rfl, rfl⟩ ⟨Nat.le_of_ble_eq_true rfl, Nat.le_of_ble_eq_true rfl⟩ rfl hl.1 rfl (Nat.le_of_ble_eq_true rfl) ⟨Nat.zero_le _, Nat.zero_le _⟩ dzM_confirm_2 (fun r1 u9 H locs e9 hP hD hS => ?_)
  obtain rfl : r1 = qzM_isSection 0 0 := e9
  refine xk_is (y := 1) (by decide) ?_
  have hP : va_P G xk_cls (xk_wM ad ac g0) H := hP
  have hD : va_D A (xk_wM ad ac g0) := hD
  refine lv_if_eq (pc := 5) (tgt := 17) hx hb dzM_confirm_5 (by decide) (fun hq9 => absurd hq9 (by decide)) (fun _ => ?_)
  refine lv_iload_n (pc := 8) hx hb dzM_confirm_8 rfl (lv_at hl 3 rfl) ?_
  refine lv_iconst (v := 1) (pc := 9) hx hb dzM_confirm_9 (by decide) ?_
  refine lv_icmp_lt (pc := 10) (tgt := 17) hx hb dzM_confirm_10 (by decide) (fun hq9 => absurd hq9 hw) (fun _ => ?_)
  refine lv_iconst (v := 1) (pc := 13) hx hb dzM_confirm_13 (by decide) ?_
  refine lv_goto (tgt := 18) (pc := 14) hx hb dzM_confirm_14 (by decide) ?_
  refine lv_istore (lv' := [(4, .int 1), (0, .ref (ad 0)), (1, .int 0), (2, .int 0), (3, .int k2)]) (pc := 18) hx hb dzM_confirm_18 hl (by decide) rfl (fun ls hl => ?_)
  refine lv_iload (pc := 20) hx hb dzM_confirm_20 (lv_at hl 0 rfl) ?_
  refine lv_if_eq (pc := 22) (tgt := 33) hx hb dzM_confirm_22 (by decide) (fun hq9 => absurd hq9 (by decide)) (fun _ => ?_)
  refine lv_iconst (v := 3) (pc := 25) hx hb dzM_confirm_25 (by decide) ?_
  refine lv_iload_n (pc := 26) hx hb dzM_confirm_26 rfl (lv_at hl 2 rfl) ?_
  refine lv_imul (pc := 27) hx hb dzM_confirm_27 ?_
  refine xk_is (y := 0) (by decide) ?_
  refine lv_iload_n (pc := 28) hx hb dzM_confirm_28 rfl (lv_at hl 3 rfl) ?_
  refine lv_iadd (pc := 29) hx hb dzM_confirm_29 ?_
  refine xk_is (y := 0) (by decide) ?_
  refine lv_goto (tgt := 34) (pc := 30) hx hb dzM_confirm_30 (by decide) ?_
  refine lv_istore (lv' := [(5, .int 0), (4, .int 1), (0, .ref (ad 0)), (1, .int 0), (2, .int 0), (3, .int k2)]) (pc := 34) hx hb dzM_confirm_34 hl (by decide) rfl (fun ls hl => ?_)
  refine lv_aload_n (pc := 36) hx hb dzM_confirm_36 rfl (lv_at hl 2 rfl) ?_
  refine lv_iload (pc := 37) hx hb dzM_confirm_37 (lv_at hl 1 rfl) ?_
  refine lv_iload (pc := 39) hx hb dzM_confirm_39 (lv_at hl 1 rfl) ?_
  refine lv_if_eq (pc := 41) (tgt := 69) hx hb dzM_confirm_41 (by decide) (fun hq9 => absurd hq9 (by decide)) (fun _ => ?_)
  refine lv_aload_n (pc := 44) hx hb dzM_confirm_44 rfl (lv_at hl 2 rfl) ?_
  refine xk_get (pc := 45) hx hb hts hown hK hP ffzM_26 0 rfl rfl dzM_confirm_45 ?_
  refine lv_iload (pc := 48) hx hb dzM_confirm_48 (lv_at hl 0 rfl) ?_
  refine xk_iald (q0 := 6) (t0 := 0) (j := 0) (pc := 50) hx hb hK hP rfl rfl (pk_in 0 6 (by decide)) (pk_cl 0) dzM_confirm_50 ?_
  have K1 : ∀ (x1 : Int32), (if ((g0 6) 0) = 0 then (x1 = 0) else (if ((g0 6) 0) = k2 then (x1 = 0) else (x1 = 1))) → (xk_b x1) → W p l e xk_r2 s m args below meth c H locs 0 0 Q (F0 m 70 ls [.int x1, .int 1, .ref (ad 0)]) := by
    intro x1 R1 bx1
    refine lv_iconst (v := 1) (pc := 70) hx hb dzM_confirm_70 (by decide) ?_
    refine xk_allVI (As := [.int 1, .int x1, .int 1]) (rest := []) (H0 := s.heap) (pc := 71) hx hb hml hts hown hK hA hP hD hS (kzM_goes l G ac ad g0 1 x1 1 (B + 0) Ig0 (by omega)) vfzM_114 (fun _ => rfl) 0 rfl rfl ⟨rfl, rfl⟩ ⟨Nat.le_of_ble_eq_true rfl, Nat.le_of_ble_eq_true rfl⟩ rfl hl.1 rfl (Nat.le_of_ble_eq_true rfl) ⟨Nat.zero_le _, Nat.zero_le _⟩ dzM_confirm_71 (fun r2 g1 H locs hg1 hP hD hS => ?_)
    have hP : va_P G xk_cls (xk_wM ad ac g1) H := hP
    have hD : va_D A (xk_wM ad ac g1) := hD
    have Ig1 : xk_cnt (B + 0) g1 := xk_cnt_le (iczM_goes (B + 0) _ _ _ _ _ _ hg1 Ig0) (by omega)
    refine lv_if_ne (pc := 74) (tgt := 79) hx hb dzM_confirm_74 (by decide) (fun h3 => ?_) (fun h3 => ?_)
    ·
      refine lv_aload_n (pc := 79) hx hb dzM_confirm_79 rfl (lv_at hl 2 rfl) ?_
      refine lv_iload (pc := 80) hx hb dzM_confirm_80 (lv_at hl 0 rfl) ?_
      refine xk_allVI (As := [.int 0]) (rest := []) (H0 := s.heap) (pc := 82) hx hb hml hts hown hK hA hP hD hS (kzM_swept_0 l G ac ad g1) vfzM_135 (fun _ => rfl) 0 rfl rfl ⟨rfl, rfl⟩ ⟨Nat.le_of_ble_eq_true rfl, Nat.le_of_ble_eq_true rfl⟩ rfl hl.1 rfl (Nat.le_of_ble_eq_true rfl) ⟨Nat.zero_le _, Nat.zero_le _⟩ dzM_confirm_82 (fun r3 u9 H locs e9 hP hD hS => ?_)
      obtain rfl : r3 = qzM_swept_0 g1 := e9
      have hP : va_P G xk_cls (xk_wM ad ac g1) H := hP
      have hD : va_D A (xk_wM ad ac g1) := hD
      have K2 : ∀ (x2 : Int32), (if (qzM_swept_0 g1) = 0 then (x2 = 0) else (if ((g1 2) 0) = 0 then (if ((g1 2) 1) = 0 then (x2 = 1) else (x2 = 0)) else (x2 = 0))) → (xk_b x2) → W p l e xk_r2 s m args below meth c H locs 0 0 Q (F0 m 121 ls [.int x2]) := by
        intro x2 R2 bx2
        refine lv_istore (lv' := [(6, .int x2), (5, .int 0), (4, .int 1), (0, .ref (ad 0)), (1, .int 0), (2, .int 0), (3, .int k2)]) (pc := 121) hx hb dzM_confirm_121 hl (by decide) rfl (fun ls hl => ?_)
        refine lv_iload (pc := 123) hx hb dzM_confirm_123 (lv_at hl 0 rfl) ?_
        have K3 : ∀ (g6 : xk_St) (H : Heap) (locs : List Loc), (if x2 = 0 then (g6 = g1) else (∃ (g2 : xk_St), g2 = va_up g1 5 (upd (g1 5) 0 0) ∧ (∃ (g3 : xk_St), g3 = va_up g2 3 (upd (g2 3) 0 0) ∧ (∃ (g4 : xk_St), g4 = va_up g3 6 (upd (g3 6) 0 0) ∧ (∃ (g5 : xk_St), relzM_note g4 2 0 g5 ∧ (g6 = g5)))))) → (xk_cnt (B + 1) g6) → (va_P G xk_cls (xk_wM ad ac g6) H) → (va_D A (xk_wM ad ac g6)) → (va_S A s.heap H locs) → W p l e xk_r2 s m args below meth c H locs 0 0 Q (F0 m 159 ls []) := by
          intro g6 H locs R3 Ig6 hP hD hS
          refine lv_iload (pc := 159) hx hb dzM_confirm_159 (lv_at hl 0 rfl) ?_
          exact hret _ g6 H locs 161 ls hP hS (xk_bn bx2) (by unfold relzM_confirm_0_0; exact ⟨x1, R1, ⟨r2, g1, hg1, (Eq.mpr (if_neg h3) ⟨x2, R2, ⟨g6, R3, ⟨rfl, bx2, rfl⟩⟩⟩)⟩⟩) dzM_confirm_161
        refine lv_if_eq (pc := 125) (tgt := 159) hx hb dzM_confirm_125 (by decide) (fun h7 => ?_) (fun h7 => ?_)
        ·
          exact K3 g1 H locs (Eq.mpr (if_pos h7) rfl) (xk_cnt_le Ig1 (by omega)) hP hD hS
        ·
          refine lv_aload_n (pc := 128) hx hb dzM_confirm_128 rfl (lv_at hl 3 rfl) ?_
          refine xk_get (pc := 129) hx hb hts hown hK hP ffzM_23 0 rfl rfl dzM_confirm_129 ?_
          refine lv_iload (pc := 132) hx hb dzM_confirm_132 (lv_at hl 1 rfl) ?_
          refine lv_iconst (v := 0) (pc := 134) hx hb dzM_confirm_134 (by decide) ?_
          refine xk_zast (q0 := 5) (t0 := 1) (j := 0) (pc := 135) hx hb hK hP hD hS rfl rfl (pk_in 0 6 (by decide)) (pk_cl 0) xk_b0 dzM_confirm_135 (fun H locs hP hD hS => ?_)
          obtain ⟨g2, eg2⟩ : ∃ z : xk_St, z = va_up g1 5 (upd (g1 5) 0 0) := ⟨_, rfl⟩
          have hP : va_P G xk_cls (xk_wM ad ac g2) H := by rw [eg2]; exact hP
          have hD : va_D A (xk_wM ad ac g2) := by rw [eg2]; exact hD
          have Ig2 : xk_cnt (B + 0) g2 := by rw [eg2]; repeat (first | exact Ig1 | refine xk_cnt_k (by decide) ?_ | refine xk_cnt_f (by decide) ?_ | refine xk_cnt_s ?_)
          refine lv_aload_n (pc := 136) hx hb dzM_confirm_136 rfl (lv_at hl 3 rfl) ?_
          refine xk_get (pc := 137) hx hb hts hown hK hP ffzM_17 0 rfl rfl dzM_confirm_137 ?_
          refine lv_iload (pc := 140) hx hb dzM_confirm_140 (lv_at hl 1 rfl) ?_
          refine lv_iconst (v := 0) (pc := 142) hx hb dzM_confirm_142 (by decide) ?_
          refine xk_iast (q0 := 3) (t0 := 0) (j := 0) (pc := 143) hx hb hK hP hD hS rfl rfl (pk_in 0 6 (by decide)) (pk_cl 0) dzM_confirm_143 (fun H locs hP hD hS => ?_)
          obtain ⟨g3, eg3⟩ : ∃ z : xk_St, z = va_up g2 3 (upd (g2 3) 0 0) := ⟨_, rfl⟩
          have hP : va_P G xk_cls (xk_wM ad ac g3) H := by rw [eg3]; exact hP
          have hD : va_D A (xk_wM ad ac g3) := by rw [eg3]; exact hD
          have Ig3 : xk_cnt (B + 0) g3 := by rw [eg3]; repeat (first | exact Ig2 | refine xk_cnt_k (by decide) ?_ | refine xk_cnt_f (by decide) ?_ | refine xk_cnt_s ?_)
          refine lv_aload_n (pc := 144) hx hb dzM_confirm_144 rfl (lv_at hl 3 rfl) ?_
          refine xk_get (pc := 145) hx hb hts hown hK hP ffzM_26 0 rfl rfl dzM_confirm_145 ?_
          refine lv_iload (pc := 148) hx hb dzM_confirm_148 (lv_at hl 1 rfl) ?_
          refine lv_iconst (v := 0) (pc := 150) hx hb dzM_confirm_150 (by decide) ?_
          refine xk_iast (q0 := 6) (t0 := 0) (j := 0) (pc := 151) hx hb hK hP hD hS rfl rfl (pk_in 0 6 (by decide)) (pk_cl 0) dzM_confirm_151 (fun H locs hP hD hS => ?_)
          obtain ⟨g4, eg4⟩ : ∃ z : xk_St, z = va_up g3 6 (upd (g3 6) 0 0) := ⟨_, rfl⟩
          have hP : va_P G xk_cls (xk_wM ad ac g4) H := by rw [eg4]; exact hP
          have hD : va_D A (xk_wM ad ac g4) := by rw [eg4]; exact hD
          have Ig4 : xk_cnt (B + 0) g4 := by rw [eg4]; repeat (first | exact Ig3 | refine xk_cnt_k (by decide) ?_ | refine xk_cnt_f (by decide) ?_ | refine xk_cnt_s ?_)
          refine lv_aload_n (pc := 152) hx hb dzM_confirm_152 rfl (lv_at hl 3 rfl) ?_
          refine lv_iconst (v := 2) (pc := 153) hx hb dzM_confirm_153 (by decide) ?_
          refine lv_iload (pc := 154) hx hb dzM_confirm_154 (lv_at hl 1 rfl) ?_
          refine xk_allVV (As := [.int 2, .int 0]) (rest := []) (H0 := s.heap) (pc := 156) hx hb hml hts hown hK hA hP hD hS (kzM_note l G ac ad g4 2 0 (B + 0) Ig4 (by omega)) vfzM_106 (fun _ => rfl) 0 rfl rfl ⟨rfl, rfl⟩ ⟨Nat.le_of_ble_eq_true rfl, Nat.le_of_ble_eq_true rfl⟩ rfl hl.1 rfl (Nat.le_of_ble_eq_true rfl) ⟨Nat.zero_le _, Nat.zero_le _⟩ dzM_confirm_156 (fun g5 H locs hg5 hP hD hS => ?_)
          have hP : va_P G xk_cls (xk_wM ad ac g5) H := hP
          have hD : va_D A (xk_wM ad ac g5) := hD
          have Ig5 : xk_cnt (B + 1) g5 := xk_cnt_le (iczM_note (B + 0) _ _ _ _ hg5 Ig4) (by omega)
          exact K3 g5 H locs (Eq.mpr (if_neg h7) ⟨g2, eg2, ⟨g3, eg3, ⟨g4, eg4, ⟨g5, hg5, rfl⟩⟩⟩⟩) (xk_cnt_le Ig5 (by omega)) hP hD hS
      refine lv_if_eq (pc := 85) (tgt := 120) hx hb dzM_confirm_85 (by decide) (fun h4 => ?_) (fun h4 => ?_)
      ·
        refine lv_iconst (v := 0) (pc := 120) hx hb dzM_confirm_120 (by decide) ?_
        exact K2 0 (Eq.mpr (if_pos h4) rfl) xk_b0
      ·
        refine lv_aload_n (pc := 88) hx hb dzM_confirm_88 rfl (lv_at hl 2 rfl) ?_
        refine xk_get (pc := 89) hx hb hts hown hK hP ffzM_13 0 rfl rfl dzM_confirm_89 ?_
        refine lv_iconst (v := 4) (pc := 92) hx hb dzM_confirm_92 (by decide) ?_
        refine lv_iload_n (pc := 93) hx hb dzM_confirm_93 rfl (lv_at hl 3 rfl) ?_
        refine lv_imul (pc := 94) hx hb dzM_confirm_94 ?_
        refine xk_is (y := 0) (by decide) ?_
        refine lv_iload_n (pc := 95) hx hb dzM_confirm_95 rfl (lv_at hl 4 rfl) ?_
        refine lv_iadd (pc := 96) hx hb dzM_confirm_96 ?_
        refine xk_is (y := 0) (by decide) ?_
        refine xk_zald (q0 := 2) (t0 := 1) (j := 0) (pc := 97) hx hb hK hP rfl rfl (pk_in 0 8 (by decide)) (pk_cl 0) dzM_confirm_97 ?_
        refine lv_if_ne (pc := 98) (tgt := 120) hx hb dzM_confirm_98 (by decide) (fun h5 => ?_) (fun h5 => ?_)
        ·
          refine lv_iconst (v := 0) (pc := 120) hx hb dzM_confirm_120 (by decide) ?_
          exact K2 0 (Eq.mpr (if_neg h4) (Eq.mpr (if_neg h5) rfl)) xk_b0
        ·
          refine lv_aload_n (pc := 101) hx hb dzM_confirm_101 rfl (lv_at hl 2 rfl) ?_
          refine xk_get (pc := 102) hx hb hts hown hK hP ffzM_13 0 rfl rfl dzM_confirm_102 ?_
          refine lv_iconst (v := 4) (pc := 105) hx hb dzM_confirm_105 (by decide) ?_
          refine lv_iload_n (pc := 106) hx hb dzM_confirm_106 rfl (lv_at hl 3 rfl) ?_
          refine lv_imul (pc := 107) hx hb dzM_confirm_107 ?_
          refine xk_is (y := 0) (by decide) ?_
          refine lv_iload_n (pc := 108) hx hb dzM_confirm_108 rfl (lv_at hl 4 rfl) ?_
          refine lv_iadd (pc := 109) hx hb dzM_confirm_109 ?_
          refine xk_is (y := 0) (by decide) ?_
          refine lv_iconst (v := 1) (pc := 110) hx hb dzM_confirm_110 (by decide) ?_
          refine lv_iadd (pc := 111) hx hb dzM_confirm_111 ?_
          refine xk_is (y := 1) (by decide) ?_
          refine xk_zald (q0 := 2) (t0 := 1) (j := 1) (pc := 112) hx hb hK hP rfl rfl (pk_in 1 8 (by decide)) (pk_cl 1) dzM_confirm_112 ?_
          refine lv_if_ne (pc := 113) (tgt := 120) hx hb dzM_confirm_113 (by decide) (fun h6 => ?_) (fun h6 => ?_)
          ·
            refine lv_iconst (v := 0) (pc := 120) hx hb dzM_confirm_120 (by decide) ?_
            exact K2 0 (Eq.mpr (if_neg h4) (Eq.mpr (if_pos h5) (Eq.mpr (if_neg h6) rfl))) xk_b0
          ·
            refine lv_iconst (v := 1) (pc := 116) hx hb dzM_confirm_116 (by decide) ?_
            refine lv_goto (tgt := 121) (pc := 117) hx hb dzM_confirm_117 (by decide) ?_
            exact K2 1 (Eq.mpr (if_neg h4) (Eq.mpr (if_pos h5) (Eq.mpr (if_pos h6) rfl))) xk_b1
    ·
      refine lv_iconst (v := 0) (pc := 77) hx hb dzM_confirm_77 (by decide) ?_
      exact hret _ g1 H locs 78 ls hP hS (xk_bn xk_b0) (by unfold relzM_confirm_0_0; exact ⟨x1, R1, ⟨r2, g1, hg1, (Eq.mpr (if_pos h3) ⟨rfl, xk_b0, rfl⟩)⟩⟩) dzM_confirm_78
  refine lv_if_eq (pc := 51) (tgt := 69) hx hb dzM_confirm_51 (by decide) (fun h1 => ?_) (fun h1 => ?_)
  ·
    refine lv_iconst (v := 0) (pc := 69) hx hb dzM_confirm_69 (by decide) ?_
    exact K1 0 (Eq.mpr (if_pos h1) rfl) xk_b0
  ·
    refine lv_aload_n (pc := 54) hx hb dzM_confirm_54 rfl (lv_at hl 2 rfl) ?_
    refine xk_get (pc := 55) hx hb hts hown hK hP ffzM_26 0 rfl rfl dzM_confirm_55 ?_
    refine lv_iload (pc := 58) hx hb dzM_confirm_58 (lv_at hl 0 rfl) ?_
    refine xk_iald (q0 := 6) (t0 := 0) (j := 0) (pc := 60) hx hb hK hP rfl rfl (pk_in 0 6 (by decide)) (pk_cl 0) dzM_confirm_60 ?_
    refine lv_iload_n (pc := 61) hx hb dzM_confirm_61 rfl (lv_at hl 5 rfl) ?_
    refine lv_icmp_eq (pc := 62) (tgt := 69) hx hb dzM_confirm_62 (by decide) (fun h2 => ?_) (fun h2 => ?_)
    ·
      refine lv_iconst (v := 0) (pc := 69) hx hb dzM_confirm_69 (by decide) ?_
      exact K1 0 (Eq.mpr (if_neg h1) (Eq.mpr (if_pos h2) rfl)) xk_b0
    ·
      refine lv_iconst (v := 1) (pc := 65) hx hb dzM_confirm_65 (by decide) ?_
      refine lv_goto (tgt := 70) (pc := 66) hx hb dzM_confirm_66 (by decide) ?_
      exact K1 1 (Eq.mpr (if_neg h1) (Eq.mpr (if_neg h2) rfl)) xk_b1
theorem frzM_confirm_0_0 (g0 : xk_St) (k2 : Int32) (rz : Int32) (gz : xk_St) : relzM_confirm_0_0 g0 k2 rz gz → xk_eqv [1, 2, 4, 7, 8, 9, 10, 11, 12, 13, 14, 15, 16, 17, 18, 19, 20, 21, 22, 23, 24] g0 gz := by
  intro h
  unfold relzM_confirm_0_0 at h
  have s0 : xk_eqv [1, 2, 4, 7, 8, 9, 10, 11, 12, 13, 14, 15, 16, 17, 18, 19, 20, 21, 22, 23, 24] g0 g0 := xk_eqv_rf
  obtain ⟨x1, u1, v2⟩ := h
  obtain ⟨r2, g1, u3, v4⟩ := v2
  have s5 : xk_eqv [1, 2, 4, 7, 8, 9, 10, 11, 12, 13, 14, 15, 16, 17, 18, 19, 20, 21, 22, 23, 24] g0 g1 := xk_eqv_tr s0 (xk_eqv_sub (frzM_goes _ _ _ _ _ _ u3) (by decide))
  by_cases hc : r2 = 0
  · rw [if_pos hc] at v4
    rw [v4.2.2]; exact s5
  · rw [if_neg hc] at v4
    obtain ⟨x2, u6, v7⟩ := v4
    obtain ⟨g6, u8, v9⟩ := v7
    have s10 : xk_eqv [1, 2, 4, 7, 8, 9, 10, 11, 12, 13, 14, 15, 16, 17, 18, 19, 20, 21, 22, 23, 24] g0 g6 := by
      by_cases hc : x2 = 0
      · rw [if_pos hc] at u8
        rw [u8]; exact s5
      · rw [if_neg hc] at u8
        obtain ⟨g2, u11, v12⟩ := u8
        have s13 : xk_eqv [1, 2, 4, 7, 8, 9, 10, 11, 12, 13, 14, 15, 16, 17, 18, 19, 20, 21, 22, 23, 24] g0 g2 := by rw [u11]; repeat (first | exact s5 | refine xk_eqv_up (by decide) ?_)
        obtain ⟨g3, u14, v15⟩ := v12
        have s16 : xk_eqv [1, 2, 4, 7, 8, 9, 10, 11, 12, 13, 14, 15, 16, 17, 18, 19, 20, 21, 22, 23, 24] g0 g3 := by rw [u14]; repeat (first | exact s13 | refine xk_eqv_up (by decide) ?_)
        obtain ⟨g4, u17, v18⟩ := v15
        have s19 : xk_eqv [1, 2, 4, 7, 8, 9, 10, 11, 12, 13, 14, 15, 16, 17, 18, 19, 20, 21, 22, 23, 24] g0 g4 := by rw [u17]; repeat (first | exact s16 | refine xk_eqv_up (by decide) ?_)
        obtain ⟨g5, u20, v21⟩ := v18
        have s22 : xk_eqv [1, 2, 4, 7, 8, 9, 10, 11, 12, 13, 14, 15, 16, 17, 18, 19, 20, 21, 22, 23, 24] g0 g5 := xk_eqv_tr s19 (xk_eqv_sub (frzM_note _ _ _ _ u20) (by decide))
        rw [v21]; exact s22
    rw [v9.2.2]; exact s10
theorem iczM_confirm_0_0 (B : Nat) (g0 : xk_St) (k2 : Int32) (rz : Int32) (gz : xk_St) : relzM_confirm_0_0 g0 k2 rz gz → xk_cnt B g0 → xk_cnt (B + 1) gz := by
  intro h Ig0
  unfold relzM_confirm_0_0 at h
  have Ig0 : xk_cnt (B + 0) g0 := Ig0
  obtain ⟨x1, u1, v2⟩ := h
  obtain ⟨r2, g1, u3, v4⟩ := v2
  have Ig1 : xk_cnt (B + 0) g1 := xk_cnt_le (iczM_goes (B + 0) _ _ _ _ _ _ u3 Ig0) (by omega)
  by_cases hc : r2 = 0
  · rw [if_pos hc] at v4
    rw [v4.2.2]; exact xk_cnt_le Ig1 (by omega)
  · rw [if_neg hc] at v4
    obtain ⟨x2, u5, v6⟩ := v4
    obtain ⟨g6, u7, v8⟩ := v6
    have Ig6 : xk_cnt (B + 1) g6 := by
      by_cases hc : x2 = 0
      · rw [if_pos hc] at u7
        rw [u7]; exact xk_cnt_le Ig1 (by omega)
      · rw [if_neg hc] at u7
        obtain ⟨g2, u9, v10⟩ := u7
        have Ig2 : xk_cnt (B + 0) g2 := by rw [u9]; repeat (first | exact Ig1 | refine xk_cnt_k (by decide) ?_ | refine xk_cnt_f (by decide) ?_ | refine xk_cnt_s ?_)
        obtain ⟨g3, u11, v12⟩ := v10
        have Ig3 : xk_cnt (B + 0) g3 := by rw [u11]; repeat (first | exact Ig2 | refine xk_cnt_k (by decide) ?_ | refine xk_cnt_f (by decide) ?_ | refine xk_cnt_s ?_)
        obtain ⟨g4, u13, v14⟩ := v12
        have Ig4 : xk_cnt (B + 0) g4 := by rw [u13]; repeat (first | exact Ig3 | refine xk_cnt_k (by decide) ?_ | refine xk_cnt_f (by decide) ?_ | refine xk_cnt_s ?_)
        obtain ⟨g5, u15, v16⟩ := v14
        have Ig5 : xk_cnt (B + 1) g5 := xk_cnt_le (iczM_note (B + 0) _ _ _ _ u15 Ig4) (by omega)
        rw [v16]; exact xk_cnt_le Ig5 (by omega)
    rw [v8.2.2]; exact xk_cnt_le Ig6 (by omega)

def relzM_confirm_0_1 (g0 : xk_St) (k2 : Int32) (rz : Int32) (gz : xk_St) : Prop := ∃ (x1 : Int32), (if ((g0 6) 1) = 0 then (x1 = 0) else (if ((g0 6) 1) = k2 then (x1 = 0) else (x1 = 1))) ∧ (∃ (r2 : Int32) (g1 : xk_St), relzM_goes g0 1 x1 1 r2 g1 ∧ (if r2 = 0 then (rz = 0 ∧ xk_b rz ∧ gz = g1) else (∃ (x2 : Int32), (if (qzM_swept_1 g1) = 0 then (x2 = 0) else (if ((g1 2) 1) = 0 then (if ((g1 2) 2) = 0 then (x2 = 1) else (x2 = 0)) else (x2 = 0))) ∧ (∃ (g6 : xk_St), (if x2 = 0 then (g6 = g1) else (∃ (g2 : xk_St), g2 = va_up g1 5 (upd (g1 5) 1 0) ∧ (∃ (g3 : xk_St), g3 = va_up g2 3 (upd (g2 3) 1 0) ∧ (∃ (g4 : xk_St), g4 = va_up g3 6 (upd (g3 6) 1 0) ∧ (∃ (g5 : xk_St), relzM_note g4 2 1 g5 ∧ (g6 = g5)))))) ∧ (rz = x2 ∧ xk_b rz ∧ gz = g6)))))
set_option maxHeartbeats 4000000 in
set_option maxRecDepth 100000 in
theorem kzM_confirm_0_1 (l : Launch) (G : va_G) (ac : Nat → ClassId) (ad : Nat → Nat) (g0 : xk_St) (k2 : Int32) (B : Nat) (hw : ¬ k2 < 1) (Ig0 : xk_cnt B g0) (hB : B + 2 < 2147483648) : xk_CI l yzM_confirm czM_confirm 7 .boolean xk_WS xk_r2 G xk_cls (xk_tys ac) [.ref (ad 0), .int 0, .int 1, .int k2] (xk_wM ad ac g0) (fun rz (gz : xk_St) => relzM_confirm_0_1 g0 k2 rz gz) (fun gz => xk_wM ad ac gz) := by
  refine xk_ofI (by decide) (Nat.le_of_ble_eq_true rfl) ?_
  intro p e s m args below meth c A Q H locs ls C0 hret hP hD hS hl
  obtain ⟨hx, hb, hml, hts, hown, hK, hA⟩ := C0
  have hl : lv_has ls 7 [(0, .ref (ad 0)), (1, .int 0), (2, .int 1), (3, .int k2)] := hl
  have Ig0 : xk_cnt (B + 0) g0 := Ig0
  refine lv_iload_n (pc := 0) hx hb dzM_confirm_0 rfl (lv_at hl 1 rfl) ?_
  refine lv_iload_n (pc := 1) hx hb dzM_confirm_1 rfl (lv_at hl 2 rfl) ?_
  refine xk_callSI (As := [.int 0, .int 1]) (rest := []) (H0 := s.heap) (pc := 2) hx hb hml hts hown hK hA hP hD hS (kzM_isSection l G ac 0 1) sfzM_132 [] (by decide) rfl (fun _ => rfl) ⟨rfl, rfl⟩ ⟨Nat.le_of_ble_eq_true rfl, Nat.le_of_ble_eq_true rfl⟩ rfl hl.1 rfl (Nat.le_of_ble_eq_true rfl) ⟨Nat.zero_le _, Nat.zero_le _⟩ dzM_confirm_2 (fun r1 u9 H locs e9 hP hD hS => ?_)
  obtain rfl : r1 = qzM_isSection 0 1 := e9
  refine xk_is (y := 1) (by decide) ?_
  have hP : va_P G xk_cls (xk_wM ad ac g0) H := hP
  have hD : va_D A (xk_wM ad ac g0) := hD
  refine lv_if_eq (pc := 5) (tgt := 17) hx hb dzM_confirm_5 (by decide) (fun hq9 => absurd hq9 (by decide)) (fun _ => ?_)
  refine lv_iload_n (pc := 8) hx hb dzM_confirm_8 rfl (lv_at hl 3 rfl) ?_
  refine lv_iconst (v := 1) (pc := 9) hx hb dzM_confirm_9 (by decide) ?_
  refine lv_icmp_lt (pc := 10) (tgt := 17) hx hb dzM_confirm_10 (by decide) (fun hq9 => absurd hq9 hw) (fun _ => ?_)
  refine lv_iconst (v := 1) (pc := 13) hx hb dzM_confirm_13 (by decide) ?_
  refine lv_goto (tgt := 18) (pc := 14) hx hb dzM_confirm_14 (by decide) ?_
  refine lv_istore (lv' := [(4, .int 1), (0, .ref (ad 0)), (1, .int 0), (2, .int 1), (3, .int k2)]) (pc := 18) hx hb dzM_confirm_18 hl (by decide) rfl (fun ls hl => ?_)
  refine lv_iload (pc := 20) hx hb dzM_confirm_20 (lv_at hl 0 rfl) ?_
  refine lv_if_eq (pc := 22) (tgt := 33) hx hb dzM_confirm_22 (by decide) (fun hq9 => absurd hq9 (by decide)) (fun _ => ?_)
  refine lv_iconst (v := 3) (pc := 25) hx hb dzM_confirm_25 (by decide) ?_
  refine lv_iload_n (pc := 26) hx hb dzM_confirm_26 rfl (lv_at hl 2 rfl) ?_
  refine lv_imul (pc := 27) hx hb dzM_confirm_27 ?_
  refine xk_is (y := 0) (by decide) ?_
  refine lv_iload_n (pc := 28) hx hb dzM_confirm_28 rfl (lv_at hl 3 rfl) ?_
  refine lv_iadd (pc := 29) hx hb dzM_confirm_29 ?_
  refine xk_is (y := 1) (by decide) ?_
  refine lv_goto (tgt := 34) (pc := 30) hx hb dzM_confirm_30 (by decide) ?_
  refine lv_istore (lv' := [(5, .int 1), (4, .int 1), (0, .ref (ad 0)), (1, .int 0), (2, .int 1), (3, .int k2)]) (pc := 34) hx hb dzM_confirm_34 hl (by decide) rfl (fun ls hl => ?_)
  refine lv_aload_n (pc := 36) hx hb dzM_confirm_36 rfl (lv_at hl 2 rfl) ?_
  refine lv_iload (pc := 37) hx hb dzM_confirm_37 (lv_at hl 1 rfl) ?_
  refine lv_iload (pc := 39) hx hb dzM_confirm_39 (lv_at hl 1 rfl) ?_
  refine lv_if_eq (pc := 41) (tgt := 69) hx hb dzM_confirm_41 (by decide) (fun hq9 => absurd hq9 (by decide)) (fun _ => ?_)
  refine lv_aload_n (pc := 44) hx hb dzM_confirm_44 rfl (lv_at hl 2 rfl) ?_
  refine xk_get (pc := 45) hx hb hts hown hK hP ffzM_26 0 rfl rfl dzM_confirm_45 ?_
  refine lv_iload (pc := 48) hx hb dzM_confirm_48 (lv_at hl 0 rfl) ?_
  refine xk_iald (q0 := 6) (t0 := 0) (j := 1) (pc := 50) hx hb hK hP rfl rfl (pk_in 1 6 (by decide)) (pk_cl 1) dzM_confirm_50 ?_
  have K1 : ∀ (x1 : Int32), (if ((g0 6) 1) = 0 then (x1 = 0) else (if ((g0 6) 1) = k2 then (x1 = 0) else (x1 = 1))) → (xk_b x1) → W p l e xk_r2 s m args below meth c H locs 0 0 Q (F0 m 70 ls [.int x1, .int 1, .ref (ad 0)]) := by
    intro x1 R1 bx1
    refine lv_iconst (v := 1) (pc := 70) hx hb dzM_confirm_70 (by decide) ?_
    refine xk_allVI (As := [.int 1, .int x1, .int 1]) (rest := []) (H0 := s.heap) (pc := 71) hx hb hml hts hown hK hA hP hD hS (kzM_goes l G ac ad g0 1 x1 1 (B + 0) Ig0 (by omega)) vfzM_114 (fun _ => rfl) 0 rfl rfl ⟨rfl, rfl⟩ ⟨Nat.le_of_ble_eq_true rfl, Nat.le_of_ble_eq_true rfl⟩ rfl hl.1 rfl (Nat.le_of_ble_eq_true rfl) ⟨Nat.zero_le _, Nat.zero_le _⟩ dzM_confirm_71 (fun r2 g1 H locs hg1 hP hD hS => ?_)
    have hP : va_P G xk_cls (xk_wM ad ac g1) H := hP
    have hD : va_D A (xk_wM ad ac g1) := hD
    have Ig1 : xk_cnt (B + 0) g1 := xk_cnt_le (iczM_goes (B + 0) _ _ _ _ _ _ hg1 Ig0) (by omega)
    refine lv_if_ne (pc := 74) (tgt := 79) hx hb dzM_confirm_74 (by decide) (fun h3 => ?_) (fun h3 => ?_)
    ·
      refine lv_aload_n (pc := 79) hx hb dzM_confirm_79 rfl (lv_at hl 2 rfl) ?_
      refine lv_iload (pc := 80) hx hb dzM_confirm_80 (lv_at hl 0 rfl) ?_
      refine xk_allVI (As := [.int 1]) (rest := []) (H0 := s.heap) (pc := 82) hx hb hml hts hown hK hA hP hD hS (kzM_swept_1 l G ac ad g1) vfzM_135 (fun _ => rfl) 0 rfl rfl ⟨rfl, rfl⟩ ⟨Nat.le_of_ble_eq_true rfl, Nat.le_of_ble_eq_true rfl⟩ rfl hl.1 rfl (Nat.le_of_ble_eq_true rfl) ⟨Nat.zero_le _, Nat.zero_le _⟩ dzM_confirm_82 (fun r3 u9 H locs e9 hP hD hS => ?_)
      obtain rfl : r3 = qzM_swept_1 g1 := e9
      have hP : va_P G xk_cls (xk_wM ad ac g1) H := hP
      have hD : va_D A (xk_wM ad ac g1) := hD
      have K2 : ∀ (x2 : Int32), (if (qzM_swept_1 g1) = 0 then (x2 = 0) else (if ((g1 2) 1) = 0 then (if ((g1 2) 2) = 0 then (x2 = 1) else (x2 = 0)) else (x2 = 0))) → (xk_b x2) → W p l e xk_r2 s m args below meth c H locs 0 0 Q (F0 m 121 ls [.int x2]) := by
        intro x2 R2 bx2
        refine lv_istore (lv' := [(6, .int x2), (5, .int 1), (4, .int 1), (0, .ref (ad 0)), (1, .int 0), (2, .int 1), (3, .int k2)]) (pc := 121) hx hb dzM_confirm_121 hl (by decide) rfl (fun ls hl => ?_)
        refine lv_iload (pc := 123) hx hb dzM_confirm_123 (lv_at hl 0 rfl) ?_
        have K3 : ∀ (g6 : xk_St) (H : Heap) (locs : List Loc), (if x2 = 0 then (g6 = g1) else (∃ (g2 : xk_St), g2 = va_up g1 5 (upd (g1 5) 1 0) ∧ (∃ (g3 : xk_St), g3 = va_up g2 3 (upd (g2 3) 1 0) ∧ (∃ (g4 : xk_St), g4 = va_up g3 6 (upd (g3 6) 1 0) ∧ (∃ (g5 : xk_St), relzM_note g4 2 1 g5 ∧ (g6 = g5)))))) → (xk_cnt (B + 1) g6) → (va_P G xk_cls (xk_wM ad ac g6) H) → (va_D A (xk_wM ad ac g6)) → (va_S A s.heap H locs) → W p l e xk_r2 s m args below meth c H locs 0 0 Q (F0 m 159 ls []) := by
          intro g6 H locs R3 Ig6 hP hD hS
          refine lv_iload (pc := 159) hx hb dzM_confirm_159 (lv_at hl 0 rfl) ?_
          exact hret _ g6 H locs 161 ls hP hS (xk_bn bx2) (by unfold relzM_confirm_0_1; exact ⟨x1, R1, ⟨r2, g1, hg1, (Eq.mpr (if_neg h3) ⟨x2, R2, ⟨g6, R3, ⟨rfl, bx2, rfl⟩⟩⟩)⟩⟩) dzM_confirm_161
        refine lv_if_eq (pc := 125) (tgt := 159) hx hb dzM_confirm_125 (by decide) (fun h7 => ?_) (fun h7 => ?_)
        ·
          exact K3 g1 H locs (Eq.mpr (if_pos h7) rfl) (xk_cnt_le Ig1 (by omega)) hP hD hS
        ·
          refine lv_aload_n (pc := 128) hx hb dzM_confirm_128 rfl (lv_at hl 3 rfl) ?_
          refine xk_get (pc := 129) hx hb hts hown hK hP ffzM_23 0 rfl rfl dzM_confirm_129 ?_
          refine lv_iload (pc := 132) hx hb dzM_confirm_132 (lv_at hl 1 rfl) ?_
          refine lv_iconst (v := 0) (pc := 134) hx hb dzM_confirm_134 (by decide) ?_
          refine xk_zast (q0 := 5) (t0 := 1) (j := 1) (pc := 135) hx hb hK hP hD hS rfl rfl (pk_in 1 6 (by decide)) (pk_cl 1) xk_b0 dzM_confirm_135 (fun H locs hP hD hS => ?_)
          obtain ⟨g2, eg2⟩ : ∃ z : xk_St, z = va_up g1 5 (upd (g1 5) 1 0) := ⟨_, rfl⟩
          have hP : va_P G xk_cls (xk_wM ad ac g2) H := by rw [eg2]; exact hP
          have hD : va_D A (xk_wM ad ac g2) := by rw [eg2]; exact hD
          have Ig2 : xk_cnt (B + 0) g2 := by rw [eg2]; repeat (first | exact Ig1 | refine xk_cnt_k (by decide) ?_ | refine xk_cnt_f (by decide) ?_ | refine xk_cnt_s ?_)
          refine lv_aload_n (pc := 136) hx hb dzM_confirm_136 rfl (lv_at hl 3 rfl) ?_
          refine xk_get (pc := 137) hx hb hts hown hK hP ffzM_17 0 rfl rfl dzM_confirm_137 ?_
          refine lv_iload (pc := 140) hx hb dzM_confirm_140 (lv_at hl 1 rfl) ?_
          refine lv_iconst (v := 0) (pc := 142) hx hb dzM_confirm_142 (by decide) ?_
          refine xk_iast (q0 := 3) (t0 := 0) (j := 1) (pc := 143) hx hb hK hP hD hS rfl rfl (pk_in 1 6 (by decide)) (pk_cl 1) dzM_confirm_143 (fun H locs hP hD hS => ?_)
          obtain ⟨g3, eg3⟩ : ∃ z : xk_St, z = va_up g2 3 (upd (g2 3) 1 0) := ⟨_, rfl⟩
          have hP : va_P G xk_cls (xk_wM ad ac g3) H := by rw [eg3]; exact hP
          have hD : va_D A (xk_wM ad ac g3) := by rw [eg3]; exact hD
          have Ig3 : xk_cnt (B + 0) g3 := by rw [eg3]; repeat (first | exact Ig2 | refine xk_cnt_k (by decide) ?_ | refine xk_cnt_f (by decide) ?_ | refine xk_cnt_s ?_)
          refine lv_aload_n (pc := 144) hx hb dzM_confirm_144 rfl (lv_at hl 3 rfl) ?_
          refine xk_get (pc := 145) hx hb hts hown hK hP ffzM_26 0 rfl rfl dzM_confirm_145 ?_
          refine lv_iload (pc := 148) hx hb dzM_confirm_148 (lv_at hl 1 rfl) ?_
          refine lv_iconst (v := 0) (pc := 150) hx hb dzM_confirm_150 (by decide) ?_
          refine xk_iast (q0 := 6) (t0 := 0) (j := 1) (pc := 151) hx hb hK hP hD hS rfl rfl (pk_in 1 6 (by decide)) (pk_cl 1) dzM_confirm_151 (fun H locs hP hD hS => ?_)
          obtain ⟨g4, eg4⟩ : ∃ z : xk_St, z = va_up g3 6 (upd (g3 6) 1 0) := ⟨_, rfl⟩
          have hP : va_P G xk_cls (xk_wM ad ac g4) H := by rw [eg4]; exact hP
          have hD : va_D A (xk_wM ad ac g4) := by rw [eg4]; exact hD
          have Ig4 : xk_cnt (B + 0) g4 := by rw [eg4]; repeat (first | exact Ig3 | refine xk_cnt_k (by decide) ?_ | refine xk_cnt_f (by decide) ?_ | refine xk_cnt_s ?_)
          refine lv_aload_n (pc := 152) hx hb dzM_confirm_152 rfl (lv_at hl 3 rfl) ?_
          refine lv_iconst (v := 2) (pc := 153) hx hb dzM_confirm_153 (by decide) ?_
          refine lv_iload (pc := 154) hx hb dzM_confirm_154 (lv_at hl 1 rfl) ?_
          refine xk_allVV (As := [.int 2, .int 1]) (rest := []) (H0 := s.heap) (pc := 156) hx hb hml hts hown hK hA hP hD hS (kzM_note l G ac ad g4 2 1 (B + 0) Ig4 (by omega)) vfzM_106 (fun _ => rfl) 0 rfl rfl ⟨rfl, rfl⟩ ⟨Nat.le_of_ble_eq_true rfl, Nat.le_of_ble_eq_true rfl⟩ rfl hl.1 rfl (Nat.le_of_ble_eq_true rfl) ⟨Nat.zero_le _, Nat.zero_le _⟩ dzM_confirm_156 (fun g5 H locs hg5 hP hD hS => ?_)
          have hP : va_P G xk_cls (xk_wM ad ac g5) H := hP
          have hD : va_D A (xk_wM ad ac g5) := hD
          have Ig5 : xk_cnt (B + 1) g5 := xk_cnt_le (iczM_note (B + 0) _ _ _ _ hg5 Ig4) (by omega)
          exact K3 g5 H locs (Eq.mpr (if_neg h7) ⟨g2, eg2, ⟨g3, eg3, ⟨g4, eg4, ⟨g5, hg5, rfl⟩⟩⟩⟩) (xk_cnt_le Ig5 (by omega)) hP hD hS
      refine lv_if_eq (pc := 85) (tgt := 120) hx hb dzM_confirm_85 (by decide) (fun h4 => ?_) (fun h4 => ?_)
      ·
        refine lv_iconst (v := 0) (pc := 120) hx hb dzM_confirm_120 (by decide) ?_
        exact K2 0 (Eq.mpr (if_pos h4) rfl) xk_b0
      ·
        refine lv_aload_n (pc := 88) hx hb dzM_confirm_88 rfl (lv_at hl 2 rfl) ?_
        refine xk_get (pc := 89) hx hb hts hown hK hP ffzM_13 0 rfl rfl dzM_confirm_89 ?_
        refine lv_iconst (v := 4) (pc := 92) hx hb dzM_confirm_92 (by decide) ?_
        refine lv_iload_n (pc := 93) hx hb dzM_confirm_93 rfl (lv_at hl 3 rfl) ?_
        refine lv_imul (pc := 94) hx hb dzM_confirm_94 ?_
        refine xk_is (y := 0) (by decide) ?_
        refine lv_iload_n (pc := 95) hx hb dzM_confirm_95 rfl (lv_at hl 4 rfl) ?_
        refine lv_iadd (pc := 96) hx hb dzM_confirm_96 ?_
        refine xk_is (y := 1) (by decide) ?_
        refine xk_zald (q0 := 2) (t0 := 1) (j := 1) (pc := 97) hx hb hK hP rfl rfl (pk_in 1 8 (by decide)) (pk_cl 1) dzM_confirm_97 ?_
        refine lv_if_ne (pc := 98) (tgt := 120) hx hb dzM_confirm_98 (by decide) (fun h5 => ?_) (fun h5 => ?_)
        ·
          refine lv_iconst (v := 0) (pc := 120) hx hb dzM_confirm_120 (by decide) ?_
          exact K2 0 (Eq.mpr (if_neg h4) (Eq.mpr (if_neg h5) rfl)) xk_b0
        ·
          refine lv_aload_n (pc := 101) hx hb dzM_confirm_101 rfl (lv_at hl 2 rfl) ?_
          refine xk_get (pc := 102) hx hb hts hown hK hP ffzM_13 0 rfl rfl dzM_confirm_102 ?_
          refine lv_iconst (v := 4) (pc := 105) hx hb dzM_confirm_105 (by decide) ?_
          refine lv_iload_n (pc := 106) hx hb dzM_confirm_106 rfl (lv_at hl 3 rfl) ?_
          refine lv_imul (pc := 107) hx hb dzM_confirm_107 ?_
          refine xk_is (y := 0) (by decide) ?_
          refine lv_iload_n (pc := 108) hx hb dzM_confirm_108 rfl (lv_at hl 4 rfl) ?_
          refine lv_iadd (pc := 109) hx hb dzM_confirm_109 ?_
          refine xk_is (y := 1) (by decide) ?_
          refine lv_iconst (v := 1) (pc := 110) hx hb dzM_confirm_110 (by decide) ?_
          refine lv_iadd (pc := 111) hx hb dzM_confirm_111 ?_
          refine xk_is (y := 2) (by decide) ?_
          refine xk_zald (q0 := 2) (t0 := 1) (j := 2) (pc := 112) hx hb hK hP rfl rfl (pk_in 2 8 (by decide)) (pk_cl 2) dzM_confirm_112 ?_
          refine lv_if_ne (pc := 113) (tgt := 120) hx hb dzM_confirm_113 (by decide) (fun h6 => ?_) (fun h6 => ?_)
          ·
            refine lv_iconst (v := 0) (pc := 120) hx hb dzM_confirm_120 (by decide) ?_
            exact K2 0 (Eq.mpr (if_neg h4) (Eq.mpr (if_pos h5) (Eq.mpr (if_neg h6) rfl))) xk_b0
          ·
            refine lv_iconst (v := 1) (pc := 116) hx hb dzM_confirm_116 (by decide) ?_
            refine lv_goto (tgt := 121) (pc := 117) hx hb dzM_confirm_117 (by decide) ?_
            exact K2 1 (Eq.mpr (if_neg h4) (Eq.mpr (if_pos h5) (Eq.mpr (if_pos h6) rfl))) xk_b1
    ·
      refine lv_iconst (v := 0) (pc := 77) hx hb dzM_confirm_77 (by decide) ?_
      exact hret _ g1 H locs 78 ls hP hS (xk_bn xk_b0) (by unfold relzM_confirm_0_1; exact ⟨x1, R1, ⟨r2, g1, hg1, (Eq.mpr (if_pos h3) ⟨rfl, xk_b0, rfl⟩)⟩⟩) dzM_confirm_78
  refine lv_if_eq (pc := 51) (tgt := 69) hx hb dzM_confirm_51 (by decide) (fun h1 => ?_) (fun h1 => ?_)
  ·
    refine lv_iconst (v := 0) (pc := 69) hx hb dzM_confirm_69 (by decide) ?_
    exact K1 0 (Eq.mpr (if_pos h1) rfl) xk_b0
  ·
    refine lv_aload_n (pc := 54) hx hb dzM_confirm_54 rfl (lv_at hl 2 rfl) ?_
    refine xk_get (pc := 55) hx hb hts hown hK hP ffzM_26 0 rfl rfl dzM_confirm_55 ?_
    refine lv_iload (pc := 58) hx hb dzM_confirm_58 (lv_at hl 0 rfl) ?_
    refine xk_iald (q0 := 6) (t0 := 0) (j := 1) (pc := 60) hx hb hK hP rfl rfl (pk_in 1 6 (by decide)) (pk_cl 1) dzM_confirm_60 ?_
    refine lv_iload_n (pc := 61) hx hb dzM_confirm_61 rfl (lv_at hl 5 rfl) ?_
    refine lv_icmp_eq (pc := 62) (tgt := 69) hx hb dzM_confirm_62 (by decide) (fun h2 => ?_) (fun h2 => ?_)
    ·
      refine lv_iconst (v := 0) (pc := 69) hx hb dzM_confirm_69 (by decide) ?_
      exact K1 0 (Eq.mpr (if_neg h1) (Eq.mpr (if_pos h2) rfl)) xk_b0
    ·
      refine lv_iconst (v := 1) (pc := 65) hx hb dzM_confirm_65 (by decide) ?_
      refine lv_goto (tgt := 70) (pc := 66) hx hb dzM_confirm_66 (by decide) ?_
      exact K1 1 (Eq.mpr (if_neg h1) (Eq.mpr (if_neg h2) rfl)) xk_b1
theorem frzM_confirm_0_1 (g0 : xk_St) (k2 : Int32) (rz : Int32) (gz : xk_St) : relzM_confirm_0_1 g0 k2 rz gz → xk_eqv [1, 2, 4, 7, 8, 9, 10, 11, 12, 13, 14, 15, 16, 17, 18, 19, 20, 21, 22, 23, 24] g0 gz := by
  intro h
  unfold relzM_confirm_0_1 at h
  have s0 : xk_eqv [1, 2, 4, 7, 8, 9, 10, 11, 12, 13, 14, 15, 16, 17, 18, 19, 20, 21, 22, 23, 24] g0 g0 := xk_eqv_rf
  obtain ⟨x1, u1, v2⟩ := h
  obtain ⟨r2, g1, u3, v4⟩ := v2
  have s5 : xk_eqv [1, 2, 4, 7, 8, 9, 10, 11, 12, 13, 14, 15, 16, 17, 18, 19, 20, 21, 22, 23, 24] g0 g1 := xk_eqv_tr s0 (xk_eqv_sub (frzM_goes _ _ _ _ _ _ u3) (by decide))
  by_cases hc : r2 = 0
  · rw [if_pos hc] at v4
    rw [v4.2.2]; exact s5
  · rw [if_neg hc] at v4
    obtain ⟨x2, u6, v7⟩ := v4
    obtain ⟨g6, u8, v9⟩ := v7
    have s10 : xk_eqv [1, 2, 4, 7, 8, 9, 10, 11, 12, 13, 14, 15, 16, 17, 18, 19, 20, 21, 22, 23, 24] g0 g6 := by
      by_cases hc : x2 = 0
      · rw [if_pos hc] at u8
        rw [u8]; exact s5
      · rw [if_neg hc] at u8
        obtain ⟨g2, u11, v12⟩ := u8
        have s13 : xk_eqv [1, 2, 4, 7, 8, 9, 10, 11, 12, 13, 14, 15, 16, 17, 18, 19, 20, 21, 22, 23, 24] g0 g2 := by rw [u11]; repeat (first | exact s5 | refine xk_eqv_up (by decide) ?_)
        obtain ⟨g3, u14, v15⟩ := v12
        have s16 : xk_eqv [1, 2, 4, 7, 8, 9, 10, 11, 12, 13, 14, 15, 16, 17, 18, 19, 20, 21, 22, 23, 24] g0 g3 := by rw [u14]; repeat (first | exact s13 | refine xk_eqv_up (by decide) ?_)
        obtain ⟨g4, u17, v18⟩ := v15
        have s19 : xk_eqv [1, 2, 4, 7, 8, 9, 10, 11, 12, 13, 14, 15, 16, 17, 18, 19, 20, 21, 22, 23, 24] g0 g4 := by rw [u17]; repeat (first | exact s16 | refine xk_eqv_up (by decide) ?_)
        obtain ⟨g5, u20, v21⟩ := v18
        have s22 : xk_eqv [1, 2, 4, 7, 8, 9, 10, 11, 12, 13, 14, 15, 16, 17, 18, 19, 20, 21, 22, 23, 24] g0 g5 := xk_eqv_tr s19 (xk_eqv_sub (frzM_note _ _ _ _ u20) (by decide))
        rw [v21]; exact s22
    rw [v9.2.2]; exact s10
theorem iczM_confirm_0_1 (B : Nat) (g0 : xk_St) (k2 : Int32) (rz : Int32) (gz : xk_St) : relzM_confirm_0_1 g0 k2 rz gz → xk_cnt B g0 → xk_cnt (B + 1) gz := by
  intro h Ig0
  unfold relzM_confirm_0_1 at h
  have Ig0 : xk_cnt (B + 0) g0 := Ig0
  obtain ⟨x1, u1, v2⟩ := h
  obtain ⟨r2, g1, u3, v4⟩ := v2
  have Ig1 : xk_cnt (B + 0) g1 := xk_cnt_le (iczM_goes (B + 0) _ _ _ _ _ _ u3 Ig0) (by omega)
  by_cases hc : r2 = 0
  · rw [if_pos hc] at v4
    rw [v4.2.2]; exact xk_cnt_le Ig1 (by omega)
  · rw [if_neg hc] at v4
    obtain ⟨x2, u5, v6⟩ := v4
    obtain ⟨g6, u7, v8⟩ := v6
    have Ig6 : xk_cnt (B + 1) g6 := by
      by_cases hc : x2 = 0
      · rw [if_pos hc] at u7
        rw [u7]; exact xk_cnt_le Ig1 (by omega)
      · rw [if_neg hc] at u7
        obtain ⟨g2, u9, v10⟩ := u7
        have Ig2 : xk_cnt (B + 0) g2 := by rw [u9]; repeat (first | exact Ig1 | refine xk_cnt_k (by decide) ?_ | refine xk_cnt_f (by decide) ?_ | refine xk_cnt_s ?_)
        obtain ⟨g3, u11, v12⟩ := v10
        have Ig3 : xk_cnt (B + 0) g3 := by rw [u11]; repeat (first | exact Ig2 | refine xk_cnt_k (by decide) ?_ | refine xk_cnt_f (by decide) ?_ | refine xk_cnt_s ?_)
        obtain ⟨g4, u13, v14⟩ := v12
        have Ig4 : xk_cnt (B + 0) g4 := by rw [u13]; repeat (first | exact Ig3 | refine xk_cnt_k (by decide) ?_ | refine xk_cnt_f (by decide) ?_ | refine xk_cnt_s ?_)
        obtain ⟨g5, u15, v16⟩ := v14
        have Ig5 : xk_cnt (B + 1) g5 := xk_cnt_le (iczM_note (B + 0) _ _ _ _ u15 Ig4) (by omega)
        rw [v16]; exact xk_cnt_le Ig5 (by omega)
    rw [v8.2.2]; exact xk_cnt_le Ig6 (by omega)

def relzM_confirm_0_2 (g0 : xk_St) (k2 : Int32) (rz : Int32) (gz : xk_St) : Prop := ∃ (x1 : Int32), (if ((g0 6) 2) = 0 then (x1 = 0) else (if ((g0 6) 2) = k2 then (x1 = 0) else (x1 = 1))) ∧ (∃ (r2 : Int32) (g1 : xk_St), relzM_goes g0 1 x1 1 r2 g1 ∧ (if r2 = 0 then (rz = 0 ∧ xk_b rz ∧ gz = g1) else (∃ (x2 : Int32), (if (qzM_swept_2 g1) = 0 then (x2 = 0) else (if ((g1 2) 2) = 0 then (if ((g1 2) 3) = 0 then (x2 = 1) else (x2 = 0)) else (x2 = 0))) ∧ (∃ (g6 : xk_St), (if x2 = 0 then (g6 = g1) else (∃ (g2 : xk_St), g2 = va_up g1 5 (upd (g1 5) 2 0) ∧ (∃ (g3 : xk_St), g3 = va_up g2 3 (upd (g2 3) 2 0) ∧ (∃ (g4 : xk_St), g4 = va_up g3 6 (upd (g3 6) 2 0) ∧ (∃ (g5 : xk_St), relzM_note g4 2 2 g5 ∧ (g6 = g5)))))) ∧ (rz = x2 ∧ xk_b rz ∧ gz = g6)))))
set_option maxHeartbeats 4000000 in
set_option maxRecDepth 100000 in
theorem kzM_confirm_0_2 (l : Launch) (G : va_G) (ac : Nat → ClassId) (ad : Nat → Nat) (g0 : xk_St) (k2 : Int32) (B : Nat) (hw : ¬ k2 < 1) (Ig0 : xk_cnt B g0) (hB : B + 2 < 2147483648) : xk_CI l yzM_confirm czM_confirm 7 .boolean xk_WS xk_r2 G xk_cls (xk_tys ac) [.ref (ad 0), .int 0, .int 2, .int k2] (xk_wM ad ac g0) (fun rz (gz : xk_St) => relzM_confirm_0_2 g0 k2 rz gz) (fun gz => xk_wM ad ac gz) := by
  refine xk_ofI (by decide) (Nat.le_of_ble_eq_true rfl) ?_
  intro p e s m args below meth c A Q H locs ls C0 hret hP hD hS hl
  obtain ⟨hx, hb, hml, hts, hown, hK, hA⟩ := C0
  have hl : lv_has ls 7 [(0, .ref (ad 0)), (1, .int 0), (2, .int 2), (3, .int k2)] := hl
  have Ig0 : xk_cnt (B + 0) g0 := Ig0
  refine lv_iload_n (pc := 0) hx hb dzM_confirm_0 rfl (lv_at hl 1 rfl) ?_
  refine lv_iload_n (pc := 1) hx hb dzM_confirm_1 rfl (lv_at hl 2 rfl) ?_
  refine xk_callSI (As := [.int 0, .int 2]) (rest := []) (H0 := s.heap) (pc := 2) hx hb hml hts hown hK hA hP hD hS (kzM_isSection l G ac 0 2) sfzM_132 [] (by decide) rfl (fun _ => rfl) ⟨rfl, rfl⟩ ⟨Nat.le_of_ble_eq_true rfl, Nat.le_of_ble_eq_true rfl⟩ rfl hl.1 rfl (Nat.le_of_ble_eq_true rfl) ⟨Nat.zero_le _, Nat.zero_le _⟩ dzM_confirm_2 (fun r1 u9 H locs e9 hP hD hS => ?_)
  obtain rfl : r1 = qzM_isSection 0 2 := e9
  refine xk_is (y := 1) (by decide) ?_
  have hP : va_P G xk_cls (xk_wM ad ac g0) H := hP
  have hD : va_D A (xk_wM ad ac g0) := hD
  refine lv_if_eq (pc := 5) (tgt := 17) hx hb dzM_confirm_5 (by decide) (fun hq9 => absurd hq9 (by decide)) (fun _ => ?_)
  refine lv_iload_n (pc := 8) hx hb dzM_confirm_8 rfl (lv_at hl 3 rfl) ?_
  refine lv_iconst (v := 1) (pc := 9) hx hb dzM_confirm_9 (by decide) ?_
  refine lv_icmp_lt (pc := 10) (tgt := 17) hx hb dzM_confirm_10 (by decide) (fun hq9 => absurd hq9 hw) (fun _ => ?_)
  refine lv_iconst (v := 1) (pc := 13) hx hb dzM_confirm_13 (by decide) ?_
  refine lv_goto (tgt := 18) (pc := 14) hx hb dzM_confirm_14 (by decide) ?_
  refine lv_istore (lv' := [(4, .int 1), (0, .ref (ad 0)), (1, .int 0), (2, .int 2), (3, .int k2)]) (pc := 18) hx hb dzM_confirm_18 hl (by decide) rfl (fun ls hl => ?_)
  refine lv_iload (pc := 20) hx hb dzM_confirm_20 (lv_at hl 0 rfl) ?_
  refine lv_if_eq (pc := 22) (tgt := 33) hx hb dzM_confirm_22 (by decide) (fun hq9 => absurd hq9 (by decide)) (fun _ => ?_)
  refine lv_iconst (v := 3) (pc := 25) hx hb dzM_confirm_25 (by decide) ?_
  refine lv_iload_n (pc := 26) hx hb dzM_confirm_26 rfl (lv_at hl 2 rfl) ?_
  refine lv_imul (pc := 27) hx hb dzM_confirm_27 ?_
  refine xk_is (y := 0) (by decide) ?_
  refine lv_iload_n (pc := 28) hx hb dzM_confirm_28 rfl (lv_at hl 3 rfl) ?_
  refine lv_iadd (pc := 29) hx hb dzM_confirm_29 ?_
  refine xk_is (y := 2) (by decide) ?_
  refine lv_goto (tgt := 34) (pc := 30) hx hb dzM_confirm_30 (by decide) ?_
  refine lv_istore (lv' := [(5, .int 2), (4, .int 1), (0, .ref (ad 0)), (1, .int 0), (2, .int 2), (3, .int k2)]) (pc := 34) hx hb dzM_confirm_34 hl (by decide) rfl (fun ls hl => ?_)
  refine lv_aload_n (pc := 36) hx hb dzM_confirm_36 rfl (lv_at hl 2 rfl) ?_
  refine lv_iload (pc := 37) hx hb dzM_confirm_37 (lv_at hl 1 rfl) ?_
  refine lv_iload (pc := 39) hx hb dzM_confirm_39 (lv_at hl 1 rfl) ?_
  refine lv_if_eq (pc := 41) (tgt := 69) hx hb dzM_confirm_41 (by decide) (fun hq9 => absurd hq9 (by decide)) (fun _ => ?_)
  refine lv_aload_n (pc := 44) hx hb dzM_confirm_44 rfl (lv_at hl 2 rfl) ?_
  refine xk_get (pc := 45) hx hb hts hown hK hP ffzM_26 0 rfl rfl dzM_confirm_45 ?_
  refine lv_iload (pc := 48) hx hb dzM_confirm_48 (lv_at hl 0 rfl) ?_
  refine xk_iald (q0 := 6) (t0 := 0) (j := 2) (pc := 50) hx hb hK hP rfl rfl (pk_in 2 6 (by decide)) (pk_cl 2) dzM_confirm_50 ?_
  have K1 : ∀ (x1 : Int32), (if ((g0 6) 2) = 0 then (x1 = 0) else (if ((g0 6) 2) = k2 then (x1 = 0) else (x1 = 1))) → (xk_b x1) → W p l e xk_r2 s m args below meth c H locs 0 0 Q (F0 m 70 ls [.int x1, .int 1, .ref (ad 0)]) := by
    intro x1 R1 bx1
    refine lv_iconst (v := 1) (pc := 70) hx hb dzM_confirm_70 (by decide) ?_
    refine xk_allVI (As := [.int 1, .int x1, .int 1]) (rest := []) (H0 := s.heap) (pc := 71) hx hb hml hts hown hK hA hP hD hS (kzM_goes l G ac ad g0 1 x1 1 (B + 0) Ig0 (by omega)) vfzM_114 (fun _ => rfl) 0 rfl rfl ⟨rfl, rfl⟩ ⟨Nat.le_of_ble_eq_true rfl, Nat.le_of_ble_eq_true rfl⟩ rfl hl.1 rfl (Nat.le_of_ble_eq_true rfl) ⟨Nat.zero_le _, Nat.zero_le _⟩ dzM_confirm_71 (fun r2 g1 H locs hg1 hP hD hS => ?_)
    have hP : va_P G xk_cls (xk_wM ad ac g1) H := hP
    have hD : va_D A (xk_wM ad ac g1) := hD
    have Ig1 : xk_cnt (B + 0) g1 := xk_cnt_le (iczM_goes (B + 0) _ _ _ _ _ _ hg1 Ig0) (by omega)
    refine lv_if_ne (pc := 74) (tgt := 79) hx hb dzM_confirm_74 (by decide) (fun h3 => ?_) (fun h3 => ?_)
    ·
      refine lv_aload_n (pc := 79) hx hb dzM_confirm_79 rfl (lv_at hl 2 rfl) ?_
      refine lv_iload (pc := 80) hx hb dzM_confirm_80 (lv_at hl 0 rfl) ?_
      refine xk_allVI (As := [.int 2]) (rest := []) (H0 := s.heap) (pc := 82) hx hb hml hts hown hK hA hP hD hS (kzM_swept_2 l G ac ad g1) vfzM_135 (fun _ => rfl) 0 rfl rfl ⟨rfl, rfl⟩ ⟨Nat.le_of_ble_eq_true rfl, Nat.le_of_ble_eq_true rfl⟩ rfl hl.1 rfl (Nat.le_of_ble_eq_true rfl) ⟨Nat.zero_le _, Nat.zero_le _⟩ dzM_confirm_82 (fun r3 u9 H locs e9 hP hD hS => ?_)
      obtain rfl : r3 = qzM_swept_2 g1 := e9
      have hP : va_P G xk_cls (xk_wM ad ac g1) H := hP
      have hD : va_D A (xk_wM ad ac g1) := hD
      have K2 : ∀ (x2 : Int32), (if (qzM_swept_2 g1) = 0 then (x2 = 0) else (if ((g1 2) 2) = 0 then (if ((g1 2) 3) = 0 then (x2 = 1) else (x2 = 0)) else (x2 = 0))) → (xk_b x2) → W p l e xk_r2 s m args below meth c H locs 0 0 Q (F0 m 121 ls [.int x2]) := by
        intro x2 R2 bx2
        refine lv_istore (lv' := [(6, .int x2), (5, .int 2), (4, .int 1), (0, .ref (ad 0)), (1, .int 0), (2, .int 2), (3, .int k2)]) (pc := 121) hx hb dzM_confirm_121 hl (by decide) rfl (fun ls hl => ?_)
        refine lv_iload (pc := 123) hx hb dzM_confirm_123 (lv_at hl 0 rfl) ?_
        have K3 : ∀ (g6 : xk_St) (H : Heap) (locs : List Loc), (if x2 = 0 then (g6 = g1) else (∃ (g2 : xk_St), g2 = va_up g1 5 (upd (g1 5) 2 0) ∧ (∃ (g3 : xk_St), g3 = va_up g2 3 (upd (g2 3) 2 0) ∧ (∃ (g4 : xk_St), g4 = va_up g3 6 (upd (g3 6) 2 0) ∧ (∃ (g5 : xk_St), relzM_note g4 2 2 g5 ∧ (g6 = g5)))))) → (xk_cnt (B + 1) g6) → (va_P G xk_cls (xk_wM ad ac g6) H) → (va_D A (xk_wM ad ac g6)) → (va_S A s.heap H locs) → W p l e xk_r2 s m args below meth c H locs 0 0 Q (F0 m 159 ls []) := by
          intro g6 H locs R3 Ig6 hP hD hS
          refine lv_iload (pc := 159) hx hb dzM_confirm_159 (lv_at hl 0 rfl) ?_
          exact hret _ g6 H locs 161 ls hP hS (xk_bn bx2) (by unfold relzM_confirm_0_2; exact ⟨x1, R1, ⟨r2, g1, hg1, (Eq.mpr (if_neg h3) ⟨x2, R2, ⟨g6, R3, ⟨rfl, bx2, rfl⟩⟩⟩)⟩⟩) dzM_confirm_161
        refine lv_if_eq (pc := 125) (tgt := 159) hx hb dzM_confirm_125 (by decide) (fun h7 => ?_) (fun h7 => ?_)
        ·
          exact K3 g1 H locs (Eq.mpr (if_pos h7) rfl) (xk_cnt_le Ig1 (by omega)) hP hD hS
        ·
          refine lv_aload_n (pc := 128) hx hb dzM_confirm_128 rfl (lv_at hl 3 rfl) ?_
          refine xk_get (pc := 129) hx hb hts hown hK hP ffzM_23 0 rfl rfl dzM_confirm_129 ?_
          refine lv_iload (pc := 132) hx hb dzM_confirm_132 (lv_at hl 1 rfl) ?_
          refine lv_iconst (v := 0) (pc := 134) hx hb dzM_confirm_134 (by decide) ?_
          refine xk_zast (q0 := 5) (t0 := 1) (j := 2) (pc := 135) hx hb hK hP hD hS rfl rfl (pk_in 2 6 (by decide)) (pk_cl 2) xk_b0 dzM_confirm_135 (fun H locs hP hD hS => ?_)
          obtain ⟨g2, eg2⟩ : ∃ z : xk_St, z = va_up g1 5 (upd (g1 5) 2 0) := ⟨_, rfl⟩
          have hP : va_P G xk_cls (xk_wM ad ac g2) H := by rw [eg2]; exact hP
          have hD : va_D A (xk_wM ad ac g2) := by rw [eg2]; exact hD
          have Ig2 : xk_cnt (B + 0) g2 := by rw [eg2]; repeat (first | exact Ig1 | refine xk_cnt_k (by decide) ?_ | refine xk_cnt_f (by decide) ?_ | refine xk_cnt_s ?_)
          refine lv_aload_n (pc := 136) hx hb dzM_confirm_136 rfl (lv_at hl 3 rfl) ?_
          refine xk_get (pc := 137) hx hb hts hown hK hP ffzM_17 0 rfl rfl dzM_confirm_137 ?_
          refine lv_iload (pc := 140) hx hb dzM_confirm_140 (lv_at hl 1 rfl) ?_
          refine lv_iconst (v := 0) (pc := 142) hx hb dzM_confirm_142 (by decide) ?_
          refine xk_iast (q0 := 3) (t0 := 0) (j := 2) (pc := 143) hx hb hK hP hD hS rfl rfl (pk_in 2 6 (by decide)) (pk_cl 2) dzM_confirm_143 (fun H locs hP hD hS => ?_)
          obtain ⟨g3, eg3⟩ : ∃ z : xk_St, z = va_up g2 3 (upd (g2 3) 2 0) := ⟨_, rfl⟩
          have hP : va_P G xk_cls (xk_wM ad ac g3) H := by rw [eg3]; exact hP
          have hD : va_D A (xk_wM ad ac g3) := by rw [eg3]; exact hD
          have Ig3 : xk_cnt (B + 0) g3 := by rw [eg3]; repeat (first | exact Ig2 | refine xk_cnt_k (by decide) ?_ | refine xk_cnt_f (by decide) ?_ | refine xk_cnt_s ?_)
          refine lv_aload_n (pc := 144) hx hb dzM_confirm_144 rfl (lv_at hl 3 rfl) ?_
          refine xk_get (pc := 145) hx hb hts hown hK hP ffzM_26 0 rfl rfl dzM_confirm_145 ?_
          refine lv_iload (pc := 148) hx hb dzM_confirm_148 (lv_at hl 1 rfl) ?_
          refine lv_iconst (v := 0) (pc := 150) hx hb dzM_confirm_150 (by decide) ?_
          refine xk_iast (q0 := 6) (t0 := 0) (j := 2) (pc := 151) hx hb hK hP hD hS rfl rfl (pk_in 2 6 (by decide)) (pk_cl 2) dzM_confirm_151 (fun H locs hP hD hS => ?_)
          obtain ⟨g4, eg4⟩ : ∃ z : xk_St, z = va_up g3 6 (upd (g3 6) 2 0) := ⟨_, rfl⟩
          have hP : va_P G xk_cls (xk_wM ad ac g4) H := by rw [eg4]; exact hP
          have hD : va_D A (xk_wM ad ac g4) := by rw [eg4]; exact hD
          have Ig4 : xk_cnt (B + 0) g4 := by rw [eg4]; repeat (first | exact Ig3 | refine xk_cnt_k (by decide) ?_ | refine xk_cnt_f (by decide) ?_ | refine xk_cnt_s ?_)
          refine lv_aload_n (pc := 152) hx hb dzM_confirm_152 rfl (lv_at hl 3 rfl) ?_
          refine lv_iconst (v := 2) (pc := 153) hx hb dzM_confirm_153 (by decide) ?_
          refine lv_iload (pc := 154) hx hb dzM_confirm_154 (lv_at hl 1 rfl) ?_
          refine xk_allVV (As := [.int 2, .int 2]) (rest := []) (H0 := s.heap) (pc := 156) hx hb hml hts hown hK hA hP hD hS (kzM_note l G ac ad g4 2 2 (B + 0) Ig4 (by omega)) vfzM_106 (fun _ => rfl) 0 rfl rfl ⟨rfl, rfl⟩ ⟨Nat.le_of_ble_eq_true rfl, Nat.le_of_ble_eq_true rfl⟩ rfl hl.1 rfl (Nat.le_of_ble_eq_true rfl) ⟨Nat.zero_le _, Nat.zero_le _⟩ dzM_confirm_156 (fun g5 H locs hg5 hP hD hS => ?_)
          have hP : va_P G xk_cls (xk_wM ad ac g5) H := hP
          have hD : va_D A (xk_wM ad ac g5) := hD
          have Ig5 : xk_cnt (B + 1) g5 := xk_cnt_le (iczM_note (B + 0) _ _ _ _ hg5 Ig4) (by omega)
          exact K3 g5 H locs (Eq.mpr (if_neg h7) ⟨g2, eg2, ⟨g3, eg3, ⟨g4, eg4, ⟨g5, hg5, rfl⟩⟩⟩⟩) (xk_cnt_le Ig5 (by omega)) hP hD hS
      refine lv_if_eq (pc := 85) (tgt := 120) hx hb dzM_confirm_85 (by decide) (fun h4 => ?_) (fun h4 => ?_)
      ·
        refine lv_iconst (v := 0) (pc := 120) hx hb dzM_confirm_120 (by decide) ?_
        exact K2 0 (Eq.mpr (if_pos h4) rfl) xk_b0
      ·
        refine lv_aload_n (pc := 88) hx hb dzM_confirm_88 rfl (lv_at hl 2 rfl) ?_
        refine xk_get (pc := 89) hx hb hts hown hK hP ffzM_13 0 rfl rfl dzM_confirm_89 ?_
        refine lv_iconst (v := 4) (pc := 92) hx hb dzM_confirm_92 (by decide) ?_
        refine lv_iload_n (pc := 93) hx hb dzM_confirm_93 rfl (lv_at hl 3 rfl) ?_
        refine lv_imul (pc := 94) hx hb dzM_confirm_94 ?_
        refine xk_is (y := 0) (by decide) ?_
        refine lv_iload_n (pc := 95) hx hb dzM_confirm_95 rfl (lv_at hl 4 rfl) ?_
        refine lv_iadd (pc := 96) hx hb dzM_confirm_96 ?_
        refine xk_is (y := 2) (by decide) ?_
        refine xk_zald (q0 := 2) (t0 := 1) (j := 2) (pc := 97) hx hb hK hP rfl rfl (pk_in 2 8 (by decide)) (pk_cl 2) dzM_confirm_97 ?_
        refine lv_if_ne (pc := 98) (tgt := 120) hx hb dzM_confirm_98 (by decide) (fun h5 => ?_) (fun h5 => ?_)
        ·
          refine lv_iconst (v := 0) (pc := 120) hx hb dzM_confirm_120 (by decide) ?_
          exact K2 0 (Eq.mpr (if_neg h4) (Eq.mpr (if_neg h5) rfl)) xk_b0
        ·
          refine lv_aload_n (pc := 101) hx hb dzM_confirm_101 rfl (lv_at hl 2 rfl) ?_
          refine xk_get (pc := 102) hx hb hts hown hK hP ffzM_13 0 rfl rfl dzM_confirm_102 ?_
          refine lv_iconst (v := 4) (pc := 105) hx hb dzM_confirm_105 (by decide) ?_
          refine lv_iload_n (pc := 106) hx hb dzM_confirm_106 rfl (lv_at hl 3 rfl) ?_
          refine lv_imul (pc := 107) hx hb dzM_confirm_107 ?_
          refine xk_is (y := 0) (by decide) ?_
          refine lv_iload_n (pc := 108) hx hb dzM_confirm_108 rfl (lv_at hl 4 rfl) ?_
          refine lv_iadd (pc := 109) hx hb dzM_confirm_109 ?_
          refine xk_is (y := 2) (by decide) ?_
          refine lv_iconst (v := 1) (pc := 110) hx hb dzM_confirm_110 (by decide) ?_
          refine lv_iadd (pc := 111) hx hb dzM_confirm_111 ?_
          refine xk_is (y := 3) (by decide) ?_
          refine xk_zald (q0 := 2) (t0 := 1) (j := 3) (pc := 112) hx hb hK hP rfl rfl (pk_in 3 8 (by decide)) (pk_cl 3) dzM_confirm_112 ?_
          refine lv_if_ne (pc := 113) (tgt := 120) hx hb dzM_confirm_113 (by decide) (fun h6 => ?_) (fun h6 => ?_)
          ·
            refine lv_iconst (v := 0) (pc := 120) hx hb dzM_confirm_120 (by decide) ?_
            exact K2 0 (Eq.mpr (if_neg h4) (Eq.mpr (if_pos h5) (Eq.mpr (if_neg h6) rfl))) xk_b0
          ·
            refine lv_iconst (v := 1) (pc := 116) hx hb dzM_confirm_116 (by decide) ?_
            refine lv_goto (tgt := 121) (pc := 117) hx hb dzM_confirm_117 (by decide) ?_
            exact K2 1 (Eq.mpr (if_neg h4) (Eq.mpr (if_pos h5) (Eq.mpr (if_pos h6) rfl))) xk_b1
    ·
      refine lv_iconst (v := 0) (pc := 77) hx hb dzM_confirm_77 (by decide) ?_
      exact hret _ g1 H locs 78 ls hP hS (xk_bn xk_b0) (by unfold relzM_confirm_0_2; exact ⟨x1, R1, ⟨r2, g1, hg1, (Eq.mpr (if_pos h3) ⟨rfl, xk_b0, rfl⟩)⟩⟩) dzM_confirm_78
  refine lv_if_eq (pc := 51) (tgt := 69) hx hb dzM_confirm_51 (by decide) (fun h1 => ?_) (fun h1 => ?_)
  ·
    refine lv_iconst (v := 0) (pc := 69) hx hb dzM_confirm_69 (by decide) ?_
    exact K1 0 (Eq.mpr (if_pos h1) rfl) xk_b0
  ·
    refine lv_aload_n (pc := 54) hx hb dzM_confirm_54 rfl (lv_at hl 2 rfl) ?_
    refine xk_get (pc := 55) hx hb hts hown hK hP ffzM_26 0 rfl rfl dzM_confirm_55 ?_
    refine lv_iload (pc := 58) hx hb dzM_confirm_58 (lv_at hl 0 rfl) ?_
    refine xk_iald (q0 := 6) (t0 := 0) (j := 2) (pc := 60) hx hb hK hP rfl rfl (pk_in 2 6 (by decide)) (pk_cl 2) dzM_confirm_60 ?_
    refine lv_iload_n (pc := 61) hx hb dzM_confirm_61 rfl (lv_at hl 5 rfl) ?_
    refine lv_icmp_eq (pc := 62) (tgt := 69) hx hb dzM_confirm_62 (by decide) (fun h2 => ?_) (fun h2 => ?_)
    ·
      refine lv_iconst (v := 0) (pc := 69) hx hb dzM_confirm_69 (by decide) ?_
      exact K1 0 (Eq.mpr (if_neg h1) (Eq.mpr (if_pos h2) rfl)) xk_b0
    ·
      refine lv_iconst (v := 1) (pc := 65) hx hb dzM_confirm_65 (by decide) ?_
      refine lv_goto (tgt := 70) (pc := 66) hx hb dzM_confirm_66 (by decide) ?_
      exact K1 1 (Eq.mpr (if_neg h1) (Eq.mpr (if_neg h2) rfl)) xk_b1
theorem frzM_confirm_0_2 (g0 : xk_St) (k2 : Int32) (rz : Int32) (gz : xk_St) : relzM_confirm_0_2 g0 k2 rz gz → xk_eqv [1, 2, 4, 7, 8, 9, 10, 11, 12, 13, 14, 15, 16, 17, 18, 19, 20, 21, 22, 23, 24] g0 gz := by
  intro h
  unfold relzM_confirm_0_2 at h
  have s0 : xk_eqv [1, 2, 4, 7, 8, 9, 10, 11, 12, 13, 14, 15, 16, 17, 18, 19, 20, 21, 22, 23, 24] g0 g0 := xk_eqv_rf
  obtain ⟨x1, u1, v2⟩ := h
  obtain ⟨r2, g1, u3, v4⟩ := v2
  have s5 : xk_eqv [1, 2, 4, 7, 8, 9, 10, 11, 12, 13, 14, 15, 16, 17, 18, 19, 20, 21, 22, 23, 24] g0 g1 := xk_eqv_tr s0 (xk_eqv_sub (frzM_goes _ _ _ _ _ _ u3) (by decide))
  by_cases hc : r2 = 0
  · rw [if_pos hc] at v4
    rw [v4.2.2]; exact s5
  · rw [if_neg hc] at v4
    obtain ⟨x2, u6, v7⟩ := v4
    obtain ⟨g6, u8, v9⟩ := v7
    have s10 : xk_eqv [1, 2, 4, 7, 8, 9, 10, 11, 12, 13, 14, 15, 16, 17, 18, 19, 20, 21, 22, 23, 24] g0 g6 := by
      by_cases hc : x2 = 0
      · rw [if_pos hc] at u8
        rw [u8]; exact s5
      · rw [if_neg hc] at u8
        obtain ⟨g2, u11, v12⟩ := u8
        have s13 : xk_eqv [1, 2, 4, 7, 8, 9, 10, 11, 12, 13, 14, 15, 16, 17, 18, 19, 20, 21, 22, 23, 24] g0 g2 := by rw [u11]; repeat (first | exact s5 | refine xk_eqv_up (by decide) ?_)
        obtain ⟨g3, u14, v15⟩ := v12
        have s16 : xk_eqv [1, 2, 4, 7, 8, 9, 10, 11, 12, 13, 14, 15, 16, 17, 18, 19, 20, 21, 22, 23, 24] g0 g3 := by rw [u14]; repeat (first | exact s13 | refine xk_eqv_up (by decide) ?_)
        obtain ⟨g4, u17, v18⟩ := v15
        have s19 : xk_eqv [1, 2, 4, 7, 8, 9, 10, 11, 12, 13, 14, 15, 16, 17, 18, 19, 20, 21, 22, 23, 24] g0 g4 := by rw [u17]; repeat (first | exact s16 | refine xk_eqv_up (by decide) ?_)
        obtain ⟨g5, u20, v21⟩ := v18
        have s22 : xk_eqv [1, 2, 4, 7, 8, 9, 10, 11, 12, 13, 14, 15, 16, 17, 18, 19, 20, 21, 22, 23, 24] g0 g5 := xk_eqv_tr s19 (xk_eqv_sub (frzM_note _ _ _ _ u20) (by decide))
        rw [v21]; exact s22
    rw [v9.2.2]; exact s10
theorem iczM_confirm_0_2 (B : Nat) (g0 : xk_St) (k2 : Int32) (rz : Int32) (gz : xk_St) : relzM_confirm_0_2 g0 k2 rz gz → xk_cnt B g0 → xk_cnt (B + 1) gz := by
  intro h Ig0
  unfold relzM_confirm_0_2 at h
  have Ig0 : xk_cnt (B + 0) g0 := Ig0
  obtain ⟨x1, u1, v2⟩ := h
  obtain ⟨r2, g1, u3, v4⟩ := v2
  have Ig1 : xk_cnt (B + 0) g1 := xk_cnt_le (iczM_goes (B + 0) _ _ _ _ _ _ u3 Ig0) (by omega)
  by_cases hc : r2 = 0
  · rw [if_pos hc] at v4
    rw [v4.2.2]; exact xk_cnt_le Ig1 (by omega)
  · rw [if_neg hc] at v4
    obtain ⟨x2, u5, v6⟩ := v4
    obtain ⟨g6, u7, v8⟩ := v6
    have Ig6 : xk_cnt (B + 1) g6 := by
      by_cases hc : x2 = 0
      · rw [if_pos hc] at u7
        rw [u7]; exact xk_cnt_le Ig1 (by omega)
      · rw [if_neg hc] at u7
        obtain ⟨g2, u9, v10⟩ := u7
        have Ig2 : xk_cnt (B + 0) g2 := by rw [u9]; repeat (first | exact Ig1 | refine xk_cnt_k (by decide) ?_ | refine xk_cnt_f (by decide) ?_ | refine xk_cnt_s ?_)
        obtain ⟨g3, u11, v12⟩ := v10
        have Ig3 : xk_cnt (B + 0) g3 := by rw [u11]; repeat (first | exact Ig2 | refine xk_cnt_k (by decide) ?_ | refine xk_cnt_f (by decide) ?_ | refine xk_cnt_s ?_)
        obtain ⟨g4, u13, v14⟩ := v12
        have Ig4 : xk_cnt (B + 0) g4 := by rw [u13]; repeat (first | exact Ig3 | refine xk_cnt_k (by decide) ?_ | refine xk_cnt_f (by decide) ?_ | refine xk_cnt_s ?_)
        obtain ⟨g5, u15, v16⟩ := v14
        have Ig5 : xk_cnt (B + 1) g5 := xk_cnt_le (iczM_note (B + 0) _ _ _ _ u15 Ig4) (by omega)
        rw [v16]; exact xk_cnt_le Ig5 (by omega)
    rw [v8.2.2]; exact xk_cnt_le Ig6 (by omega)

def relzM_confirm_1_0 (g0 : xk_St) (k2 : Int32) (rz : Int32) (gz : xk_St) : Prop := ∃ (x1 : Int32), (if ((g0 6) 3) = 0 then (x1 = 0) else (if ((g0 6) 3) = k2 then (x1 = 0) else (x1 = 1))) ∧ (∃ (r2 : Int32) (g1 : xk_St), relzM_goes g0 1 x1 1 r2 g1 ∧ (if r2 = 0 then (rz = 0 ∧ xk_b rz ∧ gz = g1) else (∃ (x2 : Int32), (if (qzM_swept_3 g1) = 0 then (x2 = 0) else (if ((g1 2) 4) = 0 then (if ((g1 2) 5) = 0 then (x2 = 1) else (x2 = 0)) else (x2 = 0))) ∧ (∃ (g6 : xk_St), (if x2 = 0 then (g6 = g1) else (∃ (g2 : xk_St), g2 = va_up g1 5 (upd (g1 5) 3 0) ∧ (∃ (g3 : xk_St), g3 = va_up g2 3 (upd (g2 3) 3 0) ∧ (∃ (g4 : xk_St), g4 = va_up g3 6 (upd (g3 6) 3 0) ∧ (∃ (g5 : xk_St), relzM_note g4 2 3 g5 ∧ (g6 = g5)))))) ∧ (rz = x2 ∧ xk_b rz ∧ gz = g6)))))
set_option maxHeartbeats 4000000 in
set_option maxRecDepth 100000 in
theorem kzM_confirm_1_0 (l : Launch) (G : va_G) (ac : Nat → ClassId) (ad : Nat → Nat) (g0 : xk_St) (k2 : Int32) (B : Nat) (hw : ¬ k2 < 1) (Ig0 : xk_cnt B g0) (hB : B + 2 < 2147483648) : xk_CI l yzM_confirm czM_confirm 7 .boolean xk_WS xk_r2 G xk_cls (xk_tys ac) [.ref (ad 0), .int 1, .int 0, .int k2] (xk_wM ad ac g0) (fun rz (gz : xk_St) => relzM_confirm_1_0 g0 k2 rz gz) (fun gz => xk_wM ad ac gz) := by
  refine xk_ofI (by decide) (Nat.le_of_ble_eq_true rfl) ?_
  intro p e s m args below meth c A Q H locs ls C0 hret hP hD hS hl
  obtain ⟨hx, hb, hml, hts, hown, hK, hA⟩ := C0
  have hl : lv_has ls 7 [(0, .ref (ad 0)), (1, .int 1), (2, .int 0), (3, .int k2)] := hl
  have Ig0 : xk_cnt (B + 0) g0 := Ig0
  refine lv_iload_n (pc := 0) hx hb dzM_confirm_0 rfl (lv_at hl 1 rfl) ?_
  refine lv_iload_n (pc := 1) hx hb dzM_confirm_1 rfl (lv_at hl 2 rfl) ?_
  refine xk_callSI (As := [.int 1, .int 0]) (rest := []) (H0 := s.heap) (pc := 2) hx hb hml hts hown hK hA hP hD hS (kzM_isSection l G ac 1 0) sfzM_132 [] (by decide) rfl (fun _ => rfl) ⟨rfl, rfl⟩ ⟨Nat.le_of_ble_eq_true rfl, Nat.le_of_ble_eq_true rfl⟩ rfl hl.1 rfl (Nat.le_of_ble_eq_true rfl) ⟨Nat.zero_le _, Nat.zero_le _⟩ dzM_confirm_2 (fun r1 u9 H locs e9 hP hD hS => ?_)
  obtain rfl : r1 = qzM_isSection 1 0 := e9
  refine xk_is (y := 1) (by decide) ?_
  have hP : va_P G xk_cls (xk_wM ad ac g0) H := hP
  have hD : va_D A (xk_wM ad ac g0) := hD
  refine lv_if_eq (pc := 5) (tgt := 17) hx hb dzM_confirm_5 (by decide) (fun hq9 => absurd hq9 (by decide)) (fun _ => ?_)
  refine lv_iload_n (pc := 8) hx hb dzM_confirm_8 rfl (lv_at hl 3 rfl) ?_
  refine lv_iconst (v := 1) (pc := 9) hx hb dzM_confirm_9 (by decide) ?_
  refine lv_icmp_lt (pc := 10) (tgt := 17) hx hb dzM_confirm_10 (by decide) (fun hq9 => absurd hq9 hw) (fun _ => ?_)
  refine lv_iconst (v := 1) (pc := 13) hx hb dzM_confirm_13 (by decide) ?_
  refine lv_goto (tgt := 18) (pc := 14) hx hb dzM_confirm_14 (by decide) ?_
  refine lv_istore (lv' := [(4, .int 1), (0, .ref (ad 0)), (1, .int 1), (2, .int 0), (3, .int k2)]) (pc := 18) hx hb dzM_confirm_18 hl (by decide) rfl (fun ls hl => ?_)
  refine lv_iload (pc := 20) hx hb dzM_confirm_20 (lv_at hl 0 rfl) ?_
  refine lv_if_eq (pc := 22) (tgt := 33) hx hb dzM_confirm_22 (by decide) (fun hq9 => absurd hq9 (by decide)) (fun _ => ?_)
  refine lv_iconst (v := 3) (pc := 25) hx hb dzM_confirm_25 (by decide) ?_
  refine lv_iload_n (pc := 26) hx hb dzM_confirm_26 rfl (lv_at hl 2 rfl) ?_
  refine lv_imul (pc := 27) hx hb dzM_confirm_27 ?_
  refine xk_is (y := 3) (by decide) ?_
  refine lv_iload_n (pc := 28) hx hb dzM_confirm_28 rfl (lv_at hl 3 rfl) ?_
  refine lv_iadd (pc := 29) hx hb dzM_confirm_29 ?_
  refine xk_is (y := 3) (by decide) ?_
  refine lv_goto (tgt := 34) (pc := 30) hx hb dzM_confirm_30 (by decide) ?_
  refine lv_istore (lv' := [(5, .int 3), (4, .int 1), (0, .ref (ad 0)), (1, .int 1), (2, .int 0), (3, .int k2)]) (pc := 34) hx hb dzM_confirm_34 hl (by decide) rfl (fun ls hl => ?_)
  refine lv_aload_n (pc := 36) hx hb dzM_confirm_36 rfl (lv_at hl 2 rfl) ?_
  refine lv_iload (pc := 37) hx hb dzM_confirm_37 (lv_at hl 1 rfl) ?_
  refine lv_iload (pc := 39) hx hb dzM_confirm_39 (lv_at hl 1 rfl) ?_
  refine lv_if_eq (pc := 41) (tgt := 69) hx hb dzM_confirm_41 (by decide) (fun hq9 => absurd hq9 (by decide)) (fun _ => ?_)
  refine lv_aload_n (pc := 44) hx hb dzM_confirm_44 rfl (lv_at hl 2 rfl) ?_
  refine xk_get (pc := 45) hx hb hts hown hK hP ffzM_26 0 rfl rfl dzM_confirm_45 ?_
  refine lv_iload (pc := 48) hx hb dzM_confirm_48 (lv_at hl 0 rfl) ?_
  refine xk_iald (q0 := 6) (t0 := 0) (j := 3) (pc := 50) hx hb hK hP rfl rfl (pk_in 3 6 (by decide)) (pk_cl 3) dzM_confirm_50 ?_
  have K1 : ∀ (x1 : Int32), (if ((g0 6) 3) = 0 then (x1 = 0) else (if ((g0 6) 3) = k2 then (x1 = 0) else (x1 = 1))) → (xk_b x1) → W p l e xk_r2 s m args below meth c H locs 0 0 Q (F0 m 70 ls [.int x1, .int 1, .ref (ad 0)]) := by
    intro x1 R1 bx1
    refine lv_iconst (v := 1) (pc := 70) hx hb dzM_confirm_70 (by decide) ?_
    refine xk_allVI (As := [.int 1, .int x1, .int 1]) (rest := []) (H0 := s.heap) (pc := 71) hx hb hml hts hown hK hA hP hD hS (kzM_goes l G ac ad g0 1 x1 1 (B + 0) Ig0 (by omega)) vfzM_114 (fun _ => rfl) 0 rfl rfl ⟨rfl, rfl⟩ ⟨Nat.le_of_ble_eq_true rfl, Nat.le_of_ble_eq_true rfl⟩ rfl hl.1 rfl (Nat.le_of_ble_eq_true rfl) ⟨Nat.zero_le _, Nat.zero_le _⟩ dzM_confirm_71 (fun r2 g1 H locs hg1 hP hD hS => ?_)
    have hP : va_P G xk_cls (xk_wM ad ac g1) H := hP
    have hD : va_D A (xk_wM ad ac g1) := hD
    have Ig1 : xk_cnt (B + 0) g1 := xk_cnt_le (iczM_goes (B + 0) _ _ _ _ _ _ hg1 Ig0) (by omega)
    refine lv_if_ne (pc := 74) (tgt := 79) hx hb dzM_confirm_74 (by decide) (fun h3 => ?_) (fun h3 => ?_)
    ·
      refine lv_aload_n (pc := 79) hx hb dzM_confirm_79 rfl (lv_at hl 2 rfl) ?_
      refine lv_iload (pc := 80) hx hb dzM_confirm_80 (lv_at hl 0 rfl) ?_
      refine xk_allVI (As := [.int 3]) (rest := []) (H0 := s.heap) (pc := 82) hx hb hml hts hown hK hA hP hD hS (kzM_swept_3 l G ac ad g1) vfzM_135 (fun _ => rfl) 0 rfl rfl ⟨rfl, rfl⟩ ⟨Nat.le_of_ble_eq_true rfl, Nat.le_of_ble_eq_true rfl⟩ rfl hl.1 rfl (Nat.le_of_ble_eq_true rfl) ⟨Nat.zero_le _, Nat.zero_le _⟩ dzM_confirm_82 (fun r3 u9 H locs e9 hP hD hS => ?_)
      obtain rfl : r3 = qzM_swept_3 g1 := e9
      have hP : va_P G xk_cls (xk_wM ad ac g1) H := hP
      have hD : va_D A (xk_wM ad ac g1) := hD
      have K2 : ∀ (x2 : Int32), (if (qzM_swept_3 g1) = 0 then (x2 = 0) else (if ((g1 2) 4) = 0 then (if ((g1 2) 5) = 0 then (x2 = 1) else (x2 = 0)) else (x2 = 0))) → (xk_b x2) → W p l e xk_r2 s m args below meth c H locs 0 0 Q (F0 m 121 ls [.int x2]) := by
        intro x2 R2 bx2
        refine lv_istore (lv' := [(6, .int x2), (5, .int 3), (4, .int 1), (0, .ref (ad 0)), (1, .int 1), (2, .int 0), (3, .int k2)]) (pc := 121) hx hb dzM_confirm_121 hl (by decide) rfl (fun ls hl => ?_)
        refine lv_iload (pc := 123) hx hb dzM_confirm_123 (lv_at hl 0 rfl) ?_
        have K3 : ∀ (g6 : xk_St) (H : Heap) (locs : List Loc), (if x2 = 0 then (g6 = g1) else (∃ (g2 : xk_St), g2 = va_up g1 5 (upd (g1 5) 3 0) ∧ (∃ (g3 : xk_St), g3 = va_up g2 3 (upd (g2 3) 3 0) ∧ (∃ (g4 : xk_St), g4 = va_up g3 6 (upd (g3 6) 3 0) ∧ (∃ (g5 : xk_St), relzM_note g4 2 3 g5 ∧ (g6 = g5)))))) → (xk_cnt (B + 1) g6) → (va_P G xk_cls (xk_wM ad ac g6) H) → (va_D A (xk_wM ad ac g6)) → (va_S A s.heap H locs) → W p l e xk_r2 s m args below meth c H locs 0 0 Q (F0 m 159 ls []) := by
          intro g6 H locs R3 Ig6 hP hD hS
          refine lv_iload (pc := 159) hx hb dzM_confirm_159 (lv_at hl 0 rfl) ?_
          exact hret _ g6 H locs 161 ls hP hS (xk_bn bx2) (by unfold relzM_confirm_1_0; exact ⟨x1, R1, ⟨r2, g1, hg1, (Eq.mpr (if_neg h3) ⟨x2, R2, ⟨g6, R3, ⟨rfl, bx2, rfl⟩⟩⟩)⟩⟩) dzM_confirm_161
        refine lv_if_eq (pc := 125) (tgt := 159) hx hb dzM_confirm_125 (by decide) (fun h7 => ?_) (fun h7 => ?_)
        ·
          exact K3 g1 H locs (Eq.mpr (if_pos h7) rfl) (xk_cnt_le Ig1 (by omega)) hP hD hS
        ·
          refine lv_aload_n (pc := 128) hx hb dzM_confirm_128 rfl (lv_at hl 3 rfl) ?_
          refine xk_get (pc := 129) hx hb hts hown hK hP ffzM_23 0 rfl rfl dzM_confirm_129 ?_
          refine lv_iload (pc := 132) hx hb dzM_confirm_132 (lv_at hl 1 rfl) ?_
          refine lv_iconst (v := 0) (pc := 134) hx hb dzM_confirm_134 (by decide) ?_
          refine xk_zast (q0 := 5) (t0 := 1) (j := 3) (pc := 135) hx hb hK hP hD hS rfl rfl (pk_in 3 6 (by decide)) (pk_cl 3) xk_b0 dzM_confirm_135 (fun H locs hP hD hS => ?_)
          obtain ⟨g2, eg2⟩ : ∃ z : xk_St, z = va_up g1 5 (upd (g1 5) 3 0) := ⟨_, rfl⟩
          have hP : va_P G xk_cls (xk_wM ad ac g2) H := by rw [eg2]; exact hP
          have hD : va_D A (xk_wM ad ac g2) := by rw [eg2]; exact hD
          have Ig2 : xk_cnt (B + 0) g2 := by rw [eg2]; repeat (first | exact Ig1 | refine xk_cnt_k (by decide) ?_ | refine xk_cnt_f (by decide) ?_ | refine xk_cnt_s ?_)
          refine lv_aload_n (pc := 136) hx hb dzM_confirm_136 rfl (lv_at hl 3 rfl) ?_
          refine xk_get (pc := 137) hx hb hts hown hK hP ffzM_17 0 rfl rfl dzM_confirm_137 ?_
          refine lv_iload (pc := 140) hx hb dzM_confirm_140 (lv_at hl 1 rfl) ?_
          refine lv_iconst (v := 0) (pc := 142) hx hb dzM_confirm_142 (by decide) ?_
          refine xk_iast (q0 := 3) (t0 := 0) (j := 3) (pc := 143) hx hb hK hP hD hS rfl rfl (pk_in 3 6 (by decide)) (pk_cl 3) dzM_confirm_143 (fun H locs hP hD hS => ?_)
          obtain ⟨g3, eg3⟩ : ∃ z : xk_St, z = va_up g2 3 (upd (g2 3) 3 0) := ⟨_, rfl⟩
          have hP : va_P G xk_cls (xk_wM ad ac g3) H := by rw [eg3]; exact hP
          have hD : va_D A (xk_wM ad ac g3) := by rw [eg3]; exact hD
          have Ig3 : xk_cnt (B + 0) g3 := by rw [eg3]; repeat (first | exact Ig2 | refine xk_cnt_k (by decide) ?_ | refine xk_cnt_f (by decide) ?_ | refine xk_cnt_s ?_)
          refine lv_aload_n (pc := 144) hx hb dzM_confirm_144 rfl (lv_at hl 3 rfl) ?_
          refine xk_get (pc := 145) hx hb hts hown hK hP ffzM_26 0 rfl rfl dzM_confirm_145 ?_
          refine lv_iload (pc := 148) hx hb dzM_confirm_148 (lv_at hl 1 rfl) ?_
          refine lv_iconst (v := 0) (pc := 150) hx hb dzM_confirm_150 (by decide) ?_
          refine xk_iast (q0 := 6) (t0 := 0) (j := 3) (pc := 151) hx hb hK hP hD hS rfl rfl (pk_in 3 6 (by decide)) (pk_cl 3) dzM_confirm_151 (fun H locs hP hD hS => ?_)
          obtain ⟨g4, eg4⟩ : ∃ z : xk_St, z = va_up g3 6 (upd (g3 6) 3 0) := ⟨_, rfl⟩
          have hP : va_P G xk_cls (xk_wM ad ac g4) H := by rw [eg4]; exact hP
          have hD : va_D A (xk_wM ad ac g4) := by rw [eg4]; exact hD
          have Ig4 : xk_cnt (B + 0) g4 := by rw [eg4]; repeat (first | exact Ig3 | refine xk_cnt_k (by decide) ?_ | refine xk_cnt_f (by decide) ?_ | refine xk_cnt_s ?_)
          refine lv_aload_n (pc := 152) hx hb dzM_confirm_152 rfl (lv_at hl 3 rfl) ?_
          refine lv_iconst (v := 2) (pc := 153) hx hb dzM_confirm_153 (by decide) ?_
          refine lv_iload (pc := 154) hx hb dzM_confirm_154 (lv_at hl 1 rfl) ?_
          refine xk_allVV (As := [.int 2, .int 3]) (rest := []) (H0 := s.heap) (pc := 156) hx hb hml hts hown hK hA hP hD hS (kzM_note l G ac ad g4 2 3 (B + 0) Ig4 (by omega)) vfzM_106 (fun _ => rfl) 0 rfl rfl ⟨rfl, rfl⟩ ⟨Nat.le_of_ble_eq_true rfl, Nat.le_of_ble_eq_true rfl⟩ rfl hl.1 rfl (Nat.le_of_ble_eq_true rfl) ⟨Nat.zero_le _, Nat.zero_le _⟩ dzM_confirm_156 (fun g5 H locs hg5 hP hD hS => ?_)
          have hP : va_P G xk_cls (xk_wM ad ac g5) H := hP
          have hD : va_D A (xk_wM ad ac g5) := hD
          have Ig5 : xk_cnt (B + 1) g5 := xk_cnt_le (iczM_note (B + 0) _ _ _ _ hg5 Ig4) (by omega)
          exact K3 g5 H locs (Eq.mpr (if_neg h7) ⟨g2, eg2, ⟨g3, eg3, ⟨g4, eg4, ⟨g5, hg5, rfl⟩⟩⟩⟩) (xk_cnt_le Ig5 (by omega)) hP hD hS
      refine lv_if_eq (pc := 85) (tgt := 120) hx hb dzM_confirm_85 (by decide) (fun h4 => ?_) (fun h4 => ?_)
      ·
        refine lv_iconst (v := 0) (pc := 120) hx hb dzM_confirm_120 (by decide) ?_
        exact K2 0 (Eq.mpr (if_pos h4) rfl) xk_b0
      ·
        refine lv_aload_n (pc := 88) hx hb dzM_confirm_88 rfl (lv_at hl 2 rfl) ?_
        refine xk_get (pc := 89) hx hb hts hown hK hP ffzM_13 0 rfl rfl dzM_confirm_89 ?_
        refine lv_iconst (v := 4) (pc := 92) hx hb dzM_confirm_92 (by decide) ?_
        refine lv_iload_n (pc := 93) hx hb dzM_confirm_93 rfl (lv_at hl 3 rfl) ?_
        refine lv_imul (pc := 94) hx hb dzM_confirm_94 ?_
        refine xk_is (y := 4) (by decide) ?_
        refine lv_iload_n (pc := 95) hx hb dzM_confirm_95 rfl (lv_at hl 4 rfl) ?_
        refine lv_iadd (pc := 96) hx hb dzM_confirm_96 ?_
        refine xk_is (y := 4) (by decide) ?_
        refine xk_zald (q0 := 2) (t0 := 1) (j := 4) (pc := 97) hx hb hK hP rfl rfl (pk_in 4 8 (by decide)) (pk_cl 4) dzM_confirm_97 ?_
        refine lv_if_ne (pc := 98) (tgt := 120) hx hb dzM_confirm_98 (by decide) (fun h5 => ?_) (fun h5 => ?_)
        ·
          refine lv_iconst (v := 0) (pc := 120) hx hb dzM_confirm_120 (by decide) ?_
          exact K2 0 (Eq.mpr (if_neg h4) (Eq.mpr (if_neg h5) rfl)) xk_b0
        ·
          refine lv_aload_n (pc := 101) hx hb dzM_confirm_101 rfl (lv_at hl 2 rfl) ?_
          refine xk_get (pc := 102) hx hb hts hown hK hP ffzM_13 0 rfl rfl dzM_confirm_102 ?_
          refine lv_iconst (v := 4) (pc := 105) hx hb dzM_confirm_105 (by decide) ?_
          refine lv_iload_n (pc := 106) hx hb dzM_confirm_106 rfl (lv_at hl 3 rfl) ?_
          refine lv_imul (pc := 107) hx hb dzM_confirm_107 ?_
          refine xk_is (y := 4) (by decide) ?_
          refine lv_iload_n (pc := 108) hx hb dzM_confirm_108 rfl (lv_at hl 4 rfl) ?_
          refine lv_iadd (pc := 109) hx hb dzM_confirm_109 ?_
          refine xk_is (y := 4) (by decide) ?_
          refine lv_iconst (v := 1) (pc := 110) hx hb dzM_confirm_110 (by decide) ?_
          refine lv_iadd (pc := 111) hx hb dzM_confirm_111 ?_
          refine xk_is (y := 5) (by decide) ?_
          refine xk_zald (q0 := 2) (t0 := 1) (j := 5) (pc := 112) hx hb hK hP rfl rfl (pk_in 5 8 (by decide)) (pk_cl 5) dzM_confirm_112 ?_
          refine lv_if_ne (pc := 113) (tgt := 120) hx hb dzM_confirm_113 (by decide) (fun h6 => ?_) (fun h6 => ?_)
          ·
            refine lv_iconst (v := 0) (pc := 120) hx hb dzM_confirm_120 (by decide) ?_
            exact K2 0 (Eq.mpr (if_neg h4) (Eq.mpr (if_pos h5) (Eq.mpr (if_neg h6) rfl))) xk_b0
          ·
            refine lv_iconst (v := 1) (pc := 116) hx hb dzM_confirm_116 (by decide) ?_
            refine lv_goto (tgt := 121) (pc := 117) hx hb dzM_confirm_117 (by decide) ?_
            exact K2 1 (Eq.mpr (if_neg h4) (Eq.mpr (if_pos h5) (Eq.mpr (if_pos h6) rfl))) xk_b1
    ·
      refine lv_iconst (v := 0) (pc := 77) hx hb dzM_confirm_77 (by decide) ?_
      exact hret _ g1 H locs 78 ls hP hS (xk_bn xk_b0) (by unfold relzM_confirm_1_0; exact ⟨x1, R1, ⟨r2, g1, hg1, (Eq.mpr (if_pos h3) ⟨rfl, xk_b0, rfl⟩)⟩⟩) dzM_confirm_78
  refine lv_if_eq (pc := 51) (tgt := 69) hx hb dzM_confirm_51 (by decide) (fun h1 => ?_) (fun h1 => ?_)
  ·
    refine lv_iconst (v := 0) (pc := 69) hx hb dzM_confirm_69 (by decide) ?_
    exact K1 0 (Eq.mpr (if_pos h1) rfl) xk_b0
  ·
    refine lv_aload_n (pc := 54) hx hb dzM_confirm_54 rfl (lv_at hl 2 rfl) ?_
    refine xk_get (pc := 55) hx hb hts hown hK hP ffzM_26 0 rfl rfl dzM_confirm_55 ?_
    refine lv_iload (pc := 58) hx hb dzM_confirm_58 (lv_at hl 0 rfl) ?_
    refine xk_iald (q0 := 6) (t0 := 0) (j := 3) (pc := 60) hx hb hK hP rfl rfl (pk_in 3 6 (by decide)) (pk_cl 3) dzM_confirm_60 ?_
    refine lv_iload_n (pc := 61) hx hb dzM_confirm_61 rfl (lv_at hl 5 rfl) ?_
    refine lv_icmp_eq (pc := 62) (tgt := 69) hx hb dzM_confirm_62 (by decide) (fun h2 => ?_) (fun h2 => ?_)
    ·
      refine lv_iconst (v := 0) (pc := 69) hx hb dzM_confirm_69 (by decide) ?_
      exact K1 0 (Eq.mpr (if_neg h1) (Eq.mpr (if_pos h2) rfl)) xk_b0
    ·
      refine lv_iconst (v := 1) (pc := 65) hx hb dzM_confirm_65 (by decide) ?_
      refine lv_goto (tgt := 70) (pc := 66) hx hb dzM_confirm_66 (by decide) ?_
      exact K1 1 (Eq.mpr (if_neg h1) (Eq.mpr (if_neg h2) rfl)) xk_b1
theorem frzM_confirm_1_0 (g0 : xk_St) (k2 : Int32) (rz : Int32) (gz : xk_St) : relzM_confirm_1_0 g0 k2 rz gz → xk_eqv [1, 2, 4, 7, 8, 9, 10, 11, 12, 13, 14, 15, 16, 17, 18, 19, 20, 21, 22, 23, 24] g0 gz := by
  intro h
  unfold relzM_confirm_1_0 at h
  have s0 : xk_eqv [1, 2, 4, 7, 8, 9, 10, 11, 12, 13, 14, 15, 16, 17, 18, 19, 20, 21, 22, 23, 24] g0 g0 := xk_eqv_rf
  obtain ⟨x1, u1, v2⟩ := h
  obtain ⟨r2, g1, u3, v4⟩ := v2
  have s5 : xk_eqv [1, 2, 4, 7, 8, 9, 10, 11, 12, 13, 14, 15, 16, 17, 18, 19, 20, 21, 22, 23, 24] g0 g1 := xk_eqv_tr s0 (xk_eqv_sub (frzM_goes _ _ _ _ _ _ u3) (by decide))
  by_cases hc : r2 = 0
  · rw [if_pos hc] at v4
    rw [v4.2.2]; exact s5
  · rw [if_neg hc] at v4
    obtain ⟨x2, u6, v7⟩ := v4
    obtain ⟨g6, u8, v9⟩ := v7
    have s10 : xk_eqv [1, 2, 4, 7, 8, 9, 10, 11, 12, 13, 14, 15, 16, 17, 18, 19, 20, 21, 22, 23, 24] g0 g6 := by
      by_cases hc : x2 = 0
      · rw [if_pos hc] at u8
        rw [u8]; exact s5
      · rw [if_neg hc] at u8
        obtain ⟨g2, u11, v12⟩ := u8
        have s13 : xk_eqv [1, 2, 4, 7, 8, 9, 10, 11, 12, 13, 14, 15, 16, 17, 18, 19, 20, 21, 22, 23, 24] g0 g2 := by rw [u11]; repeat (first | exact s5 | refine xk_eqv_up (by decide) ?_)
        obtain ⟨g3, u14, v15⟩ := v12
        have s16 : xk_eqv [1, 2, 4, 7, 8, 9, 10, 11, 12, 13, 14, 15, 16, 17, 18, 19, 20, 21, 22, 23, 24] g0 g3 := by rw [u14]; repeat (first | exact s13 | refine xk_eqv_up (by decide) ?_)
        obtain ⟨g4, u17, v18⟩ := v15
        have s19 : xk_eqv [1, 2, 4, 7, 8, 9, 10, 11, 12, 13, 14, 15, 16, 17, 18, 19, 20, 21, 22, 23, 24] g0 g4 := by rw [u17]; repeat (first | exact s16 | refine xk_eqv_up (by decide) ?_)
        obtain ⟨g5, u20, v21⟩ := v18
        have s22 : xk_eqv [1, 2, 4, 7, 8, 9, 10, 11, 12, 13, 14, 15, 16, 17, 18, 19, 20, 21, 22, 23, 24] g0 g5 := xk_eqv_tr s19 (xk_eqv_sub (frzM_note _ _ _ _ u20) (by decide))
        rw [v21]; exact s22
    rw [v9.2.2]; exact s10
theorem iczM_confirm_1_0 (B : Nat) (g0 : xk_St) (k2 : Int32) (rz : Int32) (gz : xk_St) : relzM_confirm_1_0 g0 k2 rz gz → xk_cnt B g0 → xk_cnt (B + 1) gz := by
  intro h Ig0
  unfold relzM_confirm_1_0 at h
  have Ig0 : xk_cnt (B + 0) g0 := Ig0
  obtain ⟨x1, u1, v2⟩ := h
  obtain ⟨r2, g1, u3, v4⟩ := v2
  have Ig1 : xk_cnt (B + 0) g1 := xk_cnt_le (iczM_goes (B + 0) _ _ _ _ _ _ u3 Ig0) (by omega)
  by_cases hc : r2 = 0
  · rw [if_pos hc] at v4
    rw [v4.2.2]; exact xk_cnt_le Ig1 (by omega)
  · rw [if_neg hc] at v4
    obtain ⟨x2, u5, v6⟩ := v4
    obtain ⟨g6, u7, v8⟩ := v6
    have Ig6 : xk_cnt (B + 1) g6 := by
      by_cases hc : x2 = 0
      · rw [if_pos hc] at u7
        rw [u7]; exact xk_cnt_le Ig1 (by omega)
      · rw [if_neg hc] at u7
        obtain ⟨g2, u9, v10⟩ := u7
        have Ig2 : xk_cnt (B + 0) g2 := by rw [u9]; repeat (first | exact Ig1 | refine xk_cnt_k (by decide) ?_ | refine xk_cnt_f (by decide) ?_ | refine xk_cnt_s ?_)
        obtain ⟨g3, u11, v12⟩ := v10
        have Ig3 : xk_cnt (B + 0) g3 := by rw [u11]; repeat (first | exact Ig2 | refine xk_cnt_k (by decide) ?_ | refine xk_cnt_f (by decide) ?_ | refine xk_cnt_s ?_)
        obtain ⟨g4, u13, v14⟩ := v12
        have Ig4 : xk_cnt (B + 0) g4 := by rw [u13]; repeat (first | exact Ig3 | refine xk_cnt_k (by decide) ?_ | refine xk_cnt_f (by decide) ?_ | refine xk_cnt_s ?_)
        obtain ⟨g5, u15, v16⟩ := v14
        have Ig5 : xk_cnt (B + 1) g5 := xk_cnt_le (iczM_note (B + 0) _ _ _ _ u15 Ig4) (by omega)
        rw [v16]; exact xk_cnt_le Ig5 (by omega)
    rw [v8.2.2]; exact xk_cnt_le Ig6 (by omega)

def relzM_confirm_1_1 (g0 : xk_St) (k2 : Int32) (rz : Int32) (gz : xk_St) : Prop := ∃ (x1 : Int32), (if ((g0 6) 4) = 0 then (x1 = 0) else (if ((g0 6) 4) = k2 then (x1 = 0) else (x1 = 1))) ∧ (∃ (r2 : Int32) (g1 : xk_St), relzM_goes g0 1 x1 1 r2 g1 ∧ (if r2 = 0 then (rz = 0 ∧ xk_b rz ∧ gz = g1) else (∃ (x2 : Int32), (if (qzM_swept_4 g1) = 0 then (x2 = 0) else (if ((g1 2) 5) = 0 then (if ((g1 2) 6) = 0 then (x2 = 1) else (x2 = 0)) else (x2 = 0))) ∧ (∃ (g6 : xk_St), (if x2 = 0 then (g6 = g1) else (∃ (g2 : xk_St), g2 = va_up g1 5 (upd (g1 5) 4 0) ∧ (∃ (g3 : xk_St), g3 = va_up g2 3 (upd (g2 3) 4 0) ∧ (∃ (g4 : xk_St), g4 = va_up g3 6 (upd (g3 6) 4 0) ∧ (∃ (g5 : xk_St), relzM_note g4 2 4 g5 ∧ (g6 = g5)))))) ∧ (rz = x2 ∧ xk_b rz ∧ gz = g6)))))
set_option maxHeartbeats 4000000 in
set_option maxRecDepth 100000 in
theorem kzM_confirm_1_1 (l : Launch) (G : va_G) (ac : Nat → ClassId) (ad : Nat → Nat) (g0 : xk_St) (k2 : Int32) (B : Nat) (hw : ¬ k2 < 1) (Ig0 : xk_cnt B g0) (hB : B + 2 < 2147483648) : xk_CI l yzM_confirm czM_confirm 7 .boolean xk_WS xk_r2 G xk_cls (xk_tys ac) [.ref (ad 0), .int 1, .int 1, .int k2] (xk_wM ad ac g0) (fun rz (gz : xk_St) => relzM_confirm_1_1 g0 k2 rz gz) (fun gz => xk_wM ad ac gz) := by
  refine xk_ofI (by decide) (Nat.le_of_ble_eq_true rfl) ?_
  intro p e s m args below meth c A Q H locs ls C0 hret hP hD hS hl
  obtain ⟨hx, hb, hml, hts, hown, hK, hA⟩ := C0
  have hl : lv_has ls 7 [(0, .ref (ad 0)), (1, .int 1), (2, .int 1), (3, .int k2)] := hl
  have Ig0 : xk_cnt (B + 0) g0 := Ig0
  refine lv_iload_n (pc := 0) hx hb dzM_confirm_0 rfl (lv_at hl 1 rfl) ?_
  refine lv_iload_n (pc := 1) hx hb dzM_confirm_1 rfl (lv_at hl 2 rfl) ?_
  refine xk_callSI (As := [.int 1, .int 1]) (rest := []) (H0 := s.heap) (pc := 2) hx hb hml hts hown hK hA hP hD hS (kzM_isSection l G ac 1 1) sfzM_132 [] (by decide) rfl (fun _ => rfl) ⟨rfl, rfl⟩ ⟨Nat.le_of_ble_eq_true rfl, Nat.le_of_ble_eq_true rfl⟩ rfl hl.1 rfl (Nat.le_of_ble_eq_true rfl) ⟨Nat.zero_le _, Nat.zero_le _⟩ dzM_confirm_2 (fun r1 u9 H locs e9 hP hD hS => ?_)
  obtain rfl : r1 = qzM_isSection 1 1 := e9
  refine xk_is (y := 1) (by decide) ?_
  have hP : va_P G xk_cls (xk_wM ad ac g0) H := hP
  have hD : va_D A (xk_wM ad ac g0) := hD
  refine lv_if_eq (pc := 5) (tgt := 17) hx hb dzM_confirm_5 (by decide) (fun hq9 => absurd hq9 (by decide)) (fun _ => ?_)
  refine lv_iload_n (pc := 8) hx hb dzM_confirm_8 rfl (lv_at hl 3 rfl) ?_
  refine lv_iconst (v := 1) (pc := 9) hx hb dzM_confirm_9 (by decide) ?_
  refine lv_icmp_lt (pc := 10) (tgt := 17) hx hb dzM_confirm_10 (by decide) (fun hq9 => absurd hq9 hw) (fun _ => ?_)
  refine lv_iconst (v := 1) (pc := 13) hx hb dzM_confirm_13 (by decide) ?_
  refine lv_goto (tgt := 18) (pc := 14) hx hb dzM_confirm_14 (by decide) ?_
  refine lv_istore (lv' := [(4, .int 1), (0, .ref (ad 0)), (1, .int 1), (2, .int 1), (3, .int k2)]) (pc := 18) hx hb dzM_confirm_18 hl (by decide) rfl (fun ls hl => ?_)
  refine lv_iload (pc := 20) hx hb dzM_confirm_20 (lv_at hl 0 rfl) ?_
  refine lv_if_eq (pc := 22) (tgt := 33) hx hb dzM_confirm_22 (by decide) (fun hq9 => absurd hq9 (by decide)) (fun _ => ?_)
  refine lv_iconst (v := 3) (pc := 25) hx hb dzM_confirm_25 (by decide) ?_
  refine lv_iload_n (pc := 26) hx hb dzM_confirm_26 rfl (lv_at hl 2 rfl) ?_
  refine lv_imul (pc := 27) hx hb dzM_confirm_27 ?_
  refine xk_is (y := 3) (by decide) ?_
  refine lv_iload_n (pc := 28) hx hb dzM_confirm_28 rfl (lv_at hl 3 rfl) ?_
  refine lv_iadd (pc := 29) hx hb dzM_confirm_29 ?_
  refine xk_is (y := 4) (by decide) ?_
  refine lv_goto (tgt := 34) (pc := 30) hx hb dzM_confirm_30 (by decide) ?_
  refine lv_istore (lv' := [(5, .int 4), (4, .int 1), (0, .ref (ad 0)), (1, .int 1), (2, .int 1), (3, .int k2)]) (pc := 34) hx hb dzM_confirm_34 hl (by decide) rfl (fun ls hl => ?_)
  refine lv_aload_n (pc := 36) hx hb dzM_confirm_36 rfl (lv_at hl 2 rfl) ?_
  refine lv_iload (pc := 37) hx hb dzM_confirm_37 (lv_at hl 1 rfl) ?_
  refine lv_iload (pc := 39) hx hb dzM_confirm_39 (lv_at hl 1 rfl) ?_
  refine lv_if_eq (pc := 41) (tgt := 69) hx hb dzM_confirm_41 (by decide) (fun hq9 => absurd hq9 (by decide)) (fun _ => ?_)
  refine lv_aload_n (pc := 44) hx hb dzM_confirm_44 rfl (lv_at hl 2 rfl) ?_
  refine xk_get (pc := 45) hx hb hts hown hK hP ffzM_26 0 rfl rfl dzM_confirm_45 ?_
  refine lv_iload (pc := 48) hx hb dzM_confirm_48 (lv_at hl 0 rfl) ?_
  refine xk_iald (q0 := 6) (t0 := 0) (j := 4) (pc := 50) hx hb hK hP rfl rfl (pk_in 4 6 (by decide)) (pk_cl 4) dzM_confirm_50 ?_
  have K1 : ∀ (x1 : Int32), (if ((g0 6) 4) = 0 then (x1 = 0) else (if ((g0 6) 4) = k2 then (x1 = 0) else (x1 = 1))) → (xk_b x1) → W p l e xk_r2 s m args below meth c H locs 0 0 Q (F0 m 70 ls [.int x1, .int 1, .ref (ad 0)]) := by
    intro x1 R1 bx1
    refine lv_iconst (v := 1) (pc := 70) hx hb dzM_confirm_70 (by decide) ?_
    refine xk_allVI (As := [.int 1, .int x1, .int 1]) (rest := []) (H0 := s.heap) (pc := 71) hx hb hml hts hown hK hA hP hD hS (kzM_goes l G ac ad g0 1 x1 1 (B + 0) Ig0 (by omega)) vfzM_114 (fun _ => rfl) 0 rfl rfl ⟨rfl, rfl⟩ ⟨Nat.le_of_ble_eq_true rfl, Nat.le_of_ble_eq_true rfl⟩ rfl hl.1 rfl (Nat.le_of_ble_eq_true rfl) ⟨Nat.zero_le _, Nat.zero_le _⟩ dzM_confirm_71 (fun r2 g1 H locs hg1 hP hD hS => ?_)
    have hP : va_P G xk_cls (xk_wM ad ac g1) H := hP
    have hD : va_D A (xk_wM ad ac g1) := hD
    have Ig1 : xk_cnt (B + 0) g1 := xk_cnt_le (iczM_goes (B + 0) _ _ _ _ _ _ hg1 Ig0) (by omega)
    refine lv_if_ne (pc := 74) (tgt := 79) hx hb dzM_confirm_74 (by decide) (fun h3 => ?_) (fun h3 => ?_)
    ·
      refine lv_aload_n (pc := 79) hx hb dzM_confirm_79 rfl (lv_at hl 2 rfl) ?_
      refine lv_iload (pc := 80) hx hb dzM_confirm_80 (lv_at hl 0 rfl) ?_
      refine xk_allVI (As := [.int 4]) (rest := []) (H0 := s.heap) (pc := 82) hx hb hml hts hown hK hA hP hD hS (kzM_swept_4 l G ac ad g1) vfzM_135 (fun _ => rfl) 0 rfl rfl ⟨rfl, rfl⟩ ⟨Nat.le_of_ble_eq_true rfl, Nat.le_of_ble_eq_true rfl⟩ rfl hl.1 rfl (Nat.le_of_ble_eq_true rfl) ⟨Nat.zero_le _, Nat.zero_le _⟩ dzM_confirm_82 (fun r3 u9 H locs e9 hP hD hS => ?_)
      obtain rfl : r3 = qzM_swept_4 g1 := e9
      have hP : va_P G xk_cls (xk_wM ad ac g1) H := hP
      have hD : va_D A (xk_wM ad ac g1) := hD
      have K2 : ∀ (x2 : Int32), (if (qzM_swept_4 g1) = 0 then (x2 = 0) else (if ((g1 2) 5) = 0 then (if ((g1 2) 6) = 0 then (x2 = 1) else (x2 = 0)) else (x2 = 0))) → (xk_b x2) → W p l e xk_r2 s m args below meth c H locs 0 0 Q (F0 m 121 ls [.int x2]) := by
        intro x2 R2 bx2
        refine lv_istore (lv' := [(6, .int x2), (5, .int 4), (4, .int 1), (0, .ref (ad 0)), (1, .int 1), (2, .int 1), (3, .int k2)]) (pc := 121) hx hb dzM_confirm_121 hl (by decide) rfl (fun ls hl => ?_)
        refine lv_iload (pc := 123) hx hb dzM_confirm_123 (lv_at hl 0 rfl) ?_
        have K3 : ∀ (g6 : xk_St) (H : Heap) (locs : List Loc), (if x2 = 0 then (g6 = g1) else (∃ (g2 : xk_St), g2 = va_up g1 5 (upd (g1 5) 4 0) ∧ (∃ (g3 : xk_St), g3 = va_up g2 3 (upd (g2 3) 4 0) ∧ (∃ (g4 : xk_St), g4 = va_up g3 6 (upd (g3 6) 4 0) ∧ (∃ (g5 : xk_St), relzM_note g4 2 4 g5 ∧ (g6 = g5)))))) → (xk_cnt (B + 1) g6) → (va_P G xk_cls (xk_wM ad ac g6) H) → (va_D A (xk_wM ad ac g6)) → (va_S A s.heap H locs) → W p l e xk_r2 s m args below meth c H locs 0 0 Q (F0 m 159 ls []) := by
          intro g6 H locs R3 Ig6 hP hD hS
          refine lv_iload (pc := 159) hx hb dzM_confirm_159 (lv_at hl 0 rfl) ?_
          exact hret _ g6 H locs 161 ls hP hS (xk_bn bx2) (by unfold relzM_confirm_1_1; exact ⟨x1, R1, ⟨r2, g1, hg1, (Eq.mpr (if_neg h3) ⟨x2, R2, ⟨g6, R3, ⟨rfl, bx2, rfl⟩⟩⟩)⟩⟩) dzM_confirm_161
        refine lv_if_eq (pc := 125) (tgt := 159) hx hb dzM_confirm_125 (by decide) (fun h7 => ?_) (fun h7 => ?_)
        ·
          exact K3 g1 H locs (Eq.mpr (if_pos h7) rfl) (xk_cnt_le Ig1 (by omega)) hP hD hS
        ·
          refine lv_aload_n (pc := 128) hx hb dzM_confirm_128 rfl (lv_at hl 3 rfl) ?_
          refine xk_get (pc := 129) hx hb hts hown hK hP ffzM_23 0 rfl rfl dzM_confirm_129 ?_
          refine lv_iload (pc := 132) hx hb dzM_confirm_132 (lv_at hl 1 rfl) ?_
          refine lv_iconst (v := 0) (pc := 134) hx hb dzM_confirm_134 (by decide) ?_
          refine xk_zast (q0 := 5) (t0 := 1) (j := 4) (pc := 135) hx hb hK hP hD hS rfl rfl (pk_in 4 6 (by decide)) (pk_cl 4) xk_b0 dzM_confirm_135 (fun H locs hP hD hS => ?_)
          obtain ⟨g2, eg2⟩ : ∃ z : xk_St, z = va_up g1 5 (upd (g1 5) 4 0) := ⟨_, rfl⟩
          have hP : va_P G xk_cls (xk_wM ad ac g2) H := by rw [eg2]; exact hP
          have hD : va_D A (xk_wM ad ac g2) := by rw [eg2]; exact hD
          have Ig2 : xk_cnt (B + 0) g2 := by rw [eg2]; repeat (first | exact Ig1 | refine xk_cnt_k (by decide) ?_ | refine xk_cnt_f (by decide) ?_ | refine xk_cnt_s ?_)
          refine lv_aload_n (pc := 136) hx hb dzM_confirm_136 rfl (lv_at hl 3 rfl) ?_
          refine xk_get (pc := 137) hx hb hts hown hK hP ffzM_17 0 rfl rfl dzM_confirm_137 ?_
          refine lv_iload (pc := 140) hx hb dzM_confirm_140 (lv_at hl 1 rfl) ?_
          refine lv_iconst (v := 0) (pc := 142) hx hb dzM_confirm_142 (by decide) ?_
          refine xk_iast (q0 := 3) (t0 := 0) (j := 4) (pc := 143) hx hb hK hP hD hS rfl rfl (pk_in 4 6 (by decide)) (pk_cl 4) dzM_confirm_143 (fun H locs hP hD hS => ?_)
          obtain ⟨g3, eg3⟩ : ∃ z : xk_St, z = va_up g2 3 (upd (g2 3) 4 0) := ⟨_, rfl⟩
          have hP : va_P G xk_cls (xk_wM ad ac g3) H := by rw [eg3]; exact hP
          have hD : va_D A (xk_wM ad ac g3) := by rw [eg3]; exact hD
          have Ig3 : xk_cnt (B + 0) g3 := by rw [eg3]; repeat (first | exact Ig2 | refine xk_cnt_k (by decide) ?_ | refine xk_cnt_f (by decide) ?_ | refine xk_cnt_s ?_)
          refine lv_aload_n (pc := 144) hx hb dzM_confirm_144 rfl (lv_at hl 3 rfl) ?_
          refine xk_get (pc := 145) hx hb hts hown hK hP ffzM_26 0 rfl rfl dzM_confirm_145 ?_
          refine lv_iload (pc := 148) hx hb dzM_confirm_148 (lv_at hl 1 rfl) ?_
          refine lv_iconst (v := 0) (pc := 150) hx hb dzM_confirm_150 (by decide) ?_
          refine xk_iast (q0 := 6) (t0 := 0) (j := 4) (pc := 151) hx hb hK hP hD hS rfl rfl (pk_in 4 6 (by decide)) (pk_cl 4) dzM_confirm_151 (fun H locs hP hD hS => ?_)
          obtain ⟨g4, eg4⟩ : ∃ z : xk_St, z = va_up g3 6 (upd (g3 6) 4 0) := ⟨_, rfl⟩
          have hP : va_P G xk_cls (xk_wM ad ac g4) H := by rw [eg4]; exact hP
          have hD : va_D A (xk_wM ad ac g4) := by rw [eg4]; exact hD
          have Ig4 : xk_cnt (B + 0) g4 := by rw [eg4]; repeat (first | exact Ig3 | refine xk_cnt_k (by decide) ?_ | refine xk_cnt_f (by decide) ?_ | refine xk_cnt_s ?_)
          refine lv_aload_n (pc := 152) hx hb dzM_confirm_152 rfl (lv_at hl 3 rfl) ?_
          refine lv_iconst (v := 2) (pc := 153) hx hb dzM_confirm_153 (by decide) ?_
          refine lv_iload (pc := 154) hx hb dzM_confirm_154 (lv_at hl 1 rfl) ?_
          refine xk_allVV (As := [.int 2, .int 4]) (rest := []) (H0 := s.heap) (pc := 156) hx hb hml hts hown hK hA hP hD hS (kzM_note l G ac ad g4 2 4 (B + 0) Ig4 (by omega)) vfzM_106 (fun _ => rfl) 0 rfl rfl ⟨rfl, rfl⟩ ⟨Nat.le_of_ble_eq_true rfl, Nat.le_of_ble_eq_true rfl⟩ rfl hl.1 rfl (Nat.le_of_ble_eq_true rfl) ⟨Nat.zero_le _, Nat.zero_le _⟩ dzM_confirm_156 (fun g5 H locs hg5 hP hD hS => ?_)
          have hP : va_P G xk_cls (xk_wM ad ac g5) H := hP
          have hD : va_D A (xk_wM ad ac g5) := hD
          have Ig5 : xk_cnt (B + 1) g5 := xk_cnt_le (iczM_note (B + 0) _ _ _ _ hg5 Ig4) (by omega)
          exact K3 g5 H locs (Eq.mpr (if_neg h7) ⟨g2, eg2, ⟨g3, eg3, ⟨g4, eg4, ⟨g5, hg5, rfl⟩⟩⟩⟩) (xk_cnt_le Ig5 (by omega)) hP hD hS
      refine lv_if_eq (pc := 85) (tgt := 120) hx hb dzM_confirm_85 (by decide) (fun h4 => ?_) (fun h4 => ?_)
      ·
        refine lv_iconst (v := 0) (pc := 120) hx hb dzM_confirm_120 (by decide) ?_
        exact K2 0 (Eq.mpr (if_pos h4) rfl) xk_b0
      ·
        refine lv_aload_n (pc := 88) hx hb dzM_confirm_88 rfl (lv_at hl 2 rfl) ?_
        refine xk_get (pc := 89) hx hb hts hown hK hP ffzM_13 0 rfl rfl dzM_confirm_89 ?_
        refine lv_iconst (v := 4) (pc := 92) hx hb dzM_confirm_92 (by decide) ?_
        refine lv_iload_n (pc := 93) hx hb dzM_confirm_93 rfl (lv_at hl 3 rfl) ?_
        refine lv_imul (pc := 94) hx hb dzM_confirm_94 ?_
        refine xk_is (y := 4) (by decide) ?_
        refine lv_iload_n (pc := 95) hx hb dzM_confirm_95 rfl (lv_at hl 4 rfl) ?_
        refine lv_iadd (pc := 96) hx hb dzM_confirm_96 ?_
        refine xk_is (y := 5) (by decide) ?_
        refine xk_zald (q0 := 2) (t0 := 1) (j := 5) (pc := 97) hx hb hK hP rfl rfl (pk_in 5 8 (by decide)) (pk_cl 5) dzM_confirm_97 ?_
        refine lv_if_ne (pc := 98) (tgt := 120) hx hb dzM_confirm_98 (by decide) (fun h5 => ?_) (fun h5 => ?_)
        ·
          refine lv_iconst (v := 0) (pc := 120) hx hb dzM_confirm_120 (by decide) ?_
          exact K2 0 (Eq.mpr (if_neg h4) (Eq.mpr (if_neg h5) rfl)) xk_b0
        ·
          refine lv_aload_n (pc := 101) hx hb dzM_confirm_101 rfl (lv_at hl 2 rfl) ?_
          refine xk_get (pc := 102) hx hb hts hown hK hP ffzM_13 0 rfl rfl dzM_confirm_102 ?_
          refine lv_iconst (v := 4) (pc := 105) hx hb dzM_confirm_105 (by decide) ?_
          refine lv_iload_n (pc := 106) hx hb dzM_confirm_106 rfl (lv_at hl 3 rfl) ?_
          refine lv_imul (pc := 107) hx hb dzM_confirm_107 ?_
          refine xk_is (y := 4) (by decide) ?_
          refine lv_iload_n (pc := 108) hx hb dzM_confirm_108 rfl (lv_at hl 4 rfl) ?_
          refine lv_iadd (pc := 109) hx hb dzM_confirm_109 ?_
          refine xk_is (y := 5) (by decide) ?_
          refine lv_iconst (v := 1) (pc := 110) hx hb dzM_confirm_110 (by decide) ?_
          refine lv_iadd (pc := 111) hx hb dzM_confirm_111 ?_
          refine xk_is (y := 6) (by decide) ?_
          refine xk_zald (q0 := 2) (t0 := 1) (j := 6) (pc := 112) hx hb hK hP rfl rfl (pk_in 6 8 (by decide)) (pk_cl 6) dzM_confirm_112 ?_
          refine lv_if_ne (pc := 113) (tgt := 120) hx hb dzM_confirm_113 (by decide) (fun h6 => ?_) (fun h6 => ?_)
          ·
            refine lv_iconst (v := 0) (pc := 120) hx hb dzM_confirm_120 (by decide) ?_
            exact K2 0 (Eq.mpr (if_neg h4) (Eq.mpr (if_pos h5) (Eq.mpr (if_neg h6) rfl))) xk_b0
          ·
            refine lv_iconst (v := 1) (pc := 116) hx hb dzM_confirm_116 (by decide) ?_
            refine lv_goto (tgt := 121) (pc := 117) hx hb dzM_confirm_117 (by decide) ?_
            exact K2 1 (Eq.mpr (if_neg h4) (Eq.mpr (if_pos h5) (Eq.mpr (if_pos h6) rfl))) xk_b1
    ·
      refine lv_iconst (v := 0) (pc := 77) hx hb dzM_confirm_77 (by decide) ?_
      exact hret _ g1 H locs 78 ls hP hS (xk_bn xk_b0) (by unfold relzM_confirm_1_1; exact ⟨x1, R1, ⟨r2, g1, hg1, (Eq.mpr (if_pos h3) ⟨rfl, xk_b0, rfl⟩)⟩⟩) dzM_confirm_78
  refine lv_if_eq (pc := 51) (tgt := 69) hx hb dzM_confirm_51 (by decide) (fun h1 => ?_) (fun h1 => ?_)
  ·
    refine lv_iconst (v := 0) (pc := 69) hx hb dzM_confirm_69 (by decide) ?_
    exact K1 0 (Eq.mpr (if_pos h1) rfl) xk_b0
  ·
    refine lv_aload_n (pc := 54) hx hb dzM_confirm_54 rfl (lv_at hl 2 rfl) ?_
    refine xk_get (pc := 55) hx hb hts hown hK hP ffzM_26 0 rfl rfl dzM_confirm_55 ?_
    refine lv_iload (pc := 58) hx hb dzM_confirm_58 (lv_at hl 0 rfl) ?_
    refine xk_iald (q0 := 6) (t0 := 0) (j := 4) (pc := 60) hx hb hK hP rfl rfl (pk_in 4 6 (by decide)) (pk_cl 4) dzM_confirm_60 ?_
    refine lv_iload_n (pc := 61) hx hb dzM_confirm_61 rfl (lv_at hl 5 rfl) ?_
    refine lv_icmp_eq (pc := 62) (tgt := 69) hx hb dzM_confirm_62 (by decide) (fun h2 => ?_) (fun h2 => ?_)
    ·
      refine lv_iconst (v := 0) (pc := 69) hx hb dzM_confirm_69 (by decide) ?_
      exact K1 0 (Eq.mpr (if_neg h1) (Eq.mpr (if_pos h2) rfl)) xk_b0
    ·
      refine lv_iconst (v := 1) (pc := 65) hx hb dzM_confirm_65 (by decide) ?_
      refine lv_goto (tgt := 70) (pc := 66) hx hb dzM_confirm_66 (by decide) ?_
      exact K1 1 (Eq.mpr (if_neg h1) (Eq.mpr (if_neg h2) rfl)) xk_b1
theorem frzM_confirm_1_1 (g0 : xk_St) (k2 : Int32) (rz : Int32) (gz : xk_St) : relzM_confirm_1_1 g0 k2 rz gz → xk_eqv [1, 2, 4, 7, 8, 9, 10, 11, 12, 13, 14, 15, 16, 17, 18, 19, 20, 21, 22, 23, 24] g0 gz := by
  intro h
  unfold relzM_confirm_1_1 at h
  have s0 : xk_eqv [1, 2, 4, 7, 8, 9, 10, 11, 12, 13, 14, 15, 16, 17, 18, 19, 20, 21, 22, 23, 24] g0 g0 := xk_eqv_rf
  obtain ⟨x1, u1, v2⟩ := h
  obtain ⟨r2, g1, u3, v4⟩ := v2
  have s5 : xk_eqv [1, 2, 4, 7, 8, 9, 10, 11, 12, 13, 14, 15, 16, 17, 18, 19, 20, 21, 22, 23, 24] g0 g1 := xk_eqv_tr s0 (xk_eqv_sub (frzM_goes _ _ _ _ _ _ u3) (by decide))
  by_cases hc : r2 = 0
  · rw [if_pos hc] at v4
    rw [v4.2.2]; exact s5
  · rw [if_neg hc] at v4
    obtain ⟨x2, u6, v7⟩ := v4
    obtain ⟨g6, u8, v9⟩ := v7
    have s10 : xk_eqv [1, 2, 4, 7, 8, 9, 10, 11, 12, 13, 14, 15, 16, 17, 18, 19, 20, 21, 22, 23, 24] g0 g6 := by
      by_cases hc : x2 = 0
      · rw [if_pos hc] at u8
        rw [u8]; exact s5
      · rw [if_neg hc] at u8
        obtain ⟨g2, u11, v12⟩ := u8
        have s13 : xk_eqv [1, 2, 4, 7, 8, 9, 10, 11, 12, 13, 14, 15, 16, 17, 18, 19, 20, 21, 22, 23, 24] g0 g2 := by rw [u11]; repeat (first | exact s5 | refine xk_eqv_up (by decide) ?_)
        obtain ⟨g3, u14, v15⟩ := v12
        have s16 : xk_eqv [1, 2, 4, 7, 8, 9, 10, 11, 12, 13, 14, 15, 16, 17, 18, 19, 20, 21, 22, 23, 24] g0 g3 := by rw [u14]; repeat (first | exact s13 | refine xk_eqv_up (by decide) ?_)
        obtain ⟨g4, u17, v18⟩ := v15
        have s19 : xk_eqv [1, 2, 4, 7, 8, 9, 10, 11, 12, 13, 14, 15, 16, 17, 18, 19, 20, 21, 22, 23, 24] g0 g4 := by rw [u17]; repeat (first | exact s16 | refine xk_eqv_up (by decide) ?_)
        obtain ⟨g5, u20, v21⟩ := v18
        have s22 : xk_eqv [1, 2, 4, 7, 8, 9, 10, 11, 12, 13, 14, 15, 16, 17, 18, 19, 20, 21, 22, 23, 24] g0 g5 := xk_eqv_tr s19 (xk_eqv_sub (frzM_note _ _ _ _ u20) (by decide))
        rw [v21]; exact s22
    rw [v9.2.2]; exact s10
theorem iczM_confirm_1_1 (B : Nat) (g0 : xk_St) (k2 : Int32) (rz : Int32) (gz : xk_St) : relzM_confirm_1_1 g0 k2 rz gz → xk_cnt B g0 → xk_cnt (B + 1) gz := by
  intro h Ig0
  unfold relzM_confirm_1_1 at h
  have Ig0 : xk_cnt (B + 0) g0 := Ig0
  obtain ⟨x1, u1, v2⟩ := h
  obtain ⟨r2, g1, u3, v4⟩ := v2
  have Ig1 : xk_cnt (B + 0) g1 := xk_cnt_le (iczM_goes (B + 0) _ _ _ _ _ _ u3 Ig0) (by omega)
  by_cases hc : r2 = 0
  · rw [if_pos hc] at v4
    rw [v4.2.2]; exact xk_cnt_le Ig1 (by omega)
  · rw [if_neg hc] at v4
    obtain ⟨x2, u5, v6⟩ := v4
    obtain ⟨g6, u7, v8⟩ := v6
    have Ig6 : xk_cnt (B + 1) g6 := by
      by_cases hc : x2 = 0
      · rw [if_pos hc] at u7
        rw [u7]; exact xk_cnt_le Ig1 (by omega)
      · rw [if_neg hc] at u7
        obtain ⟨g2, u9, v10⟩ := u7
        have Ig2 : xk_cnt (B + 0) g2 := by rw [u9]; repeat (first | exact Ig1 | refine xk_cnt_k (by decide) ?_ | refine xk_cnt_f (by decide) ?_ | refine xk_cnt_s ?_)
        obtain ⟨g3, u11, v12⟩ := v10
        have Ig3 : xk_cnt (B + 0) g3 := by rw [u11]; repeat (first | exact Ig2 | refine xk_cnt_k (by decide) ?_ | refine xk_cnt_f (by decide) ?_ | refine xk_cnt_s ?_)
        obtain ⟨g4, u13, v14⟩ := v12
        have Ig4 : xk_cnt (B + 0) g4 := by rw [u13]; repeat (first | exact Ig3 | refine xk_cnt_k (by decide) ?_ | refine xk_cnt_f (by decide) ?_ | refine xk_cnt_s ?_)
        obtain ⟨g5, u15, v16⟩ := v14
        have Ig5 : xk_cnt (B + 1) g5 := xk_cnt_le (iczM_note (B + 0) _ _ _ _ u15 Ig4) (by omega)
        rw [v16]; exact xk_cnt_le Ig5 (by omega)
    rw [v8.2.2]; exact xk_cnt_le Ig6 (by omega)

def relzM_confirm_1_2 (g0 : xk_St) (k2 : Int32) (rz : Int32) (gz : xk_St) : Prop := ∃ (x1 : Int32), (if ((g0 6) 5) = 0 then (x1 = 0) else (if ((g0 6) 5) = k2 then (x1 = 0) else (x1 = 1))) ∧ (∃ (r2 : Int32) (g1 : xk_St), relzM_goes g0 1 x1 1 r2 g1 ∧ (if r2 = 0 then (rz = 0 ∧ xk_b rz ∧ gz = g1) else (∃ (x2 : Int32), (if (qzM_swept_5 g1) = 0 then (x2 = 0) else (if ((g1 2) 6) = 0 then (if ((g1 2) 7) = 0 then (x2 = 1) else (x2 = 0)) else (x2 = 0))) ∧ (∃ (g6 : xk_St), (if x2 = 0 then (g6 = g1) else (∃ (g2 : xk_St), g2 = va_up g1 5 (upd (g1 5) 5 0) ∧ (∃ (g3 : xk_St), g3 = va_up g2 3 (upd (g2 3) 5 0) ∧ (∃ (g4 : xk_St), g4 = va_up g3 6 (upd (g3 6) 5 0) ∧ (∃ (g5 : xk_St), relzM_note g4 2 5 g5 ∧ (g6 = g5)))))) ∧ (rz = x2 ∧ xk_b rz ∧ gz = g6)))))
set_option maxHeartbeats 4000000 in
set_option maxRecDepth 100000 in
theorem kzM_confirm_1_2 (l : Launch) (G : va_G) (ac : Nat → ClassId) (ad : Nat → Nat) (g0 : xk_St) (k2 : Int32) (B : Nat) (hw : ¬ k2 < 1) (Ig0 : xk_cnt B g0) (hB : B + 2 < 2147483648) : xk_CI l yzM_confirm czM_confirm 7 .boolean xk_WS xk_r2 G xk_cls (xk_tys ac) [.ref (ad 0), .int 1, .int 2, .int k2] (xk_wM ad ac g0) (fun rz (gz : xk_St) => relzM_confirm_1_2 g0 k2 rz gz) (fun gz => xk_wM ad ac gz) := by
  refine xk_ofI (by decide) (Nat.le_of_ble_eq_true rfl) ?_
  intro p e s m args below meth c A Q H locs ls C0 hret hP hD hS hl
  obtain ⟨hx, hb, hml, hts, hown, hK, hA⟩ := C0
  have hl : lv_has ls 7 [(0, .ref (ad 0)), (1, .int 1), (2, .int 2), (3, .int k2)] := hl
  have Ig0 : xk_cnt (B + 0) g0 := Ig0
  refine lv_iload_n (pc := 0) hx hb dzM_confirm_0 rfl (lv_at hl 1 rfl) ?_
  refine lv_iload_n (pc := 1) hx hb dzM_confirm_1 rfl (lv_at hl 2 rfl) ?_
  refine xk_callSI (As := [.int 1, .int 2]) (rest := []) (H0 := s.heap) (pc := 2) hx hb hml hts hown hK hA hP hD hS (kzM_isSection l G ac 1 2) sfzM_132 [] (by decide) rfl (fun _ => rfl) ⟨rfl, rfl⟩ ⟨Nat.le_of_ble_eq_true rfl, Nat.le_of_ble_eq_true rfl⟩ rfl hl.1 rfl (Nat.le_of_ble_eq_true rfl) ⟨Nat.zero_le _, Nat.zero_le _⟩ dzM_confirm_2 (fun r1 u9 H locs e9 hP hD hS => ?_)
  obtain rfl : r1 = qzM_isSection 1 2 := e9
  refine xk_is (y := 1) (by decide) ?_
  have hP : va_P G xk_cls (xk_wM ad ac g0) H := hP
  have hD : va_D A (xk_wM ad ac g0) := hD
  refine lv_if_eq (pc := 5) (tgt := 17) hx hb dzM_confirm_5 (by decide) (fun hq9 => absurd hq9 (by decide)) (fun _ => ?_)
  refine lv_iload_n (pc := 8) hx hb dzM_confirm_8 rfl (lv_at hl 3 rfl) ?_
  refine lv_iconst (v := 1) (pc := 9) hx hb dzM_confirm_9 (by decide) ?_
  refine lv_icmp_lt (pc := 10) (tgt := 17) hx hb dzM_confirm_10 (by decide) (fun hq9 => absurd hq9 hw) (fun _ => ?_)
  refine lv_iconst (v := 1) (pc := 13) hx hb dzM_confirm_13 (by decide) ?_
  refine lv_goto (tgt := 18) (pc := 14) hx hb dzM_confirm_14 (by decide) ?_
  refine lv_istore (lv' := [(4, .int 1), (0, .ref (ad 0)), (1, .int 1), (2, .int 2), (3, .int k2)]) (pc := 18) hx hb dzM_confirm_18 hl (by decide) rfl (fun ls hl => ?_)
  refine lv_iload (pc := 20) hx hb dzM_confirm_20 (lv_at hl 0 rfl) ?_
  refine lv_if_eq (pc := 22) (tgt := 33) hx hb dzM_confirm_22 (by decide) (fun hq9 => absurd hq9 (by decide)) (fun _ => ?_)
  refine lv_iconst (v := 3) (pc := 25) hx hb dzM_confirm_25 (by decide) ?_
  refine lv_iload_n (pc := 26) hx hb dzM_confirm_26 rfl (lv_at hl 2 rfl) ?_
  refine lv_imul (pc := 27) hx hb dzM_confirm_27 ?_
  refine xk_is (y := 3) (by decide) ?_
  refine lv_iload_n (pc := 28) hx hb dzM_confirm_28 rfl (lv_at hl 3 rfl) ?_
  refine lv_iadd (pc := 29) hx hb dzM_confirm_29 ?_
  refine xk_is (y := 5) (by decide) ?_
  refine lv_goto (tgt := 34) (pc := 30) hx hb dzM_confirm_30 (by decide) ?_
  refine lv_istore (lv' := [(5, .int 5), (4, .int 1), (0, .ref (ad 0)), (1, .int 1), (2, .int 2), (3, .int k2)]) (pc := 34) hx hb dzM_confirm_34 hl (by decide) rfl (fun ls hl => ?_)
  refine lv_aload_n (pc := 36) hx hb dzM_confirm_36 rfl (lv_at hl 2 rfl) ?_
  refine lv_iload (pc := 37) hx hb dzM_confirm_37 (lv_at hl 1 rfl) ?_
  refine lv_iload (pc := 39) hx hb dzM_confirm_39 (lv_at hl 1 rfl) ?_
  refine lv_if_eq (pc := 41) (tgt := 69) hx hb dzM_confirm_41 (by decide) (fun hq9 => absurd hq9 (by decide)) (fun _ => ?_)
  refine lv_aload_n (pc := 44) hx hb dzM_confirm_44 rfl (lv_at hl 2 rfl) ?_
  refine xk_get (pc := 45) hx hb hts hown hK hP ffzM_26 0 rfl rfl dzM_confirm_45 ?_
  refine lv_iload (pc := 48) hx hb dzM_confirm_48 (lv_at hl 0 rfl) ?_
  refine xk_iald (q0 := 6) (t0 := 0) (j := 5) (pc := 50) hx hb hK hP rfl rfl (pk_in 5 6 (by decide)) (pk_cl 5) dzM_confirm_50 ?_
  have K1 : ∀ (x1 : Int32), (if ((g0 6) 5) = 0 then (x1 = 0) else (if ((g0 6) 5) = k2 then (x1 = 0) else (x1 = 1))) → (xk_b x1) → W p l e xk_r2 s m args below meth c H locs 0 0 Q (F0 m 70 ls [.int x1, .int 1, .ref (ad 0)]) := by
    intro x1 R1 bx1
    refine lv_iconst (v := 1) (pc := 70) hx hb dzM_confirm_70 (by decide) ?_
    refine xk_allVI (As := [.int 1, .int x1, .int 1]) (rest := []) (H0 := s.heap) (pc := 71) hx hb hml hts hown hK hA hP hD hS (kzM_goes l G ac ad g0 1 x1 1 (B + 0) Ig0 (by omega)) vfzM_114 (fun _ => rfl) 0 rfl rfl ⟨rfl, rfl⟩ ⟨Nat.le_of_ble_eq_true rfl, Nat.le_of_ble_eq_true rfl⟩ rfl hl.1 rfl (Nat.le_of_ble_eq_true rfl) ⟨Nat.zero_le _, Nat.zero_le _⟩ dzM_confirm_71 (fun r2 g1 H locs hg1 hP hD hS => ?_)
    have hP : va_P G xk_cls (xk_wM ad ac g1) H := hP
    have hD : va_D A (xk_wM ad ac g1) := hD
    have Ig1 : xk_cnt (B + 0) g1 := xk_cnt_le (iczM_goes (B + 0) _ _ _ _ _ _ hg1 Ig0) (by omega)
    refine lv_if_ne (pc := 74) (tgt := 79) hx hb dzM_confirm_74 (by decide) (fun h3 => ?_) (fun h3 => ?_)
    ·
      refine lv_aload_n (pc := 79) hx hb dzM_confirm_79 rfl (lv_at hl 2 rfl) ?_
      refine lv_iload (pc := 80) hx hb dzM_confirm_80 (lv_at hl 0 rfl) ?_
      refine xk_allVI (As := [.int 5]) (rest := []) (H0 := s.heap) (pc := 82) hx hb hml hts hown hK hA hP hD hS (kzM_swept_5 l G ac ad g1) vfzM_135 (fun _ => rfl) 0 rfl rfl ⟨rfl, rfl⟩ ⟨Nat.le_of_ble_eq_true rfl, Nat.le_of_ble_eq_true rfl⟩ rfl hl.1 rfl (Nat.le_of_ble_eq_true rfl) ⟨Nat.zero_le _, Nat.zero_le _⟩ dzM_confirm_82 (fun r3 u9 H locs e9 hP hD hS => ?_)
      obtain rfl : r3 = qzM_swept_5 g1 := e9
      have hP : va_P G xk_cls (xk_wM ad ac g1) H := hP
      have hD : va_D A (xk_wM ad ac g1) := hD
      have K2 : ∀ (x2 : Int32), (if (qzM_swept_5 g1) = 0 then (x2 = 0) else (if ((g1 2) 6) = 0 then (if ((g1 2) 7) = 0 then (x2 = 1) else (x2 = 0)) else (x2 = 0))) → (xk_b x2) → W p l e xk_r2 s m args below meth c H locs 0 0 Q (F0 m 121 ls [.int x2]) := by
        intro x2 R2 bx2
        refine lv_istore (lv' := [(6, .int x2), (5, .int 5), (4, .int 1), (0, .ref (ad 0)), (1, .int 1), (2, .int 2), (3, .int k2)]) (pc := 121) hx hb dzM_confirm_121 hl (by decide) rfl (fun ls hl => ?_)
        refine lv_iload (pc := 123) hx hb dzM_confirm_123 (lv_at hl 0 rfl) ?_
        have K3 : ∀ (g6 : xk_St) (H : Heap) (locs : List Loc), (if x2 = 0 then (g6 = g1) else (∃ (g2 : xk_St), g2 = va_up g1 5 (upd (g1 5) 5 0) ∧ (∃ (g3 : xk_St), g3 = va_up g2 3 (upd (g2 3) 5 0) ∧ (∃ (g4 : xk_St), g4 = va_up g3 6 (upd (g3 6) 5 0) ∧ (∃ (g5 : xk_St), relzM_note g4 2 5 g5 ∧ (g6 = g5)))))) → (xk_cnt (B + 1) g6) → (va_P G xk_cls (xk_wM ad ac g6) H) → (va_D A (xk_wM ad ac g6)) → (va_S A s.heap H locs) → W p l e xk_r2 s m args below meth c H locs 0 0 Q (F0 m 159 ls []) := by
          intro g6 H locs R3 Ig6 hP hD hS
          refine lv_iload (pc := 159) hx hb dzM_confirm_159 (lv_at hl 0 rfl) ?_
          exact hret _ g6 H locs 161 ls hP hS (xk_bn bx2) (by unfold relzM_confirm_1_2; exact ⟨x1, R1, ⟨r2, g1, hg1, (Eq.mpr (if_neg h3) ⟨x2, R2, ⟨g6, R3, ⟨rfl, bx2, rfl⟩⟩⟩)⟩⟩) dzM_confirm_161
        refine lv_if_eq (pc := 125) (tgt := 159) hx hb dzM_confirm_125 (by decide) (fun h7 => ?_) (fun h7 => ?_)
        ·
          exact K3 g1 H locs (Eq.mpr (if_pos h7) rfl) (xk_cnt_le Ig1 (by omega)) hP hD hS
        ·
          refine lv_aload_n (pc := 128) hx hb dzM_confirm_128 rfl (lv_at hl 3 rfl) ?_
          refine xk_get (pc := 129) hx hb hts hown hK hP ffzM_23 0 rfl rfl dzM_confirm_129 ?_
          refine lv_iload (pc := 132) hx hb dzM_confirm_132 (lv_at hl 1 rfl) ?_
          refine lv_iconst (v := 0) (pc := 134) hx hb dzM_confirm_134 (by decide) ?_
          refine xk_zast (q0 := 5) (t0 := 1) (j := 5) (pc := 135) hx hb hK hP hD hS rfl rfl (pk_in 5 6 (by decide)) (pk_cl 5) xk_b0 dzM_confirm_135 (fun H locs hP hD hS => ?_)
          obtain ⟨g2, eg2⟩ : ∃ z : xk_St, z = va_up g1 5 (upd (g1 5) 5 0) := ⟨_, rfl⟩
          have hP : va_P G xk_cls (xk_wM ad ac g2) H := by rw [eg2]; exact hP
          have hD : va_D A (xk_wM ad ac g2) := by rw [eg2]; exact hD
          have Ig2 : xk_cnt (B + 0) g2 := by rw [eg2]; repeat (first | exact Ig1 | refine xk_cnt_k (by decide) ?_ | refine xk_cnt_f (by decide) ?_ | refine xk_cnt_s ?_)
          refine lv_aload_n (pc := 136) hx hb dzM_confirm_136 rfl (lv_at hl 3 rfl) ?_
          refine xk_get (pc := 137) hx hb hts hown hK hP ffzM_17 0 rfl rfl dzM_confirm_137 ?_
          refine lv_iload (pc := 140) hx hb dzM_confirm_140 (lv_at hl 1 rfl) ?_
          refine lv_iconst (v := 0) (pc := 142) hx hb dzM_confirm_142 (by decide) ?_
          refine xk_iast (q0 := 3) (t0 := 0) (j := 5) (pc := 143) hx hb hK hP hD hS rfl rfl (pk_in 5 6 (by decide)) (pk_cl 5) dzM_confirm_143 (fun H locs hP hD hS => ?_)
          obtain ⟨g3, eg3⟩ : ∃ z : xk_St, z = va_up g2 3 (upd (g2 3) 5 0) := ⟨_, rfl⟩
          have hP : va_P G xk_cls (xk_wM ad ac g3) H := by rw [eg3]; exact hP
          have hD : va_D A (xk_wM ad ac g3) := by rw [eg3]; exact hD
          have Ig3 : xk_cnt (B + 0) g3 := by rw [eg3]; repeat (first | exact Ig2 | refine xk_cnt_k (by decide) ?_ | refine xk_cnt_f (by decide) ?_ | refine xk_cnt_s ?_)
          refine lv_aload_n (pc := 144) hx hb dzM_confirm_144 rfl (lv_at hl 3 rfl) ?_
          refine xk_get (pc := 145) hx hb hts hown hK hP ffzM_26 0 rfl rfl dzM_confirm_145 ?_
          refine lv_iload (pc := 148) hx hb dzM_confirm_148 (lv_at hl 1 rfl) ?_
          refine lv_iconst (v := 0) (pc := 150) hx hb dzM_confirm_150 (by decide) ?_
          refine xk_iast (q0 := 6) (t0 := 0) (j := 5) (pc := 151) hx hb hK hP hD hS rfl rfl (pk_in 5 6 (by decide)) (pk_cl 5) dzM_confirm_151 (fun H locs hP hD hS => ?_)
          obtain ⟨g4, eg4⟩ : ∃ z : xk_St, z = va_up g3 6 (upd (g3 6) 5 0) := ⟨_, rfl⟩
          have hP : va_P G xk_cls (xk_wM ad ac g4) H := by rw [eg4]; exact hP
          have hD : va_D A (xk_wM ad ac g4) := by rw [eg4]; exact hD
          have Ig4 : xk_cnt (B + 0) g4 := by rw [eg4]; repeat (first | exact Ig3 | refine xk_cnt_k (by decide) ?_ | refine xk_cnt_f (by decide) ?_ | refine xk_cnt_s ?_)
          refine lv_aload_n (pc := 152) hx hb dzM_confirm_152 rfl (lv_at hl 3 rfl) ?_
          refine lv_iconst (v := 2) (pc := 153) hx hb dzM_confirm_153 (by decide) ?_
          refine lv_iload (pc := 154) hx hb dzM_confirm_154 (lv_at hl 1 rfl) ?_
          refine xk_allVV (As := [.int 2, .int 5]) (rest := []) (H0 := s.heap) (pc := 156) hx hb hml hts hown hK hA hP hD hS (kzM_note l G ac ad g4 2 5 (B + 0) Ig4 (by omega)) vfzM_106 (fun _ => rfl) 0 rfl rfl ⟨rfl, rfl⟩ ⟨Nat.le_of_ble_eq_true rfl, Nat.le_of_ble_eq_true rfl⟩ rfl hl.1 rfl (Nat.le_of_ble_eq_true rfl) ⟨Nat.zero_le _, Nat.zero_le _⟩ dzM_confirm_156 (fun g5 H locs hg5 hP hD hS => ?_)
          have hP : va_P G xk_cls (xk_wM ad ac g5) H := hP
          have hD : va_D A (xk_wM ad ac g5) := hD
          have Ig5 : xk_cnt (B + 1) g5 := xk_cnt_le (iczM_note (B + 0) _ _ _ _ hg5 Ig4) (by omega)
          exact K3 g5 H locs (Eq.mpr (if_neg h7) ⟨g2, eg2, ⟨g3, eg3, ⟨g4, eg4, ⟨g5, hg5, rfl⟩⟩⟩⟩) (xk_cnt_le Ig5 (by omega)) hP hD hS
      refine lv_if_eq (pc := 85) (tgt := 120) hx hb dzM_confirm_85 (by decide) (fun h4 => ?_) (fun h4 => ?_)
      ·
        refine lv_iconst (v := 0) (pc := 120) hx hb dzM_confirm_120 (by decide) ?_
        exact K2 0 (Eq.mpr (if_pos h4) rfl) xk_b0
      ·
        refine lv_aload_n (pc := 88) hx hb dzM_confirm_88 rfl (lv_at hl 2 rfl) ?_
        refine xk_get (pc := 89) hx hb hts hown hK hP ffzM_13 0 rfl rfl dzM_confirm_89 ?_
        refine lv_iconst (v := 4) (pc := 92) hx hb dzM_confirm_92 (by decide) ?_
        refine lv_iload_n (pc := 93) hx hb dzM_confirm_93 rfl (lv_at hl 3 rfl) ?_
        refine lv_imul (pc := 94) hx hb dzM_confirm_94 ?_
        refine xk_is (y := 4) (by decide) ?_
        refine lv_iload_n (pc := 95) hx hb dzM_confirm_95 rfl (lv_at hl 4 rfl) ?_
        refine lv_iadd (pc := 96) hx hb dzM_confirm_96 ?_
        refine xk_is (y := 6) (by decide) ?_
        refine xk_zald (q0 := 2) (t0 := 1) (j := 6) (pc := 97) hx hb hK hP rfl rfl (pk_in 6 8 (by decide)) (pk_cl 6) dzM_confirm_97 ?_
        refine lv_if_ne (pc := 98) (tgt := 120) hx hb dzM_confirm_98 (by decide) (fun h5 => ?_) (fun h5 => ?_)
        ·
          refine lv_iconst (v := 0) (pc := 120) hx hb dzM_confirm_120 (by decide) ?_
          exact K2 0 (Eq.mpr (if_neg h4) (Eq.mpr (if_neg h5) rfl)) xk_b0
        ·
          refine lv_aload_n (pc := 101) hx hb dzM_confirm_101 rfl (lv_at hl 2 rfl) ?_
          refine xk_get (pc := 102) hx hb hts hown hK hP ffzM_13 0 rfl rfl dzM_confirm_102 ?_
          refine lv_iconst (v := 4) (pc := 105) hx hb dzM_confirm_105 (by decide) ?_
          refine lv_iload_n (pc := 106) hx hb dzM_confirm_106 rfl (lv_at hl 3 rfl) ?_
          refine lv_imul (pc := 107) hx hb dzM_confirm_107 ?_
          refine xk_is (y := 4) (by decide) ?_
          refine lv_iload_n (pc := 108) hx hb dzM_confirm_108 rfl (lv_at hl 4 rfl) ?_
          refine lv_iadd (pc := 109) hx hb dzM_confirm_109 ?_
          refine xk_is (y := 6) (by decide) ?_
          refine lv_iconst (v := 1) (pc := 110) hx hb dzM_confirm_110 (by decide) ?_
          refine lv_iadd (pc := 111) hx hb dzM_confirm_111 ?_
          refine xk_is (y := 7) (by decide) ?_
          refine xk_zald (q0 := 2) (t0 := 1) (j := 7) (pc := 112) hx hb hK hP rfl rfl (pk_in 7 8 (by decide)) (pk_cl 7) dzM_confirm_112 ?_
          refine lv_if_ne (pc := 113) (tgt := 120) hx hb dzM_confirm_113 (by decide) (fun h6 => ?_) (fun h6 => ?_)
          ·
            refine lv_iconst (v := 0) (pc := 120) hx hb dzM_confirm_120 (by decide) ?_
            exact K2 0 (Eq.mpr (if_neg h4) (Eq.mpr (if_pos h5) (Eq.mpr (if_neg h6) rfl))) xk_b0
          ·
            refine lv_iconst (v := 1) (pc := 116) hx hb dzM_confirm_116 (by decide) ?_
            refine lv_goto (tgt := 121) (pc := 117) hx hb dzM_confirm_117 (by decide) ?_
            exact K2 1 (Eq.mpr (if_neg h4) (Eq.mpr (if_pos h5) (Eq.mpr (if_pos h6) rfl))) xk_b1
    ·
      refine lv_iconst (v := 0) (pc := 77) hx hb dzM_confirm_77 (by decide) ?_
      exact hret _ g1 H locs 78 ls hP hS (xk_bn xk_b0) (by unfold relzM_confirm_1_2; exact ⟨x1, R1, ⟨r2, g1, hg1, (Eq.mpr (if_pos h3) ⟨rfl, xk_b0, rfl⟩)⟩⟩) dzM_confirm_78
  refine lv_if_eq (pc := 51) (tgt := 69) hx hb dzM_confirm_51 (by decide) (fun h1 => ?_) (fun h1 => ?_)
  ·
    refine lv_iconst (v := 0) (pc := 69) hx hb dzM_confirm_69 (by decide) ?_
    exact K1 0 (Eq.mpr (if_pos h1) rfl) xk_b0
  ·
    refine lv_aload_n (pc := 54) hx hb dzM_confirm_54 rfl (lv_at hl 2 rfl) ?_
    refine xk_get (pc := 55) hx hb hts hown hK hP ffzM_26 0 rfl rfl dzM_confirm_55 ?_
    refine lv_iload (pc := 58) hx hb dzM_confirm_58 (lv_at hl 0 rfl) ?_
    refine xk_iald (q0 := 6) (t0 := 0) (j := 5) (pc := 60) hx hb hK hP rfl rfl (pk_in 5 6 (by decide)) (pk_cl 5) dzM_confirm_60 ?_
    refine lv_iload_n (pc := 61) hx hb dzM_confirm_61 rfl (lv_at hl 5 rfl) ?_
    refine lv_icmp_eq (pc := 62) (tgt := 69) hx hb dzM_confirm_62 (by decide) (fun h2 => ?_) (fun h2 => ?_)
    ·
      refine lv_iconst (v := 0) (pc := 69) hx hb dzM_confirm_69 (by decide) ?_
      exact K1 0 (Eq.mpr (if_neg h1) (Eq.mpr (if_pos h2) rfl)) xk_b0
    ·
      refine lv_iconst (v := 1) (pc := 65) hx hb dzM_confirm_65 (by decide) ?_
      refine lv_goto (tgt := 70) (pc := 66) hx hb dzM_confirm_66 (by decide) ?_
      exact K1 1 (Eq.mpr (if_neg h1) (Eq.mpr (if_neg h2) rfl)) xk_b1
theorem frzM_confirm_1_2 (g0 : xk_St) (k2 : Int32) (rz : Int32) (gz : xk_St) : relzM_confirm_1_2 g0 k2 rz gz → xk_eqv [1, 2, 4, 7, 8, 9, 10, 11, 12, 13, 14, 15, 16, 17, 18, 19, 20, 21, 22, 23, 24] g0 gz := by
  intro h
  unfold relzM_confirm_1_2 at h
  have s0 : xk_eqv [1, 2, 4, 7, 8, 9, 10, 11, 12, 13, 14, 15, 16, 17, 18, 19, 20, 21, 22, 23, 24] g0 g0 := xk_eqv_rf
  obtain ⟨x1, u1, v2⟩ := h
  obtain ⟨r2, g1, u3, v4⟩ := v2
  have s5 : xk_eqv [1, 2, 4, 7, 8, 9, 10, 11, 12, 13, 14, 15, 16, 17, 18, 19, 20, 21, 22, 23, 24] g0 g1 := xk_eqv_tr s0 (xk_eqv_sub (frzM_goes _ _ _ _ _ _ u3) (by decide))
  by_cases hc : r2 = 0
  · rw [if_pos hc] at v4
    rw [v4.2.2]; exact s5
  · rw [if_neg hc] at v4
    obtain ⟨x2, u6, v7⟩ := v4
    obtain ⟨g6, u8, v9⟩ := v7
    have s10 : xk_eqv [1, 2, 4, 7, 8, 9, 10, 11, 12, 13, 14, 15, 16, 17, 18, 19, 20, 21, 22, 23, 24] g0 g6 := by
      by_cases hc : x2 = 0
      · rw [if_pos hc] at u8
        rw [u8]; exact s5
      · rw [if_neg hc] at u8
        obtain ⟨g2, u11, v12⟩ := u8
        have s13 : xk_eqv [1, 2, 4, 7, 8, 9, 10, 11, 12, 13, 14, 15, 16, 17, 18, 19, 20, 21, 22, 23, 24] g0 g2 := by rw [u11]; repeat (first | exact s5 | refine xk_eqv_up (by decide) ?_)
        obtain ⟨g3, u14, v15⟩ := v12
        have s16 : xk_eqv [1, 2, 4, 7, 8, 9, 10, 11, 12, 13, 14, 15, 16, 17, 18, 19, 20, 21, 22, 23, 24] g0 g3 := by rw [u14]; repeat (first | exact s13 | refine xk_eqv_up (by decide) ?_)
        obtain ⟨g4, u17, v18⟩ := v15
        have s19 : xk_eqv [1, 2, 4, 7, 8, 9, 10, 11, 12, 13, 14, 15, 16, 17, 18, 19, 20, 21, 22, 23, 24] g0 g4 := by rw [u17]; repeat (first | exact s16 | refine xk_eqv_up (by decide) ?_)
        obtain ⟨g5, u20, v21⟩ := v18
        have s22 : xk_eqv [1, 2, 4, 7, 8, 9, 10, 11, 12, 13, 14, 15, 16, 17, 18, 19, 20, 21, 22, 23, 24] g0 g5 := xk_eqv_tr s19 (xk_eqv_sub (frzM_note _ _ _ _ u20) (by decide))
        rw [v21]; exact s22
    rw [v9.2.2]; exact s10
theorem iczM_confirm_1_2 (B : Nat) (g0 : xk_St) (k2 : Int32) (rz : Int32) (gz : xk_St) : relzM_confirm_1_2 g0 k2 rz gz → xk_cnt B g0 → xk_cnt (B + 1) gz := by
  intro h Ig0
  unfold relzM_confirm_1_2 at h
  have Ig0 : xk_cnt (B + 0) g0 := Ig0
  obtain ⟨x1, u1, v2⟩ := h
  obtain ⟨r2, g1, u3, v4⟩ := v2
  have Ig1 : xk_cnt (B + 0) g1 := xk_cnt_le (iczM_goes (B + 0) _ _ _ _ _ _ u3 Ig0) (by omega)
  by_cases hc : r2 = 0
  · rw [if_pos hc] at v4
    rw [v4.2.2]; exact xk_cnt_le Ig1 (by omega)
  · rw [if_neg hc] at v4
    obtain ⟨x2, u5, v6⟩ := v4
    obtain ⟨g6, u7, v8⟩ := v6
    have Ig6 : xk_cnt (B + 1) g6 := by
      by_cases hc : x2 = 0
      · rw [if_pos hc] at u7
        rw [u7]; exact xk_cnt_le Ig1 (by omega)
      · rw [if_neg hc] at u7
        obtain ⟨g2, u9, v10⟩ := u7
        have Ig2 : xk_cnt (B + 0) g2 := by rw [u9]; repeat (first | exact Ig1 | refine xk_cnt_k (by decide) ?_ | refine xk_cnt_f (by decide) ?_ | refine xk_cnt_s ?_)
        obtain ⟨g3, u11, v12⟩ := v10
        have Ig3 : xk_cnt (B + 0) g3 := by rw [u11]; repeat (first | exact Ig2 | refine xk_cnt_k (by decide) ?_ | refine xk_cnt_f (by decide) ?_ | refine xk_cnt_s ?_)
        obtain ⟨g4, u13, v14⟩ := v12
        have Ig4 : xk_cnt (B + 0) g4 := by rw [u13]; repeat (first | exact Ig3 | refine xk_cnt_k (by decide) ?_ | refine xk_cnt_f (by decide) ?_ | refine xk_cnt_s ?_)
        obtain ⟨g5, u15, v16⟩ := v14
        have Ig5 : xk_cnt (B + 1) g5 := xk_cnt_le (iczM_note (B + 0) _ _ _ _ u15 Ig4) (by omega)
        rw [v16]; exact xk_cnt_le Ig5 (by omega)
    rw [v8.2.2]; exact xk_cnt_le Ig6 (by omega)

