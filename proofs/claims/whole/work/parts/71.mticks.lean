def relzM_ticks_neg (g0 : xk_St) (rz : Int32) (gz : xk_St) : Prop := ∃ (r1 : Int32) (g1 : xk_St), relzM_goes_0 g0 r1 g1 ∧ (rz = 0 ∧ gz = g1)
set_option maxHeartbeats 4000000 in
set_option maxRecDepth 100000 in
theorem kzM_ticks_neg (l : Launch) (G : va_G) (ac : Nat → ClassId) (ad : Nat → Nat) (g0 : xk_St) (k0 : Int32) (B : Nat) (h01 : k0 < 0) (Ig0 : xk_cnt B g0) (hB : B + 1 < 2147483648) : xk_CI l yzM_ticks czM_ticks 3 .int xk_WS xk_r1 G xk_cls (xk_tys ac) [.ref (ad 0), .int k0] (xk_wM ad ac g0) (fun rz (gz : xk_St) => relzM_ticks_neg g0 rz gz) (fun gz => xk_wM ad ac gz) := by
  refine xk_ofI (by decide) (Nat.le_of_ble_eq_true rfl) ?_
  intro p e s m args below meth c A Q H locs ls C0 hret hP hD hS hl
  obtain ⟨hx, hb, hml, hts, hown, hK, hA⟩ := C0
  have hl : lv_has ls 3 [(0, .ref (ad 0)), (1, .int k0)] := hl
  have Ig0 : xk_cnt (B + 0) g0 := Ig0
  refine lv_aload_n (pc := 0) hx hb dzM_ticks_0 rfl (lv_at hl 0 rfl) ?_
  refine lv_iload_n (pc := 1) hx hb dzM_ticks_1 rfl (lv_at hl 1 rfl) ?_
  refine lv_if_lt (pc := 2) (tgt := 16) hx hb dzM_ticks_2 (by decide) (fun _ => ?_) (fun hq9 => absurd h01 hq9)
  refine lv_iconst (v := 0) (pc := 16) hx hb dzM_ticks_16 (by decide) ?_
  refine lv_iconst (v := 1) (pc := 17) hx hb dzM_ticks_17 (by decide) ?_
  refine lv_iconst (v := 1) (pc := 18) hx hb dzM_ticks_18 (by decide) ?_
  refine xk_allVI (As := [.int 0, .int 1, .int 1]) (rest := []) (H0 := s.heap) (pc := 19) hx hb hml hts hown hK hA hP hD hS (kzM_goes_0 l G ac ad g0 1 1 (B + 0) Ig0 (by omega)) vfzM_114 (fun _ => rfl) 0 rfl rfl ⟨rfl, rfl⟩ ⟨Nat.le_of_ble_eq_true rfl, Nat.le_of_ble_eq_true rfl⟩ rfl hl.1 rfl (Nat.le_of_ble_eq_true rfl) ⟨Nat.zero_le _, Nat.zero_le _⟩ dzM_ticks_19 (fun r1 g1 H locs hg1 hP hD hS => ?_)
  have qr1 : r1 = 0 := rczM_goes_0 _ _ _ hg1
  refine xk_is (y := 0) qr1 ?_
  have hP : va_P G xk_cls (xk_wM ad ac g1) H := hP
  have hD : va_D A (xk_wM ad ac g1) := hD
  have Ig1 : xk_cnt (B + 0) g1 := xk_cnt_le (iczM_goes_0 (B + 0) _ _ _ hg1 Ig0) (by omega)
  refine lv_if_ne (pc := 22) (tgt := 27) hx hb dzM_ticks_22 (by decide) (fun hq9 => absurd (by decide) hq9) (fun _ => ?_)
  refine lv_iconst (v := 0) (pc := 25) hx hb dzM_ticks_25 (by decide) ?_
  exact hret _ g1 H locs 26 ls hP hS rfl (by unfold relzM_ticks_neg; exact ⟨r1, g1, hg1, ⟨rfl, rfl⟩⟩) dzM_ticks_26
theorem frzM_ticks_neg (g0 : xk_St) (rz : Int32) (gz : xk_St) : relzM_ticks_neg g0 rz gz → xk_eqv [1, 2, 3, 4, 5, 6, 7, 8, 9, 10, 11, 12, 13, 14, 15, 16, 17, 18, 19, 20, 21, 22, 23, 24, 25, 26, 27] g0 gz := by
  intro h
  unfold relzM_ticks_neg at h
  have s0 : xk_eqv [1, 2, 3, 4, 5, 6, 7, 8, 9, 10, 11, 12, 13, 14, 15, 16, 17, 18, 19, 20, 21, 22, 23, 24, 25, 26, 27] g0 g0 := xk_eqv_rf
  obtain ⟨r1, g1, u1, v2⟩ := h
  have s3 : xk_eqv [1, 2, 3, 4, 5, 6, 7, 8, 9, 10, 11, 12, 13, 14, 15, 16, 17, 18, 19, 20, 21, 22, 23, 24, 25, 26, 27] g0 g1 := xk_eqv_tr s0 (xk_eqv_sub (frzM_goes_0 _ _ _ u1) (by decide))
  rw [v2.2]; exact s3
theorem iczM_ticks_neg (B : Nat) (g0 : xk_St) (rz : Int32) (gz : xk_St) : relzM_ticks_neg g0 rz gz → xk_cnt B g0 → xk_cnt (B + 0) gz := by
  intro h Ig0
  unfold relzM_ticks_neg at h
  have Ig0 : xk_cnt (B + 0) g0 := Ig0
  obtain ⟨r1, g1, u1, v2⟩ := h
  have Ig1 : xk_cnt (B + 0) g1 := xk_cnt_le (iczM_goes_0 (B + 0) _ _ _ u1 Ig0) (by omega)
  rw [v2.2]; exact xk_cnt_le Ig1 (by omega)
theorem rczM_ticks_neg (g0 : xk_St) (rz : Int32) (gz : xk_St) : relzM_ticks_neg g0 rz gz → rz = 0 := by
  intro h
  unfold relzM_ticks_neg at h
  obtain ⟨_, _, _, v1⟩ := h
  exact v1.1

def relzM_ticks_big (g0 : xk_St) (rz : Int32) (gz : xk_St) : Prop := ∃ (r1 : Int32) (g1 : xk_St), relzM_goes_0 g0 r1 g1 ∧ (rz = 0 ∧ gz = g1)
set_option maxHeartbeats 4000000 in
set_option maxRecDepth 100000 in
theorem kzM_ticks_big (l : Launch) (G : va_G) (ac : Nat → ClassId) (ad : Nat → Nat) (g0 : xk_St) (k0 : Int32) (B : Nat) (h01 : ¬ k0 < 0) (h02 : 1000 < k0) (Ig0 : xk_cnt B g0) (hB : B + 1 < 2147483648) : xk_CI l yzM_ticks czM_ticks 3 .int xk_WS xk_r1 G xk_cls (xk_tys ac) [.ref (ad 0), .int k0] (xk_wM ad ac g0) (fun rz (gz : xk_St) => relzM_ticks_big g0 rz gz) (fun gz => xk_wM ad ac gz) := by
  refine xk_ofI (by decide) (Nat.le_of_ble_eq_true rfl) ?_
  intro p e s m args below meth c A Q H locs ls C0 hret hP hD hS hl
  obtain ⟨hx, hb, hml, hts, hown, hK, hA⟩ := C0
  have hl : lv_has ls 3 [(0, .ref (ad 0)), (1, .int k0)] := hl
  have Ig0 : xk_cnt (B + 0) g0 := Ig0
  refine lv_aload_n (pc := 0) hx hb dzM_ticks_0 rfl (lv_at hl 0 rfl) ?_
  refine lv_iload_n (pc := 1) hx hb dzM_ticks_1 rfl (lv_at hl 1 rfl) ?_
  refine lv_if_lt (pc := 2) (tgt := 16) hx hb dzM_ticks_2 (by decide) (fun hq9 => absurd hq9 h01) (fun _ => ?_)
  refine lv_iload_n (pc := 5) hx hb dzM_ticks_5 rfl (lv_at hl 1 rfl) ?_
  refine lv_sipush (v := 1000) (pc := 6) hx hb dzM_ticks_6 (by decide) ?_
  refine lv_icmp_gt (pc := 9) (tgt := 16) hx hb dzM_ticks_9 (by decide) (fun _ => ?_) (fun hq9 => absurd h02 hq9)
  refine lv_iconst (v := 0) (pc := 16) hx hb dzM_ticks_16 (by decide) ?_
  refine lv_iconst (v := 1) (pc := 17) hx hb dzM_ticks_17 (by decide) ?_
  refine lv_iconst (v := 1) (pc := 18) hx hb dzM_ticks_18 (by decide) ?_
  refine xk_allVI (As := [.int 0, .int 1, .int 1]) (rest := []) (H0 := s.heap) (pc := 19) hx hb hml hts hown hK hA hP hD hS (kzM_goes_0 l G ac ad g0 1 1 (B + 0) Ig0 (by omega)) vfzM_114 (fun _ => rfl) 0 rfl rfl ⟨rfl, rfl⟩ ⟨Nat.le_of_ble_eq_true rfl, Nat.le_of_ble_eq_true rfl⟩ rfl hl.1 rfl (Nat.le_of_ble_eq_true rfl) ⟨Nat.zero_le _, Nat.zero_le _⟩ dzM_ticks_19 (fun r1 g1 H locs hg1 hP hD hS => ?_)
  have qr1 : r1 = 0 := rczM_goes_0 _ _ _ hg1
  refine xk_is (y := 0) qr1 ?_
  have hP : va_P G xk_cls (xk_wM ad ac g1) H := hP
  have hD : va_D A (xk_wM ad ac g1) := hD
  have Ig1 : xk_cnt (B + 0) g1 := xk_cnt_le (iczM_goes_0 (B + 0) _ _ _ hg1 Ig0) (by omega)
  refine lv_if_ne (pc := 22) (tgt := 27) hx hb dzM_ticks_22 (by decide) (fun hq9 => absurd (by decide) hq9) (fun _ => ?_)
  refine lv_iconst (v := 0) (pc := 25) hx hb dzM_ticks_25 (by decide) ?_
  exact hret _ g1 H locs 26 ls hP hS rfl (by unfold relzM_ticks_big; exact ⟨r1, g1, hg1, ⟨rfl, rfl⟩⟩) dzM_ticks_26
theorem frzM_ticks_big (g0 : xk_St) (rz : Int32) (gz : xk_St) : relzM_ticks_big g0 rz gz → xk_eqv [1, 2, 3, 4, 5, 6, 7, 8, 9, 10, 11, 12, 13, 14, 15, 16, 17, 18, 19, 20, 21, 22, 23, 24, 25, 26, 27] g0 gz := by
  intro h
  unfold relzM_ticks_big at h
  have s0 : xk_eqv [1, 2, 3, 4, 5, 6, 7, 8, 9, 10, 11, 12, 13, 14, 15, 16, 17, 18, 19, 20, 21, 22, 23, 24, 25, 26, 27] g0 g0 := xk_eqv_rf
  obtain ⟨r1, g1, u1, v2⟩ := h
  have s3 : xk_eqv [1, 2, 3, 4, 5, 6, 7, 8, 9, 10, 11, 12, 13, 14, 15, 16, 17, 18, 19, 20, 21, 22, 23, 24, 25, 26, 27] g0 g1 := xk_eqv_tr s0 (xk_eqv_sub (frzM_goes_0 _ _ _ u1) (by decide))
  rw [v2.2]; exact s3
theorem iczM_ticks_big (B : Nat) (g0 : xk_St) (rz : Int32) (gz : xk_St) : relzM_ticks_big g0 rz gz → xk_cnt B g0 → xk_cnt (B + 0) gz := by
  intro h Ig0
  unfold relzM_ticks_big at h
  have Ig0 : xk_cnt (B + 0) g0 := Ig0
  obtain ⟨r1, g1, u1, v2⟩ := h
  have Ig1 : xk_cnt (B + 0) g1 := xk_cnt_le (iczM_goes_0 (B + 0) _ _ _ u1 Ig0) (by omega)
  rw [v2.2]; exact xk_cnt_le Ig1 (by omega)
theorem rczM_ticks_big (g0 : xk_St) (rz : Int32) (gz : xk_St) : relzM_ticks_big g0 rz gz → rz = 0 := by
  intro h
  unfold relzM_ticks_big at h
  obtain ⟨_, _, _, v1⟩ := h
  exact v1.1

