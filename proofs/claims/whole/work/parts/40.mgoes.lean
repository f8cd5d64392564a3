def relzM_goes_0 (g0 : xk_St) (rz : Int32) (gz : xk_St) : Prop := ∃ (g1 : xk_St), g1 = va_up g0 0 (upd (g0 0) 0 1) ∧ (rz = 0 ∧ xk_b rz ∧ gz = g1)
set_option maxHeartbeats 4000000 in
set_option maxRecDepth 100000 in
theorem kzM_goes_0 (l : Launch) (G : va_G) (ac : Nat → ClassId) (ad : Nat → Nat) (g0 : xk_St) (k1 : Int32) (k2 : Int32) (B : Nat) (Ig0 : xk_cnt B g0) (hB : B + 1 < 2147483648) : xk_CI l yzM_goes czM_goes 4 .boolean xk_WS xk_r0 G xk_cls (xk_tys ac) [.ref (ad 0), .int 0, .int k1, .int k2] (xk_wM ad ac g0) (fun rz (gz : xk_St) => relzM_goes_0 g0 rz gz) (fun gz => xk_wM ad ac gz) := by
  refine xk_ofI (by decide) (Nat.le_of_ble_eq_true rfl) ?_
  intro p e s m args below meth c A Q H locs ls C0 hret hP hD hS hl
  obtain ⟨hx, hb, hml, hts, hown, hK, hA⟩ := C0
  have hl : lv_has ls 4 [(0, .ref (ad 0)), (1, .int 0), (2, .int k1), (3, .int k2)] := hl
  have Ig0 : xk_cnt (B + 0) g0 := Ig0
  refine lv_aload_n (pc := 0) hx hb dzM_goes_0 rfl (lv_at hl 0 rfl) ?_
  refine lv_iload_n (pc := 1) hx hb dzM_goes_1 rfl (lv_at hl 1 rfl) ?_
  refine lv_if_ne (pc := 2) (tgt := 9) hx hb dzM_goes_2 (by decide) (fun hq9 => absurd (by decide) hq9) (fun _ => ?_)
  refine lv_iconst (v := 1) (pc := 5) hx hb dzM_goes_5 (by decide) ?_
  refine lv_goto (tgt := 26) (pc := 6) hx hb dzM_goes_6 (by decide) ?_
  refine xk_putf (pc := 26) hx hb hts hown hK hP hD hS pfzM_92 0 rfl rfl rfl (Nat.le_of_ble_eq_true rfl) dzM_goes_26 (fun H locs hP hD hS => ?_)
  obtain ⟨g1, eg1⟩ : ∃ z : xk_St, z = va_up g0 0 (upd (g0 0) 0 1) := ⟨_, rfl⟩
  have hP : va_P G xk_cls (xk_wM ad ac g1) H := by rw [eg1]; exact hP
  have hD : va_D A (xk_wM ad ac g1) := by rw [eg1]; exact hD
  have Ig1 : xk_cnt (B + 0) g1 := by rw [eg1]; repeat (first | exact Ig0 | refine xk_cnt_k (by decide) ?_ | refine xk_cnt_f (by decide) ?_ | refine xk_cnt_s ?_)
  refine lv_aload_n (pc := 29) hx hb dzM_goes_29 rfl (lv_at hl 0 rfl) ?_
  refine xk_get (pc := 30) hx hb hts hown hK hP ffzM_92 0 rfl rfl dzM_goes_30 ?_
  refine xk_is (y := 1) (by rw [eg1]; rfl) ?_
  refine lv_if_ne (pc := 33) (tgt := 40) hx hb dzM_goes_33 (by decide) (fun _ => ?_) (fun hq9 => absurd hq9 (by decide))
  refine lv_iconst (v := 0) (pc := 40) hx hb dzM_goes_40 (by decide) ?_
  exact hret _ g1 H locs 41 ls hP hS (xk_bn xk_b0) (by unfold relzM_goes_0; exact ⟨g1, eg1, ⟨rfl, xk_b0, rfl⟩⟩) dzM_goes_41
theorem frzM_goes_0 (g0 : xk_St) (rz : Int32) (gz : xk_St) : relzM_goes_0 g0 rz gz → xk_eqv [1, 2, 3, 4, 5, 6, 7, 8, 9, 10, 11, 12, 13, 14, 15, 16, 17, 18, 19, 20, 21, 22, 23, 24, 25, 26, 27] g0 gz := by
  intro h
  unfold relzM_goes_0 at h
  have s0 : xk_eqv [1, 2, 3, 4, 5, 6, 7, 8, 9, 10, 11, 12, 13, 14, 15, 16, 17, 18, 19, 20, 21, 22, 23, 24, 25, 26, 27] g0 g0 := xk_eqv_rf
  obtain ⟨g1, u1, v2⟩ := h
  have s3 : xk_eqv [1, 2, 3, 4, 5, 6, 7, 8, 9, 10, 11, 12, 13, 14, 15, 16, 17, 18, 19, 20, 21, 22, 23, 24, 25, 26, 27] g0 g1 := by rw [u1]; repeat (first | exact s0 | refine xk_eqv_up (by decide) ?_)
  rw [v2.2.2]; exact s3
theorem iczM_goes_0 (B : Nat) (g0 : xk_St) (rz : Int32) (gz : xk_St) : relzM_goes_0 g0 rz gz → xk_cnt B g0 → xk_cnt (B + 0) gz := by
  intro h Ig0
  unfold relzM_goes_0 at h
  have Ig0 : xk_cnt (B + 0) g0 := Ig0
  obtain ⟨g1, u1, v2⟩ := h
  have Ig1 : xk_cnt (B + 0) g1 := by rw [u1]; repeat (first | exact Ig0 | refine xk_cnt_k (by decide) ?_ | refine xk_cnt_f (by decide) ?_ | refine xk_cnt_s ?_)
  rw [v2.2.2]; exact xk_cnt_le Ig1 (by omega)
theorem rczM_goes_0 (g0 : xk_St) (rz : Int32) (gz : xk_St) : relzM_goes_0 g0 rz gz → rz = 0 := by
  intro h
  unfold relzM_goes_0 at h
  obtain ⟨_, _, v1⟩ := h
  exact v1.1

def relzM_goes_10 (g0 : xk_St) (rz : Int32) (gz : xk_St) : Prop := ∃ (g1 : xk_St), g1 = va_up g0 0 (upd (g0 0) 0 2) ∧ (rz = 0 ∧ xk_b rz ∧ gz = g1)
set_option maxHeartbeats 4000000 in
set_option maxRecDepth 100000 in
theorem kzM_goes_10 (l : Launch) (G : va_G) (ac : Nat → ClassId) (ad : Nat → Nat) (g0 : xk_St) (k2 : Int32) (B : Nat) (Ig0 : xk_cnt B g0) (hB : B + 1 < 2147483648) : xk_CI l yzM_goes czM_goes 4 .boolean xk_WS xk_r0 G xk_cls (xk_tys ac) [.ref (ad 0), .int 1, .int 0, .int k2] (xk_wM ad ac g0) (fun rz (gz : xk_St) => relzM_goes_10 g0 rz gz) (fun gz => xk_wM ad ac gz) := by
  refine xk_ofI (by decide) (Nat.le_of_ble_eq_true rfl) ?_
  intro p e s m args below meth c A Q H locs ls C0 hret hP hD hS hl
  obtain ⟨hx, hb, hml, hts, hown, hK, hA⟩ := C0
  have hl : lv_has ls 4 [(0, .ref (ad 0)), (1, .int 1), (2, .int 0), (3, .int k2)] := hl
  have Ig0 : xk_cnt (B + 0) g0 := Ig0
  refine lv_aload_n (pc := 0) hx hb dzM_goes_0 rfl (lv_at hl 0 rfl) ?_
  refine lv_iload_n (pc := 1) hx hb dzM_goes_1 rfl (lv_at hl 1 rfl) ?_
  refine lv_if_ne (pc := 2) (tgt := 9) hx hb dzM_goes_2 (by decide) (fun _ => ?_) (fun hq9 => absurd hq9 (by decide))
  refine lv_iload_n (pc := 9) hx hb dzM_goes_9 rfl (lv_at hl 2 rfl) ?_
  refine lv_if_ne (pc := 10) (tgt := 17) hx hb dzM_goes_10 (by decide) (fun hq9 => absurd (by decide) hq9) (fun _ => ?_)
  refine lv_iconst (v := 2) (pc := 13) hx hb dzM_goes_13 (by decide) ?_
  refine lv_goto (tgt := 26) (pc := 14) hx hb dzM_goes_14 (by decide) ?_
  refine xk_putf (pc := 26) hx hb hts hown hK hP hD hS pfzM_92 0 rfl rfl rfl (Nat.le_of_ble_eq_true rfl) dzM_goes_26 (fun H locs hP hD hS => ?_)
  obtain ⟨g1, eg1⟩ : ∃ z : xk_St, z = va_up g0 0 (upd (g0 0) 0 2) := ⟨_, rfl⟩
  have hP : va_P G xk_cls (xk_wM ad ac g1) H := by rw [eg1]; exact hP
  have hD : va_D A (xk_wM ad ac g1) := by rw [eg1]; exact hD
  have Ig1 : xk_cnt (B + 0) g1 := by rw [eg1]; repeat (first | exact Ig0 | refine xk_cnt_k (by decide) ?_ | refine xk_cnt_f (by decide) ?_ | refine xk_cnt_s ?_)
  refine lv_aload_n (pc := 29) hx hb dzM_goes_29 rfl (lv_at hl 0 rfl) ?_
  refine xk_get (pc := 30) hx hb hts hown hK hP ffzM_92 0 rfl rfl dzM_goes_30 ?_
  refine xk_is (y := 2) (by rw [eg1]; rfl) ?_
  refine lv_if_ne (pc := 33) (tgt := 40) hx hb dzM_goes_33 (by decide) (fun _ => ?_) (fun hq9 => absurd hq9 (by decide))
  refine lv_iconst (v := 0) (pc := 40) hx hb dzM_goes_40 (by decide) ?_
  exact hret _ g1 H locs 41 ls hP hS (xk_bn xk_b0) (by unfold relzM_goes_10; exact ⟨g1, eg1, ⟨rfl, xk_b0, rfl⟩⟩) dzM_goes_41
theorem frzM_goes_10 (g0 : xk_St) (rz : Int32) (gz : xk_St) : relzM_goes_10 g0 rz gz → xk_eqv [1, 2, 3, 4, 5, 6, 7, 8, 9, 10, 11, 12, 13, 14, 15, 16, 17, 18, 19, 20, 21, 22, 23, 24, 25, 26, 27] g0 gz := by
  intro h
  unfold relzM_goes_10 at h
  have s0 : xk_eqv [1, 2, 3, 4, 5, 6, 7, 8, 9, 10, 11, 12, 13, 14, 15, 16, 17, 18, 19, 20, 21, 22, 23, 24, 25, 26, 27] g0 g0 := xk_eqv_rf
  obtain ⟨g1, u1, v2⟩ := h
  have s3 : xk_eqv [1, 2, 3, 4, 5, 6, 7, 8, 9, 10, 11, 12, 13, 14, 15, 16, 17, 18, 19, 20, 21, 22, 23, 24, 25, 26, 27] g0 g1 := by rw [u1]; repeat (first | exact s0 | refine xk_eqv_up (by decide) ?_)
  rw [v2.2.2]; exact s3
theorem iczM_goes_10 (B : Nat) (g0 : xk_St) (rz : Int32) (gz : xk_St) : relzM_goes_10 g0 rz gz → xk_cnt B g0 → xk_cnt (B + 0) gz := by
  intro h Ig0
  unfold relzM_goes_10 at h
  have Ig0 : xk_cnt (B + 0) g0 := Ig0
  obtain ⟨g1, u1, v2⟩ := h
  have Ig1 : xk_cnt (B + 0) g1 := by rw [u1]; repeat (first | exact Ig0 | refine xk_cnt_k (by decide) ?_ | refine xk_cnt_f (by decide) ?_ | refine xk_cnt_s ?_)
  rw [v2.2.2]; exact xk_cnt_le Ig1 (by omega)
theorem rczM_goes_10 (g0 : xk_St) (rz : Int32) (gz : xk_St) : relzM_goes_10 g0 rz gz → rz = 0 := by
  intro h
  unfold relzM_goes_10 at h
  obtain ⟨_, _, v1⟩ := h
  exact v1.1

def relzM_goes_110 (g0 : xk_St) (rz : Int32) (gz : xk_St) : Prop := ∃ (g1 : xk_St), g1 = va_up g0 0 (upd (g0 0) 0 3) ∧ (rz = 0 ∧ xk_b rz ∧ gz = g1)
set_option maxHeartbeats 4000000 in
set_option maxRecDepth 100000 in
theorem kzM_goes_110 (l : Launch) (G : va_G) (ac : Nat → ClassId) (ad : Nat → Nat) (g0 : xk_St) (B : Nat) (Ig0 : xk_cnt B g0) (hB : B + 1 < 2147483648) : xk_CI l yzM_goes czM_goes 4 .boolean xk_WS xk_r0 G xk_cls (xk_tys ac) [.ref (ad 0), .int 1, .int 1, .int 0] (xk_wM ad ac g0) (fun rz (gz : xk_St) => relzM_goes_110 g0 rz gz) (fun gz => xk_wM ad ac gz) := by
  refine xk_ofI (by decide) (Nat.le_of_ble_eq_true rfl) ?_
  intro p e s m args below meth c A Q H locs ls C0 hret hP hD hS hl
  obtain ⟨hx, hb, hml, hts, hown, hK, hA⟩ := C0
  have hl : lv_has ls 4 [(0, .ref (ad 0)), (1, .int 1), (2, .int 1), (3, .int 0)] := hl
  have Ig0 : xk_cnt (B + 0) g0 := Ig0
  refine lv_aload_n (pc := 0) hx hb dzM_goes_0 rfl (lv_at hl 0 rfl) ?_
  refine lv_iload_n (pc := 1) hx hb dzM_goes_1 rfl (lv_at hl 1 rfl) ?_
  refine lv_if_ne (pc := 2) (tgt := 9) hx hb dzM_goes_2 (by decide) (fun _ => ?_) (fun hq9 => absurd hq9 (by decide))
  refine lv_iload_n (pc := 9) hx hb dzM_goes_9 rfl (lv_at hl 2 rfl) ?_
  refine lv_if_ne (pc := 10) (tgt := 17) hx hb dzM_goes_10 (by decide) (fun _ => ?_) (fun hq9 => absurd hq9 (by decide))
  refine lv_iload_n (pc := 17) hx hb dzM_goes_17 rfl (lv_at hl 3 rfl) ?_
  refine lv_if_ne (pc := 18) (tgt := 25) hx hb dzM_goes_18 (by decide) (fun hq9 => absurd (by decide) hq9) (fun _ => ?_)
  refine lv_iconst (v := 3) (pc := 21) hx hb dzM_goes_21 (by decide) ?_
  refine lv_goto (tgt := 26) (pc := 22) hx hb dzM_goes_22 (by decide) ?_
  refine xk_putf (pc := 26) hx hb hts hown hK hP hD hS pfzM_92 0 rfl rfl rfl (Nat.le_of_ble_eq_true rfl) dzM_goes_26 (fun H locs hP hD hS => ?_)
  obtain ⟨g1, eg1⟩ : ∃ z : xk_St, z = va_up g0 0 (upd (g0 0) 0 3) := ⟨_, rfl⟩
  have hP : va_P G xk_cls (xk_wM ad ac g1) H := by rw [eg1]; exact hP
  have hD : va_D A (xk_wM ad ac g1) := by rw [eg1]; exact hD
  have Ig1 : xk_cnt (B + 0) g1 := by rw [eg1]; repeat (first | exact Ig0 | refine xk_cnt_k (by decide) ?_ | refine xk_cnt_f (by decide) ?_ | refine xk_cnt_s ?_)
  refine lv_aload_n (pc := 29) hx hb dzM_goes_29 rfl (lv_at hl 0 rfl) ?_
  refine xk_get (pc := 30) hx hb hts hown hK hP ffzM_92 0 rfl rfl dzM_goes_30 ?_
  refine xk_is (y := 3) (by rw [eg1]; rfl) ?_
  refine lv_if_ne (pc := 33) (tgt := 40) hx hb dzM_goes_33 (by decide) (fun _ => ?_) (fun hq9 => absurd hq9 (by decide))
  refine lv_iconst (v := 0) (pc := 40) hx hb dzM_goes_40 (by decide) ?_
  exact hret _ g1 H locs 41 ls hP hS (xk_bn xk_b0) (by unfold relzM_goes_110; exact ⟨g1, eg1, ⟨rfl, xk_b0, rfl⟩⟩) dzM_goes_41
theorem frzM_goes_110 (g0 : xk_St) (rz : Int32) (gz : xk_St) : relzM_goes_110 g0 rz gz → xk_eqv [1, 2, 3, 4, 5, 6, 7, 8, 9, 10, 11, 12, 13, 14, 15, 16, 17, 18, 19, 20, 21, 22, 23, 24, 25, 26, 27] g0 gz := by
  intro h
  unfold relzM_goes_110 at h
  have s0 : xk_eqv [1, 2, 3, 4, 5, 6, 7, 8, 9, 10, 11, 12, 13, 14, 15, 16, 17, 18, 19, 20, 21, 22, 23, 24, 25, 26, 27] g0 g0 := xk_eqv_rf
  obtain ⟨g1, u1, v2⟩ := h
  have s3 : xk_eqv [1, 2, 3, 4, 5, 6, 7, 8, 9, 10, 11, 12, 13, 14, 15, 16, 17, 18, 19, 20, 21, 22, 23, 24, 25, 26, 27] g0 g1 := by rw [u1]; repeat (first | exact s0 | refine xk_eqv_up (by decide) ?_)
  rw [v2.2.2]; exact s3
theorem iczM_goes_110 (B : Nat) (g0 : xk_St) (rz : Int32) (gz : xk_St) : relzM_goes_110 g0 rz gz → xk_cnt B g0 → xk_cnt (B + 0) gz := by
  intro h Ig0
  unfold relzM_goes_110 at h
  have Ig0 : xk_cnt (B + 0) g0 := Ig0
  obtain ⟨g1, u1, v2⟩ := h
  have Ig1 : xk_cnt (B + 0) g1 := by rw [u1]; repeat (first | exact Ig0 | refine xk_cnt_k (by decide) ?_ | refine xk_cnt_f (by decide) ?_ | refine xk_cnt_s ?_)
  rw [v2.2.2]; exact xk_cnt_le Ig1 (by omega)
theorem rczM_goes_110 (g0 : xk_St) (rz : Int32) (gz : xk_St) : relzM_goes_110 g0 rz gz → rz = 0 := by
  intro h
  unfold relzM_goes_110 at h
  obtain ⟨_, _, v1⟩ := h
  exact v1.1

def relzM_goes_111 (g0 : xk_St) (rz : Int32) (gz : xk_St) : Prop := ∃ (g1 : xk_St), g1 = va_up g0 0 (upd (g0 0) 0 0) ∧ (rz = 1 ∧ xk_b rz ∧ gz = g1)
set_option maxHeartbeats 4000000 in
set_option maxRecDepth 100000 in
theorem kzM_goes_111 (l : Launch) (G : va_G) (ac : Nat → ClassId) (ad : Nat → Nat) (g0 : xk_St) (B : Nat) (Ig0 : xk_cnt B g0) (hB : B + 1 < 2147483648) : xk_CI l yzM_goes czM_goes 4 .boolean xk_WS xk_r0 G xk_cls (xk_tys ac) [.ref (ad 0), .int 1, .int 1, .int 1] (xk_wM ad ac g0) (fun rz (gz : xk_St) => relzM_goes_111 g0 rz gz) (fun gz => xk_wM ad ac gz) := by
  refine xk_ofI (by decide) (Nat.le_of_ble_eq_true rfl) ?_
  intro p e s m args below meth c A Q H locs ls C0 hret hP hD hS hl
  obtain ⟨hx, hb, hml, hts, hown, hK, hA⟩ := C0
  have hl : lv_has ls 4 [(0, .ref (ad 0)), (1, .int 1), (2, .int 1), (3, .int 1)] := hl
  have Ig0 : xk_cnt (B + 0) g0 := Ig0
  refine lv_aload_n (pc := 0) hx hb dzM_goes_0 rfl (lv_at hl 0 rfl) ?_
  refine lv_iload_n (pc := 1) hx hb dzM_goes_1 rfl (lv_at hl 1 rfl) ?_
  refine lv_if_ne (pc := 2) (tgt := 9) hx hb dzM_goes_2 (by decide) (fun _ => ?_) (fun hq9 => absurd hq9 (by decide))
  refine lv_iload_n (pc := 9) hx hb dzM_goes_9 rfl (lv_at hl 2 rfl) ?_
  refine lv_if_ne (pc := 10) (tgt := 17) hx hb dzM_goes_10 (by decide) (fun _ => ?_) (fun hq9 => absurd hq9 (by decide))
  refine lv_iload_n (pc := 17) hx hb dzM_goes_17 rfl (lv_at hl 3 rfl) ?_
  refine lv_if_ne (pc := 18) (tgt := 25) hx hb dzM_goes_18 (by decide) (fun _ => ?_) (fun hq9 => absurd hq9 (by decide))
  refine lv_iconst (v := 0) (pc := 25) hx hb dzM_goes_25 (by decide) ?_
  refine xk_putf (pc := 26) hx hb hts hown hK hP hD hS pfzM_92 0 rfl rfl rfl (Nat.le_of_ble_eq_true rfl) dzM_goes_26 (fun H locs hP hD hS => ?_)
  obtain ⟨g1, eg1⟩ : ∃ z : xk_St, z = va_up g0 0 (upd (g0 0) 0 0) := ⟨_, rfl⟩
  have hP : va_P G xk_cls (xk_wM ad ac g1) H := by rw [eg1]; exact hP
  have hD : va_D A (xk_wM ad ac g1) := by rw [eg1]; exact hD
  have Ig1 : xk_cnt (B + 0) g1 := by rw [eg1]; repeat (first | exact Ig0 | refine xk_cnt_k (by decide) ?_ | refine xk_cnt_f (by decide) ?_ | refine xk_cnt_s ?_)
  refine lv_aload_n (pc := 29) hx hb dzM_goes_29 rfl (lv_at hl 0 rfl) ?_
  refine xk_get (pc := 30) hx hb hts hown hK hP ffzM_92 0 rfl rfl dzM_goes_30 ?_
  refine xk_is (y := 0) (by rw [eg1]; rfl) ?_
  refine lv_if_ne (pc := 33) (tgt := 40) hx hb dzM_goes_33 (by decide) (fun hq9 => absurd (by decide) hq9) (fun _ => ?_)
  refine lv_iconst (v := 1) (pc := 36) hx hb dzM_goes_36 (by decide) ?_
  refine lv_goto (tgt := 41) (pc := 37) hx hb dzM_goes_37 (by decide) ?_
  exact hret _ g1 H locs 41 ls hP hS (xk_bn xk_b1) (by unfold relzM_goes_111; exact ⟨g1, eg1, ⟨rfl, xk_b1, rfl⟩⟩) dzM_goes_41
theorem frzM_goes_111 (g0 : xk_St) (rz : Int32) (gz : xk_St) : relzM_goes_111 g0 rz gz → xk_eqv [1, 2, 3, 4, 5, 6, 7, 8, 9, 10, 11, 12, 13, 14, 15, 16, 17, 18, 19, 20, 21, 22, 23, 24, 25, 26, 27] g0 gz := by
  intro h
  unfold relzM_goes_111 at h
  have s0 : xk_eqv [1, 2, 3, 4, 5, 6, 7, 8, 9, 10, 11, 12, 13, 14, 15, 16, 17, 18, 19, 20, 21, 22, 23, 24, 25, 26, 27] g0 g0 := xk_eqv_rf
  obtain ⟨g1, u1, v2⟩ := h
  have s3 : xk_eqv [1, 2, 3, 4, 5, 6, 7, 8, 9, 10, 11, 12, 13, 14, 15, 16, 17, 18, 19, 20, 21, 22, 23, 24, 25, 26, 27] g0 g1 := by rw [u1]; repeat (first | exact s0 | refine xk_eqv_up (by decide) ?_)
  rw [v2.2.2]; exact s3
theorem iczM_goes_111 (B : Nat) (g0 : xk_St) (rz : Int32) (gz : xk_St) : relzM_goes_111 g0 rz gz → xk_cnt B g0 → xk_cnt (B + 0) gz := by
  intro h Ig0
  unfold relzM_goes_111 at h
  have Ig0 : xk_cnt (B + 0) g0 := Ig0
  obtain ⟨g1, u1, v2⟩ := h
  have Ig1 : xk_cnt (B + 0) g1 := by rw [u1]; repeat (first | exact Ig0 | refine xk_cnt_k (by decide) ?_ | refine xk_cnt_f (by decide) ?_ | refine xk_cnt_s ?_)
  rw [v2.2.2]; exact xk_cnt_le Ig1 (by omega)
theorem rczM_goes_111 (g0 : xk_St) (rz : Int32) (gz : xk_St) : relzM_goes_111 g0 rz gz → rz = 1 := by
  intro h
  unfold relzM_goes_111 at h
  obtain ⟨_, _, v1⟩ := h
  exact v1.1

def relzM_night (g0 : xk_St) (k0 : Int32) (rz : Int32) (gz : xk_St) : Prop := ∃ (g1 : xk_St), g1 = va_up g0 0 (upd (g0 0) 0 0) ∧ (∃ (x1 : Int32), (if (g1 0 24) = k0 then (x1 = 0) else (x1 = 1)) ∧ (∃ (g2 : xk_St), g2 = va_up g1 0 (upd (g1 0) 24 k0) ∧ (rz = x1 ∧ xk_b rz ∧ gz = g2)))
set_option maxHeartbeats 4000000 in
set_option maxRecDepth 100000 in
theorem kzM_night (l : Launch) (G : va_G) (ac : Nat → ClassId) (ad : Nat → Nat) (g0 : xk_St) (k0 : Int32) (B : Nat) (hb0 : xk_b k0) (Ig0 : xk_cnt B g0) (hB : B + 1 < 2147483648) : xk_CI l yzM_night czM_night 3 .boolean xk_WS xk_r0 G xk_cls (xk_tys ac) [.ref (ad 0), .int k0] (xk_wM ad ac g0) (fun rz (gz : xk_St) => relzM_night g0 k0 rz gz) (fun gz => xk_wM ad ac gz) := by
  refine xk_ofI (by decide) (Nat.le_of_ble_eq_true rfl) ?_
  intro p e s m args below meth c A Q H locs ls C0 hret hP hD hS hl
  obtain ⟨hx, hb, hml, hts, hown, hK, hA⟩ := C0
  have hl : lv_has ls 3 [(0, .ref (ad 0)), (1, .int k0)] := hl
  have Ig0 : xk_cnt (B + 0) g0 := Ig0
  refine lv_aload_n (pc := 0) hx hb dzM_night_0 rfl (lv_at hl 0 rfl) ?_
  refine lv_iconst (v := 0) (pc := 1) hx hb dzM_night_1 (by decide) ?_
  refine xk_putf (pc := 2) hx hb hts hown hK hP hD hS pfzM_92 0 rfl rfl rfl (Nat.le_of_ble_eq_true rfl) dzM_night_2 (fun H locs hP hD hS => ?_)
  obtain ⟨g1, eg1⟩ : ∃ z : xk_St, z = va_up g0 0 (upd (g0 0) 0 0) := ⟨_, rfl⟩
  have hP : va_P G xk_cls (xk_wM ad ac g1) H := by rw [eg1]; exact hP
  have hD : va_D A (xk_wM ad ac g1) := by rw [eg1]; exact hD
  have Ig1 : xk_cnt (B + 0) g1 := by rw [eg1]; repeat (first | exact Ig0 | refine xk_cnt_k (by decide) ?_ | refine xk_cnt_f (by decide) ?_ | refine xk_cnt_s ?_)
  refine lv_aload_n (pc := 5) hx hb dzM_night_5 rfl (lv_at hl 0 rfl) ?_
  refine xk_get (pc := 6) hx hb hts hown hK hP ffzM_122 0 rfl rfl dzM_night_6 ?_
  refine lv_iload_n (pc := 9) hx hb dzM_night_9 rfl (lv_at hl 1 rfl) ?_
  have K1 : ∀ (x1 : Int32), (if (g1 0 24) = k0 then (x1 = 0) else (x1 = 1)) → (xk_b x1) → W p l e xk_r0 s m args below meth c H locs 0 0 Q (F0 m 18 ls [.int x1]) := by
    intro x1 R1 bx1
    refine lv_istore_n (lv' := [(2, .int x1), (0, .ref (ad 0)), (1, .int k0)]) (pc := 18) hx hb dzM_night_18 rfl hl (by decide) rfl (fun ls hl => ?_)
    refine lv_aload_n (pc := 19) hx hb dzM_night_19 rfl (lv_at hl 1 rfl) ?_
    refine lv_iload_n (pc := 20) hx hb dzM_night_20 rfl (lv_at hl 2 rfl) ?_
    refine xk_putf (pc := 21) hx hb hts hown hK hP hD hS pfzM_122 0 rfl (xk_bn hb0) (xk_bf hb0) (Nat.le_of_ble_eq_true rfl) dzM_night_21 (fun H locs hP hD hS => ?_)
    obtain ⟨g2, eg2⟩ : ∃ z : xk_St, z = va_up g1 0 (upd (g1 0) 24 k0) := ⟨_, rfl⟩
    have hP : va_P G xk_cls (xk_wM ad ac g2) H := by rw [eg2]; exact hP
    have hD : va_D A (xk_wM ad ac g2) := by rw [eg2]; exact hD
    have Ig2 : xk_cnt (B + 0) g2 := by rw [eg2]; repeat (first | exact Ig1 | refine xk_cnt_k (by decide) ?_ | refine xk_cnt_f (by decide) ?_ | refine xk_cnt_s ?_)
    refine lv_iload_n (pc := 24) hx hb dzM_night_24 rfl (lv_at hl 0 rfl) ?_
    exact hret _ g2 H locs 25 ls hP hS (xk_bn bx1) (by unfold relzM_night; exact ⟨g1, eg1, ⟨x1, R1, ⟨g2, eg2, ⟨rfl, bx1, rfl⟩⟩⟩⟩) dzM_night_25
  refine lv_icmp_eq (pc := 10) (tgt := 17) hx hb dzM_night_10 (by decide) (fun h1 => ?_) (fun h1 => ?_)
  ·
    refine lv_iconst (v := 0) (pc := 17) hx hb dzM_night_17 (by decide) ?_
    exact K1 0 (Eq.mpr (if_pos h1) rfl) xk_b0
  ·
    refine lv_iconst (v := 1) (pc := 13) hx hb dzM_night_13 (by decide) ?_
    refine lv_goto (tgt := 18) (pc := 14) hx hb dzM_night_14 (by decide) ?_
    exact K1 1 (Eq.mpr (if_neg h1) rfl) xk_b1
theorem frzM_night (g0 : xk_St) (k0 : Int32) (rz : Int32) (gz : xk_St) : relzM_night g0 k0 rz gz → xk_eqv [1, 2, 3, 4, 5, 6, 7, 8, 9, 10, 11, 12, 13, 14, 15, 16, 17, 18, 19, 20, 21, 22, 23, 24, 25, 26, 27] g0 gz := by
  intro h
  unfold relzM_night at h
  have s0 : xk_eqv [1, 2, 3, 4, 5, 6, 7, 8, 9, 10, 11, 12, 13, 14, 15, 16, 17, 18, 19, 20, 21, 22, 23, 24, 25, 26, 27] g0 g0 := xk_eqv_rf
  obtain ⟨g1, u1, v2⟩ := h
  have s3 : xk_eqv [1, 2, 3, 4, 5, 6, 7, 8, 9, 10, 11, 12, 13, 14, 15, 16, 17, 18, 19, 20, 21, 22, 23, 24, 25, 26, 27] g0 g1 := by rw [u1]; repeat (first | exact s0 | refine xk_eqv_up (by decide) ?_)
  obtain ⟨x1, u4, v5⟩ := v2
  obtain ⟨g2, u6, v7⟩ := v5
  have s8 : xk_eqv [1, 2, 3, 4, 5, 6, 7, 8, 9, 10, 11, 12, 13, 14, 15, 16, 17, 18, 19, 20, 21, 22, 23, 24, 25, 26, 27] g0 g2 := by rw [u6]; repeat (first | exact s3 | refine xk_eqv_up (by decide) ?_)
  rw [v7.2.2]; exact s8
theorem iczM_night (B : Nat) (g0 : xk_St) (k0 : Int32) (rz : Int32) (gz : xk_St) : relzM_night g0 k0 rz gz → xk_cnt B g0 → xk_cnt (B + 0) gz := by
  intro h Ig0
  unfold relzM_night at h
  have Ig0 : xk_cnt (B + 0) g0 := Ig0
  obtain ⟨g1, u1, v2⟩ := h
  have Ig1 : xk_cnt (B + 0) g1 := by rw [u1]; repeat (first | exact Ig0 | refine xk_cnt_k (by decide) ?_ | refine xk_cnt_f (by decide) ?_ | refine xk_cnt_s ?_)
  obtain ⟨x1, u3, v4⟩ := v2
  obtain ⟨g2, u5, v6⟩ := v4
  have Ig2 : xk_cnt (B + 0) g2 := by rw [u5]; repeat (first | exact Ig1 | refine xk_cnt_k (by decide) ?_ | refine xk_cnt_f (by decide) ?_ | refine xk_cnt_s ?_)
  rw [v6.2.2]; exact xk_cnt_le Ig2 (by omega)

def relzM_pulse_bad (g0 : xk_St) (k2 : Int32) (gz : xk_St) : Prop := ∃ (x1 : Int32), (if k2 = 1 then (x1 = 1) else (if k2 = (-1) then (x1 = 1) else (x1 = 0))) ∧ (∃ (r2 : Int32) (g1 : xk_St), relzM_goes_0 g0 r2 g1 ∧ (gz = g1))
set_option maxHeartbeats 4000000 in
set_option maxRecDepth 100000 in
theorem kzM_pulse_bad (l : Launch) (G : va_G) (ac : Nat → ClassId) (ad : Nat → Nat) (g0 : xk_St) (k0 : Int32) (k1 : Int32) (k2 : Int32) (B : Nat) (hq : qzM_isHead k0 k1 = 0) (Ig0 : xk_cnt B g0) (hB : B + 1 < 2147483648) : xk_CV l yzM_pulse czM_pulse 5 xk_WS xk_r2 G xk_cls (xk_tys ac) [.ref (ad 0), .int k0, .int k1, .int k2] (xk_wM ad ac g0) (fun (gz : xk_St) => relzM_pulse_bad g0 k2 gz) (fun gz => xk_wM ad ac gz) := by
  refine xk_ofV (by decide) (Nat.le_of_ble_eq_true rfl) ?_
  intro p e s m args below meth c A Q H locs ls C0 hret hP hD hS hl
  obtain ⟨hx, hb, hml, hts, hown, hK, hA⟩ := C0
  have hl : lv_has ls 5 [(0, .ref (ad 0)), (1, .int k0), (2, .int k1), (3, .int k2)] := hl
  have Ig0 : xk_cnt (B + 0) g0 := Ig0
  refine lv_iload_n (pc := 0) hx hb dzM_pulse_0 rfl (lv_at hl 1 rfl) ?_
  refine lv_iload_n (pc := 1) hx hb dzM_pulse_1 rfl (lv_at hl 2 rfl) ?_
  refine xk_callSI (As := [.int k0, .int k1]) (rest := []) (H0 := s.heap) (pc := 2) hx hb hml hts hown hK hA hP hD hS (kzM_isHead l G ac k0 k1) sfzM_110 [] (by decide) rfl (fun _ => rfl) ⟨rfl, rfl⟩ ⟨Nat.le_of_ble_eq_true rfl, Nat.le_of_ble_eq_true rfl⟩ rfl hl.1 rfl (Nat.le_of_ble_eq_true rfl) ⟨Nat.zero_le _, Nat.zero_le _⟩ dzM_pulse_2 (fun r1 u9 H locs e9 hP hD hS => ?_)
  obtain rfl : r1 = qzM_isHead k0 k1 := e9
  refine xk_is (y := 0) hq ?_
  have hP : va_P G xk_cls (xk_wM ad ac g0) H := hP
  have hD : va_D A (xk_wM ad ac g0) := hD
  refine lv_istore (lv' := [(4, .int 0), (0, .ref (ad 0)), (1, .int k0), (2, .int k1), (3, .int k2)]) (pc := 5) hx hb dzM_pulse_5 hl (by decide) rfl (fun ls hl => ?_)
  refine lv_aload_n (pc := 7) hx hb dzM_pulse_7 rfl (lv_at hl 1 rfl) ?_
  refine lv_iload (pc := 8) hx hb dzM_pulse_8 (lv_at hl 0 rfl) ?_
  refine lv_iload_n (pc := 10) hx hb dzM_pulse_10 rfl (lv_at hl 4 rfl) ?_
  refine lv_iconst (v := 1) (pc := 11) hx hb dzM_pulse_11 (by decide) ?_
  have K1 : ∀ (x1 : Int32), (if k2 = 1 then (x1 = 1) else (if k2 = (-1) then (x1 = 1) else (x1 = 0))) → (xk_b x1) → W p l e xk_r2 s m args below meth c H locs 0 0 Q (F0 m 25 ls [.int x1, .int 0, .ref (ad 0)]) := by
    intro x1 R1 bx1
    refine lv_iload (pc := 25) hx hb dzM_pulse_25 (lv_at hl 0 rfl) ?_
    refine lv_if_eq (pc := 27) (tgt := 47) hx hb dzM_pulse_27 (by decide) (fun _ => ?_) (fun hq9 => absurd (by decide) hq9)
    refine lv_iconst (v := 0) (pc := 47) hx hb dzM_pulse_47 (by decide) ?_
    refine xk_allVI (As := [.int 0, .int x1, .int 0]) (rest := []) (H0 := s.heap) (pc := 48) hx hb hml hts hown hK hA hP hD hS (kzM_goes_0 l G ac ad g0 x1 0 (B + 0) Ig0 (by omega)) vfzM_114 (fun _ => rfl) 0 rfl rfl ⟨rfl, rfl⟩ ⟨Nat.le_of_ble_eq_true rfl, Nat.le_of_ble_eq_true rfl⟩ rfl hl.1 rfl (Nat.le_of_ble_eq_true rfl) ⟨Nat.zero_le _, Nat.zero_le _⟩ dzM_pulse_48 (fun r2 g1 H locs hg1 hP hD hS => ?_)
    have qr2 : r2 = 0 := rczM_goes_0 _ _ _ hg1
    refine xk_is (y := 0) qr2 ?_
    have hP : va_P G xk_cls (xk_wM ad ac g1) H := hP
    have hD : va_D A (xk_wM ad ac g1) := hD
    have Ig1 : xk_cnt (B + 0) g1 := xk_cnt_le (iczM_goes_0 (B + 0) _ _ _ hg1 Ig0) (by omega)
    refine lv_if_eq (pc := 51) (tgt := 65) hx hb dzM_pulse_51 (by decide) (fun _ => ?_) (fun hq9 => absurd (by decide) hq9)
    exact hret g1 H locs 65 ls hP hS (by unfold relzM_pulse_bad; exact ⟨x1, R1, ⟨r2, g1, hg1, rfl⟩⟩) dzM_pulse_65
  refine lv_icmp_eq (pc := 12) (tgt := 20) hx hb dzM_pulse_12 (by decide) (fun h1 => ?_) (fun h1 => ?_)
  ·
    refine lv_iconst (v := 1) (pc := 20) hx hb dzM_pulse_20 (by decide) ?_
    refine lv_goto (tgt := 25) (pc := 21) hx hb dzM_pulse_21 (by decide) ?_
    exact K1 1 (Eq.mpr (if_pos h1) rfl) xk_b1
  ·
    refine lv_iload_n (pc := 15) hx hb dzM_pulse_15 rfl (lv_at hl 4 rfl) ?_
    refine lv_iconst (v := (-1)) (pc := 16) hx hb dzM_pulse_16 (by decide) ?_
    refine lv_icmp_ne (pc := 17) (tgt := 24) hx hb dzM_pulse_17 (by decide) (fun h2 => ?_) (fun h2 => ?_)
    ·
      refine lv_iconst (v := 0) (pc := 24) hx hb dzM_pulse_24 (by decide) ?_
      exact K1 0 (Eq.mpr (if_neg h1) (Eq.mpr (if_neg h2) rfl)) xk_b0
    ·
      refine lv_iconst (v := 1) (pc := 20) hx hb dzM_pulse_20 (by decide) ?_
      refine lv_goto (tgt := 25) (pc := 21) hx hb dzM_pulse_21 (by decide) ?_
      exact K1 1 (Eq.mpr (if_neg h1) (Eq.mpr (if_pos h2) rfl)) xk_b1
theorem frzM_pulse_bad (g0 : xk_St) (k2 : Int32) (gz : xk_St) : relzM_pulse_bad g0 k2 gz → xk_eqv [1, 2, 3, 4, 5, 6, 7, 8, 9, 10, 11, 12, 13, 14, 15, 16, 17, 18, 19, 20, 21, 22, 23, 24, 25, 26, 27] g0 gz := by
  intro h
  unfold relzM_pulse_bad at h
  have s0 : xk_eqv [1, 2, 3, 4, 5, 6, 7, 8, 9, 10, 11, 12, 13, 14, 15, 16, 17, 18, 19, 20, 21, 22, 23, 24, 25, 26, 27] g0 g0 := xk_eqv_rf
  obtain ⟨x1, u1, v2⟩ := h
  obtain ⟨r2, g1, u3, v4⟩ := v2
  have s5 : xk_eqv [1, 2, 3, 4, 5, 6, 7, 8, 9, 10, 11, 12, 13, 14, 15, 16, 17, 18, 19, 20, 21, 22, 23, 24, 25, 26, 27] g0 g1 := xk_eqv_tr s0 (xk_eqv_sub (frzM_goes_0 _ _ _ u3) (by decide))
  rw [v4]; exact s5
theorem iczM_pulse_bad (B : Nat) (g0 : xk_St) (k2 : Int32) (gz : xk_St) : relzM_pulse_bad g0 k2 gz → xk_cnt B g0 → xk_cnt (B + 0) gz := by
  intro h Ig0
  unfold relzM_pulse_bad at h
  have Ig0 : xk_cnt (B + 0) g0 := Ig0
  obtain ⟨x1, u1, v2⟩ := h
  obtain ⟨r2, g1, u3, v4⟩ := v2
  have Ig1 : xk_cnt (B + 0) g1 := xk_cnt_le (iczM_goes_0 (B + 0) _ _ _ u3 Ig0) (by omega)
  rw [v4]; exact xk_cnt_le Ig1 (by omega)

def relzM_pulse_0_0 (g0 : xk_St) (k2 : Int32) (gz : xk_St) : Prop := ∃ (x1 : Int32), (if k2 = 1 then (x1 = 1) else (if k2 = (-1) then (x1 = 1) else (x1 = 0))) ∧ (∃ (x2 : Int32), (if ((g0 1) 0) = 0 then (x2 = 1) else (x2 = 0)) ∧ (∃ (r2 : Int32) (g1 : xk_St), relzM_goes g0 1 x1 x2 r2 g1 ∧ (∃ (g3 : xk_St), (if r2 = 0 then (g3 = g1) else (∃ (g2 : xk_St), g2 = va_up g1 1 (upd (g1 1) 0 k2) ∧ (g3 = g2))) ∧ (gz = g3))))
set_option maxHeartbeats 4000000 in
set_option maxRecDepth 100000 in
theorem kzM_pulse_0_0 (l : Launch) (G : va_G) (ac : Nat → ClassId) (ad : Nat → Nat) (g0 : xk_St) (k2 : Int32) (B : Nat) (Ig0 : xk_cnt B g0) (hB : B + 1 < 2147483648) : xk_CV l yzM_pulse czM_pulse 5 xk_WS xk_r2 G xk_cls (xk_tys ac) [.ref (ad 0), .int 0, .int 0, .int k2] (xk_wM ad ac g0) (fun (gz : xk_St) => relzM_pulse_0_0 g0 k2 gz) (fun gz => xk_wM ad ac gz) := by
  refine xk_ofV (by decide) (Nat.le_of_ble_eq_true rfl) ?_
  intro p e s m args below meth c A Q H locs ls C0 hret hP hD hS hl
  obtain ⟨hx, hb, hml, hts, hown, hK, hA⟩ := C0
  have hl : lv_has ls 5 [(0, .ref (ad 0)), (1, .int 0), (2, .int 0), (3, .int k2)] := hl
  have Ig0 : xk_cnt (B + 0) g0 := Ig0
  refine lv_iload_n (pc := 0) hx hb dzM_pulse_0 rfl (lv_at hl 1 rfl) ?_
  refine lv_iload_n (pc := 1) hx hb dzM_pulse_1 rfl (lv_at hl 2 rfl) ?_
  refine xk_callSI (As := [.int 0, .int 0]) (rest := []) (H0 := s.heap) (pc := 2) hx hb hml hts hown hK hA hP hD hS (kzM_isHead l G ac 0 0) sfzM_110 [] (by decide) rfl (fun _ => rfl) ⟨rfl, rfl⟩ ⟨Nat.le_of_ble_eq_true rfl, Nat.le_of_ble_eq_true rfl⟩ rfl hl.1 rfl (Nat.le_of_ble_eq_true rfl) ⟨Nat.zero_le _, Nat.zero_le _⟩ dzM_pulse_2 (fun r1 u9 H locs e9 hP hD hS => ?_)
  obtain rfl : r1 = qzM_isHead 0 0 := e9
  refine xk_is (y := 1) (by decide) ?_
  have hP : va_P G xk_cls (xk_wM ad ac g0) H := hP
  have hD : va_D A (xk_wM ad ac g0) := hD
  refine lv_istore (lv' := [(4, .int 1), (0, .ref (ad 0)), (1, .int 0), (2, .int 0), (3, .int k2)]) (pc := 5) hx hb dzM_pulse_5 hl (by decide) rfl (fun ls hl => ?_)
  refine lv_aload_n (pc := 7) hx hb dzM_pulse_7 rfl (lv_at hl 1 rfl) ?_
  refine lv_iload (pc := 8) hx hb dzM_pulse_8 (lv_at hl 0 rfl) ?_
  refine lv_iload_n (pc := 10) hx hb dzM_pulse_10 rfl (lv_at hl 4 rfl) ?_
  refine lv_iconst (v := 1) (pc := 11) hx hb dzM_pulse_11 (by decide) ?_
  have K1 : ∀ (x1 : Int32), (if k2 = 1 then (x1 = 1) else (if k2 = (-1) then (x1 = 1) else (x1 = 0))) → (xk_b x1) → W p l e xk_r2 s m args below meth c H locs 0 0 Q (F0 m 25 ls [.int x1, .int 1, .ref (ad 0)]) := by
    intro x1 R1 bx1
    refine lv_iload (pc := 25) hx hb dzM_pulse_25 (lv_at hl 0 rfl) ?_
    refine lv_if_eq (pc := 27) (tgt := 47) hx hb dzM_pulse_27 (by decide) (fun hq9 => absurd hq9 (by decide)) (fun _ => ?_)
    refine lv_aload_n (pc := 30) hx hb dzM_pulse_30 rfl (lv_at hl 1 rfl) ?_
    refine xk_get (pc := 31) hx hb hts hown hK hP ffzM_7 0 rfl rfl dzM_pulse_31 ?_
    refine lv_iconst (v := 4) (pc := 34) hx hb dzM_pulse_34 (by decide) ?_
    refine lv_iload_n (pc := 35) hx hb dzM_pulse_35 rfl (lv_at hl 2 rfl) ?_
    refine lv_imul (pc := 36) hx hb dzM_pulse_36 ?_
    refine xk_is (y := 0) (by decide) ?_
    refine lv_iload_n (pc := 37) hx hb dzM_pulse_37 rfl (lv_at hl 3 rfl) ?_
    refine lv_iadd (pc := 38) hx hb dzM_pulse_38 ?_
    refine xk_is (y := 0) (by decide) ?_
    refine xk_iald (q0 := 1) (t0 := 0) (j := 0) (pc := 39) hx hb hK hP rfl rfl (pk_in 0 8 (by decide)) (pk_cl 0) dzM_pulse_39 ?_
    have K2 : ∀ (x2 : Int32), (if ((g0 1) 0) = 0 then (x2 = 1) else (x2 = 0)) → (xk_b x2) → W p l e xk_r2 s m args below meth c H locs 0 0 Q (F0 m 48 ls [.int x2, .int x1, .int 1, .ref (ad 0)]) := by
      intro x2 R2 bx2
      refine xk_allVI (As := [.int 1, .int x1, .int x2]) (rest := []) (H0 := s.heap) (pc := 48) hx hb hml hts hown hK hA hP hD hS (kzM_goes l G ac ad g0 1 x1 x2 (B + 0) Ig0 (by omega)) vfzM_114 (fun _ => rfl) 0 rfl rfl ⟨rfl, rfl⟩ ⟨Nat.le_of_ble_eq_true rfl, Nat.le_of_ble_eq_true rfl⟩ rfl hl.1 rfl (Nat.le_of_ble_eq_true rfl) ⟨Nat.zero_le _, Nat.zero_le _⟩ dzM_pulse_48 (fun r2 g1 H locs hg1 hP hD hS => ?_)
      have hP : va_P G xk_cls (xk_wM ad ac g1) H := hP
      have hD : va_D A (xk_wM ad ac g1) := hD
      have Ig1 : xk_cnt (B + 0) g1 := xk_cnt_le (iczM_goes (B + 0) _ _ _ _ _ _ hg1 Ig0) (by omega)
      have K3 : ∀ (g3 : xk_St) (H : Heap) (locs : List Loc), (if r2 = 0 then (g3 = g1) else (∃ (g2 : xk_St), g2 = va_up g1 1 (upd (g1 1) 0 k2) ∧ (g3 = g2))) → (xk_cnt (B + 0) g3) → (va_P G xk_cls (xk_wM ad ac g3) H) → (va_D A (xk_wM ad ac g3)) → (va_S A s.heap H locs) → W p l e xk_r2 s m args below meth c H locs 0 0 Q (F0 m 65 ls []) := by
        intro g3 H locs R3 Ig3 hP hD hS
        exact hret g3 H locs 65 ls hP hS (by unfold relzM_pulse_0_0; exact ⟨x1, R1, ⟨x2, R2, ⟨r2, g1, hg1, ⟨g3, R3, rfl⟩⟩⟩⟩) dzM_pulse_65
      refine lv_if_eq (pc := 51) (tgt := 65) hx hb dzM_pulse_51 (by decide) (fun h4 => ?_) (fun h4 => ?_)
      ·
        exact K3 g1 H locs (Eq.mpr (if_pos h4) rfl) (xk_cnt_le Ig1 (by omega)) hP hD hS
      ·
        refine lv_aload_n (pc := 54) hx hb dzM_pulse_54 rfl (lv_at hl 1 rfl) ?_
        refine xk_get (pc := 55) hx hb hts hown hK hP ffzM_7 0 rfl rfl dzM_pulse_55 ?_
        refine lv_iconst (v := 4) (pc := 58) hx hb dzM_pulse_58 (by decide) ?_
        refine lv_iload_n (pc := 59) hx hb dzM_pulse_59 rfl (lv_at hl 2 rfl) ?_
        refine lv_imul (pc := 60) hx hb dzM_pulse_60 ?_
        refine xk_is (y := 0) (by decide) ?_
        refine lv_iload_n (pc := 61) hx hb dzM_pulse_61 rfl (lv_at hl 3 rfl) ?_
        refine lv_iadd (pc := 62) hx hb dzM_pulse_62 ?_
        refine xk_is (y := 0) (by decide) ?_
        refine lv_iload_n (pc := 63) hx hb dzM_pulse_63 rfl (lv_at hl 4 rfl) ?_
        refine xk_iast (q0 := 1) (t0 := 0) (j := 0) (pc := 64) hx hb hK hP hD hS rfl rfl (pk_in 0 8 (by decide)) (pk_cl 0) dzM_pulse_64 (fun H locs hP hD hS => ?_)
        obtain ⟨g2, eg2⟩ : ∃ z : xk_St, z = va_up g1 1 (upd (g1 1) 0 k2) := ⟨_, rfl⟩
        have hP : va_P G xk_cls (xk_wM ad ac g2) H := by rw [eg2]; exact hP
        have hD : va_D A (xk_wM ad ac g2) := by rw [eg2]; exact hD
        have Ig2 : xk_cnt (B + 0) g2 := by rw [eg2]; repeat (first | exact Ig1 | refine xk_cnt_k (by decide) ?_ | refine xk_cnt_f (by decide) ?_ | refine xk_cnt_s ?_)
        exact K3 g2 H locs (Eq.mpr (if_neg h4) ⟨g2, eg2, rfl⟩) (xk_cnt_le Ig2 (by omega)) hP hD hS
    refine lv_if_ne (pc := 40) (tgt := 47) hx hb dzM_pulse_40 (by decide) (fun h3 => ?_) (fun h3 => ?_)
    ·
      refine lv_iconst (v := 0) (pc := 47) hx hb dzM_pulse_47 (by decide) ?_
      exact K2 0 (Eq.mpr (if_neg h3) rfl) xk_b0
    ·
      refine lv_iconst (v := 1) (pc := 43) hx hb dzM_pulse_43 (by decide) ?_
      refine lv_goto (tgt := 48) (pc := 44) hx hb dzM_pulse_44 (by decide) ?_
      exact K2 1 (Eq.mpr (if_pos h3) rfl) xk_b1
  refine lv_icmp_eq (pc := 12) (tgt := 20) hx hb dzM_pulse_12 (by decide) (fun h1 => ?_) (fun h1 => ?_)
  ·
    refine lv_iconst (v := 1) (pc := 20) hx hb dzM_pulse_20 (by decide) ?_
    refine lv_goto (tgt := 25) (pc := 21) hx hb dzM_pulse_21 (by decide) ?_
    exact K1 1 (Eq.mpr (if_pos h1) rfl) xk_b1
  ·
    refine lv_iload_n (pc := 15) hx hb dzM_pulse_15 rfl (lv_at hl 4 rfl) ?_
    refine lv_iconst (v := (-1)) (pc := 16) hx hb dzM_pulse_16 (by decide) ?_
    refine lv_icmp_ne (pc := 17) (tgt := 24) hx hb dzM_pulse_17 (by decide) (fun h2 => ?_) (fun h2 => ?_)
    ·
      refine lv_iconst (v := 0) (pc := 24) hx hb dzM_pulse_24 (by decide) ?_
      exact K1 0 (Eq.mpr (if_neg h1) (Eq.mpr (if_neg h2) rfl)) xk_b0
    ·
      refine lv_iconst (v := 1) (pc := 20) hx hb dzM_pulse_20 (by decide) ?_
      refine lv_goto (tgt := 25) (pc := 21) hx hb dzM_pulse_21 (by decide) ?_
      exact K1 1 (Eq.mpr (if_neg h1) (Eq.mpr (if_pos h2) rfl)) xk_b1
theorem frzM_pulse_0_0 (g0 : xk_St) (k2 : Int32) (gz : xk_St) : relzM_pulse_0_0 g0 k2 gz → xk_eqv [2, 3, 4, 5, 6, 7, 8, 9, 10, 11, 12, 13, 14, 15, 16, 17, 18, 19, 20, 21, 22, 23, 24, 25, 26, 27] g0 gz := by
  intro h
  unfold relzM_pulse_0_0 at h
  have s0 : xk_eqv [2, 3, 4, 5, 6, 7, 8, 9, 10, 11, 12, 13, 14, 15, 16, 17, 18, 19, 20, 21, 22, 23, 24, 25, 26, 27] g0 g0 := xk_eqv_rf
  obtain ⟨x1, u1, v2⟩ := h
  obtain ⟨x2, u3, v4⟩ := v2
  obtain ⟨r2, g1, u5, v6⟩ := v4
  have s7 : xk_eqv [2, 3, 4, 5, 6, 7, 8, 9, 10, 11, 12, 13, 14, 15, 16, 17, 18, 19, 20, 21, 22, 23, 24, 25, 26, 27] g0 g1 := xk_eqv_tr s0 (xk_eqv_sub (frzM_goes _ _ _ _ _ _ u5) (by decide))
  obtain ⟨g3, u8, v9⟩ := v6
  have s10 : xk_eqv [2, 3, 4, 5, 6, 7, 8, 9, 10, 11, 12, 13, 14, 15, 16, 17, 18, 19, 20, 21, 22, 23, 24, 25, 26, 27] g0 g3 := by
    by_cases hc : r2 = 0
    · rw [if_pos hc] at u8
      rw [u8]; exact s7
    · rw [if_neg hc] at u8
      obtain ⟨g2, u11, v12⟩ := u8
      have s13 : xk_eqv [2, 3, 4, 5, 6, 7, 8, 9, 10, 11, 12, 13, 14, 15, 16, 17, 18, 19, 20, 21, 22, 23, 24, 25, 26, 27] g0 g2 := by rw [u11]; repeat (first | exact s7 | refine xk_eqv_up (by decide) ?_)
      rw [v12]; exact s13
  rw [v9]; exact s10
theorem iczM_pulse_0_0 (B : Nat) (g0 : xk_St) (k2 : Int32) (gz : xk_St) : relzM_pulse_0_0 g0 k2 gz → xk_cnt B g0 → xk_cnt (B + 0) gz := by
  intro h Ig0
  unfold relzM_pulse_0_0 at h
  have Ig0 : xk_cnt (B + 0) g0 := Ig0
  obtain ⟨x1, u1, v2⟩ := h
  obtain ⟨x2, u3, v4⟩ := v2
  obtain ⟨r2, g1, u5, v6⟩ := v4
  have Ig1 : xk_cnt (B + 0) g1 := xk_cnt_le (iczM_goes (B + 0) _ _ _ _ _ _ u5 Ig0) (by omega)
  obtain ⟨g3, u7, v8⟩ := v6
  have Ig3 : xk_cnt (B + 0) g3 := by
    by_cases hc : r2 = 0
    · rw [if_pos hc] at u7
      rw [u7]; exact xk_cnt_le Ig1 (by omega)
    · rw [if_neg hc] at u7
      obtain ⟨g2, u9, v10⟩ := u7
      have Ig2 : xk_cnt (B + 0) g2 := by rw [u9]; repeat (first | exact Ig1 | refine xk_cnt_k (by decide) ?_ | refine xk_cnt_f (by decide) ?_ | refine xk_cnt_s ?_)
      rw [v10]; exact xk_cnt_le Ig2 (by omega)
  rw [v8]; exact xk_cnt_le Ig3 (by omega)

def relzM_pulse_0_1 (g0 : xk_St) (k2 : Int32) (gz : xk_St) : Prop := ∃ (x1 : Int32), (if k2 = 1 then (x1 = 1) else (if k2 = (-1) then (x1 = 1) else (x1 = 0))) ∧ (∃ (x2 : Int32), (if ((g0 1) 1) = 0 then (x2 = 1) else (x2 = 0)) ∧ (∃ (r2 : Int32) (g1 : xk_St), relzM_goes g0 1 x1 x2 r2 g1 ∧ (∃ (g3 : xk_St), (if r2 = 0 then (g3 = g1) else (∃ (g2 : xk_St), g2 = va_up g1 1 (upd (g1 1) 1 k2) ∧ (g3 = g2))) ∧ (gz = g3))))
set_option maxHeartbeats 4000000 in
set_option maxRecDepth 100000 in
theorem kzM_pulse_0_1 (l : Launch) (G : va_G) (ac : Nat → ClassId) (ad : Nat → Nat) (g0 : xk_St) (k2 : Int32) (B : Nat) (Ig0 : xk_cnt B g0) (hB : B + 1 < 2147483648) : xk_CV l yzM_pulse czM_pulse 5 xk_WS xk_r2 G xk_cls (xk_tys ac) [.ref (ad 0), .int 0, .int 1, .int k2] (xk_wM ad ac g0) (fun (gz : xk_St) => relzM_pulse_0_1 g0 k2 gz) (fun gz => xk_wM ad ac gz) := by
  refine xk_ofV (by decide) (Nat.le_of_ble_eq_true rfl) ?_
  intro p e s m args below meth c A Q H locs ls C0 hret hP hD hS hl
  obtain ⟨hx, hb, hml, hts, hown, hK, hA⟩ := C0
  have hl : lv_has ls 5 [(0, .ref (ad 0)), (1, .int 0), (2, .int 1), (3, .int k2)] := hl
  have Ig0 : xk_cnt (B + 0) g0 := Ig0
  refine lv_iload_n (pc := 0) hx hb dzM_pulse_0 rfl (lv_at hl 1 rfl) ?_
  refine lv_iload_n (pc := 1) hx hb dzM_pulse_1 rfl (lv_at hl 2 rfl) ?_
  refine xk_callSI (As := [.int 0, .int 1]) (rest := []) (H0 := s.heap) (pc := 2) hx hb hml hts hown hK hA hP hD hS (kzM_isHead l G ac 0 1) sfzM_110 [] (by decide) rfl (fun _ => rfl) ⟨rfl, rfl⟩ ⟨Nat.le_of_ble_eq_true rfl, Nat.le_of_ble_eq_true rfl⟩ rfl hl.1 rfl (Nat.le_of_ble_eq_true rfl) ⟨Nat.zero_le _, Nat.zero_le _⟩ dzM_pulse_2 (fun r1 u9 H locs e9 hP hD hS => ?_)
  obtain rfl : r1 = qzM_isHead 0 1 := e9
  refine xk_is (y := 1) (by decide) ?_
  have hP : va_P G xk_cls (xk_wM ad ac g0) H := hP
  have hD : va_D A (xk_wM ad ac g0) := hD
  refine lv_istore (lv' := [(4, .int 1), (0, .ref (ad 0)), (1, .int 0), (2, .int 1), (3, .int k2)]) (pc := 5) hx hb dzM_pulse_5 hl (by decide) rfl (fun ls hl => ?_)
  refine lv_aload_n (pc := 7) hx hb dzM_pulse_7 rfl (lv_at hl 1 rfl) ?_
  refine lv_iload (pc := 8) hx hb dzM_pulse_8 (lv_at hl 0 rfl) ?_
  refine lv_iload_n (pc := 10) hx hb dzM_pulse_10 rfl (lv_at hl 4 rfl) ?_
  refine lv_iconst (v := 1) (pc := 11) hx hb dzM_pulse_11 (by decide) ?_
  have K1 : ∀ (x1 : Int32), (if k2 = 1 then (x1 = 1) else (if k2 = (-1) then (x1 = 1) else (x1 = 0))) → (xk_b x1) → W p l e xk_r2 s m args below meth c H locs 0 0 Q (F0 m 25 ls [.int x1, .int 1, .ref (ad 0)]) := by
    intro x1 R1 bx1
    refine lv_iload (pc := 25) hx hb dzM_pulse_25 (lv_at hl 0 rfl) ?_
    refine lv_if_eq (pc := 27) (tgt := 47) hx hb dzM_pulse_27 (by decide) (fun hq9 => absurd hq9 (by decide)) (fun _ => ?_)
    refine lv_aload_n (pc := 30) hx hb dzM_pulse_30 rfl (lv_at hl 1 rfl) ?_
    refine xk_get (pc := 31) hx hb hts hown hK hP ffzM_7 0 rfl rfl dzM_pulse_31 ?_
    refine lv_iconst (v := 4) (pc := 34) hx hb dzM_pulse_34 (by decide) ?_
    refine lv_iload_n (pc := 35) hx hb dzM_pulse_35 rfl (lv_at hl 2 rfl) ?_
    refine lv_imul (pc := 36) hx hb dzM_pulse_36 ?_
    refine xk_is (y := 0) (by decide) ?_
    refine lv_iload_n (pc := 37) hx hb dzM_pulse_37 rfl (lv_at hl 3 rfl) ?_
    refine lv_iadd (pc := 38) hx hb dzM_pulse_38 ?_
    refine xk_is (y := 1) (by decide) ?_
    refine xk_iald (q0 := 1) (t0 := 0) (j := 1) (pc := 39) hx hb hK hP rfl rfl (pk_in 1 8 (by decide)) (pk_cl 1) dzM_pulse_39 ?_
    have K2 : ∀ (x2 : Int32), (if ((g0 1) 1) = 0 then (x2 = 1) else (x2 = 0)) → (xk_b x2) → W p l e xk_r2 s m args below meth c H locs 0 0 Q (F0 m 48 ls [.int x2, .int x1, .int 1, .ref (ad 0)]) := by
      intro x2 R2 bx2
      refine xk_allVI (As := [.int 1, .int x1, .int x2]) (rest := []) (H0 := s.heap) (pc := 48) hx hb hml hts hown hK hA hP hD hS (kzM_goes l G ac ad g0 1 x1 x2 (B + 0) Ig0 (by omega)) vfzM_114 (fun _ => rfl) 0 rfl rfl ⟨rfl, rfl⟩ ⟨Nat.le_of_ble_eq_true rfl, Nat.le_of_ble_eq_true rfl⟩ rfl hl.1 rfl (Nat.le_of_ble_eq_true rfl) ⟨Nat.zero_le _, Nat.zero_le _⟩ dzM_pulse_48 (fun r2 g1 H locs hg1 hP hD hS => ?_)
      have hP : va_P G xk_cls (xk_wM ad ac g1) H := hP
      have hD : va_D A (xk_wM ad ac g1) := hD
      have Ig1 : xk_cnt (B + 0) g1 := xk_cnt_le (iczM_goes (B + 0) _ _ _ _ _ _ hg1 Ig0) (by omega)
      have K3 : ∀ (g3 : xk_St) (H : Heap) (locs : List Loc), (if r2 = 0 then (g3 = g1) else (∃ (g2 : xk_St), g2 = va_up g1 1 (upd (g1 1) 1 k2) ∧ (g3 = g2))) → (xk_cnt (B + 0) g3) → (va_P G xk_cls (xk_wM ad ac g3) H) → (va_D A (xk_wM ad ac g3)) → (va_S A s.heap H locs) → W p l e xk_r2 s m args below meth c H locs 0 0 Q (F0 m 65 ls []) := by
        intro g3 H locs R3 Ig3 hP hD hS
        exact hret g3 H locs 65 ls hP hS (by unfold relzM_pulse_0_1; exact ⟨x1, R1, ⟨x2, R2, ⟨r2, g1, hg1, ⟨g3, R3, rfl⟩⟩⟩⟩) dzM_pulse_65
      refine lv_if_eq (pc := 51) (tgt := 65) hx hb dzM_pulse_51 (by decide) (fun h4 => ?_) (fun h4 => ?_)
      ·
        exact K3 g1 H locs (Eq.mpr (if_pos h4) rfl) (xk_cnt_le Ig1 (by omega)) hP hD hS
      ·
        refine lv_aload_n (pc := 54) hx hb dzM_pulse_54 rfl (lv_at hl 1 rfl) ?_
        refine xk_get (pc := 55) hx hb hts hown hK hP ffzM_7 0 rfl rfl dzM_pulse_55 ?_
        refine lv_iconst (v := 4) (pc := 58) hx hb dzM_pulse_58 (by decide) ?_
        refine lv_iload_n (pc := 59) hx hb dzM_pulse_59 rfl (lv_at hl 2 rfl) ?_
        refine lv_imul (pc := 60) hx hb dzM_pulse_60 ?_
        refine xk_is (y := 0) (by decide) ?_
        refine lv_iload_n (pc := 61) hx hb dzM_pulse_61 rfl (lv_at hl 3 rfl) ?_
        refine lv_iadd (pc := 62) hx hb dzM_pulse_62 ?_
        refine xk_is (y := 1) (by decide) ?_
        refine lv_iload_n (pc := 63) hx hb dzM_pulse_63 rfl (lv_at hl 4 rfl) ?_
        refine xk_iast (q0 := 1) (t0 := 0) (j := 1) (pc := 64) hx hb hK hP hD hS rfl rfl (pk_in 1 8 (by decide)) (pk_cl 1) dzM_pulse_64 (fun H locs hP hD hS => ?_)
        obtain ⟨g2, eg2⟩ : ∃ z : xk_St, z = va_up g1 1 (upd (g1 1) 1 k2) := ⟨_, rfl⟩
        have hP : va_P G xk_cls (xk_wM ad ac g2) H := by rw [eg2]; exact hP
        have hD : va_D A (xk_wM ad ac g2) := by rw [eg2]; exact hD
        have Ig2 : xk_cnt (B + 0) g2 := by rw [eg2]; repeat (first | exact Ig1 | refine xk_cnt_k (by decide) ?_ | refine xk_cnt_f (by decide) ?_ | refine xk_cnt_s ?_)
        exact K3 g2 H locs (Eq.mpr (if_neg h4) ⟨g2, eg2, rfl⟩) (xk_cnt_le Ig2 (by omega)) hP hD hS
    refine lv_if_ne (pc := 40) (tgt := 47) hx hb dzM_pulse_40 (by decide) (fun h3 => ?_) (fun h3 => ?_)
    ·
      refine lv_iconst (v := 0) (pc := 47) hx hb dzM_pulse_47 (by decide) ?_
      exact K2 0 (Eq.mpr (if_neg h3) rfl) xk_b0
    ·
      refine lv_iconst (v := 1) (pc := 43) hx hb dzM_pulse_43 (by decide) ?_
      refine lv_goto (tgt := 48) (pc := 44) hx hb dzM_pulse_44 (by decide) ?_
      exact K2 1 (Eq.mpr (if_pos h3) rfl) xk_b1
  refine lv_icmp_eq (pc := 12) (tgt := 20) hx hb dzM_pulse_12 (by decide) (fun h1 => ?_) (fun h1 => ?_)
  ·
    refine lv_iconst (v := 1) (pc := 20) hx hb dzM_pulse_20 (by decide) ?_
    refine lv_goto (tgt := 25) (pc := 21) hx hb dzM_pulse_21 (by decide) ?_
    exact K1 1 (Eq.mpr (if_pos h1) rfl) xk_b1
  ·
    refine lv_iload_n (pc := 15) hx hb dzM_pulse_15 rfl (lv_at hl 4 rfl) ?_
    refine lv_iconst (v := (-1)) (pc := 16) hx hb dzM_pulse_16 (by decide) ?_
    refine lv_icmp_ne (pc := 17) (tgt := 24) hx hb dzM_pulse_17 (by decide) (fun h2 => ?_) (fun h2 => ?_)
    ·
      refine lv_iconst (v := 0) (pc := 24) hx hb dzM_pulse_24 (by decide) ?_
      exact K1 0 (Eq.mpr (if_neg h1) (Eq.mpr (if_neg h2) rfl)) xk_b0
    ·
      refine lv_iconst (v := 1) (pc := 20) hx hb dzM_pulse_20 (by decide) ?_
      refine lv_goto (tgt := 25) (pc := 21) hx hb dzM_pulse_21 (by decide) ?_
      exact K1 1 (Eq.mpr (if_neg h1) (Eq.mpr (if_pos h2) rfl)) xk_b1
theorem frzM_pulse_0_1 (g0 : xk_St) (k2 : Int32) (gz : xk_St) : relzM_pulse_0_1 g0 k2 gz → xk_eqv [2, 3, 4, 5, 6, 7, 8, 9, 10, 11, 12, 13, 14, 15, 16, 17, 18, 19, 20, 21, 22, 23, 24, 25, 26, 27] g0 gz := by
  intro h
  unfold relzM_pulse_0_1 at h
  have s0 : xk_eqv [2, 3, 4, 5, 6, 7, 8, 9, 10, 11, 12, 13, 14, 15, 16, 17, 18, 19, 20, 21, 22, 23, 24, 25, 26, 27] g0 g0 := xk_eqv_rf
  obtain ⟨x1, u1, v2⟩ := h
  obtain ⟨x2, u3, v4⟩ := v2
  obtain ⟨r2, g1, u5, v6⟩ := v4
  have s7 : xk_eqv [2, 3, 4, 5, 6, 7, 8, 9, 10, 11, 12, 13, 14, 15, 16, 17, 18, 19, 20, 21, 22, 23, 24, 25, 26, 27] g0 g1 := xk_eqv_tr s0 (xk_eqv_sub (frzM_goes _ _ _ _ _ _ u5) (by decide))
  obtain ⟨g3, u8, v9⟩ := v6
  have s10 : xk_eqv [2, 3, 4, 5, 6, 7, 8, 9, 10, 11, 12, 13, 14, 15, 16, 17, 18, 19, 20, 21, 22, 23, 24, 25, 26, 27] g0 g3 := by
    by_cases hc : r2 = 0
    · rw [if_pos hc] at u8
      rw [u8]; exact s7
    · rw [if_neg hc] at u8
      obtain ⟨g2, u11, v12⟩ := u8
      have s13 : xk_eqv [2, 3, 4, 5, 6, 7, 8, 9, 10, 11, 12, 13, 14, 15, 16, 17, 18, 19, 20, 21, 22, 23, 24, 25, 26, 27] g0 g2 := by rw [u11]; repeat (first | exact s7 | refine xk_eqv_up (by decide) ?_)
      rw [v12]; exact s13
  rw [v9]; exact s10
theorem iczM_pulse_0_1 (B : Nat) (g0 : xk_St) (k2 : Int32) (gz : xk_St) : relzM_pulse_0_1 g0 k2 gz → xk_cnt B g0 → xk_cnt (B + 0) gz := by
  intro h Ig0
  unfold relzM_pulse_0_1 at h
  have Ig0 : xk_cnt (B + 0) g0 := Ig0
  obtain ⟨x1, u1, v2⟩ := h
  obtain ⟨x2, u3, v4⟩ := v2
  obtain ⟨r2, g1, u5, v6⟩ := v4
  have Ig1 : xk_cnt (B + 0) g1 := xk_cnt_le (iczM_goes (B + 0) _ _ _ _ _ _ u5 Ig0) (by omega)
  obtain ⟨g3, u7, v8⟩ := v6
  have Ig3 : xk_cnt (B + 0) g3 := by
    by_cases hc : r2 = 0
    · rw [if_pos hc] at u7
      rw [u7]; exact xk_cnt_le Ig1 (by omega)
    · rw [if_neg hc] at u7
      obtain ⟨g2, u9, v10⟩ := u7
      have Ig2 : xk_cnt (B + 0) g2 := by rw [u9]; repeat (first | exact Ig1 | refine xk_cnt_k (by decide) ?_ | refine xk_cnt_f (by decide) ?_ | refine xk_cnt_s ?_)
      rw [v10]; exact xk_cnt_le Ig2 (by omega)
  rw [v8]; exact xk_cnt_le Ig3 (by omega)

def relzM_pulse_0_2 (g0 : xk_St) (k2 : Int32) (gz : xk_St) : Prop := ∃ (x1 : Int32), (if k2 = 1 then (x1 = 1) else (if k2 = (-1) then (x1 = 1) else (x1 = 0))) ∧ (∃ (x2 : Int32), (if ((g0 1) 2) = 0 then (x2 = 1) else (x2 = 0)) ∧ (∃ (r2 : Int32) (g1 : xk_St), relzM_goes g0 1 x1 x2 r2 g1 ∧ (∃ (g3 : xk_St), (if r2 = 0 then (g3 = g1) else (∃ (g2 : xk_St), g2 = va_up g1 1 (upd (g1 1) 2 k2) ∧ (g3 = g2))) ∧ (gz = g3))))
set_option maxHeartbeats 4000000 in
set_option maxRecDepth 100000 in
theorem kzM_pulse_0_2 (l : Launch) (G : va_G) (ac : Nat → ClassId) (ad : Nat → Nat) (g0 : xk_St) (k2 : Int32) (B : Nat) (Ig0 : xk_cnt B g0) (hB : B + 1 < 2147483648) : xk_CV l yzM_pulse czM_pulse 5 xk_WS xk_r2 G xk_cls (xk_tys ac) [.ref (ad 0), .int 0, .int 2, .int k2] (xk_wM ad ac g0) (fun (gz : xk_St) => relzM_pulse_0_2 g0 k2 gz) (fun gz => xk_wM ad ac gz) := by
  refine xk_ofV (by decide) (Nat.le_of_ble_eq_true rfl) ?_
  intro p e s m args below meth c A Q H locs ls C0 hret hP hD hS hl
  obtain ⟨hx, hb, hml, hts, hown, hK, hA⟩ := C0
  have hl : lv_has ls 5 [(0, .ref (ad 0)), (1, .int 0), (2, .int 2), (3, .int k2)] := hl
  have Ig0 : xk_cnt (B + 0) g0 := Ig0
  refine lv_iload_n (pc := 0) hx hb dzM_pulse_0 rfl (lv_at hl 1 rfl) ?_
  refine lv_iload_n (pc := 1) hx hb dzM_pulse_1 rfl (lv_at hl 2 rfl) ?_
  refine xk_callSI (As := [.int 0, .int 2]) (rest := []) (H0 := s.heap) (pc := 2) hx hb hml hts hown hK hA hP hD hS (kzM_isHead l G ac 0 2) sfzM_110 [] (by decide) rfl (fun _ => rfl) ⟨rfl, rfl⟩ ⟨Nat.le_of_ble_eq_true rfl, Nat.le_of_ble_eq_true rfl⟩ rfl hl.1 rfl (Nat.le_of_ble_eq_true rfl) ⟨Nat.zero_le _, Nat.zero_le _⟩ dzM_pulse_2 (fun r1 u9 H locs e9 hP hD hS => ?_)
  obtain rfl : r1 = qzM_isHead 0 2 := e9
  refine xk_is (y := 1) (by decide) ?_
  have hP : va_P G xk_cls (xk_wM ad ac g0) H := hP
  have hD : va_D A (xk_wM ad ac g0) := hD
  refine lv_istore (lv' := [(4, .int 1), (0, .ref (ad 0)), (1, .int 0), (2, .int 2), (3, .int k2)]) (pc := 5) hx hb dzM_pulse_5 hl (by decide) rfl (fun ls hl => ?_)
  refine lv_aload_n (pc := 7) hx hb dzM_pulse_7 rfl (lv_at hl 1 rfl) ?_
  refine lv_iload (pc := 8) hx hb dzM_pulse_8 (lv_at hl 0 rfl) ?_
  refine lv_iload_n (pc := 10) hx hb dzM_pulse_10 rfl (lv_at hl 4 rfl) ?_
  refine lv_iconst (v := 1) (pc := 11) hx hb dzM_pulse_11 (by decide) ?_
  have K1 : ∀ (x1 : Int32), (if k2 = 1 then (x1 = 1) else (if k2 = (-1) then (x1 = 1) else (x1 = 0))) → (xk_b x1) → W p l e xk_r2 s m args below meth c H locs 0 0 Q (F0 m 25 ls [.int x1, .int 1, .ref (ad 0)]) := by
    intro x1 R1 bx1
    refine lv_iload (pc := 25) hx hb dzM_pulse_25 (lv_at hl 0 rfl) ?_
    refine lv_if_eq (pc := 27) (tgt := 47) hx hb dzM_pulse_27 (by decide) (fun hq9 => absurd hq9 (by decide)) (fun _ => ?_)
    refine lv_aload_n (pc := 30) hx hb dzM_pulse_30 rfl (lv_at hl 1 rfl) ?_
    refine xk_get (pc := 31) hx hb hts hown hK hP ffzM_7 0 rfl rfl dzM_pulse_31 ?_
    refine lv_iconst (v := 4) (pc := 34) hx hb dzM_pulse_34 (by decide) ?_
    refine lv_iload_n (pc := 35) hx hb dzM_pulse_35 rfl (lv_at hl 2 rfl) ?_
    refine lv_imul (pc := 36) hx hb dzM_pulse_36 ?_
    refine xk_is (y := 0) (by decide) ?_
    refine lv_iload_n (pc := 37) hx hb dzM_pulse_37 rfl (lv_at hl 3 rfl) ?_
    refine lv_iadd (pc := 38) hx hb dzM_pulse_38 ?_
    refine xk_is (y := 2) (by decide) ?_
    refine xk_iald (q0 := 1) (t0 := 0) (j := 2) (pc := 39) hx hb hK hP rfl rfl (pk_in 2 8 (by decide)) (pk_cl 2) dzM_pulse_39 ?_
    have K2 : ∀ (x2 : Int32), (if ((g0 1) 2) = 0 then (x2 = 1) else (x2 = 0)) → (xk_b x2) → W p l e xk_r2 s m args below meth c H locs 0 0 Q (F0 m 48 ls [.int x2, .int x1, .int 1, .ref (ad 0)]) := by
      intro x2 R2 bx2
      refine xk_allVI (As := [.int 1, .int x1, .int x2]) (rest := []) (H0 := s.heap) (pc := 48) hx hb hml hts hown hK hA hP hD hS (kzM_goes l G ac ad g0 1 x1 x2 (B + 0) Ig0 (by omega)) vfzM_114 (fun _ => rfl) 0 rfl rfl ⟨rfl, rfl⟩ ⟨Nat.le_of_ble_eq_true rfl, Nat.le_of_ble_eq_true rfl⟩ rfl hl.1 rfl (Nat.le_of_ble_eq_true rfl) ⟨Nat.zero_le _, Nat.zero_le _⟩ dzM_pulse_48 (fun r2 g1 H locs hg1 hP hD hS => ?_)
      have hP : va_P G xk_cls (xk_wM ad ac g1) H := hP
      have hD : va_D A (xk_wM ad ac g1) := hD
      have Ig1 : xk_cnt (B + 0) g1 := xk_cnt_le (iczM_goes (B + 0) _ _ _ _ _ _ hg1 Ig0) (by omega)
      have K3 : ∀ (g3 : xk_St) (H : Heap) (locs : List Loc), (if r2 = 0 then (g3 = g1) else (∃ (g2 : xk_St), g2 = va_up g1 1 (upd (g1 1) 2 k2) ∧ (g3 = g2))) → (xk_cnt (B + 0) g3) → (va_P G xk_cls (xk_wM ad ac g3) H) → (va_D A (xk_wM ad ac g3)) → (va_S A s.heap H locs) → W p l e xk_r2 s m args below meth c H locs 0 0 Q (F0 m 65 ls []) := by
        intro g3 H locs R3 Ig3 hP hD hS
        exact hret g3 H locs 65 ls hP hS (by unfold relzM_pulse_0_2; exact ⟨x1, R1, ⟨x2, R2, ⟨r2, g1, hg1, ⟨g3, R3, rfl⟩⟩⟩⟩) dzM_pulse_65
      refine lv_if_eq (pc := 51) (tgt := 65) hx hb dzM_pulse_51 (by decide) (fun h4 => ?_) (fun h4 => ?_)
      ·
        exact K3 g1 H locs (Eq.mpr (if_pos h4) rfl) (xk_cnt_le Ig1 (by omega)) hP hD hS
      ·
        refine lv_aload_n (pc := 54) hx hb dzM_pulse_54 rfl (lv_at hl 1 rfl) ?_
        refine xk_get (pc := 55) hx hb hts hown hK hP ffzM_7 0 rfl rfl dzM_pulse_55 ?_
        refine lv_iconst (v := 4) (pc := 58) hx hb dzM_pulse_58 (by decide) ?_
        refine lv_iload_n (pc := 59) hx hb dzM_pulse_59 rfl (lv_at hl 2 rfl) ?_
        refine lv_imul (pc := 60) hx hb dzM_pulse_60 ?_
        refine xk_is (y := 0) (by decide) ?_
        refine lv_iload_n (pc := 61) hx hb dzM_pulse_61 rfl (lv_at hl 3 rfl) ?_
        refine lv_iadd (pc := 62) hx hb dzM_pulse_62 ?_
        refine xk_is (y := 2) (by decide) ?_
        refine lv_iload_n (pc := 63) hx hb dzM_pulse_63 rfl (lv_at hl 4 rfl) ?_
        refine xk_iast (q0 := 1) (t0 := 0) (j := 2) (pc := 64) hx hb hK hP hD hS rfl rfl (pk_in 2 8 (by decide)) (pk_cl 2) dzM_pulse_64 (fun H locs hP hD hS => ?_)
        obtain ⟨g2, eg2⟩ : ∃ z : xk_St, z = va_up g1 1 (upd (g1 1) 2 k2) := ⟨_, rfl⟩
        have hP : va_P G xk_cls (xk_wM ad ac g2) H := by rw [eg2]; exact hP
        have hD : va_D A (xk_wM ad ac g2) := by rw [eg2]; exact hD
        have Ig2 : xk_cnt (B + 0) g2 := by rw [eg2]; repeat (first | exact Ig1 | refine xk_cnt_k (by decide) ?_ | refine xk_cnt_f (by decide) ?_ | refine xk_cnt_s ?_)
        exact K3 g2 H locs (Eq.mpr (if_neg h4) ⟨g2, eg2, rfl⟩) (xk_cnt_le Ig2 (by omega)) hP hD hS
    refine lv_if_ne (pc := 40) (tgt := 47) hx hb dzM_pulse_40 (by decide) (fun h3 => ?_) (fun h3 => ?_)
    ·
      refine lv_iconst (v := 0) (pc := 47) hx hb dzM_pulse_47 (by decide) ?_
      exact K2 0 (Eq.mpr (if_neg h3) rfl) xk_b0
    ·
      refine lv_iconst (v := 1) (pc := 43) hx hb dzM_pulse_43 (by decide) ?_
      refine lv_goto (tgt := 48) (pc := 44) hx hb dzM_pulse_44 (by decide) ?_
      exact K2 1 (Eq.mpr (if_pos h3) rfl) xk_b1
  refine lv_icmp_eq (pc := 12) (tgt := 20) hx hb dzM_pulse_12 (by decide) (fun h1 => ?_) (fun h1 => ?_)
  ·
    refine lv_iconst (v := 1) (pc := 20) hx hb dzM_pulse_20 (by decide) ?_
    refine lv_goto (tgt := 25) (pc := 21) hx hb dzM_pulse_21 (by decide) ?_
    exact K1 1 (Eq.mpr (if_pos h1) rfl) xk_b1
  ·
    refine lv_iload_n (pc := 15) hx hb dzM_pulse_15 rfl (lv_at hl 4 rfl) ?_
    refine lv_iconst (v := (-1)) (pc := 16) hx hb dzM_pulse_16 (by decide) ?_
    refine lv_icmp_ne (pc := 17) (tgt := 24) hx hb dzM_pulse_17 (by decide) (fun h2 => ?_) (fun h2 => ?_)
    ·
      refine lv_iconst (v := 0) (pc := 24) hx hb dzM_pulse_24 (by decide) ?_
      exact K1 0 (Eq.mpr (if_neg h1) (Eq.mpr (if_neg h2) rfl)) xk_b0
    ·
      refine lv_iconst (v := 1) (pc := 20) hx hb dzM_pulse_20 (by decide) ?_
      refine lv_goto (tgt := 25) (pc := 21) hx hb dzM_pulse_21 (by decide) ?_
      exact K1 1 (Eq.mpr (if_neg h1) (Eq.mpr (if_pos h2) rfl)) xk_b1
theorem frzM_pulse_0_2 (g0 : xk_St) (k2 : Int32) (gz : xk_St) : relzM_pulse_0_2 g0 k2 gz → xk_eqv [2, 3, 4, 5, 6, 7, 8, 9, 10, 11, 12, 13, 14, 15, 16, 17, 18, 19, 20, 21, 22, 23, 24, 25, 26, 27] g0 gz := by
  intro h
  unfold relzM_pulse_0_2 at h
  have s0 : xk_eqv [2, 3, 4, 5, 6, 7, 8, 9, 10, 11, 12, 13, 14, 15, 16, 17, 18, 19, 20, 21, 22, 23, 24, 25, 26, 27] g0 g0 := xk_eqv_rf
  obtain ⟨x1, u1, v2⟩ := h
  obtain ⟨x2, u3, v4⟩ := v2
  obtain ⟨r2, g1, u5, v6⟩ := v4
  have s7 : xk_eqv [2, 3, 4, 5, 6, 7, 8, 9, 10, 11, 12, 13, 14, 15, 16, 17, 18, 19, 20, 21, 22, 23, 24, 25, 26, 27] g0 g1 := xk_eqv_tr s0 (xk_eqv_sub (frzM_goes _ _ _ _ _ _ u5) (by decide))
  obtain ⟨g3, u8, v9⟩ := v6
  have s10 : xk_eqv [2, 3, 4, 5, 6, 7, 8, 9, 10, 11, 12, 13, 14, 15, 16, 17, 18, 19, 20, 21, 22, 23, 24, 25, 26, 27] g0 g3 := by
    by_cases hc : r2 = 0
    · rw [if_pos hc] at u8
      rw [u8]; exact s7
    · rw [if_neg hc] at u8
      obtain ⟨g2, u11, v12⟩ := u8
      have s13 : xk_eqv [2, 3, 4, 5, 6, 7, 8, 9, 10, 11, 12, 13, 14, 15, 16, 17, 18, 19, 20, 21, 22, 23, 24, 25, 26, 27] g0 g2 := by rw [u11]; repeat (first | exact s7 | refine xk_eqv_up (by decide) ?_)
      rw [v12]; exact s13
  rw [v9]; exact s10
theorem iczM_pulse_0_2 (B : Nat) (g0 : xk_St) (k2 : Int32) (gz : xk_St) : relzM_pulse_0_2 g0 k2 gz → xk_cnt B g0 → xk_cnt (B + 0) gz := by
  intro h Ig0
  unfold relzM_pulse_0_2 at h
  have Ig0 : xk_cnt (B + 0) g0 := Ig0
  obtain ⟨x1, u1, v2⟩ := h
  obtain ⟨x2, u3, v4⟩ := v2
  obtain ⟨r2, g1, u5, v6⟩ := v4
  have Ig1 : xk_cnt (B + 0) g1 := xk_cnt_le (iczM_goes (B + 0) _ _ _ _ _ _ u5 Ig0) (by omega)
  obtain ⟨g3, u7, v8⟩ := v6
  have Ig3 : xk_cnt (B + 0) g3 := by
    by_cases hc : r2 = 0
    · rw [if_pos hc] at u7
      rw [u7]; exact xk_cnt_le Ig1 (by omega)
    · rw [if_neg hc] at u7
      obtain ⟨g2, u9, v10⟩ := u7
      have Ig2 : xk_cnt (B + 0) g2 := by rw [u9]; repeat (first | exact Ig1 | refine xk_cnt_k (by decide) ?_ | refine xk_cnt_f (by decide) ?_ | refine xk_cnt_s ?_)
      rw [v10]; exact xk_cnt_le Ig2 (by omega)
  rw [v8]; exact xk_cnt_le Ig3 (by omega)

def relzM_pulse_0_3 (g0 : xk_St) (k2 : Int32) (gz : xk_St) : Prop := ∃ (x1 : Int32), (if k2 = 1 then (x1 = 1) else (if k2 = (-1) then (x1 = 1) else (x1 = 0))) ∧ (∃ (x2 : Int32), (if ((g0 1) 3) = 0 then (x2 = 1) else (x2 = 0)) ∧ (∃ (r2 : Int32) (g1 : xk_St), relzM_goes g0 1 x1 x2 r2 g1 ∧ (∃ (g3 : xk_St), (if r2 = 0 then (g3 = g1) else (∃ (g2 : xk_St), g2 = va_up g1 1 (upd (g1 1) 3 k2) ∧ (g3 = g2))) ∧ (gz = g3))))
set_option maxHeartbeats 4000000 in
set_option maxRecDepth 100000 in
theorem kzM_pulse_0_3 (l : Launch) (G : va_G) (ac : Nat → ClassId) (ad : Nat → Nat) (g0 : xk_St) (k2 : Int32) (B : Nat) (Ig0 : xk_cnt B g0) (hB : B + 1 < 2147483648) : xk_CV l yzM_pulse czM_pulse 5 xk_WS xk_r2 G xk_cls (xk_tys ac) [.ref (ad 0), .int 0, .int 3, .int k2] (xk_wM ad ac g0) (fun (gz : xk_St) => relzM_pulse_0_3 g0 k2 gz) (fun gz => xk_wM ad ac gz) := by
  refine xk_ofV (by decide) (Nat.le_of_ble_eq_true rfl) ?_
  intro p e s m args below meth c A Q H locs ls C0 hret hP hD hS hl
  obtain ⟨hx, hb, hml, hts, hown, hK, hA⟩ := C0
  have hl : lv_has ls 5 [(0, .ref (ad 0)), (1, .int 0), (2, .int 3), (3, .int k2)] := hl
  have Ig0 : xk_cnt (B + 0) g0 := Ig0
  refine lv_iload_n (pc := 0) hx hb dzM_pulse_0 rfl (lv_at hl 1 rfl) ?_
  refine lv_iload_n (pc := 1) hx hb dzM_pulse_1 rfl (lv_at hl 2 rfl) ?_
  refine xk_callSI (As := [.int 0, .int 3]) (rest := []) (H0 := s.heap) (pc := 2) hx hb hml hts hown hK hA hP hD hS (kzM_isHead l G ac 0 3) sfzM_110 [] (by decide) rfl (fun _ => rfl) ⟨rfl, rfl⟩ ⟨Nat.le_of_ble_eq_true rfl, Nat.le_of_ble_eq_true rfl⟩ rfl hl.1 rfl (Nat.le_of_ble_eq_true rfl) ⟨Nat.zero_le _, Nat.zero_le _⟩ dzM_pulse_2 (fun r1 u9 H locs e9 hP hD hS => ?_)
  obtain rfl : r1 = qzM_isHead 0 3 := e9
  refine xk_is (y := 1) (by decide) ?_
  have hP : va_P G xk_cls (xk_wM ad ac g0) H := hP
  have hD : va_D A (xk_wM ad ac g0) := hD
  refine lv_istore (lv' := [(4, .int 1), (0, .ref (ad 0)), (1, .int 0), (2, .int 3), (3, .int k2)]) (pc := 5) hx hb dzM_pulse_5 hl (by decide) rfl (fun ls hl => ?_)
  refine lv_aload_n (pc := 7) hx hb dzM_pulse_7 rfl (lv_at hl 1 rfl) ?_
  refine lv_iload (pc := 8) hx hb dzM_pulse_8 (lv_at hl 0 rfl) ?_
  refine lv_iload_n (pc := 10) hx hb dzM_pulse_10 rfl (lv_at hl 4 rfl) ?_
  refine lv_iconst (v := 1) (pc := 11) hx hb dzM_pulse_11 (by decide) ?_
  have K1 : ∀ (x1 : Int32), (if k2 = 1 then (x1 = 1) else (if k2 = (-1) then (x1 = 1) else (x1 = 0))) → (xk_b x1) → W p l e xk_r2 s m args below meth c H locs 0 0 Q (F0 m 25 ls [.int x1, .int 1, .ref (ad 0)]) := by
    intro x1 R1 bx1
    refine lv_iload (pc := 25) hx hb dzM_pulse_25 (lv_at hl 0 rfl) ?_
    refine lv_if_eq (pc := 27) (tgt := 47) hx hb dzM_pulse_27 (by decide) (fun hq9 => absurd hq9 (by decide)) (fun _ => ?_)
    refine lv_aload_n (pc := 30) hx hb dzM_pulse_30 rfl (lv_at hl 1 rfl) ?_
    refine xk_get (pc := 31) hx hb hts hown hK hP ffzM_7 0 rfl rfl dzM_pulse_31 ?_
    refine lv_iconst (v := 4) (pc := 34) hx hb dzM_pulse_34 (by decide) ?_
    refine lv_iload_n (pc := 35) hx hb dzM_pulse_35 rfl (lv_at hl 2 rfl) ?_
    refine lv_imul (pc := 36) hx hb dzM_pulse_36 ?_
    refine xk_is (y := 0) (by decide) ?_
    refine lv_iload_n (pc := 37) hx hb dzM_pulse_37 rfl (lv_at hl 3 rfl) ?_
    refine lv_iadd (pc := 38) hx hb dzM_pulse_38 ?_
    refine xk_is (y := 3) (by decide) ?_
    refine xk_iald (q0 := 1) (t0 := 0) (j := 3) (pc := 39) hx hb hK hP rfl rfl (pk_in 3 8 (by decide)) (pk_cl 3) dzM_pulse_39 ?_
    have K2 : ∀ (x2 : Int32), (if ((g0 1) 3) = 0 then (x2 = 1) else (x2 = 0)) → (xk_b x2) → W p l e xk_r2 s m args below meth c H locs 0 0 Q (F0 m 48 ls [.int x2, .int x1, .int 1, .ref (ad 0)]) := by
      intro x2 R2 bx2
      refine xk_allVI (As := [.int 1, .int x1, .int x2]) (rest := []) (H0 := s.heap) (pc := 48) hx hb hml hts hown hK hA hP hD hS (kzM_goes l G ac ad g0 1 x1 x2 (B + 0) Ig0 (by omega)) vfzM_114 (fun _ => rfl) 0 rfl rfl ⟨rfl, rfl⟩ ⟨Nat.le_of_ble_eq_true rfl, Nat.le_of_ble_eq_true rfl⟩ rfl hl.1 rfl (Nat.le_of_ble_eq_true rfl) ⟨Nat.zero_le _, Nat.zero_le _⟩ dzM_pulse_48 (fun r2 g1 H locs hg1 hP hD hS => ?_)
      have hP : va_P G xk_cls (xk_wM ad ac g1) H := hP
      have hD : va_D A (xk_wM ad ac g1) := hD
      have Ig1 : xk_cnt (B + 0) g1 := xk_cnt_le (iczM_goes (B + 0) _ _ _ _ _ _ hg1 Ig0) (by omega)
      have K3 : ∀ (g3 : xk_St) (H : Heap) (locs : List Loc), (if r2 = 0 then (g3 = g1) else (∃ (g2 : xk_St), g2 = va_up g1 1 (upd (g1 1) 3 k2) ∧ (g3 = g2))) → (xk_cnt (B + 0) g3) → (va_P G xk_cls (xk_wM ad ac g3) H) → (va_D A (xk_wM ad ac g3)) → (va_S A s.heap H locs) → W p l e xk_r2 s m args below meth c H locs 0 0 Q (F0 m 65 ls []) := by
        intro g3 H locs R3 Ig3 hP hD hS
        exact hret g3 H locs 65 ls hP hS (by unfold relzM_pulse_0_3; exact ⟨x1, R1, ⟨x2, R2, ⟨r2, g1, hg1, ⟨g3, R3, rfl⟩⟩⟩⟩) dzM_pulse_65
      refine lv_if_eq (pc := 51) (tgt := 65) hx hb dzM_pulse_51 (by decide) (fun h4 => ?_) (fun h4 => ?_)
      ·
        exact K3 g1 H locs (Eq.mpr (if_pos h4) rfl) (xk_cnt_le Ig1 (by omega)) hP hD hS
      ·
        refine lv_aload_n (pc := 54) hx hb dzM_pulse_54 rfl (lv_at hl 1 rfl) ?_
        refine xk_get (pc := 55) hx hb hts hown hK hP ffzM_7 0 rfl rfl dzM_pulse_55 ?_
        refine lv_iconst (v := 4) (pc := 58) hx hb dzM_pulse_58 (by decide) ?_
        refine lv_iload_n (pc := 59) hx hb dzM_pulse_59 rfl (lv_at hl 2 rfl) ?_
        refine lv_imul (pc := 60) hx hb dzM_pulse_60 ?_
        refine xk_is (y := 0) (by decide) ?_
        refine lv_iload_n (pc := 61) hx hb dzM_pulse_61 rfl (lv_at hl 3 rfl) ?_
        refine lv_iadd (pc := 62) hx hb dzM_pulse_62 ?_
        refine xk_is (y := 3) (by decide) ?_
        refine lv_iload_n (pc := 63) hx hb dzM_pulse_63 rfl (lv_at hl 4 rfl) ?_
        refine xk_iast (q0 := 1) (t0 := 0) (j := 3) (pc := 64) hx hb hK hP hD hS rfl rfl (pk_in 3 8 (by decide)) (pk_cl 3) dzM_pulse_64 (fun H locs hP hD hS => ?_)
        obtain ⟨g2, eg2⟩ : ∃ z : xk_St, z = va_up g1 1 (upd (g1 1) 3 k2) := ⟨_, rfl⟩
        have hP : va_P G xk_cls (xk_wM ad ac g2) H := by rw [eg2]; exact hP
        have hD : va_D A (xk_wM ad ac g2) := by rw [eg2]; exact hD
        have Ig2 : xk_cnt (B + 0) g2 := by rw [eg2]; repeat (first | exact Ig1 | refine xk_cnt_k (by decide) ?_ | refine xk_cnt_f (by decide) ?_ | refine xk_cnt_s ?_)
        exact K3 g2 H locs (Eq.mpr (if_neg h4) ⟨g2, eg2, rfl⟩) (xk_cnt_le Ig2 (by omega)) hP hD hS
    refine lv_if_ne (pc := 40) (tgt := 47) hx hb dzM_pulse_40 (by decide) (fun h3 => ?_) (fun h3 => ?_)
    ·
      refine lv_iconst (v := 0) (pc := 47) hx hb dzM_pulse_47 (by decide) ?_
      exact K2 0 (Eq.mpr (if_neg h3) rfl) xk_b0
    ·
      refine lv_iconst (v := 1) (pc := 43) hx hb dzM_pulse_43 (by decide) ?_
      refine lv_goto (tgt := 48) (pc := 44) hx hb dzM_pulse_44 (by decide) ?_
      exact K2 1 (Eq.mpr (if_pos h3) rfl) xk_b1
  refine lv_icmp_eq (pc := 12) (tgt := 20) hx hb dzM_pulse_12 (by decide) (fun h1 => ?_) (fun h1 => ?_)
  ·
    refine lv_iconst (v := 1) (pc := 20) hx hb dzM_pulse_20 (by decide) ?_
    refine lv_goto (tgt := 25) (pc := 21) hx hb dzM_pulse_21 (by decide) ?_
    exact K1 1 (Eq.mpr (if_pos h1) rfl) xk_b1
  ·
    refine lv_iload_n (pc := 15) hx hb dzM_pulse_15 rfl (lv_at hl 4 rfl) ?_
    refine lv_iconst (v := (-1)) (pc := 16) hx hb dzM_pulse_16 (by decide) ?_
    refine lv_icmp_ne (pc := 17) (tgt := 24) hx hb dzM_pulse_17 (by decide) (fun h2 => ?_) (fun h2 => ?_)
    ·
      refine lv_iconst (v := 0) (pc := 24) hx hb dzM_pulse_24 (by decide) ?_
      exact K1 0 (Eq.mpr (if_neg h1) (Eq.mpr (if_neg h2) rfl)) xk_b0
    ·
      refine lv_iconst (v := 1) (pc := 20) hx hb dzM_pulse_20 (by decide) ?_
      refine lv_goto (tgt := 25) (pc := 21) hx hb dzM_pulse_21 (by decide) ?_
      exact K1 1 (Eq.mpr (if_neg h1) (Eq.mpr (if_pos h2) rfl)) xk_b1
theorem frzM_pulse_0_3 (g0 : xk_St) (k2 : Int32) (gz : xk_St) : relzM_pulse_0_3 g0 k2 gz → xk_eqv [2, 3, 4, 5, 6, 7, 8, 9, 10, 11, 12, 13, 14, 15, 16, 17, 18, 19, 20, 21, 22, 23, 24, 25, 26, 27] g0 gz := by
  intro h
  unfold relzM_pulse_0_3 at h
  have s0 : xk_eqv [2, 3, 4, 5, 6, 7, 8, 9, 10, 11, 12, 13, 14, 15, 16, 17, 18, 19, 20, 21, 22, 23, 24, 25, 26, 27] g0 g0 := xk_eqv_rf
  obtain ⟨x1, u1, v2⟩ := h
  obtain ⟨x2, u3, v4⟩ := v2
  obtain ⟨r2, g1, u5, v6⟩ := v4
  have s7 : xk_eqv [2, 3, 4, 5, 6, 7, 8, 9, 10, 11, 12, 13, 14, 15, 16, 17, 18, 19, 20, 21, 22, 23, 24, 25, 26, 27] g0 g1 := xk_eqv_tr s0 (xk_eqv_sub (frzM_goes _ _ _ _ _ _ u5) (by decide))
  obtain ⟨g3, u8, v9⟩ := v6
  have s10 : xk_eqv [2, 3, 4, 5, 6, 7, 8, 9, 10, 11, 12, 13, 14, 15, 16, 17, 18, 19, 20, 21, 22, 23, 24, 25, 26, 27] g0 g3 := by
    by_cases hc : r2 = 0
    · rw [if_pos hc] at u8
      rw [u8]; exact s7
    · rw [if_neg hc] at u8
      obtain ⟨g2, u11, v12⟩ := u8
      have s13 : xk_eqv [2, 3, 4, 5, 6, 7, 8, 9, 10, 11, 12, 13, 14, 15, 16, 17, 18, 19, 20, 21, 22, 23, 24, 25, 26, 27] g0 g2 := by rw [u11]; repeat (first | exact s7 | refine xk_eqv_up (by decide) ?_)
      rw [v12]; exact s13
  rw [v9]; exact s10
theorem iczM_pulse_0_3 (B : Nat) (g0 : xk_St) (k2 : Int32) (gz : xk_St) : relzM_pulse_0_3 g0 k2 gz → xk_cnt B g0 → xk_cnt (B + 0) gz := by
  intro h Ig0
  unfold relzM_pulse_0_3 at h
  have Ig0 : xk_cnt (B + 0) g0 := Ig0
  obtain ⟨x1, u1, v2⟩ := h
  obtain ⟨x2, u3, v4⟩ := v2
  obtain ⟨r2, g1, u5, v6⟩ := v4
  have Ig1 : xk_cnt (B + 0) g1 := xk_cnt_le (iczM_goes (B + 0) _ _ _ _ _ _ u5 Ig0) (by omega)
  obtain ⟨g3, u7, v8⟩ := v6
  have Ig3 : xk_cnt (B + 0) g3 := by
    by_cases hc : r2 = 0
    · rw [if_pos hc] at u7
      rw [u7]; exact xk_cnt_le Ig1 (by omega)
    · rw [if_neg hc] at u7
      obtain ⟨g2, u9, v10⟩ := u7
      have Ig2 : xk_cnt (B + 0) g2 := by rw [u9]; repeat (first | exact Ig1 | refine xk_cnt_k (by decide) ?_ | refine xk_cnt_f (by decide) ?_ | refine xk_cnt_s ?_)
      rw [v10]; exact xk_cnt_le Ig2 (by omega)
  rw [v8]; exact xk_cnt_le Ig3 (by omega)

def relzM_pulse_1_0 (g0 : xk_St) (k2 : Int32) (gz : xk_St) : Prop := ∃ (x1 : Int32), (if k2 = 1 then (x1 = 1) else (if k2 = (-1) then (x1 = 1) else (x1 = 0))) ∧ (∃ (x2 : Int32), (if ((g0 1) 4) = 0 then (x2 = 1) else (x2 = 0)) ∧ (∃ (r2 : Int32) (g1 : xk_St), relzM_goes g0 1 x1 x2 r2 g1 ∧ (∃ (g3 : xk_St), (if r2 = 0 then (g3 = g1) else (∃ (g2 : xk_St), g2 = va_up g1 1 (upd (g1 1) 4 k2) ∧ (g3 = g2))) ∧ (gz = g3))))
set_option maxHeartbeats 4000000 in
set_option maxRecDepth 100000 in
theorem kzM_pulse_1_0 (l : Launch) (G : va_G) (ac : Nat → ClassId) (ad : Nat → Nat) (g0 : xk_St) (k2 : Int32) (B : Nat) (Ig0 : xk_cnt B g0) (hB : B + 1 < 2147483648) : xk_CV l yzM_pulse czM_pulse 5 xk_WS xk_r2 G xk_cls (xk_tys ac) [.ref (ad 0), .int 1, .int 0, .int k2] (xk_wM ad ac g0) (fun (gz : xk_St) => relzM_pulse_1_0 g0 k2 gz) (fun gz => xk_wM ad ac gz) := by
  refine xk_ofV (by decide) (Nat.le_of_ble_eq_true rfl) ?_
  intro p e s m args below meth c A Q H locs ls C0 hret hP hD hS hl
  obtain ⟨hx, hb, hml, hts, hown, hK, hA⟩ := C0
  have hl : lv_has ls 5 [(0, .ref (ad 0)), (1, .int 1), (2, .int 0), (3, .int k2)] := hl
  have Ig0 : xk_cnt (B + 0) g0 := Ig0
  refine lv_iload_n (pc := 0) hx hb dzM_pulse_0 rfl (lv_at hl 1 rfl) ?_
  refine lv_iload_n (pc := 1) hx hb dzM_pulse_1 rfl (lv_at hl 2 rfl) ?_
  refine xk_callSI (As := [.int 1, .int 0]) (rest := []) (H0 := s.heap) (pc := 2) hx hb hml hts hown hK hA hP hD hS (kzM_isHead l G ac 1 0) sfzM_110 [] (by decide) rfl (fun _ => rfl) ⟨rfl, rfl⟩ ⟨Nat.le_of_ble_eq_true rfl, Nat.le_of_ble_eq_true rfl⟩ rfl hl.1 rfl (Nat.le_of_ble_eq_true rfl) ⟨Nat.zero_le _, Nat.zero_le _⟩ dzM_pulse_2 (fun r1 u9 H locs e9 hP hD hS => ?_)
  obtain rfl : r1 = qzM_isHead 1 0 := e9
  refine xk_is (y := 1) (by decide) ?_
  have hP : va_P G xk_cls (xk_wM ad ac g0) H := hP
  have hD : va_D A (xk_wM ad ac g0) := hD
  refine lv_istore (lv' := [(4, .int 1), (0, .ref (ad 0)), (1, .int 1), (2, .int 0), (3, .int k2)]) (pc := 5) hx hb dzM_pulse_5 hl (by decide) rfl (fun ls hl => ?_)
  refine lv_aload_n (pc := 7) hx hb dzM_pulse_7 rfl (lv_at hl 1 rfl) ?_
  refine lv_iload (pc := 8) hx hb dzM_pulse_8 (lv_at hl 0 rfl) ?_
  refine lv_iload_n (pc := 10) hx hb dzM_pulse_10 rfl (lv_at hl 4 rfl) ?_
  refine lv_iconst (v := 1) (pc := 11) hx hb dzM_pulse_11 (by decide) ?_
  have K1 : ∀ (x1 : Int32), (if k2 = 1 then (x1 = 1) else (if k2 = (-1) then (x1 = 1) else (x1 = 0))) → (xk_b x1) → W p l e xk_r2 s m args below meth c H locs 0 0 Q (F0 m 25 ls [.int x1, .int 1, .ref (ad 0)]) := by
    intro x1 R1 bx1
    refine lv_iload (pc := 25) hx hb dzM_pulse_25 (lv_at hl 0 rfl) ?_
    refine lv_if_eq (pc := 27) (tgt := 47) hx hb dzM_pulse_27 (by decide) (fun hq9 => absurd hq9 (by decide)) (fun _ => ?_)
    refine lv_aload_n (pc := 30) hx hb dzM_pulse_30 rfl (lv_at hl 1 rfl) ?_
    refine xk_get (pc := 31) hx hb hts hown hK hP ffzM_7 0 rfl rfl dzM_pulse_31 ?_
    refine lv_iconst (v := 4) (pc := 34) hx hb dzM_pulse_34 (by decide) ?_
    refine lv_iload_n (pc := 35) hx hb dzM_pulse_35 rfl (lv_at hl 2 rfl) ?_
    refine lv_imul (pc := 36) hx hb dzM_pulse_36 ?_
    refine xk_is (y := 4) (by decide) ?_
    refine lv_iload_n (pc := 37) hx hb dzM_pulse_37 rfl (lv_at hl 3 rfl) ?_
    refine lv_iadd (pc := 38) hx hb dzM_pulse_38 ?_
    refine xk_is (y := 4) (by decide) ?_
    refine xk_iald (q0 := 1) (t0 := 0) (j := 4) (pc := 39) hx hb hK hP rfl rfl (pk_in 4 8 (by decide)) (pk_cl 4) dzM_pulse_39 ?_
    have K2 : ∀ (x2 : Int32), (if ((g0 1) 4) = 0 then (x2 = 1) else (x2 = 0)) → (xk_b x2) → W p l e xk_r2 s m args below meth c H locs 0 0 Q (F0 m 48 ls [.int x2, .int x1, .int 1, .ref (ad 0)]) := by
      intro x2 R2 bx2
      refine xk_allVI (As := [.int 1, .int x1, .int x2]) (rest := []) (H0 := s.heap) (pc := 48) hx hb hml hts hown hK hA hP hD hS (kzM_goes l G ac ad g0 1 x1 x2 (B + 0) Ig0 (by omega)) vfzM_114 (fun _ => rfl) 0 rfl rfl ⟨rfl, rfl⟩ ⟨Nat.le_of_ble_eq_true rfl, Nat.le_of_ble_eq_true rfl⟩ rfl hl.1 rfl (Nat.le_of_ble_eq_true rfl) ⟨Nat.zero_le _, Nat.zero_le _⟩ dzM_pulse_48 (fun r2 g1 H locs hg1 hP hD hS => ?_)
      have hP : va_P G xk_cls (xk_wM ad ac g1) H := hP
      have hD : va_D A (xk_wM ad ac g1) := hD
      have Ig1 : xk_cnt (B + 0) g1 := xk_cnt_le (iczM_goes (B + 0) _ _ _ _ _ _ hg1 Ig0) (by omega)
      have K3 : ∀ (g3 : xk_St) (H : Heap) (locs : List Loc), (if r2 = 0 then (g3 = g1) else (∃ (g2 : xk_St), g2 = va_up g1 1 (upd (g1 1) 4 k2) ∧ (g3 = g2))) → (xk_cnt (B + 0) g3) → (va_P G xk_cls (xk_wM ad ac g3) H) → (va_D A (xk_wM ad ac g3)) → (va_S A s.heap H locs) → W p l e xk_r2 s m args below meth c H locs 0 0 Q (F0 m 65 ls []) := by
        intro g3 H locs R3 Ig3 hP hD hS
        exact hret g3 H locs 65 ls hP hS (by unfold relzM_pulse_1_0; exact ⟨x1, R1, ⟨x2, R2, ⟨r2, g1, hg1, ⟨g3, R3, rfl⟩⟩⟩⟩) dzM_pulse_65
      refine lv_if_eq (pc := 51) (tgt := 65) hx hb dzM_pulse_51 (by decide) (fun h4 => ?_) (fun h4 => ?_)
      ·
        exact K3 g1 H locs (Eq.mpr (if_pos h4) rfl) (xk_cnt_le Ig1 (by omega)) hP hD hS
      ·
        refine lv_aload_n (pc := 54) hx hb dzM_pulse_54 rfl (lv_at hl 1 rfl) ?_
        refine xk_get (pc := 55) hx hb hts hown hK hP ffzM_7 0 rfl rfl dzM_pulse_55 ?_
        refine lv_iconst (v := 4) (pc := 58) hx hb dzM_pulse_58 (by decide) ?_
        refine lv_iload_n (pc := 59) hx hb dzM_pulse_59 rfl (lv_at hl 2 rfl) ?_
        refine lv_imul (pc := 60) hx hb dzM_pulse_60 ?_
        refine xk_is (y := 4) (by decide) ?_
        refine lv_iload_n (pc := 61) hx hb dzM_pulse_61 rfl (lv_at hl 3 rfl) ?_
        refine lv_iadd (pc := 62) hx hb dzM_pulse_62 ?_
        refine xk_is (y := 4) (by decide) ?_
        refine lv_iload_n (pc := 63) hx hb dzM_pulse_63 rfl (lv_at hl 4 rfl) ?_
        refine xk_iast (q0 := 1) (t0 := 0) (j := 4) (pc := 64) hx hb hK hP hD hS rfl rfl (pk_in 4 8 (by decide)) (pk_cl 4) dzM_pulse_64 (fun H locs hP hD hS => ?_)
        obtain ⟨g2, eg2⟩ : ∃ z : xk_St, z = va_up g1 1 (upd (g1 1) 4 k2) := ⟨_, rfl⟩
        have hP : va_P G xk_cls (xk_wM ad ac g2) H := by rw [eg2]; exact hP
        have hD : va_D A (xk_wM ad ac g2) := by rw [eg2]; exact hD
        have Ig2 : xk_cnt (B + 0) g2 := by rw [eg2]; repeat (first | exact Ig1 | refine xk_cnt_k (by decide) ?_ | refine xk_cnt_f (by decide) ?_ | refine xk_cnt_s ?_)
        exact K3 g2 H locs (Eq.mpr (if_neg h4) ⟨g2, eg2, rfl⟩) (xk_cnt_le Ig2 (by omega)) hP hD hS
    refine lv_if_ne (pc := 40) (tgt := 47) hx hb dzM_pulse_40 (by decide) (fun h3 => ?_) (fun h3 => ?_)
    ·
      refine lv_iconst (v := 0) (pc := 47) hx hb dzM_pulse_47 (by decide) ?_
      exact K2 0 (Eq.mpr (if_neg h3) rfl) xk_b0
    ·
      refine lv_iconst (v := 1) (pc := 43) hx hb dzM_pulse_43 (by decide) ?_
      refine lv_goto (tgt := 48) (pc := 44) hx hb dzM_pulse_44 (by decide) ?_
      exact K2 1 (Eq.mpr (if_pos h3) rfl) xk_b1
  refine lv_icmp_eq (pc := 12) (tgt := 20) hx hb dzM_pulse_12 (by decide) (fun h1 => ?_) (fun h1 => ?_)
  ·
    refine lv_iconst (v := 1) (pc := 20) hx hb dzM_pulse_20 (by decide) ?_
    refine lv_goto (tgt := 25) (pc := 21) hx hb dzM_pulse_21 (by decide) ?_
    exact K1 1 (Eq.mpr (if_pos h1) rfl) xk_b1
  ·
    refine lv_iload_n (pc := 15) hx hb dzM_pulse_15 rfl (lv_at hl 4 rfl) ?_
    refine lv_iconst (v := (-1)) (pc := 16) hx hb dzM_pulse_16 (by decide) ?_
    refine lv_icmp_ne (pc := 17) (tgt := 24) hx hb dzM_pulse_17 (by decide) (fun h2 => ?_) (fun h2 => ?_)
    ·
      refine lv_iconst (v := 0) (pc := 24) hx hb dzM_pulse_24 (by decide) ?_
      exact K1 0 (Eq.mpr (if_neg h1) (Eq.mpr (if_neg h2) rfl)) xk_b0
    ·
      refine lv_iconst (v := 1) (pc := 20) hx hb dzM_pulse_20 (by decide) ?_
      refine lv_goto (tgt := 25) (pc := 21) hx hb dzM_pulse_21 (by decide) ?_
      exact K1 1 (Eq.mpr (if_neg h1) (Eq.mpr (if_pos h2) rfl)) xk_b1
theorem frzM_pulse_1_0 (g0 : xk_St) (k2 : Int32) (gz : xk_St) : relzM_pulse_1_0 g0 k2 gz → xk_eqv [2, 3, 4, 5, 6, 7, 8, 9, 10, 11, 12, 13, 14, 15, 16, 17, 18, 19, 20, 21, 22, 23, 24, 25, 26, 27] g0 gz := by
  intro h
  unfold relzM_pulse_1_0 at h
  have s0 : xk_eqv [2, 3, 4, 5, 6, 7, 8, 9, 10, 11, 12, 13, 14, 15, 16, 17, 18, 19, 20, 21, 22, 23, 24, 25, 26, 27] g0 g0 := xk_eqv_rf
  obtain ⟨x1, u1, v2⟩ := h
  obtain ⟨x2, u3, v4⟩ := v2
  obtain ⟨r2, g1, u5, v6⟩ := v4
  have s7 : xk_eqv [2, 3, 4, 5, 6, 7, 8, 9, 10, 11, 12, 13, 14, 15, 16, 17, 18, 19, 20, 21, 22, 23, 24, 25, 26, 27] g0 g1 := xk_eqv_tr s0 (xk_eqv_sub (frzM_goes _ _ _ _ _ _ u5) (by decide))
  obtain ⟨g3, u8, v9⟩ := v6
  have s10 : xk_eqv [2, 3, 4, 5, 6, 7, 8, 9, 10, 11, 12, 13, 14, 15, 16, 17, 18, 19, 20, 21, 22, 23, 24, 25, 26, 27] g0 g3 := by
    by_cases hc : r2 = 0
    · rw [if_pos hc] at u8
      rw [u8]; exact s7
    · rw [if_neg hc] at u8
      obtain ⟨g2, u11, v12⟩ := u8
      have s13 : xk_eqv [2, 3, 4, 5, 6, 7, 8, 9, 10, 11, 12, 13, 14, 15, 16, 17, 18, 19, 20, 21, 22, 23, 24, 25, 26, 27] g0 g2 := by rw [u11]; repeat (first | exact s7 | refine xk_eqv_up (by decide) ?_)
      rw [v12]; exact s13
  rw [v9]; exact s10
theorem iczM_pulse_1_0 (B : Nat) (g0 : xk_St) (k2 : Int32) (gz : xk_St) : relzM_pulse_1_0 g0 k2 gz → xk_cnt B g0 → xk_cnt (B + 0) gz := by
  intro h Ig0
  unfold relzM_pulse_1_0 at h
  have Ig0 : xk_cnt (B + 0) g0 := Ig0
  obtain ⟨x1, u1, v2⟩ := h
  obtain ⟨x2, u3, v4⟩ := v2
  obtain ⟨r2, g1, u5, v6⟩ := v4
  have Ig1 : xk_cnt (B + 0) g1 := xk_cnt_le (iczM_goes (B + 0) _ _ _ _ _ _ u5 Ig0) (by omega)
  obtain ⟨g3, u7, v8⟩ := v6
  have Ig3 : xk_cnt (B + 0) g3 := by
    by_cases hc : r2 = 0
    · rw [if_pos hc] at u7
      rw [u7]; exact xk_cnt_le Ig1 (by omega)
    · rw [if_neg hc] at u7
      obtain ⟨g2, u9, v10⟩ := u7
      have Ig2 : xk_cnt (B + 0) g2 := by rw [u9]; repeat (first | exact Ig1 | refine xk_cnt_k (by decide) ?_ | refine xk_cnt_f (by decide) ?_ | refine xk_cnt_s ?_)
      rw [v10]; exact xk_cnt_le Ig2 (by omega)
  rw [v8]; exact xk_cnt_le Ig3 (by omega)

def relzM_pulse_1_1 (g0 : xk_St) (k2 : Int32) (gz : xk_St) : Prop := ∃ (x1 : Int32), (if k2 = 1 then (x1 = 1) else (if k2 = (-1) then (x1 = 1) else (x1 = 0))) ∧ (∃ (x2 : Int32), (if ((g0 1) 5) = 0 then (x2 = 1) else (x2 = 0)) ∧ (∃ (r2 : Int32) (g1 : xk_St), relzM_goes g0 1 x1 x2 r2 g1 ∧ (∃ (g3 : xk_St), (if r2 = 0 then (g3 = g1) else (∃ (g2 : xk_St), g2 = va_up g1 1 (upd (g1 1) 5 k2) ∧ (g3 = g2))) ∧ (gz = g3))))
set_option maxHeartbeats 4000000 in
set_option maxRecDepth 100000 in
theorem kzM_pulse_1_1 (l : Launch) (G : va_G) (ac : Nat → ClassId) (ad : Nat → Nat) (g0 : xk_St) (k2 : Int32) (B : Nat) (Ig0 : xk_cnt B g0) (hB : B + 1 < 2147483648) : xk_CV l yzM_pulse czM_pulse 5 xk_WS xk_r2 G xk_cls (xk_tys ac) [.ref (ad 0), .int 1, .int 1, .int k2] (xk_wM ad ac g0) (fun (gz : xk_St) => relzM_pulse_1_1 g0 k2 gz) (fun gz => xk_wM ad ac gz) := by
  refine xk_ofV (by decide) (Nat.le_of_ble_eq_true rfl) ?_
  intro p e s m args below meth c A Q H locs ls C0 hret hP hD hS hl
  obtain ⟨hx, hb, hml, hts, hown, hK, hA⟩ := C0
  have hl : lv_has ls 5 [(0, .ref (ad 0)), (1, .int 1), (2, .int 1), (3, .int k2)] := hl
  have Ig0 : xk_cnt (B + 0) g0 := Ig0
  refine lv_iload_n (pc := 0) hx hb dzM_pulse_0 rfl (lv_at hl 1 rfl) ?_
  refine lv_iload_n (pc := 1) hx hb dzM_pulse_1 rfl (lv_at hl 2 rfl) ?_
  refine xk_callSI (As := [.int 1, .int 1]) (rest := []) (H0 := s.heap) (pc := 2) hx hb hml hts hown hK hA hP hD hS (kzM_isHead l G ac 1 1) sfzM_110 [] (by decide) rfl (fun _ => rfl) ⟨rfl, rfl⟩ ⟨Nat.le_of_ble_eq_true rfl, Nat.le_of_ble_eq_true rfl⟩ rfl hl.1 rfl (Nat.le_of_ble_eq_true rfl) ⟨Nat.zero_le _, Nat.zero_le _⟩ dzM_pulse_2 (fun r1 u9 H locs e9 hP hD hS => ?_)
  obtain rfl : r1 = qzM_isHead 1 1 := e9
  refine xk_is (y := 1) (by decide) ?_
  have hP : va_P G xk_cls (xk_wM ad ac g0) H := hP
  have hD : va_D A (xk_wM ad ac g0) := hD
  refine lv_istore (lv' := [(4, .int 1), (0, .ref (ad 0)), (1, .int 1), (2, .int 1), (3, .int k2)]) (pc := 5) hx hb dzM_pulse_5 hl (by decide) rfl (fun ls hl => ?_)
  refine lv_aload_n (pc := 7) hx hb dzM_pulse_7 rfl (lv_at hl 1 rfl) ?_
  refine lv_iload (pc := 8) hx hb dzM_pulse_8 (lv_at hl 0 rfl) ?_
  refine lv_iload_n (pc := 10) hx hb dzM_pulse_10 rfl (lv_at hl 4 rfl) ?_
  refine lv_iconst (v := 1) (pc := 11) hx hb dzM_pulse_11 (by decide) ?_
  have K1 : ∀ (x1 : Int32), (if k2 = 1 then (x1 = 1) else (if k2 = (-1) then (x1 = 1) else (x1 = 0))) → (xk_b x1) → W p l e xk_r2 s m args below meth c H locs 0 0 Q (F0 m 25 ls [.int x1, .int 1, .ref (ad 0)]) := by
    intro x1 R1 bx1
    refine lv_iload (pc := 25) hx hb dzM_pulse_25 (lv_at hl 0 rfl) ?_
    refine lv_if_eq (pc := 27) (tgt := 47) hx hb dzM_pulse_27 (by decide) (fun hq9 => absurd hq9 (by decide)) (fun _ => ?_)
    refine lv_aload_n (pc := 30) hx hb dzM_pulse_30 rfl (lv_at hl 1 rfl) ?_
    refine xk_get (pc := 31) hx hb hts hown hK hP ffzM_7 0 rfl rfl dzM_pulse_31 ?_
    refine lv_iconst (v := 4) (pc := 34) hx hb dzM_pulse_34 (by decide) ?_
    refine lv_iload_n (pc := 35) hx hb dzM_pulse_35 rfl (lv_at hl 2 rfl) ?_
    refine lv_imul (pc := 36) hx hb dzM_pulse_36 ?_
    refine xk_is (y := 4) (by decide) ?_
    refine lv_iload_n (pc := 37) hx hb dzM_pulse_37 rfl (lv_at hl 3 rfl) ?_
    refine lv_iadd (pc := 38) hx hb dzM_pulse_38 ?_
    refine xk_is (y := 5) (by decide) ?_
    refine xk_iald (q0 := 1) (t0 := 0) (j := 5) (pc := 39) hx hb hK hP rfl rfl (pk_in 5 8 (by decide)) (pk_cl 5) dzM_pulse_39 ?_
    have K2 : ∀ (x2 : Int32), (if ((g0 1) 5) = 0 then (x2 = 1) else (x2 = 0)) → (xk_b x2) → W p l e xk_r2 s m args below meth c H locs 0 0 Q (F0 m 48 ls [.int x2, .int x1, .int 1, .ref (ad 0)]) := by
      intro x2 R2 bx2
      refine xk_allVI (As := [.int 1, .int x1, .int x2]) (rest := []) (H0 := s.heap) (pc := 48) hx hb hml hts hown hK hA hP hD hS (kzM_goes l G ac ad g0 1 x1 x2 (B + 0) Ig0 (by omega)) vfzM_114 (fun _ => rfl) 0 rfl rfl ⟨rfl, rfl⟩ ⟨Nat.le_of_ble_eq_true rfl, Nat.le_of_ble_eq_true rfl⟩ rfl hl.1 rfl (Nat.le_of_ble_eq_true rfl) ⟨Nat.zero_le _, Nat.zero_le _⟩ dzM_pulse_48 (fun r2 g1 H locs hg1 hP hD hS => ?_)
      have hP : va_P G xk_cls (xk_wM ad ac g1) H := hP
      have hD : va_D A (xk_wM ad ac g1) := hD
      have Ig1 : xk_cnt (B + 0) g1 := xk_cnt_le (iczM_goes (B + 0) _ _ _ _ _ _ hg1 Ig0) (by omega)
      have K3 : ∀ (g3 : xk_St) (H : Heap) (locs : List Loc), (if r2 = 0 then (g3 = g1) else (∃ (g2 : xk_St), g2 = va_up g1 1 (upd (g1 1) 5 k2) ∧ (g3 = g2))) → (xk_cnt (B + 0) g3) → (va_P G xk_cls (xk_wM ad ac g3) H) → (va_D A (xk_wM ad ac g3)) → (va_S A s.heap H locs) → W p l e xk_r2 s m args below meth c H locs 0 0 Q (F0 m 65 ls []) := by
        intro g3 H locs R3 Ig3 hP hD hS
        exact hret g3 H locs 65 ls hP hS (by unfold relzM_pulse_1_1; exact ⟨x1, R1, ⟨x2, R2, ⟨r2, g1, hg1, ⟨g3, R3, rfl⟩⟩⟩⟩) dzM_pulse_65
      refine lv_if_eq (pc := 51) (tgt := 65) hx hb dzM_pulse_51 (by decide) (fun h4 => ?_) (fun h4 => ?_)
      ·
        exact K3 g1 H locs (Eq.mpr (if_pos h4) rfl) (xk_cnt_le Ig1 (by omega)) hP hD hS
      ·
        refine lv_aload_n (pc := 54) hx hb dzM_pulse_54 rfl (lv_at hl 1 rfl) ?_
        refine xk_get (pc := 55) hx hb hts hown hK hP ffzM_7 0 rfl rfl dzM_pulse_55 ?_
        refine lv_iconst (v := 4) (pc := 58) hx hb dzM_pulse_58 (by decide) ?_
        refine lv_iload_n (pc := 59) hx hb dzM_pulse_59 rfl (lv_at hl 2 rfl) ?_
        refine lv_imul (pc := 60) hx hb dzM_pulse_60 ?_
        refine xk_is (y := 4) (by decide) ?_
        refine lv_iload_n (pc := 61) hx hb dzM_pulse_61 rfl (lv_at hl 3 rfl) ?_
        refine lv_iadd (pc := 62) hx hb dzM_pulse_62 ?_
        refine xk_is (y := 5) (by decide) ?_
        refine lv_iload_n (pc := 63) hx hb dzM_pulse_63 rfl (lv_at hl 4 rfl) ?_
        refine xk_iast (q0 := 1) (t0 := 0) (j := 5) (pc := 64) hx hb hK hP hD hS rfl rfl (pk_in 5 8 (by decide)) (pk_cl 5) dzM_pulse_64 (fun H locs hP hD hS => ?_)
        obtain ⟨g2, eg2⟩ : ∃ z : xk_St, z = va_up g1 1 (upd (g1 1) 5 k2) := ⟨_, rfl⟩
        have hP : va_P G xk_cls (xk_wM ad ac g2) H := by rw [eg2]; exact hP
        have hD : va_D A (xk_wM ad ac g2) := by rw [eg2]; exact hD
        have Ig2 : xk_cnt (B + 0) g2 := by rw [eg2]; repeat (first | exact Ig1 | refine xk_cnt_k (by decide) ?_ | refine xk_cnt_f (by decide) ?_ | refine xk_cnt_s ?_)
        exact K3 g2 H locs (Eq.mpr (if_neg h4) ⟨g2, eg2, rfl⟩) (xk_cnt_le Ig2 (by omega)) hP hD hS
    refine lv_if_ne (pc := 40) (tgt := 47) hx hb dzM_pulse_40 (by decide) (fun h3 => ?_) (fun h3 => ?_)
    ·
      refine lv_iconst (v := 0) (pc := 47) hx hb dzM_pulse_47 (by decide) ?_
      exact K2 0 (Eq.mpr (if_neg h3) rfl) xk_b0
    ·
      refine lv_iconst (v := 1) (pc := 43) hx hb dzM_pulse_43 (by decide) ?_
      refine lv_goto (tgt := 48) (pc := 44) hx hb dzM_pulse_44 (by decide) ?_
      exact K2 1 (Eq.mpr (if_pos h3) rfl) xk_b1
  refine lv_icmp_eq (pc := 12) (tgt := 20) hx hb dzM_pulse_12 (by decide) (fun h1 => ?_) (fun h1 => ?_)
  ·
    refine lv_iconst (v := 1) (pc := 20) hx hb dzM_pulse_20 (by decide) ?_
    refine lv_goto (tgt := 25) (pc := 21) hx hb dzM_pulse_21 (by decide) ?_
    exact K1 1 (Eq.mpr (if_pos h1) rfl) xk_b1
  ·
    refine lv_iload_n (pc := 15) hx hb dzM_pulse_15 rfl (lv_at hl 4 rfl) ?_
    refine lv_iconst (v := (-1)) (pc := 16) hx hb dzM_pulse_16 (by decide) ?_
    refine lv_icmp_ne (pc := 17) (tgt := 24) hx hb dzM_pulse_17 (by decide) (fun h2 => ?_) (fun h2 => ?_)
    ·
      refine lv_iconst (v := 0) (pc := 24) hx hb dzM_pulse_24 (by decide) ?_
      exact K1 0 (Eq.mpr (if_neg h1) (Eq.mpr (if_neg h2) rfl)) xk_b0
    ·
      refine lv_iconst (v := 1) (pc := 20) hx hb dzM_pulse_20 (by decide) ?_
      refine lv_goto (tgt := 25) (pc := 21) hx hb dzM_pulse_21 (by decide) ?_
      exact K1 1 (Eq.mpr (if_neg h1) (Eq.mpr (if_pos h2) rfl)) xk_b1
theorem frzM_pulse_1_1 (g0 : xk_St) (k2 : Int32) (gz : xk_St) : relzM_pulse_1_1 g0 k2 gz → xk_eqv [2, 3, 4, 5, 6, 7, 8, 9, 10, 11, 12, 13, 14, 15, 16, 17, 18, 19, 20, 21, 22, 23, 24, 25, 26, 27] g0 gz := by
  intro h
  unfold relzM_pulse_1_1 at h
  have s0 : xk_eqv [2, 3, 4, 5, 6, 7, 8, 9, 10, 11, 12, 13, 14, 15, 16, 17, 18, 19, 20, 21, 22, 23, 24, 25, 26, 27] g0 g0 := xk_eqv_rf
  obtain ⟨x1, u1, v2⟩ := h
  obtain ⟨x2, u3, v4⟩ := v2
  obtain ⟨r2, g1, u5, v6⟩ := v4
  have s7 : xk_eqv [2, 3, 4, 5, 6, 7, 8, 9, 10, 11, 12, 13, 14, 15, 16, 17, 18, 19, 20, 21, 22, 23, 24, 25, 26, 27] g0 g1 := xk_eqv_tr s0 (xk_eqv_sub (frzM_goes _ _ _ _ _ _ u5) (by decide))
  obtain ⟨g3, u8, v9⟩ := v6
  have s10 : xk_eqv [2, 3, 4, 5, 6, 7, 8, 9, 10, 11, 12, 13, 14, 15, 16, 17, 18, 19, 20, 21, 22, 23, 24, 25, 26, 27] g0 g3 := by
    by_cases hc : r2 = 0
    · rw [if_pos hc] at u8
      rw [u8]; exact s7
    · rw [if_neg hc] at u8
      obtain ⟨g2, u11, v12⟩ := u8
      have s13 : xk_eqv [2, 3, 4, 5, 6, 7, 8, 9, 10, 11, 12, 13, 14, 15, 16, 17, 18, 19, 20, 21, 22, 23, 24, 25, 26, 27] g0 g2 := by rw [u11]; repeat (first | exact s7 | refine xk_eqv_up (by decide) ?_)
      rw [v12]; exact s13
  rw [v9]; exact s10
theorem iczM_pulse_1_1 (B : Nat) (g0 : xk_St) (k2 : Int32) (gz : xk_St) : relzM_pulse_1_1 g0 k2 gz → xk_cnt B g0 → xk_cnt (B + 0) gz := by
  intro h Ig0
  unfold relzM_pulse_1_1 at h
  have Ig0 : xk_cnt (B + 0) g0 := Ig0
  obtain ⟨x1, u1, v2⟩ := h
  obtain ⟨x2, u3, v4⟩ := v2
  obtain ⟨r2, g1, u5, v6⟩ := v4
  have Ig1 : xk_cnt (B + 0) g1 := xk_cnt_le (iczM_goes (B + 0) _ _ _ _ _ _ u5 Ig0) (by omega)
  obtain ⟨g3, u7, v8⟩ := v6
  have Ig3 : xk_cnt (B + 0) g3 := by
    by_cases hc : r2 = 0
    · rw [if_pos hc] at u7
      rw [u7]; exact xk_cnt_le Ig1 (by omega)
    · rw [if_neg hc] at u7
      obtain ⟨g2, u9, v10⟩ := u7
      have Ig2 : xk_cnt (B + 0) g2 := by rw [u9]; repeat (first | exact Ig1 | refine xk_cnt_k (by decide) ?_ | refine xk_cnt_f (by decide) ?_ | refine xk_cnt_s ?_)
      rw [v10]; exact xk_cnt_le Ig2 (by omega)
  rw [v8]; exact xk_cnt_le Ig3 (by omega)

def relzM_pulse_1_2 (g0 : xk_St) (k2 : Int32) (gz : xk_St) : Prop := ∃ (x1 : Int32), (if k2 = 1 then (x1 = 1) else (if k2 = (-1) then (x1 = 1) else (x1 = 0))) ∧ (∃ (x2 : Int32), (if ((g0 1) 6) = 0 then (x2 = 1) else (x2 = 0)) ∧ (∃ (r2 : Int32) (g1 : xk_St), relzM_goes g0 1 x1 x2 r2 g1 ∧ (∃ (g3 : xk_St), (if r2 = 0 then (g3 = g1) else (∃ (g2 : xk_St), g2 = va_up g1 1 (upd (g1 1) 6 k2) ∧ (g3 = g2))) ∧ (gz = g3))))
set_option maxHeartbeats 4000000 in
set_option maxRecDepth 100000 in
theorem kzM_pulse_1_2 (l : Launch) (G : va_G) (ac : Nat → ClassId) (ad : Nat → Nat) (g0 : xk_St) (k2 : Int32) (B : Nat) (Ig0 : xk_cnt B g0) (hB : B + 1 < 2147483648) : xk_CV l yzM_pulse czM_pulse 5 xk_WS xk_r2 G xk_cls (xk_tys ac) [.ref (ad 0), .int 1, .int 2, .int k2] (xk_wM ad ac g0) (fun (gz : xk_St) => relzM_pulse_1_2 g0 k2 gz) (fun gz => xk_wM ad ac gz) := by
  refine xk_ofV (by decide) (Nat.le_of_ble_eq_true rfl) ?_
  intro p e s m args below meth c A Q H locs ls C0 hret hP hD hS hl
  obtain ⟨hx, hb, hml, hts, hown, hK, hA⟩ := C0
  have hl : lv_has ls 5 [(0, .ref (ad 0)), (1, .int 1), (2, .int 2), (3, .int k2)] := hl
  have Ig0 : xk_cnt (B + 0) g0 := Ig0
  refine lv_iload_n (pc := 0) hx hb dzM_pulse_0 rfl (lv_at hl 1 rfl) ?_
  refine lv_iload_n (pc := 1) hx hb dzM_pulse_1 rfl (lv_at hl 2 rfl) ?_
  refine xk_callSI (As := [.int 1, .int 2]) (rest := []) (H0 := s.heap) (pc := 2) hx hb hml hts hown hK hA hP hD hS (kzM_isHead l G ac 1 2) sfzM_110 [] (by decide) rfl (fun _ => rfl) ⟨rfl, rfl⟩ ⟨Nat.le_of_ble_eq_true rfl, Nat.le_of_ble_eq_true rfl⟩ rfl hl.1 rfl (Nat.le_of_ble_eq_true rfl) ⟨Nat.zero_le _, Nat.zero_le _⟩ dzM_pulse_2 (fun r1 u9 H locs e9 hP hD hS => ?_)
  obtain rfl : r1 = qzM_isHead 1 2 := e9
  refine xk_is (y := 1) (by decide) ?_
  have hP : va_P G xk_cls (xk_wM ad ac g0) H := hP
  have hD : va_D A (xk_wM ad ac g0) := hD
  refine lv_istore (lv' := [(4, .int 1), (0, .ref (ad 0)), (1, .int 1), (2, .int 2), (3, .int k2)]) (pc := 5) hx hb dzM_pulse_5 hl (by decide) rfl (fun ls hl => ?_)
  refine lv_aload_n (pc := 7) hx hb dzM_pulse_7 rfl (lv_at hl 1 rfl) ?_
  refine lv_iload (pc := 8) hx hb dzM_pulse_8 (lv_at hl 0 rfl) ?_
  refine lv_iload_n (pc := 10) hx hb dzM_pulse_10 rfl (lv_at hl 4 rfl) ?_
  refine lv_iconst (v := 1) (pc := 11) hx hb dzM_pulse_11 (by decide) ?_
  have K1 : ∀ (x1 : Int32), (if k2 = 1 then (x1 = 1) else (if k2 = (-1) then (x1 = 1) else (x1 = 0))) → (xk_b x1) → W p l e xk_r2 s m args below meth c H locs 0 0 Q (F0 m 25 ls [.int x1, .int 1, .ref (ad 0)]) := by
    intro x1 R1 bx1
    refine lv_iload (pc := 25) hx hb dzM_pulse_25 (lv_at hl 0 rfl) ?_
    refine lv_if_eq (pc := 27) (tgt := 47) hx hb dzM_pulse_27 (by decide) (fun hq9 => absurd hq9 (by decide)) (fun _ => ?_)
    refine lv_aload_n (pc := 30) hx hb dzM_pulse_30 rfl (lv_at hl 1 rfl) ?_
    refine xk_get (pc := 31) hx hb hts hown hK hP ffzM_7 0 rfl rfl dzM_pulse_31 ?_
    refine lv_iconst (v := 4) (pc := 34) hx hb dzM_pulse_34 (by decide) ?_
    refine lv_iload_n (pc := 35) hx hb dzM_pulse_35 rfl (lv_at hl 2 rfl) ?_
    refine lv_imul (pc := 36) hx hb dzM_pulse_36 ?_
    refine xk_is (y := 4) (by decide) ?_
    refine lv_iload_n (pc := 37) hx hb dzM_pulse_37 rfl (lv_at hl 3 rfl) ?_
    refine lv_iadd (pc := 38) hx hb dzM_pulse_38 ?_
    refine xk_is (y := 6) (by decide) ?_
    refine xk_iald (q0 := 1) (t0 := 0) (j := 6) (pc := 39) hx hb hK hP rfl rfl (pk_in 6 8 (by decide)) (pk_cl 6) dzM_pulse_39 ?_
    have K2 : ∀ (x2 : Int32), (if ((g0 1) 6) = 0 then (x2 = 1) else (x2 = 0)) → (xk_b x2) → W p l e xk_r2 s m args below meth c H locs 0 0 Q (F0 m 48 ls [.int x2, .int x1, .int 1, .ref (ad 0)]) := by
      intro x2 R2 bx2
      refine xk_allVI (As := [.int 1, .int x1, .int x2]) (rest := []) (H0 := s.heap) (pc := 48) hx hb hml hts hown hK hA hP hD hS (kzM_goes l G ac ad g0 1 x1 x2 (B + 0) Ig0 (by omega)) vfzM_114 (fun _ => rfl) 0 rfl rfl ⟨rfl, rfl⟩ ⟨Nat.le_of_ble_eq_true rfl, Nat.le_of_ble_eq_true rfl⟩ rfl hl.1 rfl (Nat.le_of_ble_eq_true rfl) ⟨Nat.zero_le _, Nat.zero_le _⟩ dzM_pulse_48 (fun r2 g1 H locs hg1 hP hD hS => ?_)
      have hP : va_P G xk_cls (xk_wM ad ac g1) H := hP
      have hD : va_D A (xk_wM ad ac g1) := hD
      have Ig1 : xk_cnt (B + 0) g1 := xk_cnt_le (iczM_goes (B + 0) _ _ _ _ _ _ hg1 Ig0) (by omega)
      have K3 : ∀ (g3 : xk_St) (H : Heap) (locs : List Loc), (if r2 = 0 then (g3 = g1) else (∃ (g2 : xk_St), g2 = va_up g1 1 (upd (g1 1) 6 k2) ∧ (g3 = g2))) → (xk_cnt (B + 0) g3) → (va_P G xk_cls (xk_wM ad ac g3) H) → (va_D A (xk_wM ad ac g3)) → (va_S A s.heap H locs) → W p l e xk_r2 s m args below meth c H locs 0 0 Q (F0 m 65 ls []) := by
        intro g3 H locs R3 Ig3 hP hD hS
        exact hret g3 H locs 65 ls hP hS (by unfold relzM_pulse_1_2; exact ⟨x1, R1, ⟨x2, R2, ⟨r2, g1, hg1, ⟨g3, R3, rfl⟩⟩⟩⟩) dzM_pulse_65
      refine lv_if_eq (pc := 51) (tgt := 65) hx hb dzM_pulse_51 (by decide) (fun h4 => ?_) (fun h4 => ?_)
      ·
        exact K3 g1 H locs (Eq.mpr (if_pos h4) rfl) (xk_cnt_le Ig1 (by omega)) hP hD hS
      ·
        refine lv_aload_n (pc := 54) hx hb dzM_pulse_54 rfl (lv_at hl 1 rfl) ?_
        refine xk_get (pc := 55) hx hb hts hown hK hP ffzM_7 0 rfl rfl dzM_pulse_55 ?_
        refine lv_iconst (v := 4) (pc := 58) hx hb dzM_pulse_58 (by decide) ?_
        refine lv_iload_n (pc := 59) hx hb dzM_pulse_59 rfl (lv_at hl 2 rfl) ?_
        refine lv_imul (pc := 60) hx hb dzM_pulse_60 ?_
        refine xk_is (y := 4) (by decide) ?_
        refine lv_iload_n (pc := 61) hx hb dzM_pulse_61 rfl (lv_at hl 3 rfl) ?_
        refine lv_iadd (pc := 62) hx hb dzM_pulse_62 ?_
        refine xk_is (y := 6) (by decide) ?_
        refine lv_iload_n (pc := 63) hx hb dzM_pulse_63 rfl (lv_at hl 4 rfl) ?_
        refine xk_iast (q0 := 1) (t0 := 0) (j := 6) (pc := 64) hx hb hK hP hD hS rfl rfl (pk_in 6 8 (by decide)) (pk_cl 6) dzM_pulse_64 (fun H locs hP hD hS => ?_)
        obtain ⟨g2, eg2⟩ : ∃ z : xk_St, z = va_up g1 1 (upd (g1 1) 6 k2) := ⟨_, rfl⟩
        have hP : va_P G xk_cls (xk_wM ad ac g2) H := by rw [eg2]; exact hP
        have hD : va_D A (xk_wM ad ac g2) := by rw [eg2]; exact hD
        have Ig2 : xk_cnt (B + 0) g2 := by rw [eg2]; repeat (first | exact Ig1 | refine xk_cnt_k (by decide) ?_ | refine xk_cnt_f (by decide) ?_ | refine xk_cnt_s ?_)
        exact K3 g2 H locs (Eq.mpr (if_neg h4) ⟨g2, eg2, rfl⟩) (xk_cnt_le Ig2 (by omega)) hP hD hS
    refine lv_if_ne (pc := 40) (tgt := 47) hx hb dzM_pulse_40 (by decide) (fun h3 => ?_) (fun h3 => ?_)
    ·
      refine lv_iconst (v := 0) (pc := 47) hx hb dzM_pulse_47 (by decide) ?_
      exact K2 0 (Eq.mpr (if_neg h3) rfl) xk_b0
    ·
      refine lv_iconst (v := 1) (pc := 43) hx hb dzM_pulse_43 (by decide) ?_
      refine lv_goto (tgt := 48) (pc := 44) hx hb dzM_pulse_44 (by decide) ?_
      exact K2 1 (Eq.mpr (if_pos h3) rfl) xk_b1
  refine lv_icmp_eq (pc := 12) (tgt := 20) hx hb dzM_pulse_12 (by decide) (fun h1 => ?_) (fun h1 => ?_)
  ·
    refine lv_iconst (v := 1) (pc := 20) hx hb dzM_pulse_20 (by decide) ?_
    refine lv_goto (tgt := 25) (pc := 21) hx hb dzM_pulse_21 (by decide) ?_
    exact K1 1 (Eq.mpr (if_pos h1) rfl) xk_b1
  ·
    refine lv_iload_n (pc := 15) hx hb dzM_pulse_15 rfl (lv_at hl 4 rfl) ?_
    refine lv_iconst (v := (-1)) (pc := 16) hx hb dzM_pulse_16 (by decide) ?_
    refine lv_icmp_ne (pc := 17) (tgt := 24) hx hb dzM_pulse_17 (by decide) (fun h2 => ?_) (fun h2 => ?_)
    ·
      refine lv_iconst (v := 0) (pc := 24) hx hb dzM_pulse_24 (by decide) ?_
      exact K1 0 (Eq.mpr (if_neg h1) (Eq.mpr (if_neg h2) rfl)) xk_b0
    ·
      refine lv_iconst (v := 1) (pc := 20) hx hb dzM_pulse_20 (by decide) ?_
      refine lv_goto (tgt := 25) (pc := 21) hx hb dzM_pulse_21 (by decide) ?_
      exact K1 1 (Eq.mpr (if_neg h1) (Eq.mpr (if_pos h2) rfl)) xk_b1
theorem frzM_pulse_1_2 (g0 : xk_St) (k2 : Int32) (gz : xk_St) : relzM_pulse_1_2 g0 k2 gz → xk_eqv [2, 3, 4, 5, 6, 7, 8, 9, 10, 11, 12, 13, 14, 15, 16, 17, 18, 19, 20, 21, 22, 23, 24, 25, 26, 27] g0 gz := by
  intro h
  unfold relzM_pulse_1_2 at h
  have s0 : xk_eqv [2, 3, 4, 5, 6, 7, 8, 9, 10, 11, 12, 13, 14, 15, 16, 17, 18, 19, 20, 21, 22, 23, 24, 25, 26, 27] g0 g0 := xk_eqv_rf
  obtain ⟨x1, u1, v2⟩ := h
  obtain ⟨x2, u3, v4⟩ := v2
  obtain ⟨r2, g1, u5, v6⟩ := v4
  have s7 : xk_eqv [2, 3, 4, 5, 6, 7, 8, 9, 10, 11, 12, 13, 14, 15, 16, 17, 18, 19, 20, 21, 22, 23, 24, 25, 26, 27] g0 g1 := xk_eqv_tr s0 (xk_eqv_sub (frzM_goes _ _ _ _ _ _ u5) (by decide))
  obtain ⟨g3, u8, v9⟩ := v6
  have s10 : xk_eqv [2, 3, 4, 5, 6, 7, 8, 9, 10, 11, 12, 13, 14, 15, 16, 17, 18, 19, 20, 21, 22, 23, 24, 25, 26, 27] g0 g3 := by
    by_cases hc : r2 = 0
    · rw [if_pos hc] at u8
      rw [u8]; exact s7
    · rw [if_neg hc] at u8
      obtain ⟨g2, u11, v12⟩ := u8
      have s13 : xk_eqv [2, 3, 4, 5, 6, 7, 8, 9, 10, 11, 12, 13, 14, 15, 16, 17, 18, 19, 20, 21, 22, 23, 24, 25, 26, 27] g0 g2 := by rw [u11]; repeat (first | exact s7 | refine xk_eqv_up (by decide) ?_)
      rw [v12]; exact s13
  rw [v9]; exact s10
theorem iczM_pulse_1_2 (B : Nat) (g0 : xk_St) (k2 : Int32) (gz : xk_St) : relzM_pulse_1_2 g0 k2 gz → xk_cnt B g0 → xk_cnt (B + 0) gz := by
  intro h Ig0
  unfold relzM_pulse_1_2 at h
  have Ig0 : xk_cnt (B + 0) g0 := Ig0
  obtain ⟨x1, u1, v2⟩ := h
  obtain ⟨x2, u3, v4⟩ := v2
  obtain ⟨r2, g1, u5, v6⟩ := v4
  have Ig1 : xk_cnt (B + 0) g1 := xk_cnt_le (iczM_goes (B + 0) _ _ _ _ _ _ u5 Ig0) (by omega)
  obtain ⟨g3, u7, v8⟩ := v6
  have Ig3 : xk_cnt (B + 0) g3 := by
    by_cases hc : r2 = 0
    · rw [if_pos hc] at u7
      rw [u7]; exact xk_cnt_le Ig1 (by omega)
    · rw [if_neg hc] at u7
      obtain ⟨g2, u9, v10⟩ := u7
      have Ig2 : xk_cnt (B + 0) g2 := by rw [u9]; repeat (first | exact Ig1 | refine xk_cnt_k (by decide) ?_ | refine xk_cnt_f (by decide) ?_ | refine xk_cnt_s ?_)
      rw [v10]; exact xk_cnt_le Ig2 (by omega)
  rw [v8]; exact xk_cnt_le Ig3 (by omega)

def relzM_pulse_1_3 (g0 : xk_St) (k2 : Int32) (gz : xk_St) : Prop := ∃ (x1 : Int32), (if k2 = 1 then (x1 = 1) else (if k2 = (-1) then (x1 = 1) else (x1 = 0))) ∧ (∃ (x2 : Int32), (if ((g0 1) 7) = 0 then (x2 = 1) else (x2 = 0)) ∧ (∃ (r2 : Int32) (g1 : xk_St), relzM_goes g0 1 x1 x2 r2 g1 ∧ (∃ (g3 : xk_St), (if r2 = 0 then (g3 = g1) else (∃ (g2 : xk_St), g2 = va_up g1 1 (upd (g1 1) 7 k2) ∧ (g3 = g2))) ∧ (gz = g3))))
set_option maxHeartbeats 4000000 in
set_option maxRecDepth 100000 in
theorem kzM_pulse_1_3 (l : Launch) (G : va_G) (ac : Nat → ClassId) (ad : Nat → Nat) (g0 : xk_St) (k2 : Int32) (B : Nat) (Ig0 : xk_cnt B g0) (hB : B + 1 < 2147483648) : xk_CV l yzM_pulse czM_pulse 5 xk_WS xk_r2 G xk_cls (xk_tys ac) [.ref (ad 0), .int 1, .int 3, .int k2] (xk_wM ad ac g0) (fun (gz : xk_St) => relzM_pulse_1_3 g0 k2 gz) (fun gz => xk_wM ad ac gz) := by
  refine xk_ofV (by decide) (Nat.le_of_ble_eq_true rfl) ?_
  intro p e s m args below meth c A Q H locs ls C0 hret hP hD hS hl
  obtain ⟨hx, hb, hml, hts, hown, hK, hA⟩ := C0
  have hl : lv_has ls 5 [(0, .ref (ad 0)), (1, .int 1), (2, .int 3), (3, .int k2)] := hl
  have Ig0 : xk_cnt (B + 0) g0 := Ig0
  refine lv_iload_n (pc := 0) hx hb dzM_pulse_0 rfl (lv_at hl 1 rfl) ?_
  refine lv_iload_n (pc := 1) hx hb dzM_pulse_1 rfl (lv_at hl 2 rfl) ?_
  refine xk_callSI (As := [.int 1, .int 3]) (rest := []) (H0 := s.heap) (pc := 2) hx hb hml hts hown hK hA hP hD hS (kzM_isHead l G ac 1 3) sfzM_110 [] (by decide) rfl (fun _ => rfl) ⟨rfl, rfl⟩ ⟨Nat.le_of_ble_eq_true rfl, Nat.le_of_ble_eq_true rfl⟩ rfl hl.1 rfl (Nat.le_of_ble_eq_true rfl) ⟨Nat.zero_le _, Nat.zero_le _⟩ dzM_pulse_2 (fun r1 u9 H locs e9 hP hD hS => ?_)
  obtain rfl : r1 = qzM_isHead 1 3 := e9
  refine xk_is (y := 1) (by decide) ?_
  have hP : va_P G xk_cls (xk_wM ad ac g0) H := hP
  have hD : va_D A (xk_wM ad ac g0) := hD
  refine lv_istore (lv' := [(4, .int 1), (0, .ref (ad 0)), (1, .int 1), (2, .int 3), (3, .int k2)]) (pc := 5) hx hb dzM_pulse_5 hl (by decide) rfl (fun ls hl => ?_)
  refine lv_aload_n (pc := 7) hx hb dzM_pulse_7 rfl (lv_at hl 1 rfl) ?_
  refine lv_iload (pc := 8) hx hb dzM_pulse_8 (lv_at hl 0 rfl) ?_
  refine lv_iload_n (pc := 10) hx hb dzM_pulse_10 rfl (lv_at hl 4 rfl) ?_
  refine lv_iconst (v := 1) (pc := 11) hx hb dzM_pulse_11 (by decide) ?_
  have K1 : ∀ (x1 : Int32), (if k2 = 1 then (x1 = 1) else (if k2 = (-1) then (x1 = 1) else (x1 = 0))) → (xk_b x1) → W p l e xk_r2 s m args below meth c H locs 0 0 Q (F0 m 25 ls [.int x1, .int 1, .ref (ad 0)]) := by
    intro x1 R1 bx1
    refine lv_iload (pc := 25) hx hb dzM_pulse_25 (lv_at hl 0 rfl) ?_
    refine lv_if_eq (pc := 27) (tgt := 47) hx hb dzM_pulse_27 (by decide) (fun hq9 => absurd hq9 (by decide)) (fun _ => ?_)
    refine lv_aload_n (pc := 30) hx hb dzM_pulse_30 rfl (lv_at hl 1 rfl) ?_
    refine xk_get (pc := 31) hx hb hts hown hK hP ffzM_7 0 rfl rfl dzM_pulse_31 ?_
    refine lv_iconst (v := 4) (pc := 34) hx hb dzM_pulse_34 (by decide) ?_
    refine lv_iload_n (pc := 35) hx hb dzM_pulse_35 rfl (lv_at hl 2 rfl) ?_
    refine lv_imul (pc := 36) hx hb dzM_pulse_36 ?_
    refine xk_is (y := 4) (by decide) ?_
    refine lv_iload_n (pc := 37) hx hb dzM_pulse_37 rfl (lv_at hl 3 rfl) ?_
    refine lv_iadd (pc := 38) hx hb dzM_pulse_38 ?_
    refine xk_is (y := 7) (by decide) ?_
    refine xk_iald (q0 := 1) (t0 := 0) (j := 7) (pc := 39) hx hb hK hP rfl rfl (pk_in 7 8 (by decide)) (pk_cl 7) dzM_pulse_39 ?_
    have K2 : ∀ (x2 : Int32), (if ((g0 1) 7) = 0 then (x2 = 1) else (x2 = 0)) → (xk_b x2) → W p l e xk_r2 s m args below meth c H locs 0 0 Q (F0 m 48 ls [.int x2, .int x1, .int 1, .ref (ad 0)]) := by
      intro x2 R2 bx2
      refine xk_allVI (As := [.int 1, .int x1, .int x2]) (rest := []) (H0 := s.heap) (pc := 48) hx hb hml hts hown hK hA hP hD hS (kzM_goes l G ac ad g0 1 x1 x2 (B + 0) Ig0 (by omega)) vfzM_114 (fun _ => rfl) 0 rfl rfl ⟨rfl, rfl⟩ ⟨Nat.le_of_ble_eq_true rfl, Nat.le_of_ble_eq_true rfl⟩ rfl hl.1 rfl (Nat.le_of_ble_eq_true rfl) ⟨Nat.zero_le _, Nat.zero_le _⟩ dzM_pulse_48 (fun r2 g1 H locs hg1 hP hD hS => ?_)
      have hP : va_P G xk_cls (xk_wM ad ac g1) H := hP
      have hD : va_D A (xk_wM ad ac g1) := hD
      have Ig1 : xk_cnt (B + 0) g1 := xk_cnt_le (iczM_goes (B + 0) _ _ _ _ _ _ hg1 Ig0) (by omega)
      have K3 : ∀ (g3 : xk_St) (H : Heap) (locs : List Loc), (if r2 = 0 then (g3 = g1) else (∃ (g2 : xk_St), g2 = va_up g1 1 (upd (g1 1) 7 k2) ∧ (g3 = g2))) → (xk_cnt (B + 0) g3) → (va_P G xk_cls (xk_wM ad ac g3) H) → (va_D A (xk_wM ad ac g3)) → (va_S A s.heap H locs) → W p l e xk_r2 s m args below meth c H locs 0 0 Q (F0 m 65 ls []) := by
        intro g3 H locs R3 Ig3 hP hD hS
        exact hret g3 H locs 65 ls hP hS (by unfold relzM_pulse_1_3; exact ⟨x1, R1, ⟨x2, R2, ⟨r2, g1, hg1, ⟨g3, R3, rfl⟩⟩⟩⟩) dzM_pulse_65
      refine lv_if_eq (pc := 51) (tgt := 65) hx hb dzM_pulse_51 (by decide) (fun h4 => ?_) (fun h4 => ?_)
      ·
        exact K3 g1 H locs (Eq.mpr (if_pos h4) rfl) (xk_cnt_le Ig1 (by omega)) hP hD hS
      ·
        refine lv_aload_n (pc := 54) hx hb dzM_pulse_54 rfl (lv_at hl 1 rfl) ?_
        refine xk_get (pc := 55) hx hb hts hown hK hP ffzM_7 0 rfl rfl dzM_pulse_55 ?_
        refine lv_iconst (v := 4) (pc := 58) hx hb dzM_pulse_58 (by decide) ?_
        refine lv_iload_n (pc := 59) hx hb dzM_pulse_59 rfl (lv_at hl 2 rfl) ?_
        refine lv_imul (pc := 60) hx hb dzM_pulse_60 ?_
        refine xk_is (y := 4) (by decide) ?_
        refine lv_iload_n (pc := 61) hx hb dzM_pulse_61 rfl (lv_at hl 3 rfl) ?_
        refine lv_iadd (pc := 62) hx hb dzM_pulse_62 ?_
        refine xk_is (y := 7) (by decide) ?_
        refine lv_iload_n (pc := 63) hx hb dzM_pulse_63 rfl (lv_at hl 4 rfl) ?_
        refine xk_iast (q0 := 1) (t0 := 0) (j := 7) (pc := 64) hx hb hK hP hD hS rfl rfl (pk_in 7 8 (by decide)) (pk_cl 7) dzM_pulse_64 (fun H locs hP hD hS => ?_)
        obtain ⟨g2, eg2⟩ : ∃ z : xk_St, z = va_up g1 1 (upd (g1 1) 7 k2) := ⟨_, rfl⟩
        have hP : va_P G xk_cls (xk_wM ad ac g2) H := by rw [eg2]; exact hP
        have hD : va_D A (xk_wM ad ac g2) := by rw [eg2]; exact hD
        have Ig2 : xk_cnt (B + 0) g2 := by rw [eg2]; repeat (first | exact Ig1 | refine xk_cnt_k (by decide) ?_ | refine xk_cnt_f (by decide) ?_ | refine xk_cnt_s ?_)
        exact K3 g2 H locs (Eq.mpr (if_neg h4) ⟨g2, eg2, rfl⟩) (xk_cnt_le Ig2 (by omega)) hP hD hS
    refine lv_if_ne (pc := 40) (tgt := 47) hx hb dzM_pulse_40 (by decide) (fun h3 => ?_) (fun h3 => ?_)
    ·
      refine lv_iconst (v := 0) (pc := 47) hx hb dzM_pulse_47 (by decide) ?_
      exact K2 0 (Eq.mpr (if_neg h3) rfl) xk_b0
    ·
      refine lv_iconst (v := 1) (pc := 43) hx hb dzM_pulse_43 (by decide) ?_
      refine lv_goto (tgt := 48) (pc := 44) hx hb dzM_pulse_44 (by decide) ?_
      exact K2 1 (Eq.mpr (if_pos h3) rfl) xk_b1
  refine lv_icmp_eq (pc := 12) (tgt := 20) hx hb dzM_pulse_12 (by decide) (fun h1 => ?_) (fun h1 => ?_)
  ·
    refine lv_iconst (v := 1) (pc := 20) hx hb dzM_pulse_20 (by decide) ?_
    refine lv_goto (tgt := 25) (pc := 21) hx hb dzM_pulse_21 (by decide) ?_
    exact K1 1 (Eq.mpr (if_pos h1) rfl) xk_b1
  ·
    refine lv_iload_n (pc := 15) hx hb dzM_pulse_15 rfl (lv_at hl 4 rfl) ?_
    refine lv_iconst (v := (-1)) (pc := 16) hx hb dzM_pulse_16 (by decide) ?_
    refine lv_icmp_ne (pc := 17) (tgt := 24) hx hb dzM_pulse_17 (by decide) (fun h2 => ?_) (fun h2 => ?_)
    ·
      refine lv_iconst (v := 0) (pc := 24) hx hb dzM_pulse_24 (by decide) ?_
      exact K1 0 (Eq.mpr (if_neg h1) (Eq.mpr (if_neg h2) rfl)) xk_b0
    ·
      refine lv_iconst (v := 1) (pc := 20) hx hb dzM_pulse_20 (by decide) ?_
      refine lv_goto (tgt := 25) (pc := 21) hx hb dzM_pulse_21 (by decide) ?_
      exact K1 1 (Eq.mpr (if_neg h1) (Eq.mpr (if_pos h2) rfl)) xk_b1
theorem frzM_pulse_1_3 (g0 : xk_St) (k2 : Int32) (gz : xk_St) : relzM_pulse_1_3 g0 k2 gz → xk_eqv [2, 3, 4, 5, 6, 7, 8, 9, 10, 11, 12, 13, 14, 15, 16, 17, 18, 19, 20, 21, 22, 23, 24, 25, 26, 27] g0 gz := by
  intro h
  unfold relzM_pulse_1_3 at h
  have s0 : xk_eqv [2, 3, 4, 5, 6, 7, 8, 9, 10, 11, 12, 13, 14, 15, 16, 17, 18, 19, 20, 21, 22, 23, 24, 25, 26, 27] g0 g0 := xk_eqv_rf
  obtain ⟨x1, u1, v2⟩ := h
  obtain ⟨x2, u3, v4⟩ := v2
  obtain ⟨r2, g1, u5, v6⟩ := v4
  have s7 : xk_eqv [2, 3, 4, 5, 6, 7, 8, 9, 10, 11, 12, 13, 14, 15, 16, 17, 18, 19, 20, 21, 22, 23, 24, 25, 26, 27] g0 g1 := xk_eqv_tr s0 (xk_eqv_sub (frzM_goes _ _ _ _ _ _ u5) (by decide))
  obtain ⟨g3, u8, v9⟩ := v6
  have s10 : xk_eqv [2, 3, 4, 5, 6, 7, 8, 9, 10, 11, 12, 13, 14, 15, 16, 17, 18, 19, 20, 21, 22, 23, 24, 25, 26, 27] g0 g3 := by
    by_cases hc : r2 = 0
    · rw [if_pos hc] at u8
      rw [u8]; exact s7
    · rw [if_neg hc] at u8
      obtain ⟨g2, u11, v12⟩ := u8
      have s13 : xk_eqv [2, 3, 4, 5, 6, 7, 8, 9, 10, 11, 12, 13, 14, 15, 16, 17, 18, 19, 20, 21, 22, 23, 24, 25, 26, 27] g0 g2 := by rw [u11]; repeat (first | exact s7 | refine xk_eqv_up (by decide) ?_)
      rw [v12]; exact s13
  rw [v9]; exact s10
theorem iczM_pulse_1_3 (B : Nat) (g0 : xk_St) (k2 : Int32) (gz : xk_St) : relzM_pulse_1_3 g0 k2 gz → xk_cnt B g0 → xk_cnt (B + 0) gz := by
  intro h Ig0
  unfold relzM_pulse_1_3 at h
  have Ig0 : xk_cnt (B + 0) g0 := Ig0
  obtain ⟨x1, u1, v2⟩ := h
  obtain ⟨x2, u3, v4⟩ := v2
  obtain ⟨r2, g1, u5, v6⟩ := v4
  have Ig1 : xk_cnt (B + 0) g1 := xk_cnt_le (iczM_goes (B + 0) _ _ _ _ _ _ u5 Ig0) (by omega)
  obtain ⟨g3, u7, v8⟩ := v6
  have Ig3 : xk_cnt (B + 0) g3 := by
    by_cases hc : r2 = 0
    · rw [if_pos hc] at u7
      rw [u7]; exact xk_cnt_le Ig1 (by omega)
    · rw [if_neg hc] at u7
      obtain ⟨g2, u9, v10⟩ := u7
      have Ig2 : xk_cnt (B + 0) g2 := by rw [u9]; repeat (first | exact Ig1 | refine xk_cnt_k (by decide) ?_ | refine xk_cnt_f (by decide) ?_ | refine xk_cnt_s ?_)
      rw [v10]; exact xk_cnt_le Ig2 (by omega)
  rw [v8]; exact xk_cnt_le Ig3 (by omega)

