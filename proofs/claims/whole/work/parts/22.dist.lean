def relzU_disturb_0 (g0 : xk_St) (gz : xk_St) : Prop := ∃ (g3 : xk_St), (if (g0 19 3) = 0 then (∃ (g1 : xk_St), g1 = va_up g0 19 (upd (g0 19) 3 1) ∧ (∃ (g2 : xk_St), g2 = va_up (va_up (va_up (va_up g1 5 (upd (g1 5) 3 (qzJ_add_a3 (g1 5 3)))) 6 (qzJ_add_b (g1 5 3) (g1 6) (g1 0 5))) 7 (qzJ_add_c (g1 5 3) (g1 7) 1)) 8 (qzJ_add_d (g1 5 3) (g1 8) (g1 19 0)) ∧ (g3 = g2))) else (g3 = g0)) ∧ (gz = g3)
set_option maxHeartbeats 4000000 in
set_option maxRecDepth 100000 in
theorem kzU_disturb_0 (l : Launch) (G : va_G) (ac : Nat → ClassId) (ad : Nat → Nat) (g0 : xk_St) : xk_CV l yzU_disturb czU_disturb 2 xk_WS xk_r1 G xk_cls (xk_tys ac) [.ref (ad 0), .ref (ad 19)] (xk_wU ad ac g0) (fun (gz : xk_St) => relzU_disturb_0 g0 gz) (fun gz => xk_wU ad ac gz) := by
  refine xk_ofV (by decide) (Nat.le_of_ble_eq_true rfl) ?_
  intro p e s m args below meth c A Q H locs ls C0 hret hP hD hS hl
  obtain ⟨hx, hb, hml, hts, hown, hK, hA⟩ := C0
  have hl : lv_has ls 2 [(0, .ref (ad 0)), (1, .ref (ad 19))] := hl
  refine lv_aload_n (pc := 0) hx hb dzU_disturb_0 rfl (lv_at hl 1 rfl) ?_
  refine xk_get (pc := 1) hx hb hts hown hK hP ffzU_181 19 rfl rfl dzU_disturb_1 ?_
  have K1 : ∀ (g3 : xk_St) (H : Heap) (locs : List Loc), (if (g0 19 3) = 0 then (∃ (g1 : xk_St), g1 = va_up g0 19 (upd (g0 19) 3 1) ∧ (∃ (g2 : xk_St), g2 = va_up (va_up (va_up (va_up g1 5 (upd (g1 5) 3 (qzJ_add_a3 (g1 5 3)))) 6 (qzJ_add_b (g1 5 3) (g1 6) (g1 0 5))) 7 (qzJ_add_c (g1 5 3) (g1 7) 1)) 8 (qzJ_add_d (g1 5 3) (g1 8) (g1 19 0)) ∧ (g3 = g2))) else (g3 = g0)) → (va_P G xk_cls (xk_wU ad ac g3) H) → (va_D A (xk_wU ad ac g3)) → (va_S A s.heap H locs) → W p l e xk_r1 s m args below meth c H locs 0 0 Q (F0 m 28 ls []) := by
    intro g3 H locs R1 hP hD hS
    exact hret g3 H locs 28 ls hP hS (by unfold relzU_disturb_0; exact ⟨g3, R1, rfl⟩) dzU_disturb_28
  refine lv_if_ne (pc := 4) (tgt := 28) hx hb dzU_disturb_4 (by decide) (fun h1 => ?_) (fun h1 => ?_)
  ·
    exact K1 g0 H locs (Eq.mpr (if_neg h1) rfl) hP hD hS
  ·
    refine lv_aload_n (pc := 7) hx hb dzU_disturb_7 rfl (lv_at hl 1 rfl) ?_
    refine lv_iconst (v := 1) (pc := 8) hx hb dzU_disturb_8 (by decide) ?_
    refine xk_putf (pc := 9) hx hb hts hown hK hP hD hS pfzU_181 19 rfl (xk_bn xk_b1) (xk_bf xk_b1) (Nat.le_of_ble_eq_true rfl) dzU_disturb_9 (fun H locs hP hD hS => ?_)
    obtain ⟨g1, eg1⟩ : ∃ z : xk_St, z = va_up g0 19 (upd (g0 19) 3 1) := ⟨_, rfl⟩
    have hP : va_P G xk_cls (xk_wU ad ac g1) H := by rw [eg1]; exact hP
    have hD : va_D A (xk_wU ad ac g1) := by rw [eg1]; exact hD
    refine lv_aload_n (pc := 12) hx hb dzU_disturb_12 rfl (lv_at hl 0 rfl) ?_
    refine xk_get (pc := 13) hx hb hts hown hK hP ffzU_37 0 rfl rfl dzU_disturb_13 ?_
    refine lv_aload_n (pc := 16) hx hb dzU_disturb_16 rfl (lv_at hl 0 rfl) ?_
    refine xk_get (pc := 17) hx hb hts hown hK hP ffzU_41 0 rfl rfl dzU_disturb_17 ?_
    refine lv_iconst (v := 1) (pc := 20) hx hb dzU_disturb_20 (by decide) ?_
    refine lv_aload_n (pc := 21) hx hb dzU_disturb_21 rfl (lv_at hl 1 rfl) ?_
    refine xk_get (pc := 22) hx hb hts hown hK hP ffzU_204 19 rfl rfl dzU_disturb_22 ?_
    refine xk_callVV (As := [.int (g1 0 5), .int 1, .int (g1 19 0)]) (rest := []) (H0 := s.heap) (pc := 25) hx hb hml hts hown hK hA hP hD hS (kzJ_add l G ac (ad 5) (ad 6) (ad 7) (ad 8) (g1 5 3) (g1 6) (g1 7) (g1 8) (g1 0 5) 1 (g1 19 0)) vfzU_170 [5, 6, 7, 8] (by decide) rfl (fun _ => rfl) 5 rfl rfl ⟨rfl, rfl⟩ ⟨Nat.le_of_ble_eq_true rfl, Nat.le_of_ble_eq_true rfl⟩ rfl hl.1 rfl (Nat.le_of_ble_eq_true rfl) ⟨Nat.zero_le _, Nat.zero_le _⟩ dzU_disturb_25 (fun u9 H locs e9 hP hD hS => ?_)
    obtain ⟨g2, eg2⟩ : ∃ z : xk_St, z = va_up (va_up (va_up (va_up g1 5 (upd (g1 5) 3 (qzJ_add_a3 (g1 5 3)))) 6 (qzJ_add_b (g1 5 3) (g1 6) (g1 0 5))) 7 (qzJ_add_c (g1 5 3) (g1 7) 1)) 8 (qzJ_add_d (g1 5 3) (g1 8) (g1 19 0)) := ⟨_, rfl⟩
    have hP : va_P G xk_cls (xk_wU ad ac g2) H := by rw [eg2]; exact hP
    have hD : va_D A (xk_wU ad ac g2) := by rw [eg2]; exact hD
    exact K1 g2 H locs (Eq.mpr (if_pos h1) ⟨g1, eg1, ⟨g2, eg2, rfl⟩⟩) hP hD hS
theorem frzU_disturb_0 (g0 : xk_St) (gz : xk_St) : relzU_disturb_0 g0 gz → xk_eqv [0, 1, 2, 3, 4, 9, 10, 11, 12, 13, 14, 15, 16, 17, 18, 20, 21, 22, 23, 24, 25, 26, 27, 28, 29, 30, 31, 32, 33] g0 gz := by
  intro h
  unfold relzU_disturb_0 at h
  have s0 : xk_eqv [0, 1, 2, 3, 4, 9, 10, 11, 12, 13, 14, 15, 16, 17, 18, 20, 21, 22, 23, 24, 25, 26, 27, 28, 29, 30, 31, 32, 33] g0 g0 := xk_eqv_rf
  obtain ⟨g3, u1, v2⟩ := h
  have s3 : xk_eqv [0, 1, 2, 3, 4, 9, 10, 11, 12, 13, 14, 15, 16, 17, 18, 20, 21, 22, 23, 24, 25, 26, 27, 28, 29, 30, 31, 32, 33] g0 g3 := by
    by_cases hc : (g0 19 3) = 0
    · rw [if_pos hc] at u1
      obtain ⟨g1, u4, v5⟩ := u1
      have s6 : xk_eqv [0, 1, 2, 3, 4, 9, 10, 11, 12, 13, 14, 15, 16, 17, 18, 20, 21, 22, 23, 24, 25, 26, 27, 28, 29, 30, 31, 32, 33] g0 g1 := by rw [u4]; repeat (first | exact s0 | refine xk_eqv_up (by decide) ?_)
      obtain ⟨g2, u7, v8⟩ := v5
      have s9 : xk_eqv [0, 1, 2, 3, 4, 9, 10, 11, 12, 13, 14, 15, 16, 17, 18, 20, 21, 22, 23, 24, 25, 26, 27, 28, 29, 30, 31, 32, 33] g0 g2 := by rw [u7]; repeat (first | exact s6 | refine xk_eqv_up (by decide) ?_)
      rw [v8]; exact s9
    · rw [if_neg hc] at u1
      rw [u1]; exact s0
  rw [v2]; exact s3

def relzU_disturb_1 (g0 : xk_St) (gz : xk_St) : Prop := ∃ (g3 : xk_St), (if (g0 20 3) = 0 then (∃ (g1 : xk_St), g1 = va_up g0 20 (upd (g0 20) 3 1) ∧ (∃ (g2 : xk_St), g2 = va_up (va_up (va_up (va_up g1 5 (upd (g1 5) 3 (qzJ_add_a3 (g1 5 3)))) 6 (qzJ_add_b (g1 5 3) (g1 6) (g1 0 5))) 7 (qzJ_add_c (g1 5 3) (g1 7) 1)) 8 (qzJ_add_d (g1 5 3) (g1 8) (g1 20 0)) ∧ (g3 = g2))) else (g3 = g0)) ∧ (gz = g3)
set_option maxHeartbeats 4000000 in
set_option maxRecDepth 100000 in
theorem kzU_disturb_1 (l : Launch) (G : va_G) (ac : Nat → ClassId) (ad : Nat → Nat) (g0 : xk_St) : xk_CV l yzU_disturb czU_disturb 2 xk_WS xk_r1 G xk_cls (xk_tys ac) [.ref (ad 0), .ref (ad 20)] (xk_wU ad ac g0) (fun (gz : xk_St) => relzU_disturb_1 g0 gz) (fun gz => xk_wU ad ac gz) := by
  refine xk_ofV (by decide) (Nat.le_of_ble_eq_true rfl) ?_
  intro p e s m args below meth c A Q H locs ls C0 hret hP hD hS hl
  obtain ⟨hx, hb, hml, hts, hown, hK, hA⟩ := C0
  have hl : lv_has ls 2 [(0, .ref (ad 0)), (1, .ref (ad 20))] := hl
  refine lv_aload_n (pc := 0) hx hb dzU_disturb_0 rfl (lv_at hl 1 rfl) ?_
  refine xk_get (pc := 1) hx hb hts hown hK hP ffzU_181 20 rfl rfl dzU_disturb_1 ?_
  have K1 : ∀ (g3 : xk_St) (H : Heap) (locs : List Loc), (if (g0 20 3) = 0 then (∃ (g1 : xk_St), g1 = va_up g0 20 (upd (g0 20) 3 1) ∧ (∃ (g2 : xk_St), g2 = va_up (va_up (va_up (va_up g1 5 (upd (g1 5) 3 (qzJ_add_a3 (g1 5 3)))) 6 (qzJ_add_b (g1 5 3) (g1 6) (g1 0 5))) 7 (qzJ_add_c (g1 5 3) (g1 7) 1)) 8 (qzJ_add_d (g1 5 3) (g1 8) (g1 20 0)) ∧ (g3 = g2))) else (g3 = g0)) → (va_P G xk_cls (xk_wU ad ac g3) H) → (va_D A (xk_wU ad ac g3)) → (va_S A s.heap H locs) → W p l e xk_r1 s m args below meth c H locs 0 0 Q (F0 m 28 ls []) := by
    intro g3 H locs R1 hP hD hS
    exact hret g3 H locs 28 ls hP hS (by unfold relzU_disturb_1; exact ⟨g3, R1, rfl⟩) dzU_disturb_28
  refine lv_if_ne (pc := 4) (tgt := 28) hx hb dzU_disturb_4 (by decide) (fun h1 => ?_) (fun h1 => ?_)
  ·
    exact K1 g0 H locs (Eq.mpr (if_neg h1) rfl) hP hD hS
  ·
    refine lv_aload_n (pc := 7) hx hb dzU_disturb_7 rfl (lv_at hl 1 rfl) ?_
    refine lv_iconst (v := 1) (pc := 8) hx hb dzU_disturb_8 (by decide) ?_
    refine xk_putf (pc := 9) hx hb hts hown hK hP hD hS pfzU_181 20 rfl (xk_bn xk_b1) (xk_bf xk_b1) (Nat.le_of_ble_eq_true rfl) dzU_disturb_9 (fun H locs hP hD hS => ?_)
    obtain ⟨g1, eg1⟩ : ∃ z : xk_St, z = va_up g0 20 (upd (g0 20) 3 1) := ⟨_, rfl⟩
    have hP : va_P G xk_cls (xk_wU ad ac g1) H := by rw [eg1]; exact hP
    have hD : va_D A (xk_wU ad ac g1) := by rw [eg1]; exact hD
    refine lv_aload_n (pc := 12) hx hb dzU_disturb_12 rfl (lv_at hl 0 rfl) ?_
    refine xk_get (pc := 13) hx hb hts hown hK hP ffzU_37 0 rfl rfl dzU_disturb_13 ?_
    refine lv_aload_n (pc := 16) hx hb dzU_disturb_16 rfl (lv_at hl 0 rfl) ?_
    refine xk_get (pc := 17) hx hb hts hown hK hP ffzU_41 0 rfl rfl dzU_disturb_17 ?_
    refine lv_iconst (v := 1) (pc := 20) hx hb dzU_disturb_20 (by decide) ?_
    refine lv_aload_n (pc := 21) hx hb dzU_disturb_21 rfl (lv_at hl 1 rfl) ?_
    refine xk_get (pc := 22) hx hb hts hown hK hP ffzU_204 20 rfl rfl dzU_disturb_22 ?_
    refine xk_callVV (As := [.int (g1 0 5), .int 1, .int (g1 20 0)]) (rest := []) (H0 := s.heap) (pc := 25) hx hb hml hts hown hK hA hP hD hS (kzJ_add l G ac (ad 5) (ad 6) (ad 7) (ad 8) (g1 5 3) (g1 6) (g1 7) (g1 8) (g1 0 5) 1 (g1 20 0)) vfzU_170 [5, 6, 7, 8] (by decide) rfl (fun _ => rfl) 5 rfl rfl ⟨rfl, rfl⟩ ⟨Nat.le_of_ble_eq_true rfl, Nat.le_of_ble_eq_true rfl⟩ rfl hl.1 rfl (Nat.le_of_ble_eq_true rfl) ⟨Nat.zero_le _, Nat.zero_le _⟩ dzU_disturb_25 (fun u9 H locs e9 hP hD hS => ?_)
    obtain ⟨g2, eg2⟩ : ∃ z : xk_St, z = va_up (va_up (va_up (va_up g1 5 (upd (g1 5) 3 (qzJ_add_a3 (g1 5 3)))) 6 (qzJ_add_b (g1 5 3) (g1 6) (g1 0 5))) 7 (qzJ_add_c (g1 5 3) (g1 7) 1)) 8 (qzJ_add_d (g1 5 3) (g1 8) (g1 20 0)) := ⟨_, rfl⟩
    have hP : va_P G xk_cls (xk_wU ad ac g2) H := by rw [eg2]; exact hP
    have hD : va_D A (xk_wU ad ac g2) := by rw [eg2]; exact hD
    exact K1 g2 H locs (Eq.mpr (if_pos h1) ⟨g1, eg1, ⟨g2, eg2, rfl⟩⟩) hP hD hS
theorem frzU_disturb_1 (g0 : xk_St) (gz : xk_St) : relzU_disturb_1 g0 gz → xk_eqv [0, 1, 2, 3, 4, 9, 10, 11, 12, 13, 14, 15, 16, 17, 18, 19, 21, 22, 23, 24, 25, 26, 27, 28, 29, 30, 31, 32, 33] g0 gz := by
  intro h
  unfold relzU_disturb_1 at h
  have s0 : xk_eqv [0, 1, 2, 3, 4, 9, 10, 11, 12, 13, 14, 15, 16, 17, 18, 19, 21, 22, 23, 24, 25, 26, 27, 28, 29, 30, 31, 32, 33] g0 g0 := xk_eqv_rf
  obtain ⟨g3, u1, v2⟩ := h
  have s3 : xk_eqv [0, 1, 2, 3, 4, 9, 10, 11, 12, 13, 14, 15, 16, 17, 18, 19, 21, 22, 23, 24, 25, 26, 27, 28, 29, 30, 31, 32, 33] g0 g3 := by
    by_cases hc : (g0 20 3) = 0
    · rw [if_pos hc] at u1
      obtain ⟨g1, u4, v5⟩ := u1
      have s6 : xk_eqv [0, 1, 2, 3, 4, 9, 10, 11, 12, 13, 14, 15, 16, 17, 18, 19, 21, 22, 23, 24, 25, 26, 27, 28, 29, 30, 31, 32, 33] g0 g1 := by rw [u4]; repeat (first | exact s0 | refine xk_eqv_up (by decide) ?_)
      obtain ⟨g2, u7, v8⟩ := v5
      have s9 : xk_eqv [0, 1, 2, 3, 4, 9, 10, 11, 12, 13, 14, 15, 16, 17, 18, 19, 21, 22, 23, 24, 25, 26, 27, 28, 29, 30, 31, 32, 33] g0 g2 := by rw [u7]; repeat (first | exact s6 | refine xk_eqv_up (by decide) ?_)
      rw [v8]; exact s9
    · rw [if_neg hc] at u1
      rw [u1]; exact s0
  rw [v2]; exact s3

def relzU_disturb_2 (g0 : xk_St) (gz : xk_St) : Prop := ∃ (g3 : xk_St), (if (g0 21 3) = 0 then (∃ (g1 : xk_St), g1 = va_up g0 21 (upd (g0 21) 3 1) ∧ (∃ (g2 : xk_St), g2 = va_up (va_up (va_up (va_up g1 5 (upd (g1 5) 3 (qzJ_add_a3 (g1 5 3)))) 6 (qzJ_add_b (g1 5 3) (g1 6) (g1 0 5))) 7 (qzJ_add_c (g1 5 3) (g1 7) 1)) 8 (qzJ_add_d (g1 5 3) (g1 8) (g1 21 0)) ∧ (g3 = g2))) else (g3 = g0)) ∧ (gz = g3)
set_option maxHeartbeats 4000000 in
set_option maxRecDepth 100000 in
theorem kzU_disturb_2 (l : Launch) (G : va_G) (ac : Nat → ClassId) (ad : Nat → Nat) (g0 : xk_St) : xk_CV l yzU_disturb czU_disturb 2 xk_WS xk_r1 G xk_cls (xk_tys ac) [.ref (ad 0), .ref (ad 21)] (xk_wU ad ac g0) (fun (gz : xk_St) => relzU_disturb_2 g0 gz) (fun gz => xk_wU ad ac gz) := by
  refine xk_ofV (by decide) (Nat.le_of_ble_eq_true rfl) ?_
  intro p e s m args below meth c A Q H locs ls C0 hret hP hD hS hl
  obtain ⟨hx, hb, hml, hts, hown, hK, hA⟩ := C0
  have hl : lv_has ls 2 [(0, .ref (ad 0)), (1, .ref (ad 21))] := hl
  refine lv_aload_n (pc := 0) hx hb dzU_disturb_0 rfl (lv_at hl 1 rfl) ?_
  refine xk_get (pc := 1) hx hb hts hown hK hP ffzU_181 21 rfl rfl dzU_disturb_1 ?_
  have K1 : ∀ (g3 : xk_St) (H : Heap) (locs : List Loc), (if (g0 21 3) = 0 then (∃ (g1 : xk_St), g1 = va_up g0 21 (upd (g0 21) 3 1) ∧ (∃ (g2 : xk_St), g2 = va_up (va_up (va_up (va_up g1 5 (upd (g1 5) 3 (qzJ_add_a3 (g1 5 3)))) 6 (qzJ_add_b (g1 5 3) (g1 6) (g1 0 5))) 7 (qzJ_add_c (g1 5 3) (g1 7) 1)) 8 (qzJ_add_d (g1 5 3) (g1 8) (g1 21 0)) ∧ (g3 = g2))) else (g3 = g0)) → (va_P G xk_cls (xk_wU ad ac g3) H) → (va_D A (xk_wU ad ac g3)) → (va_S A s.heap H locs) → W p l e xk_r1 s m args below meth c H locs 0 0 Q (F0 m 28 ls []) := by
    intro g3 H locs R1 hP hD hS
    exact hret g3 H locs 28 ls hP hS (by unfold relzU_disturb_2; exact ⟨g3, R1, rfl⟩) dzU_disturb_28
  refine lv_if_ne (pc := 4) (tgt := 28) hx hb dzU_disturb_4 (by decide) (fun h1 => ?_) (fun h1 => ?_)
  ·
    exact K1 g0 H locs (Eq.mpr (if_neg h1) rfl) hP hD hS
  ·
    refine lv_aload_n (pc := 7) hx hb dzU_disturb_7 rfl (lv_at hl 1 rfl) ?_
    refine lv_iconst (v := 1) (pc := 8) hx hb dzU_disturb_8 (by decide) ?_
    refine xk_putf (pc := 9) hx hb hts hown hK hP hD hS pfzU_181 21 rfl (xk_bn xk_b1) (xk_bf xk_b1) (Nat.le_of_ble_eq_true rfl) dzU_disturb_9 (fun H locs hP hD hS => ?_)
    obtain ⟨g1, eg1⟩ : ∃ z : xk_St, z = va_up g0 21 (upd (g0 21) 3 1) := ⟨_, rfl⟩
    have hP : va_P G xk_cls (xk_wU ad ac g1) H := by rw [eg1]; exact hP
    have hD : va_D A (xk_wU ad ac g1) := by rw [eg1]; exact hD
    refine lv_aload_n (pc := 12) hx hb dzU_disturb_12 rfl (lv_at hl 0 rfl) ?_
    refine xk_get (pc := 13) hx hb hts hown hK hP ffzU_37 0 rfl rfl dzU_disturb_13 ?_
    refine lv_aload_n (pc := 16) hx hb dzU_disturb_16 rfl (lv_at hl 0 rfl) ?_
    refine xk_get (pc := 17) hx hb hts hown hK hP ffzU_41 0 rfl rfl dzU_disturb_17 ?_
    refine lv_iconst (v := 1) (pc := 20) hx hb dzU_disturb_20 (by decide) ?_
    refine lv_aload_n (pc := 21) hx hb dzU_disturb_21 rfl (lv_at hl 1 rfl) ?_
    refine xk_get (pc := 22) hx hb hts hown hK hP ffzU_204 21 rfl rfl dzU_disturb_22 ?_
    refine xk_callVV (As := [.int (g1 0 5), .int 1, .int (g1 21 0)]) (rest := []) (H0 := s.heap) (pc := 25) hx hb hml hts hown hK hA hP hD hS (kzJ_add l G ac (ad 5) (ad 6) (ad 7) (ad 8) (g1 5 3) (g1 6) (g1 7) (g1 8) (g1 0 5) 1 (g1 21 0)) vfzU_170 [5, 6, 7, 8] (by decide) rfl (fun _ => rfl) 5 rfl rfl ⟨rfl, rfl⟩ ⟨Nat.le_of_ble_eq_true rfl, Nat.le_of_ble_eq_true rfl⟩ rfl hl.1 rfl (Nat.le_of_ble_eq_true rfl) ⟨Nat.zero_le _, Nat.zero_le _⟩ dzU_disturb_25 (fun u9 H locs e9 hP hD hS => ?_)
    obtain ⟨g2, eg2⟩ : ∃ z : xk_St, z = va_up (va_up (va_up (va_up g1 5 (upd (g1 5) 3 (qzJ_add_a3 (g1 5 3)))) 6 (qzJ_add_b (g1 5 3) (g1 6) (g1 0 5))) 7 (qzJ_add_c (g1 5 3) (g1 7) 1)) 8 (qzJ_add_d (g1 5 3) (g1 8) (g1 21 0)) := ⟨_, rfl⟩
    have hP : va_P G xk_cls (xk_wU ad ac g2) H := by rw [eg2]; exact hP
    have hD : va_D A (xk_wU ad ac g2) := by rw [eg2]; exact hD
    exact K1 g2 H locs (Eq.mpr (if_pos h1) ⟨g1, eg1, ⟨g2, eg2, rfl⟩⟩) hP hD hS
theorem frzU_disturb_2 (g0 : xk_St) (gz : xk_St) : relzU_disturb_2 g0 gz → xk_eqv [0, 1, 2, 3, 4, 9, 10, 11, 12, 13, 14, 15, 16, 17, 18, 19, 20, 22, 23, 24, 25, 26, 27, 28, 29, 30, 31, 32, 33] g0 gz := by
  intro h
  unfold relzU_disturb_2 at h
  have s0 : xk_eqv [0, 1, 2, 3, 4, 9, 10, 11, 12, 13, 14, 15, 16, 17, 18, 19, 20, 22, 23, 24, 25, 26, 27, 28, 29, 30, 31, 32, 33] g0 g0 := xk_eqv_rf
  obtain ⟨g3, u1, v2⟩ := h
  have s3 : xk_eqv [0, 1, 2, 3, 4, 9, 10, 11, 12, 13, 14, 15, 16, 17, 18, 19, 20, 22, 23, 24, 25, 26, 27, 28, 29, 30, 31, 32, 33] g0 g3 := by
    by_cases hc : (g0 21 3) = 0
    · rw [if_pos hc] at u1
      obtain ⟨g1, u4, v5⟩ := u1
      have s6 : xk_eqv [0, 1, 2, 3, 4, 9, 10, 11, 12, 13, 14, 15, 16, 17, 18, 19, 20, 22, 23, 24, 25, 26, 27, 28, 29, 30, 31, 32, 33] g0 g1 := by rw [u4]; repeat (first | exact s0 | refine xk_eqv_up (by decide) ?_)
      obtain ⟨g2, u7, v8⟩ := v5
      have s9 : xk_eqv [0, 1, 2, 3, 4, 9, 10, 11, 12, 13, 14, 15, 16, 17, 18, 19, 20, 22, 23, 24, 25, 26, 27, 28, 29, 30, 31, 32, 33] g0 g2 := by rw [u7]; repeat (first | exact s6 | refine xk_eqv_up (by decide) ?_)
      rw [v8]; exact s9
    · rw [if_neg hc] at u1
      rw [u1]; exact s0
  rw [v2]; exact s3

def relzU_disturb_3 (g0 : xk_St) (gz : xk_St) : Prop := ∃ (g3 : xk_St), (if (g0 22 3) = 0 then (∃ (g1 : xk_St), g1 = va_up g0 22 (upd (g0 22) 3 1) ∧ (∃ (g2 : xk_St), g2 = va_up (va_up (va_up (va_up g1 5 (upd (g1 5) 3 (qzJ_add_a3 (g1 5 3)))) 6 (qzJ_add_b (g1 5 3) (g1 6) (g1 0 5))) 7 (qzJ_add_c (g1 5 3) (g1 7) 1)) 8 (qzJ_add_d (g1 5 3) (g1 8) (g1 22 0)) ∧ (g3 = g2))) else (g3 = g0)) ∧ (gz = g3)
set_option maxHeartbeats 4000000 in
set_option maxRecDepth 100000 in
theorem kzU_disturb_3 (l : Launch) (G : va_G) (ac : Nat → ClassId) (ad : Nat → Nat) (g0 : xk_St) : xk_CV l yzU_disturb czU_disturb 2 xk_WS xk_r1 G xk_cls (xk_tys ac) [.ref (ad 0), .ref (ad 22)] (xk_wU ad ac g0) (fun (gz : xk_St) => relzU_disturb_3 g0 gz) (fun gz => xk_wU ad ac gz) := by
  refine xk_ofV (by decide) (Nat.le_of_ble_eq_true rfl) ?_
  intro p e s m args below meth c A Q H locs ls C0 hret hP hD hS hl
  obtain ⟨hx, hb, hml, hts, hown, hK, hA⟩ := C0
  have hl : lv_has ls 2 [(0, .ref (ad 0)), (1, .ref (ad 22))] := hl
  refine lv_aload_n (pc := 0) hx hb dzU_disturb_0 rfl (lv_at hl 1 rfl) ?_
  refine xk_get (pc := 1) hx hb hts hown hK hP ffzU_181 22 rfl rfl dzU_disturb_1 ?_
  have K1 : ∀ (g3 : xk_St) (H : Heap) (locs : List Loc), (if (g0 22 3) = 0 then (∃ (g1 : xk_St), g1 = va_up g0 22 (upd (g0 22) 3 1) ∧ (∃ (g2 : xk_St), g2 = va_up (va_up (va_up (va_up g1 5 (upd (g1 5) 3 (qzJ_add_a3 (g1 5 3)))) 6 (qzJ_add_b (g1 5 3) (g1 6) (g1 0 5))) 7 (qzJ_add_c (g1 5 3) (g1 7) 1)) 8 (qzJ_add_d (g1 5 3) (g1 8) (g1 22 0)) ∧ (g3 = g2))) else (g3 = g0)) → (va_P G xk_cls (xk_wU ad ac g3) H) → (va_D A (xk_wU ad ac g3)) → (va_S A s.heap H locs) → W p l e xk_r1 s m args below meth c H locs 0 0 Q (F0 m 28 ls []) := by
    intro g3 H locs R1 hP hD hS
    exact hret g3 H locs 28 ls hP hS (by unfold relzU_disturb_3; exact ⟨g3, R1, rfl⟩) dzU_disturb_28
  refine lv_if_ne (pc := 4) (tgt := 28) hx hb dzU_disturb_4 (by decide) (fun h1 => ?_) (fun h1 => ?_)
  ·
    exact K1 g0 H locs (Eq.mpr (if_neg h1) rfl) hP hD hS
  ·
    refine lv_aload_n (pc := 7) hx hb dzU_disturb_7 rfl (lv_at hl 1 rfl) ?_
    refine lv_iconst (v := 1) (pc := 8) hx hb dzU_disturb_8 (by decide) ?_
    refine xk_putf (pc := 9) hx hb hts hown hK hP hD hS pfzU_181 22 rfl (xk_bn xk_b1) (xk_bf xk_b1) (Nat.le_of_ble_eq_true rfl) dzU_disturb_9 (fun H locs hP hD hS => ?_)
    obtain ⟨g1, eg1⟩ : ∃ z : xk_St, z = va_up g0 22 (upd (g0 22) 3 1) := ⟨_, rfl⟩
    have hP : va_P G xk_cls (xk_wU ad ac g1) H := by rw [eg1]; exact hP
    have hD : va_D A (xk_wU ad ac g1) := by rw [eg1]; exact hD
    refine lv_aload_n (pc := 12) hx hb dzU_disturb_12 rfl (lv_at hl 0 rfl) ?_
    refine xk_get (pc := 13) hx hb hts hown hK hP ffzU_37 0 rfl rfl dzU_disturb_13 ?_
    refine lv_aload_n (pc := 16) hx hb dzU_disturb_16 rfl (lv_at hl 0 rfl) ?_
    refine xk_get (pc := 17) hx hb hts hown hK hP ffzU_41 0 rfl rfl dzU_disturb_17 ?_
    refine lv_iconst (v := 1) (pc := 20) hx hb dzU_disturb_20 (by decide) ?_
    refine lv_aload_n (pc := 21) hx hb dzU_disturb_21 rfl (lv_at hl 1 rfl) ?_
    refine xk_get (pc := 22) hx hb hts hown hK hP ffzU_204 22 rfl rfl dzU_disturb_22 ?_
    refine xk_callVV (As := [.int (g1 0 5), .int 1, .int (g1 22 0)]) (rest := []) (H0 := s.heap) (pc := 25) hx hb hml hts hown hK hA hP hD hS (kzJ_add l G ac (ad 5) (ad 6) (ad 7) (ad 8) (g1 5 3) (g1 6) (g1 7) (g1 8) (g1 0 5) 1 (g1 22 0)) vfzU_170 [5, 6, 7, 8] (by decide) rfl (fun _ => rfl) 5 rfl rfl ⟨rfl, rfl⟩ ⟨Nat.le_of_ble_eq_true rfl, Nat.le_of_ble_eq_true rfl⟩ rfl hl.1 rfl (Nat.le_of_ble_eq_true rfl) ⟨Nat.zero_le _, Nat.zero_le _⟩ dzU_disturb_25 (fun u9 H locs e9 hP hD hS => ?_)
    obtain ⟨g2, eg2⟩ : ∃ z : xk_St, z = va_up (va_up (va_up (va_up g1 5 (upd (g1 5) 3 (qzJ_add_a3 (g1 5 3)))) 6 (qzJ_add_b (g1 5 3) (g1 6) (g1 0 5))) 7 (qzJ_add_c (g1 5 3) (g1 7) 1)) 8 (qzJ_add_d (g1 5 3) (g1 8) (g1 22 0)) := ⟨_, rfl⟩
    have hP : va_P G xk_cls (xk_wU ad ac g2) H := by rw [eg2]; exact hP
    have hD : va_D A (xk_wU ad ac g2) := by rw [eg2]; exact hD
    exact K1 g2 H locs (Eq.mpr (if_pos h1) ⟨g1, eg1, ⟨g2, eg2, rfl⟩⟩) hP hD hS
theorem frzU_disturb_3 (g0 : xk_St) (gz : xk_St) : relzU_disturb_3 g0 gz → xk_eqv [0, 1, 2, 3, 4, 9, 10, 11, 12, 13, 14, 15, 16, 17, 18, 19, 20, 21, 23, 24, 25, 26, 27, 28, 29, 30, 31, 32, 33] g0 gz := by
  intro h
  unfold relzU_disturb_3 at h
  have s0 : xk_eqv [0, 1, 2, 3, 4, 9, 10, 11, 12, 13, 14, 15, 16, 17, 18, 19, 20, 21, 23, 24, 25, 26, 27, 28, 29, 30, 31, 32, 33] g0 g0 := xk_eqv_rf
  obtain ⟨g3, u1, v2⟩ := h
  have s3 : xk_eqv [0, 1, 2, 3, 4, 9, 10, 11, 12, 13, 14, 15, 16, 17, 18, 19, 20, 21, 23, 24, 25, 26, 27, 28, 29, 30, 31, 32, 33] g0 g3 := by
    by_cases hc : (g0 22 3) = 0
    · rw [if_pos hc] at u1
      obtain ⟨g1, u4, v5⟩ := u1
      have s6 : xk_eqv [0, 1, 2, 3, 4, 9, 10, 11, 12, 13, 14, 15, 16, 17, 18, 19, 20, 21, 23, 24, 25, 26, 27, 28, 29, 30, 31, 32, 33] g0 g1 := by rw [u4]; repeat (first | exact s0 | refine xk_eqv_up (by decide) ?_)
      obtain ⟨g2, u7, v8⟩ := v5
      have s9 : xk_eqv [0, 1, 2, 3, 4, 9, 10, 11, 12, 13, 14, 15, 16, 17, 18, 19, 20, 21, 23, 24, 25, 26, 27, 28, 29, 30, 31, 32, 33] g0 g2 := by rw [u7]; repeat (first | exact s6 | refine xk_eqv_up (by decide) ?_)
      rw [v8]; exact s9
    · rw [if_neg hc] at u1
      rw [u1]; exact s0
  rw [v2]; exact s3

def relzU_disturb_4 (g0 : xk_St) (gz : xk_St) : Prop := ∃ (g3 : xk_St), (if (g0 23 3) = 0 then (∃ (g1 : xk_St), g1 = va_up g0 23 (upd (g0 23) 3 1) ∧ (∃ (g2 : xk_St), g2 = va_up (va_up (va_up (va_up g1 5 (upd (g1 5) 3 (qzJ_add_a3 (g1 5 3)))) 6 (qzJ_add_b (g1 5 3) (g1 6) (g1 0 5))) 7 (qzJ_add_c (g1 5 3) (g1 7) 1)) 8 (qzJ_add_d (g1 5 3) (g1 8) (g1 23 0)) ∧ (g3 = g2))) else (g3 = g0)) ∧ (gz = g3)
set_option maxHeartbeats 4000000 in
set_option maxRecDepth 100000 in
theorem kzU_disturb_4 (l : Launch) (G : va_G) (ac : Nat → ClassId) (ad : Nat → Nat) (g0 : xk_St) : xk_CV l yzU_disturb czU_disturb 2 xk_WS xk_r1 G xk_cls (xk_tys ac) [.ref (ad 0), .ref (ad 23)] (xk_wU ad ac g0) (fun (gz : xk_St) => relzU_disturb_4 g0 gz) (fun gz => xk_wU ad ac gz) := by
  refine xk_ofV (by decide) (Nat.le_of_ble_eq_true rfl) ?_
  intro p e s m args below meth c A Q H locs ls C0 hret hP hD hS hl
  obtain ⟨hx, hb, hml, hts, hown, hK, hA⟩ := C0
  have hl : lv_has ls 2 [(0, .ref (ad 0)), (1, .ref (ad 23))] := hl
  refine lv_aload_n (pc := 0) hx hb dzU_disturb_0 rfl (lv_at hl 1 rfl) ?_
  refine xk_get (pc := 1) hx hb hts hown hK hP ffzU_181 23 rfl rfl dzU_disturb_1 ?_
  have K1 : ∀ (g3 : xk_St) (H : Heap) (locs : List Loc), (if (g0 23 3) = 0 then (∃ (g1 : xk_St), g1 = va_up g0 23 (upd (g0 23) 3 1) ∧ (∃ (g2 : xk_St), g2 = va_up (va_up (va_up (va_up g1 5 (upd (g1 5) 3 (qzJ_add_a3 (g1 5 3)))) 6 (qzJ_add_b (g1 5 3) (g1 6) (g1 0 5))) 7 (qzJ_add_c (g1 5 3) (g1 7) 1)) 8 (qzJ_add_d (g1 5 3) (g1 8) (g1 23 0)) ∧ (g3 = g2))) else (g3 = g0)) → (va_P G xk_cls (xk_wU ad ac g3) H) → (va_D A (xk_wU ad ac g3)) → (va_S A s.heap H locs) → W p l e xk_r1 s m args below meth c H locs 0 0 Q (F0 m 28 ls []) := by
    intro g3 H locs R1 hP hD hS
    exact hret g3 H locs 28 ls hP hS (by unfold relzU_disturb_4; exact ⟨g3, R1, rfl⟩) dzU_disturb_28
  refine lv_if_ne (pc := 4) (tgt := 28) hx hb dzU_disturb_4 (by decide) (fun h1 => ?_) (fun h1 => ?_)
  ·
    exact K1 g0 H locs (Eq.mpr (if_neg h1) rfl) hP hD hS
  ·
    refine lv_aload_n (pc := 7) hx hb dzU_disturb_7 rfl (lv_at hl 1 rfl) ?_
    refine lv_iconst (v := 1) (pc := 8) hx hb dzU_disturb_8 (by decide) ?_
    refine xk_putf (pc := 9) hx hb hts hown hK hP hD hS pfzU_181 23 rfl (xk_bn xk_b1) (xk_bf xk_b1) (Nat.le_of_ble_eq_true rfl) dzU_disturb_9 (fun H locs hP hD hS => ?_)
    obtain ⟨g1, eg1⟩ : ∃ z : xk_St, z = va_up g0 23 (upd (g0 23) 3 1) := ⟨_, rfl⟩
    have hP : va_P G xk_cls (xk_wU ad ac g1) H := by rw [eg1]; exact hP
    have hD : va_D A (xk_wU ad ac g1) := by rw [eg1]; exact hD
    refine lv_aload_n (pc := 12) hx hb dzU_disturb_12 rfl (lv_at hl 0 rfl) ?_
    refine xk_get (pc := 13) hx hb hts hown hK hP ffzU_37 0 rfl rfl dzU_disturb_13 ?_
    refine lv_aload_n (pc := 16) hx hb dzU_disturb_16 rfl (lv_at hl 0 rfl) ?_
    refine xk_get (pc := 17) hx hb hts hown hK hP ffzU_41 0 rfl rfl dzU_disturb_17 ?_
    refine lv_iconst (v := 1) (pc := 20) hx hb dzU_disturb_20 (by decide) ?_
    refine lv_aload_n (pc := 21) hx hb dzU_disturb_21 rfl (lv_at hl 1 rfl) ?_
    refine xk_get (pc := 22) hx hb hts hown hK hP ffzU_204 23 rfl rfl dzU_disturb_22 ?_
    refine xk_callVV (As := [.int (g1 0 5), .int 1, .int (g1 23 0)]) (rest := []) (H0 := s.heap) (pc := 25) hx hb hml hts hown hK hA hP hD hS (kzJ_add l G ac (ad 5) (ad 6) (ad 7) (ad 8) (g1 5 3) (g1 6) (g1 7) (g1 8) (g1 0 5) 1 (g1 23 0)) vfzU_170 [5, 6, 7, 8] (by decide) rfl (fun _ => rfl) 5 rfl rfl ⟨rfl, rfl⟩ ⟨Nat.le_of_ble_eq_true rfl, Nat.le_of_ble_eq_true rfl⟩ rfl hl.1 rfl (Nat.le_of_ble_eq_true rfl) ⟨Nat.zero_le _, Nat.zero_le _⟩ dzU_disturb_25 (fun u9 H locs e9 hP hD hS => ?_)
    obtain ⟨g2, eg2⟩ : ∃ z : xk_St, z = va_up (va_up (va_up (va_up g1 5 (upd (g1 5) 3 (qzJ_add_a3 (g1 5 3)))) 6 (qzJ_add_b (g1 5 3) (g1 6) (g1 0 5))) 7 (qzJ_add_c (g1 5 3) (g1 7) 1)) 8 (qzJ_add_d (g1 5 3) (g1 8) (g1 23 0)) := ⟨_, rfl⟩
    have hP : va_P G xk_cls (xk_wU ad ac g2) H := by rw [eg2]; exact hP
    have hD : va_D A (xk_wU ad ac g2) := by rw [eg2]; exact hD
    exact K1 g2 H locs (Eq.mpr (if_pos h1) ⟨g1, eg1, ⟨g2, eg2, rfl⟩⟩) hP hD hS
theorem frzU_disturb_4 (g0 : xk_St) (gz : xk_St) : relzU_disturb_4 g0 gz → xk_eqv [0, 1, 2, 3, 4, 9, 10, 11, 12, 13, 14, 15, 16, 17, 18, 19, 20, 21, 22, 24, 25, 26, 27, 28, 29, 30, 31, 32, 33] g0 gz := by
  intro h
  unfold relzU_disturb_4 at h
  have s0 : xk_eqv [0, 1, 2, 3, 4, 9, 10, 11, 12, 13, 14, 15, 16, 17, 18, 19, 20, 21, 22, 24, 25, 26, 27, 28, 29, 30, 31, 32, 33] g0 g0 := xk_eqv_rf
  obtain ⟨g3, u1, v2⟩ := h
  have s3 : xk_eqv [0, 1, 2, 3, 4, 9, 10, 11, 12, 13, 14, 15, 16, 17, 18, 19, 20, 21, 22, 24, 25, 26, 27, 28, 29, 30, 31, 32, 33] g0 g3 := by
    by_cases hc : (g0 23 3) = 0
    · rw [if_pos hc] at u1
      obtain ⟨g1, u4, v5⟩ := u1
      have s6 : xk_eqv [0, 1, 2, 3, 4, 9, 10, 11, 12, 13, 14, 15, 16, 17, 18, 19, 20, 21, 22, 24, 25, 26, 27, 28, 29, 30, 31, 32, 33] g0 g1 := by rw [u4]; repeat (first | exact s0 | refine xk_eqv_up (by decide) ?_)
      obtain ⟨g2, u7, v8⟩ := v5
      have s9 : xk_eqv [0, 1, 2, 3, 4, 9, 10, 11, 12, 13, 14, 15, 16, 17, 18, 19, 20, 21, 22, 24, 25, 26, 27, 28, 29, 30, 31, 32, 33] g0 g2 := by rw [u7]; repeat (first | exact s6 | refine xk_eqv_up (by decide) ?_)
      rw [v8]; exact s9
    · rw [if_neg hc] at u1
      rw [u1]; exact s0
  rw [v2]; exact s3

def relzU_disturb_5 (g0 : xk_St) (gz : xk_St) : Prop := ∃ (g3 : xk_St), (if (g0 24 3) = 0 then (∃ (g1 : xk_St), g1 = va_up g0 24 (upd (g0 24) 3 1) ∧ (∃ (g2 : xk_St), g2 = va_up (va_up (va_up (va_up g1 5 (upd (g1 5) 3 (qzJ_add_a3 (g1 5 3)))) 6 (qzJ_add_b (g1 5 3) (g1 6) (g1 0 5))) 7 (qzJ_add_c (g1 5 3) (g1 7) 1)) 8 (qzJ_add_d (g1 5 3) (g1 8) (g1 24 0)) ∧ (g3 = g2))) else (g3 = g0)) ∧ (gz = g3)
set_option maxHeartbeats 4000000 in
set_option maxRecDepth 100000 in
theorem kzU_disturb_5 (l : Launch) (G : va_G) (ac : Nat → ClassId) (ad : Nat → Nat) (g0 : xk_St) : xk_CV l yzU_disturb czU_disturb 2 xk_WS xk_r1 G xk_cls (xk_tys ac) [.ref (ad 0), .ref (ad 24)] (xk_wU ad ac g0) (fun (gz : xk_St) => relzU_disturb_5 g0 gz) (fun gz => xk_wU ad ac gz) := by
  refine xk_ofV (by decide) (Nat.le_of_ble_eq_true rfl) ?_
  intro p e s m args below meth c A Q H locs ls C0 hret hP hD hS hl
  obtain ⟨hx, hb, hml, hts, hown, hK, hA⟩ := C0
  have hl : lv_has ls 2 [(0, .ref (ad 0)), (1, .ref (ad 24))] := hl
  refine lv_aload_n (pc := 0) hx hb dzU_disturb_0 rfl (lv_at hl 1 rfl) ?_
  refine xk_get (pc := 1) hx hb hts hown hK hP ffzU_181 24 rfl rfl dzU_disturb_1 ?_
  have K1 : ∀ (g3 : xk_St) (H : Heap) (locs : List Loc), (if (g0 24 3) = 0 then (∃ (g1 : xk_St), g1 = va_up g0 24 (upd (g0 24) 3 1) ∧ (∃ (g2 : xk_St), g2 = va_up (va_up (va_up (va_up g1 5 (upd (g1 5) 3 (qzJ_add_a3 (g1 5 3)))) 6 (qzJ_add_b (g1 5 3) (g1 6) (g1 0 5))) 7 (qzJ_add_c (g1 5 3) (g1 7) 1)) 8 (qzJ_add_d (g1 5 3) (g1 8) (g1 24 0)) ∧ (g3 = g2))) else (g3 = g0)) → (va_P G xk_cls (xk_wU ad ac g3) H) → (va_D A (xk_wU ad ac g3)) → (va_S A s.heap H locs) → W p l e xk_r1 s m args below meth c H locs 0 0 Q (F0 m 28 ls []) := by
    intro g3 H locs R1 hP hD hS
    exact hret g3 H locs 28 ls hP hS (by unfold relzU_disturb_5; exact ⟨g3, R1, rfl⟩) dzU_disturb_28
  refine lv_if_ne (pc := 4) (tgt := 28) hx hb dzU_disturb_4 (by decide) (fun h1 => ?_) (fun h1 => ?_)
  ·
    exact K1 g0 H locs (Eq.mpr (if_neg h1) rfl) hP hD hS
  ·
    refine lv_aload_n (pc := 7) hx hb dzU_disturb_7 rfl (lv_at hl 1 rfl) ?_
    refine lv_iconst (v := 1) (pc := 8) hx hb dzU_disturb_8 (by decide) ?_
    refine xk_putf (pc := 9) hx hb hts hown hK hP hD hS pfzU_181 24 rfl (xk_bn xk_b1) (xk_bf xk_b1) (Nat.le_of_ble_eq_true rfl) dzU_disturb_9 (fun H locs hP hD hS => ?_)
    obtain ⟨g1, eg1⟩ : ∃ z : xk_St, z = va_up g0 24 (upd (g0 24) 3 1) := ⟨_, rfl⟩
    have hP : va_P G xk_cls (xk_wU ad ac g1) H := by rw [eg1]; exact hP
    have hD : va_D A (xk_wU ad ac g1) := by rw [eg1]; exact hD
    refine lv_aload_n (pc := 12) hx hb dzU_disturb_12 rfl (lv_at hl 0 rfl) ?_
    refine xk_get (pc := 13) hx hb hts hown hK hP ffzU_37 0 rfl rfl dzU_disturb_13 ?_
    refine lv_aload_n (pc := 16) hx hb dzU_disturb_16 rfl (lv_at hl 0 rfl) ?_
    refine xk_get (pc := 17) hx hb hts hown hK hP ffzU_41 0 rfl rfl dzU_disturb_17 ?_
    refine lv_iconst (v := 1) (pc := 20) hx hb dzU_disturb_20 (by decide) ?_
    refine lv_aload_n (pc := 21) hx hb dzU_disturb_21 rfl (lv_at hl 1 rfl) ?_
    refine xk_get (pc := 22) hx hb hts hown hK hP ffzU_204 24 rfl rfl dzU_disturb_22 ?_
    refine xk_callVV (As := [.int (g1 0 5), .int 1, .int (g1 24 0)]) (rest := []) (H0 := s.heap) (pc := 25) hx hb hml hts hown hK hA hP hD hS (kzJ_add l G ac (ad 5) (ad 6) (ad 7) (ad 8) (g1 5 3) (g1 6) (g1 7) (g1 8) (g1 0 5) 1 (g1 24 0)) vfzU_170 [5, 6, 7, 8] (by decide) rfl (fun _ => rfl) 5 rfl rfl ⟨rfl, rfl⟩ ⟨Nat.le_of_ble_eq_true rfl, Nat.le_of_ble_eq_true rfl⟩ rfl hl.1 rfl (Nat.le_of_ble_eq_true rfl) ⟨Nat.zero_le _, Nat.zero_le _⟩ dzU_disturb_25 (fun u9 H locs e9 hP hD hS => ?_)
    obtain ⟨g2, eg2⟩ : ∃ z : xk_St, z = va_up (va_up (va_up (va_up g1 5 (upd (g1 5) 3 (qzJ_add_a3 (g1 5 3)))) 6 (qzJ_add_b (g1 5 3) (g1 6) (g1 0 5))) 7 (qzJ_add_c (g1 5 3) (g1 7) 1)) 8 (qzJ_add_d (g1 5 3) (g1 8) (g1 24 0)) := ⟨_, rfl⟩
    have hP : va_P G xk_cls (xk_wU ad ac g2) H := by rw [eg2]; exact hP
    have hD : va_D A (xk_wU ad ac g2) := by rw [eg2]; exact hD
    exact K1 g2 H locs (Eq.mpr (if_pos h1) ⟨g1, eg1, ⟨g2, eg2, rfl⟩⟩) hP hD hS
theorem frzU_disturb_5 (g0 : xk_St) (gz : xk_St) : relzU_disturb_5 g0 gz → xk_eqv [0, 1, 2, 3, 4, 9, 10, 11, 12, 13, 14, 15, 16, 17, 18, 19, 20, 21, 22, 23, 25, 26, 27, 28, 29, 30, 31, 32, 33] g0 gz := by
  intro h
  unfold relzU_disturb_5 at h
  have s0 : xk_eqv [0, 1, 2, 3, 4, 9, 10, 11, 12, 13, 14, 15, 16, 17, 18, 19, 20, 21, 22, 23, 25, 26, 27, 28, 29, 30, 31, 32, 33] g0 g0 := xk_eqv_rf
  obtain ⟨g3, u1, v2⟩ := h
  have s3 : xk_eqv [0, 1, 2, 3, 4, 9, 10, 11, 12, 13, 14, 15, 16, 17, 18, 19, 20, 21, 22, 23, 25, 26, 27, 28, 29, 30, 31, 32, 33] g0 g3 := by
    by_cases hc : (g0 24 3) = 0
    · rw [if_pos hc] at u1
      obtain ⟨g1, u4, v5⟩ := u1
      have s6 : xk_eqv [0, 1, 2, 3, 4, 9, 10, 11, 12, 13, 14, 15, 16, 17, 18, 19, 20, 21, 22, 23, 25, 26, 27, 28, 29, 30, 31, 32, 33] g0 g1 := by rw [u4]; repeat (first | exact s0 | refine xk_eqv_up (by decide) ?_)
      obtain ⟨g2, u7, v8⟩ := v5
      have s9 : xk_eqv [0, 1, 2, 3, 4, 9, 10, 11, 12, 13, 14, 15, 16, 17, 18, 19, 20, 21, 22, 23, 25, 26, 27, 28, 29, 30, 31, 32, 33] g0 g2 := by rw [u7]; repeat (first | exact s6 | refine xk_eqv_up (by decide) ?_)
      rw [v8]; exact s9
    · rw [if_neg hc] at u1
      rw [u1]; exact s0
  rw [v2]; exact s3

def relzU_rememberBalances (g0 : xk_St) (gz : xk_St) : Prop := ∃ (g1 : xk_St), g1 = va_up g0 19 (upd (g0 19) 2 (qzS_rememberBalance_a2 (g0 19 1))) ∧ (∃ (g2 : xk_St), g2 = va_up g1 20 (upd (g1 20) 2 (qzS_rememberBalance_a2 (g1 20 1))) ∧ (∃ (g3 : xk_St), g3 = va_up g2 21 (upd (g2 21) 2 (qzS_rememberBalance_a2 (g2 21 1))) ∧ (∃ (g4 : xk_St), g4 = va_up g3 22 (upd (g3 22) 2 (qzS_rememberBalance_a2 (g3 22 1))) ∧ (∃ (g5 : xk_St), g5 = va_up g4 23 (upd (g4 23) 2 (qzS_rememberBalance_a2 (g4 23 1))) ∧ (∃ (g6 : xk_St), g6 = va_up g5 24 (upd (g5 24) 2 (qzS_rememberBalance_a2 (g5 24 1))) ∧ (gz = g6))))))
set_option maxHeartbeats 4000000 in
set_option maxRecDepth 100000 in
theorem kzU_rememberBalances (l : Launch) (G : va_G) (ac : Nat → ClassId) (ad : Nat → Nat) (g0 : xk_St) : xk_CV l yzU_rememberBalances czU_rememberBalances 3 xk_WS xk_r1 G xk_cls (xk_tys ac) [.ref (ad 0)] (xk_wU ad ac g0) (fun (gz : xk_St) => relzU_rememberBalances g0 gz) (fun gz => xk_wU ad ac gz) := by
  refine xk_ofV (by decide) (Nat.le_of_ble_eq_true rfl) ?_
  intro p e s m args below meth c A Q H locs ls C0 hret hP hD hS hl
  obtain ⟨hx, hb, hml, hts, hown, hK, hA⟩ := C0
  have hl : lv_has ls 3 [(0, .ref (ad 0))] := hl
  refine lv_iconst (v := 0) (pc := 0) hx hb dzU_rememberBalances_0 (by decide) ?_
  refine lv_istore_n (lv' := [(1, .int 0), (0, .ref (ad 0))]) (pc := 1) hx hb dzU_rememberBalances_1 rfl hl (by decide) rfl (fun ls hl => ?_)
  refine lv_iload_n (pc := 2) hx hb dzU_rememberBalances_2 rfl (lv_at hl 0 rfl) ?_
  refine lv_iconst (v := 2) (pc := 3) hx hb dzU_rememberBalances_3 (by decide) ?_
  refine lv_icmp_ge (pc := 4) (tgt := 40) hx hb dzU_rememberBalances_4 (by decide) (fun hq9 => absurd hq9 (by decide)) (fun _ => ?_)
  refine lv_iconst (v := 0) (pc := 7) hx hb dzU_rememberBalances_7 (by decide) ?_
  refine lv_istore_n (lv' := [(2, .int 0), (1, .int 0), (0, .ref (ad 0))]) (pc := 8) hx hb dzU_rememberBalances_8 rfl hl (by decide) rfl (fun ls hl => ?_)
  refine lv_iload_n (pc := 9) hx hb dzU_rememberBalances_9 rfl (lv_at hl 0 rfl) ?_
  refine lv_iconst (v := 3) (pc := 10) hx hb dzU_rememberBalances_10 (by decide) ?_
  refine lv_icmp_ge (pc := 11) (tgt := 34) hx hb dzU_rememberBalances_11 (by decide) (fun hq9 => absurd hq9 (by decide)) (fun _ => ?_)
  refine lv_aload_n (pc := 14) hx hb dzU_rememberBalances_14 rfl (lv_at hl 2 rfl) ?_
  refine xk_get (pc := 15) hx hb hts hown hK hP ffzU_11 0 rfl rfl dzU_rememberBalances_15 ?_
  refine lv_iload_n (pc := 18) hx hb dzU_rememberBalances_18 rfl (lv_at hl 1 rfl) ?_
  refine xk_aald (q0 := 1) (t0 := 2) (j := 0) (b := (ad 9)) (pc := 19) hx hb hK hP rfl rfl (pk_in 0 2 (by decide)) (pk_cl 0) rfl dzU_rememberBalances_19 ?_
  refine xk_get (pc := 20) hx hb hts hown hK hP ffzU_158 9 rfl rfl dzU_rememberBalances_20 ?_
  refine lv_iload_n (pc := 23) hx hb dzU_rememberBalances_23 rfl (lv_at hl 0 rfl) ?_
  refine xk_aald (q0 := 11) (t0 := 3) (j := 0) (b := (ad 19)) (pc := 24) hx hb hK hP rfl rfl (pk_in 0 3 (by decide)) (pk_cl 0) rfl dzU_rememberBalances_24 ?_
  refine xk_callVV (As := []) (rest := []) (H0 := s.heap) (pc := 25) hx hb hml hts hown hK hA hP hD hS (kzS_rememberBalance l G ac (ad 19) (g0 19 0) (g0 19 1) (g0 19 2) (g0 19 3) (g0 19 4) (g0 19 5) (g0 19 6) (g0 19 7) (g0 19 8)) vfzU_278 [19] (by decide) rfl (fun _ => rfl) 19 rfl rfl ⟨rfl, rfl⟩ ⟨Nat.le_of_ble_eq_true rfl, Nat.le_of_ble_eq_true rfl⟩ rfl hl.1 rfl (Nat.le_of_ble_eq_true rfl) ⟨Nat.zero_le _, Nat.zero_le _⟩ dzU_rememberBalances_25 (fun u9 H locs e9 hP hD hS => ?_)
  obtain ⟨g1, eg1⟩ : ∃ z : xk_St, z = va_up g0 19 (upd (g0 19) 2 (qzS_rememberBalance_a2 (g0 19 1))) := ⟨_, rfl⟩
  have hP : va_P G xk_cls (xk_wU ad ac g1) H := by rw [eg1]; exact hP
  have hD : va_D A (xk_wU ad ac g1) := by rw [eg1]; exact hD
  refine lv_iinc (k := 0) (x := 0) (v := 1) (lv' := [(2, .int 1), (1, .int 0), (0, .ref (ad 0))]) (pc := 28) hx hb dzU_rememberBalances_28 hl rfl (by decide) (by decide) rfl (fun ls hl => ?_)
  refine lv_goto (tgt := 9) (pc := 31) hx hb dzU_rememberBalances_31 (by decide) ?_
  refine lv_iload_n (pc := 9) hx hb dzU_rememberBalances_9 rfl (lv_at hl 0 rfl) ?_
  refine lv_iconst (v := 3) (pc := 10) hx hb dzU_rememberBalances_10 (by decide) ?_
  refine lv_icmp_ge (pc := 11) (tgt := 34) hx hb dzU_rememberBalances_11 (by decide) (fun hq9 => absurd hq9 (by decide)) (fun _ => ?_)
  refine lv_aload_n (pc := 14) hx hb dzU_rememberBalances_14 rfl (lv_at hl 2 rfl) ?_
  refine xk_get (pc := 15) hx hb hts hown hK hP ffzU_11 0 rfl rfl dzU_rememberBalances_15 ?_
  refine lv_iload_n (pc := 18) hx hb dzU_rememberBalances_18 rfl (lv_at hl 1 rfl) ?_
  refine xk_aald (q0 := 1) (t0 := 2) (j := 0) (b := (ad 9)) (pc := 19) hx hb hK hP rfl rfl (pk_in 0 2 (by decide)) (pk_cl 0) rfl dzU_rememberBalances_19 ?_
  refine xk_get (pc := 20) hx hb hts hown hK hP ffzU_158 9 rfl rfl dzU_rememberBalances_20 ?_
  refine lv_iload_n (pc := 23) hx hb dzU_rememberBalances_23 rfl (lv_at hl 0 rfl) ?_
  refine xk_aald (q0 := 11) (t0 := 3) (j := 1) (b := (ad 20)) (pc := 24) hx hb hK hP rfl rfl (pk_in 1 3 (by decide)) (pk_cl 1) rfl dzU_rememberBalances_24 ?_
  refine xk_callVV (As := []) (rest := []) (H0 := s.heap) (pc := 25) hx hb hml hts hown hK hA hP hD hS (kzS_rememberBalance l G ac (ad 20) (g1 20 0) (g1 20 1) (g1 20 2) (g1 20 3) (g1 20 4) (g1 20 5) (g1 20 6) (g1 20 7) (g1 20 8)) vfzU_278 [20] (by decide) rfl (fun _ => rfl) 20 rfl rfl ⟨rfl, rfl⟩ ⟨Nat.le_of_ble_eq_true rfl, Nat.le_of_ble_eq_true rfl⟩ rfl hl.1 rfl (Nat.le_of_ble_eq_true rfl) ⟨Nat.zero_le _, Nat.zero_le _⟩ dzU_rememberBalances_25 (fun u9 H locs e9 hP hD hS => ?_)
  obtain ⟨g2, eg2⟩ : ∃ z : xk_St, z = va_up g1 20 (upd (g1 20) 2 (qzS_rememberBalance_a2 (g1 20 1))) := ⟨_, rfl⟩
  have hP : va_P G xk_cls (xk_wU ad ac g2) H := by rw [eg2]; exact hP
  have hD : va_D A (xk_wU ad ac g2) := by rw [eg2]; exact hD
  refine lv_iinc (k := 0) (x := 1) (v := 2) (lv' := [(2, .int 2), (1, .int 0), (0, .ref (ad 0))]) (pc := 28) hx hb dzU_rememberBalances_28 hl rfl (by decide) (by decide) rfl (fun ls hl => ?_)
  refine lv_goto (tgt := 9) (pc := 31) hx hb dzU_rememberBalances_31 (by decide) ?_
  refine lv_iload_n (pc := 9) hx hb dzU_rememberBalances_9 rfl (lv_at hl 0 rfl) ?_
  refine lv_iconst (v := 3) (pc := 10) hx hb dzU_rememberBalances_10 (by decide) ?_
  refine lv_icmp_ge (pc := 11) (tgt := 34) hx hb dzU_rememberBalances_11 (by decide) (fun hq9 => absurd hq9 (by decide)) (fun _ => ?_)
  refine lv_aload_n (pc := 14) hx hb dzU_rememberBalances_14 rfl (lv_at hl 2 rfl) ?_
  refine xk_get (pc := 15) hx hb hts hown hK hP ffzU_11 0 rfl rfl dzU_rememberBalances_15 ?_
  refine lv_iload_n (pc := 18) hx hb dzU_rememberBalances_18 rfl (lv_at hl 1 rfl) ?_
  refine xk_aald (q0 := 1) (t0 := 2) (j := 0) (b := (ad 9)) (pc := 19) hx hb hK hP rfl rfl (pk_in 0 2 (by decide)) (pk_cl 0) rfl dzU_rememberBalances_19 ?_
  refine xk_get (pc := 20) hx hb hts hown hK hP ffzU_158 9 rfl rfl dzU_rememberBalances_20 ?_
  refine lv_iload_n (pc := 23) hx hb dzU_rememberBalances_23 rfl (lv_at hl 0 rfl) ?_
  refine xk_aald (q0 := 11) (t0 := 3) (j := 2) (b := (ad 21)) (pc := 24) hx hb hK hP rfl rfl (pk_in 2 3 (by decide)) (pk_cl 2) rfl dzU_rememberBalances_24 ?_
  refine xk_callVV (As := []) (rest := []) (H0 := s.heap) (pc := 25) hx hb hml hts hown hK hA hP hD hS (kzS_rememberBalance l G ac (ad 21) (g2 21 0) (g2 21 1) (g2 21 2) (g2 21 3) (g2 21 4) (g2 21 5) (g2 21 6) (g2 21 7) (g2 21 8)) vfzU_278 [21] (by decide) rfl (fun _ => rfl) 21 rfl rfl ⟨rfl, rfl⟩ ⟨Nat.le_of_ble_eq_true rfl, Nat.le_of_ble_eq_true rfl⟩ rfl hl.1 rfl (Nat.le_of_ble_eq_true rfl) ⟨Nat.zero_le _, Nat.zero_le _⟩ dzU_rememberBalances_25 (fun u9 H locs e9 hP hD hS => ?_)
  obtain ⟨g3, eg3⟩ : ∃ z : xk_St, z = va_up g2 21 (upd (g2 21) 2 (qzS_rememberBalance_a2 (g2 21 1))) := ⟨_, rfl⟩
  have hP : va_P G xk_cls (xk_wU ad ac g3) H := by rw [eg3]; exact hP
  have hD : va_D A (xk_wU ad ac g3) := by rw [eg3]; exact hD
  refine lv_iinc (k := 0) (x := 2) (v := 3) (lv' := [(2, .int 3), (1, .int 0), (0, .ref (ad 0))]) (pc := 28) hx hb dzU_rememberBalances_28 hl rfl (by decide) (by decide) rfl (fun ls hl => ?_)
  refine lv_goto (tgt := 9) (pc := 31) hx hb dzU_rememberBalances_31 (by decide) ?_
  refine lv_iload_n (pc := 9) hx hb dzU_rememberBalances_9 rfl (lv_at hl 0 rfl) ?_
  refine lv_iconst (v := 3) (pc := 10) hx hb dzU_rememberBalances_10 (by decide) ?_
  refine lv_icmp_ge (pc := 11) (tgt := 34) hx hb dzU_rememberBalances_11 (by decide) (fun _ => ?_) (fun hq9 => absurd (by decide) hq9)
  refine lv_iinc (k := 1) (x := 0) (v := 1) (lv' := [(1, .int 1), (2, .int 3), (0, .ref (ad 0))]) (pc := 34) hx hb dzU_rememberBalances_34 hl rfl (by decide) (by decide) rfl (fun ls hl => ?_)
  refine lv_goto (tgt := 2) (pc := 37) hx hb dzU_rememberBalances_37 (by decide) ?_
  refine lv_iload_n (pc := 2) hx hb dzU_rememberBalances_2 rfl (lv_at hl 0 rfl) ?_
  refine lv_iconst (v := 2) (pc := 3) hx hb dzU_rememberBalances_3 (by decide) ?_
  refine lv_icmp_ge (pc := 4) (tgt := 40) hx hb dzU_rememberBalances_4 (by decide) (fun hq9 => absurd hq9 (by decide)) (fun _ => ?_)
  refine lv_iconst (v := 0) (pc := 7) hx hb dzU_rememberBalances_7 (by decide) ?_
  refine lv_istore_n (lv' := [(2, .int 0), (1, .int 1), (0, .ref (ad 0))]) (pc := 8) hx hb dzU_rememberBalances_8 rfl hl (by decide) rfl (fun ls hl => ?_)
  refine lv_iload_n (pc := 9) hx hb dzU_rememberBalances_9 rfl (lv_at hl 0 rfl) ?_
  refine lv_iconst (v := 3) (pc := 10) hx hb dzU_rememberBalances_10 (by decide) ?_
  refine lv_icmp_ge (pc := 11) (tgt := 34) hx hb dzU_rememberBalances_11 (by decide) (fun hq9 => absurd hq9 (by decide)) (fun _ => ?_)
  refine lv_aload_n (pc := 14) hx hb dzU_rememberBalances_14 rfl (lv_at hl 2 rfl) ?_
  refine xk_get (pc := 15) hx hb hts hown hK hP ffzU_11 0 rfl rfl dzU_rememberBalances_15 ?_
  refine lv_iload_n (pc := 18) hx hb dzU_rememberBalances_18 rfl (lv_at hl 1 rfl) ?_
  refine xk_aald (q0 := 1) (t0 := 2) (j := 1) (b := (ad 10)) (pc := 19) hx hb hK hP rfl rfl (pk_in 1 2 (by decide)) (pk_cl 1) rfl dzU_rememberBalances_19 ?_
  refine xk_get (pc := 20) hx hb hts hown hK hP ffzU_158 10 rfl rfl dzU_rememberBalances_20 ?_
  refine lv_iload_n (pc := 23) hx hb dzU_rememberBalances_23 rfl (lv_at hl 0 rfl) ?_
  refine xk_aald (q0 := 12) (t0 := 3) (j := 0) (b := (ad 22)) (pc := 24) hx hb hK hP rfl rfl (pk_in 0 3 (by decide)) (pk_cl 0) rfl dzU_rememberBalances_24 ?_
  refine xk_callVV (As := []) (rest := []) (H0 := s.heap) (pc := 25) hx hb hml hts hown hK hA hP hD hS (kzS_rememberBalance l G ac (ad 22) (g3 22 0) (g3 22 1) (g3 22 2) (g3 22 3) (g3 22 4) (g3 22 5) (g3 22 6) (g3 22 7) (g3 22 8)) vfzU_278 [22] (by decide) rfl (fun _ => rfl) 22 rfl rfl ⟨rfl, rfl⟩ ⟨Nat.le_of_ble_eq_true rfl, Nat.le_of_ble_eq_true rfl⟩ rfl hl.1 rfl (Nat.le_of_ble_eq_true rfl) ⟨Nat.zero_le _, Nat.zero_le _⟩ dzU_rememberBalances_25 (fun u9 H locs e9 hP hD hS => ?_)
  obtain ⟨g4, eg4⟩ : ∃ z : xk_St, z = va_up g3 22 (upd (g3 22) 2 (qzS_rememberBalance_a2 (g3 22 1))) := ⟨_, rfl⟩
  have hP : va_P G xk_cls (xk_wU ad ac g4) H := by rw [eg4]; exact hP
  have hD : va_D A (xk_wU ad ac g4) := by rw [eg4]; exact hD
  refine lv_iinc (k := 0) (x := 0) (v := 1) (lv' := [(2, .int 1), (1, .int 1), (0, .ref (ad 0))]) (pc := 28) hx hb dzU_rememberBalances_28 hl rfl (by decide) (by decide) rfl (fun ls hl => ?_)
  refine lv_goto (tgt := 9) (pc := 31) hx hb dzU_rememberBalances_31 (by decide) ?_
  refine lv_iload_n (pc := 9) hx hb dzU_rememberBalances_9 rfl (lv_at hl 0 rfl) ?_
  refine lv_iconst (v := 3) (pc := 10) hx hb dzU_rememberBalances_10 (by decide) ?_
  refine lv_icmp_ge (pc := 11) (tgt := 34) hx hb dzU_rememberBalances_11 (by decide) (fun hq9 => absurd hq9 (by decide)) (fun _ => ?_)
  refine lv_aload_n (pc := 14) hx hb dzU_rememberBalances_14 rfl (lv_at hl 2 rfl) ?_
  refine xk_get (pc := 15) hx hb hts hown hK hP ffzU_11 0 rfl rfl dzU_rememberBalances_15 ?_
  refine lv_iload_n (pc := 18) hx hb dzU_rememberBalances_18 rfl (lv_at hl 1 rfl) ?_
  refine xk_aald (q0 := 1) (t0 := 2) (j := 1) (b := (ad 10)) (pc := 19) hx hb hK hP rfl rfl (pk_in 1 2 (by decide)) (pk_cl 1) rfl dzU_rememberBalances_19 ?_
  refine xk_get (pc := 20) hx hb hts hown hK hP ffzU_158 10 rfl rfl dzU_rememberBalances_20 ?_
  refine lv_iload_n (pc := 23) hx hb dzU_rememberBalances_23 rfl (lv_at hl 0 rfl) ?_
  refine xk_aald (q0 := 12) (t0 := 3) (j := 1) (b := (ad 23)) (pc := 24) hx hb hK hP rfl rfl (pk_in 1 3 (by decide)) (pk_cl 1) rfl dzU_rememberBalances_24 ?_
  refine xk_callVV (As := []) (rest := []) (H0 := s.heap) (pc := 25) hx hb hml hts hown hK hA hP hD hS (kzS_rememberBalance l G ac (ad 23) (g4 23 0) (g4 23 1) (g4 23 2) (g4 23 3) (g4 23 4) (g4 23 5) (g4 23 6) (g4 23 7) (g4 23 8)) vfzU_278 [23] (by decide) rfl (fun _ => rfl) 23 rfl rfl ⟨rfl, rfl⟩ ⟨Nat.le_of_ble_eq_true rfl, Nat.le_of_ble_eq_true rfl⟩ rfl hl.1 rfl (Nat.le_of_ble_eq_true rfl) ⟨Nat.zero_le _, Nat.zero_le _⟩ dzU_rememberBalances_25 (fun u9 H locs e9 hP hD hS => ?_)
  obtain ⟨g5, eg5⟩ : ∃ z : xk_St, z = va_up g4 23 (upd (g4 23) 2 (qzS_rememberBalance_a2 (g4 23 1))) := ⟨_, rfl⟩
  have hP : va_P G xk_cls (xk_wU ad ac g5) H := by rw [eg5]; exact hP
  have hD : va_D A (xk_wU ad ac g5) := by rw [eg5]; exact hD
  refine lv_iinc (k := 0) (x := 1) (v := 2) (lv' := [(2, .int 2), (1, .int 1), (0, .ref (ad 0))]) (pc := 28) hx hb dzU_rememberBalances_28 hl rfl (by decide) (by decide) rfl (fun ls hl => ?_)
  refine lv_goto (tgt := 9) (pc := 31) hx hb dzU_rememberBalances_31 (by decide) ?_
  refine lv_iload_n (pc := 9) hx hb dzU_rememberBalances_9 rfl (lv_at hl 0 rfl) ?_
  refine lv_iconst (v := 3) (pc := 10) hx hb dzU_rememberBalances_10 (by decide) ?_
  refine lv_icmp_ge (pc := 11) (tgt := 34) hx hb dzU_rememberBalances_11 (by decide) (fun hq9 => absurd hq9 (by decide)) (fun _ => ?_)
  refine lv_aload_n (pc := 14) hx hb dzU_rememberBalances_14 rfl (lv_at hl 2 rfl) ?_
  refine xk_get (pc := 15) hx hb hts hown hK hP ffzU_11 0 rfl rfl dzU_rememberBalances_15 ?_
  refine lv_iload_n (pc := 18) hx hb dzU_rememberBalances_18 rfl (lv_at hl 1 rfl) ?_
  refine xk_aald (q0 := 1) (t0 := 2) (j := 1) (b := (ad 10)) (pc := 19) hx hb hK hP rfl rfl (pk_in 1 2 (by decide)) (pk_cl 1) rfl dzU_rememberBalances_19 ?_
  refine xk_get (pc := 20) hx hb hts hown hK hP ffzU_158 10 rfl rfl dzU_rememberBalances_20 ?_
  refine lv_iload_n (pc := 23) hx hb dzU_rememberBalances_23 rfl (lv_at hl 0 rfl) ?_
  refine xk_aald (q0 := 12) (t0 := 3) (j := 2) (b := (ad 24)) (pc := 24) hx hb hK hP rfl rfl (pk_in 2 3 (by decide)) (pk_cl 2) rfl dzU_rememberBalances_24 ?_
  refine xk_callVV (As := []) (rest := []) (H0 := s.heap) (pc := 25) hx hb hml hts hown hK hA hP hD hS (kzS_rememberBalance l G ac (ad 24) (g5 24 0) (g5 24 1) (g5 24 2) (g5 24 3) (g5 24 4) (g5 24 5) (g5 24 6) (g5 24 7) (g5 24 8)) vfzU_278 [24] (by decide) rfl (fun _ => rfl) 24 rfl rfl ⟨rfl, rfl⟩ ⟨Nat.le_of_ble_eq_true rfl, Nat.le_of_ble_eq_true rfl⟩ rfl hl.1 rfl (Nat.le_of_ble_eq_true rfl) ⟨Nat.zero_le _, Nat.zero_le _⟩ dzU_rememberBalances_25 (fun u9 H locs e9 hP hD hS => ?_)
  obtain ⟨g6, eg6⟩ : ∃ z : xk_St, z = va_up g5 24 (upd (g5 24) 2 (qzS_rememberBalance_a2 (g5 24 1))) := ⟨_, rfl⟩
  have hP : va_P G xk_cls (xk_wU ad ac g6) H := by rw [eg6]; exact hP
  have hD : va_D A (xk_wU ad ac g6) := by rw [eg6]; exact hD
  refine lv_iinc (k := 0) (x := 2) (v := 3) (lv' := [(2, .int 3), (1, .int 1), (0, .ref (ad 0))]) (pc := 28) hx hb dzU_rememberBalances_28 hl rfl (by decide) (by decide) rfl (fun ls hl => ?_)
  refine lv_goto (tgt := 9) (pc := 31) hx hb dzU_rememberBalances_31 (by decide) ?_
  refine lv_iload_n (pc := 9) hx hb dzU_rememberBalances_9 rfl (lv_at hl 0 rfl) ?_
  refine lv_iconst (v := 3) (pc := 10) hx hb dzU_rememberBalances_10 (by decide) ?_
  refine lv_icmp_ge (pc := 11) (tgt := 34) hx hb dzU_rememberBalances_11 (by decide) (fun _ => ?_) (fun hq9 => absurd (by decide) hq9)
  refine lv_iinc (k := 1) (x := 1) (v := 2) (lv' := [(1, .int 2), (2, .int 3), (0, .ref (ad 0))]) (pc := 34) hx hb dzU_rememberBalances_34 hl rfl (by decide) (by decide) rfl (fun ls hl => ?_)
  refine lv_goto (tgt := 2) (pc := 37) hx hb dzU_rememberBalances_37 (by decide) ?_
  refine lv_iload_n (pc := 2) hx hb dzU_rememberBalances_2 rfl (lv_at hl 0 rfl) ?_
  refine lv_iconst (v := 2) (pc := 3) hx hb dzU_rememberBalances_3 (by decide) ?_
  refine lv_icmp_ge (pc := 4) (tgt := 40) hx hb dzU_rememberBalances_4 (by decide) (fun _ => ?_) (fun hq9 => absurd (by decide) hq9)
  exact hret g6 H locs 40 ls hP hS (by unfold relzU_rememberBalances; exact ⟨g1, eg1, ⟨g2, eg2, ⟨g3, eg3, ⟨g4, eg4, ⟨g5, eg5, ⟨g6, eg6, rfl⟩⟩⟩⟩⟩⟩) dzU_rememberBalances_40
theorem frzU_rememberBalances (g0 : xk_St) (gz : xk_St) : relzU_rememberBalances g0 gz → xk_eqv [0, 1, 2, 3, 4, 5, 6, 7, 8, 9, 10, 11, 12, 13, 14, 15, 16, 17, 18, 25, 26, 27, 28, 29, 30, 31, 32, 33] g0 gz := by
  intro h
  unfold relzU_rememberBalances at h
  have s0 : xk_eqv [0, 1, 2, 3, 4, 5, 6, 7, 8, 9, 10, 11, 12, 13, 14, 15, 16, 17, 18, 25, 26, 27, 28, 29, 30, 31, 32, 33] g0 g0 := xk_eqv_rf
  obtain ⟨g1, u1, v2⟩ := h
  have s3 : xk_eqv [0, 1, 2, 3, 4, 5, 6, 7, 8, 9, 10, 11, 12, 13, 14, 15, 16, 17, 18, 25, 26, 27, 28, 29, 30, 31, 32, 33] g0 g1 := by rw [u1]; repeat (first | exact s0 | refine xk_eqv_up (by decide) ?_)
  obtain ⟨g2, u4, v5⟩ := v2
  have s6 : xk_eqv [0, 1, 2, 3, 4, 5, 6, 7, 8, 9, 10, 11, 12, 13, 14, 15, 16, 17, 18, 25, 26, 27, 28, 29, 30, 31, 32, 33] g0 g2 := by rw [u4]; repeat (first | exact s3 | refine xk_eqv_up (by decide) ?_)
  obtain ⟨g3, u7, v8⟩ := v5
  have s9 : xk_eqv [0, 1, 2, 3, 4, 5, 6, 7, 8, 9, 10, 11, 12, 13, 14, 15, 16, 17, 18, 25, 26, 27, 28, 29, 30, 31, 32, 33] g0 g3 := by rw [u7]; repeat (first | exact s6 | refine xk_eqv_up (by decide) ?_)
  obtain ⟨g4, u10, v11⟩ := v8
  have s12 : xk_eqv [0, 1, 2, 3, 4, 5, 6, 7, 8, 9, 10, 11, 12, 13, 14, 15, 16, 17, 18, 25, 26, 27, 28, 29, 30, 31, 32, 33] g0 g4 := by rw [u10]; repeat (first | exact s9 | refine xk_eqv_up (by decide) ?_)
  obtain ⟨g5, u13, v14⟩ := v11
  have s15 : xk_eqv [0, 1, 2, 3, 4, 5, 6, 7, 8, 9, 10, 11, 12, 13, 14, 15, 16, 17, 18, 25, 26, 27, 28, 29, 30, 31, 32, 33] g0 g5 := by rw [u13]; repeat (first | exact s12 | refine xk_eqv_up (by decide) ?_)
  obtain ⟨g6, u16, v17⟩ := v14
  have s18 : xk_eqv [0, 1, 2, 3, 4, 5, 6, 7, 8, 9, 10, 11, 12, 13, 14, 15, 16, 17, 18, 25, 26, 27, 28, 29, 30, 31, 32, 33] g0 g6 := by rw [u16]; repeat (first | exact s15 | refine xk_eqv_up (by decide) ?_)
  rw [v17]; exact s18

def relzU_disturbIfMiscounted_0 (g0 : xk_St) (gz : xk_St) : Prop := ∃ (g3 : xk_St), (if (g0 19 1) < 0 then (∃ (g1 : xk_St), relzU_disturb_0 g0 g1 ∧ (g3 = g1)) else (if (g0 19 1) ≤ 400 then (g3 = g0) else (∃ (g2 : xk_St), relzU_disturb_0 g0 g2 ∧ (g3 = g2)))) ∧ (gz = g3)
set_option maxHeartbeats 4000000 in
set_option maxRecDepth 100000 in
theorem kzU_disturbIfMiscounted_0 (l : Launch) (G : va_G) (ac : Nat → ClassId) (ad : Nat → Nat) (g0 : xk_St) : xk_CV l yzU_disturbIfMiscounted czU_disturbIfMiscounted 2 xk_WS xk_r2 G xk_cls (xk_tys ac) [.ref (ad 0), .ref (ad 19)] (xk_wU ad ac g0) (fun (gz : xk_St) => relzU_disturbIfMiscounted_0 g0 gz) (fun gz => xk_wU ad ac gz) := by
  refine xk_ofV (by decide) (Nat.le_of_ble_eq_true rfl) ?_
  intro p e s m args below meth c A Q H locs ls C0 hret hP hD hS hl
  obtain ⟨hx, hb, hml, hts, hown, hK, hA⟩ := C0
  have hl : lv_has ls 2 [(0, .ref (ad 0)), (1, .ref (ad 19))] := hl
  refine lv_aload_n (pc := 0) hx hb dzU_disturbIfMiscounted_0 rfl (lv_at hl 1 rfl) ?_
  refine xk_get (pc := 1) hx hb hts hown hK hP ffzU_207 19 rfl rfl dzU_disturbIfMiscounted_1 ?_
  have K1 : ∀ (g3 : xk_St) (H : Heap) (locs : List Loc), (if (g0 19 1) < 0 then (∃ (g1 : xk_St), relzU_disturb_0 g0 g1 ∧ (g3 = g1)) else (if (g0 19 1) ≤ 400 then (g3 = g0) else (∃ (g2 : xk_St), relzU_disturb_0 g0 g2 ∧ (g3 = g2)))) → (va_P G xk_cls (xk_wU ad ac g3) H) → (va_D A (xk_wU ad ac g3)) → (va_S A s.heap H locs) → W p l e xk_r2 s m args below meth c H locs 0 0 Q (F0 m 22 ls []) := by
    intro g3 H locs R1 hP hD hS
    exact hret g3 H locs 22 ls hP hS (by unfold relzU_disturbIfMiscounted_0; exact ⟨g3, R1, rfl⟩) dzU_disturbIfMiscounted_22
  refine lv_if_lt (pc := 4) (tgt := 17) hx hb dzU_disturbIfMiscounted_4 (by decide) (fun h1 => ?_) (fun h1 => ?_)
  ·
    refine lv_aload_n (pc := 17) hx hb dzU_disturbIfMiscounted_17 rfl (lv_at hl 0 rfl) ?_
    refine lv_aload_n (pc := 18) hx hb dzU_disturbIfMiscounted_18 rfl (lv_at hl 1 rfl) ?_
    refine xk_allVV (As := [.ref (ad 19)]) (rest := []) (H0 := s.heap) (pc := 19) hx hb hml hts hown hK hA hP hD hS (kzU_disturb_0 l G ac ad g0) vfzU_274 (fun _ => rfl) 0 rfl rfl ⟨rfl, rfl⟩ ⟨Nat.le_of_ble_eq_true rfl, Nat.le_of_ble_eq_true rfl⟩ rfl hl.1 rfl (Nat.le_of_ble_eq_true rfl) ⟨Nat.zero_le _, Nat.zero_le _⟩ dzU_disturbIfMiscounted_19 (fun g1 H locs hg1 hP hD hS => ?_)
    have hP : va_P G xk_cls (xk_wU ad ac g1) H := hP
    have hD : va_D A (xk_wU ad ac g1) := hD
    exact K1 g1 H locs (Eq.mpr (if_pos h1) ⟨g1, hg1, rfl⟩) hP hD hS
  ·
    refine lv_aload_n (pc := 7) hx hb dzU_disturbIfMiscounted_7 rfl (lv_at hl 1 rfl) ?_
    refine xk_get (pc := 8) hx hb hts hown hK hP ffzU_207 19 rfl rfl dzU_disturbIfMiscounted_8 ?_
    refine lv_sipush (v := 400) (pc := 11) hx hb dzU_disturbIfMiscounted_11 (by decide) ?_
    refine lv_icmp_le (pc := 14) (tgt := 22) hx hb dzU_disturbIfMiscounted_14 (by decide) (fun h2 => ?_) (fun h2 => ?_)
    ·
      exact K1 g0 H locs (Eq.mpr (if_neg h1) (Eq.mpr (if_pos h2) rfl)) hP hD hS
    ·
      refine lv_aload_n (pc := 17) hx hb dzU_disturbIfMiscounted_17 rfl (lv_at hl 0 rfl) ?_
      refine lv_aload_n (pc := 18) hx hb dzU_disturbIfMiscounted_18 rfl (lv_at hl 1 rfl) ?_
      refine xk_allVV (As := [.ref (ad 19)]) (rest := []) (H0 := s.heap) (pc := 19) hx hb hml hts hown hK hA hP hD hS (kzU_disturb_0 l G ac ad g0) vfzU_274 (fun _ => rfl) 0 rfl rfl ⟨rfl, rfl⟩ ⟨Nat.le_of_ble_eq_true rfl, Nat.le_of_ble_eq_true rfl⟩ rfl hl.1 rfl (Nat.le_of_ble_eq_true rfl) ⟨Nat.zero_le _, Nat.zero_le _⟩ dzU_disturbIfMiscounted_19 (fun g2 H locs hg2 hP hD hS => ?_)
      have hP : va_P G xk_cls (xk_wU ad ac g2) H := hP
      have hD : va_D A (xk_wU ad ac g2) := hD
      exact K1 g2 H locs (Eq.mpr (if_neg h1) (Eq.mpr (if_neg h2) ⟨g2, hg2, rfl⟩)) hP hD hS
theorem frzU_disturbIfMiscounted_0 (g0 : xk_St) (gz : xk_St) : relzU_disturbIfMiscounted_0 g0 gz → xk_eqv [0, 1, 2, 3, 4, 9, 10, 11, 12, 13, 14, 15, 16, 17, 18, 20, 21, 22, 23, 24, 25, 26, 27, 28, 29, 30, 31, 32, 33] g0 gz := by
  intro h
  unfold relzU_disturbIfMiscounted_0 at h
  have s0 : xk_eqv [0, 1, 2, 3, 4, 9, 10, 11, 12, 13, 14, 15, 16, 17, 18, 20, 21, 22, 23, 24, 25, 26, 27, 28, 29, 30, 31, 32, 33] g0 g0 := xk_eqv_rf
  obtain ⟨g3, u1, v2⟩ := h
  have s3 : xk_eqv [0, 1, 2, 3, 4, 9, 10, 11, 12, 13, 14, 15, 16, 17, 18, 20, 21, 22, 23, 24, 25, 26, 27, 28, 29, 30, 31, 32, 33] g0 g3 := by
    by_cases hc : (g0 19 1) < 0
    · rw [if_pos hc] at u1
      obtain ⟨g1, u4, v5⟩ := u1
      have s6 : xk_eqv [0, 1, 2, 3, 4, 9, 10, 11, 12, 13, 14, 15, 16, 17, 18, 20, 21, 22, 23, 24, 25, 26, 27, 28, 29, 30, 31, 32, 33] g0 g1 := xk_eqv_tr s0 (xk_eqv_sub (frzU_disturb_0 _ _ u4) (by decide))
      rw [v5]; exact s6
    · rw [if_neg hc] at u1
      by_cases hc : (g0 19 1) ≤ 400
      · rw [if_pos hc] at u1
        rw [u1]; exact s0
      · rw [if_neg hc] at u1
        obtain ⟨g2, u7, v8⟩ := u1
        have s9 : xk_eqv [0, 1, 2, 3, 4, 9, 10, 11, 12, 13, 14, 15, 16, 17, 18, 20, 21, 22, 23, 24, 25, 26, 27, 28, 29, 30, 31, 32, 33] g0 g2 := xk_eqv_tr s0 (xk_eqv_sub (frzU_disturb_0 _ _ u7) (by decide))
        rw [v8]; exact s9
  rw [v2]; exact s3

def relzU_disturbIfMiscounted_1 (g0 : xk_St) (gz : xk_St) : Prop := ∃ (g3 : xk_St), (if (g0 20 1) < 0 then (∃ (g1 : xk_St), relzU_disturb_1 g0 g1 ∧ (g3 = g1)) else (if (g0 20 1) ≤ 400 then (g3 = g0) else (∃ (g2 : xk_St), relzU_disturb_1 g0 g2 ∧ (g3 = g2)))) ∧ (gz = g3)
set_option maxHeartbeats 4000000 in
set_option maxRecDepth 100000 in
theorem kzU_disturbIfMiscounted_1 (l : Launch) (G : va_G) (ac : Nat → ClassId) (ad : Nat → Nat) (g0 : xk_St) : xk_CV l yzU_disturbIfMiscounted czU_disturbIfMiscounted 2 xk_WS xk_r2 G xk_cls (xk_tys ac) [.ref (ad 0), .ref (ad 20)] (xk_wU ad ac g0) (fun (gz : xk_St) => relzU_disturbIfMiscounted_1 g0 gz) (fun gz => xk_wU ad ac gz) := by
  refine xk_ofV (by decide) (Nat.le_of_ble_eq_true rfl) ?_
  intro p e s m args below meth c A Q H locs ls C0 hret hP hD hS hl
  obtain ⟨hx, hb, hml, hts, hown, hK, hA⟩ := C0
  have hl : lv_has ls 2 [(0, .ref (ad 0)), (1, .ref (ad 20))] := hl
  refine lv_aload_n (pc := 0) hx hb dzU_disturbIfMiscounted_0 rfl (lv_at hl 1 rfl) ?_
  refine xk_get (pc := 1) hx hb hts hown hK hP ffzU_207 20 rfl rfl dzU_disturbIfMiscounted_1 ?_
  have K1 : ∀ (g3 : xk_St) (H : Heap) (locs : List Loc), (if (g0 20 1) < 0 then (∃ (g1 : xk_St), relzU_disturb_1 g0 g1 ∧ (g3 = g1)) else (if (g0 20 1) ≤ 400 then (g3 = g0) else (∃ (g2 : xk_St), relzU_disturb_1 g0 g2 ∧ (g3 = g2)))) → (va_P G xk_cls (xk_wU ad ac g3) H) → (va_D A (xk_wU ad ac g3)) → (va_S A s.heap H locs) → W p l e xk_r2 s m args below meth c H locs 0 0 Q (F0 m 22 ls []) := by
    intro g3 H locs R1 hP hD hS
    exact hret g3 H locs 22 ls hP hS (by unfold relzU_disturbIfMiscounted_1; exact ⟨g3, R1, rfl⟩) dzU_disturbIfMiscounted_22
  refine lv_if_lt (pc := 4) (tgt := 17) hx hb dzU_disturbIfMiscounted_4 (by decide) (fun h1 => ?_) (fun h1 => ?_)
  ·
    refine lv_aload_n (pc := 17) hx hb dzU_disturbIfMiscounted_17 rfl (lv_at hl 0 rfl) ?_
    refine lv_aload_n (pc := 18) hx hb dzU_disturbIfMiscounted_18 rfl (lv_at hl 1 rfl) ?_
    refine xk_allVV (As := [.ref (ad 20)]) (rest := []) (H0 := s.heap) (pc := 19) hx hb hml hts hown hK hA hP hD hS (kzU_disturb_1 l G ac ad g0) vfzU_274 (fun _ => rfl) 0 rfl rfl ⟨rfl, rfl⟩ ⟨Nat.le_of_ble_eq_true rfl, Nat.le_of_ble_eq_true rfl⟩ rfl hl.1 rfl (Nat.le_of_ble_eq_true rfl) ⟨Nat.zero_le _, Nat.zero_le _⟩ dzU_disturbIfMiscounted_19 (fun g1 H locs hg1 hP hD hS => ?_)
    have hP : va_P G xk_cls (xk_wU ad ac g1) H := hP
    have hD : va_D A (xk_wU ad ac g1) := hD
    exact K1 g1 H locs (Eq.mpr (if_pos h1) ⟨g1, hg1, rfl⟩) hP hD hS
  ·
    refine lv_aload_n (pc := 7) hx hb dzU_disturbIfMiscounted_7 rfl (lv_at hl 1 rfl) ?_
    refine xk_get (pc := 8) hx hb hts hown hK hP ffzU_207 20 rfl rfl dzU_disturbIfMiscounted_8 ?_
    refine lv_sipush (v := 400) (pc := 11) hx hb dzU_disturbIfMiscounted_11 (by decide) ?_
    refine lv_icmp_le (pc := 14) (tgt := 22) hx hb dzU_disturbIfMiscounted_14 (by decide) (fun h2 => ?_) (fun h2 => ?_)
    ·
      exact K1 g0 H locs (Eq.mpr (if_neg h1) (Eq.mpr (if_pos h2) rfl)) hP hD hS
    ·
      refine lv_aload_n (pc := 17) hx hb dzU_disturbIfMiscounted_17 rfl (lv_at hl 0 rfl) ?_
      refine lv_aload_n (pc := 18) hx hb dzU_disturbIfMiscounted_18 rfl (lv_at hl 1 rfl) ?_
      refine xk_allVV (As := [.ref (ad 20)]) (rest := []) (H0 := s.heap) (pc := 19) hx hb hml hts hown hK hA hP hD hS (kzU_disturb_1 l G ac ad g0) vfzU_274 (fun _ => rfl) 0 rfl rfl ⟨rfl, rfl⟩ ⟨Nat.le_of_ble_eq_true rfl, Nat.le_of_ble_eq_true rfl⟩ rfl hl.1 rfl (Nat.le_of_ble_eq_true rfl) ⟨Nat.zero_le _, Nat.zero_le _⟩ dzU_disturbIfMiscounted_19 (fun g2 H locs hg2 hP hD hS => ?_)
      have hP : va_P G xk_cls (xk_wU ad ac g2) H := hP
      have hD : va_D A (xk_wU ad ac g2) := hD
      exact K1 g2 H locs (Eq.mpr (if_neg h1) (Eq.mpr (if_neg h2) ⟨g2, hg2, rfl⟩)) hP hD hS
theorem frzU_disturbIfMiscounted_1 (g0 : xk_St) (gz : xk_St) : relzU_disturbIfMiscounted_1 g0 gz → xk_eqv [0, 1, 2, 3, 4, 9, 10, 11, 12, 13, 14, 15, 16, 17, 18, 19, 21, 22, 23, 24, 25, 26, 27, 28, 29, 30, 31, 32, 33] g0 gz := by
  intro h
  unfold relzU_disturbIfMiscounted_1 at h
  have s0 : xk_eqv [0, 1, 2, 3, 4, 9, 10, 11, 12, 13, 14, 15, 16, 17, 18, 19, 21, 22, 23, 24, 25, 26, 27, 28, 29, 30, 31, 32, 33] g0 g0 := xk_eqv_rf
  obtain ⟨g3, u1, v2⟩ := h
  have s3 : xk_eqv [0, 1, 2, 3, 4, 9, 10, 11, 12, 13, 14, 15, 16, 17, 18, 19, 21, 22, 23, 24, 25, 26, 27, 28, 29, 30, 31, 32, 33] g0 g3 := by
    by_cases hc : (g0 20 1) < 0
    · rw [if_pos hc] at u1
      obtain ⟨g1, u4, v5⟩ := u1
      have s6 : xk_eqv [0, 1, 2, 3, 4, 9, 10, 11, 12, 13, 14, 15, 16, 17, 18, 19, 21, 22, 23, 24, 25, 26, 27, 28, 29, 30, 31, 32, 33] g0 g1 := xk_eqv_tr s0 (xk_eqv_sub (frzU_disturb_1 _ _ u4) (by decide))
      rw [v5]; exact s6
    · rw [if_neg hc] at u1
      by_cases hc : (g0 20 1) ≤ 400
      · rw [if_pos hc] at u1
        rw [u1]; exact s0
      · rw [if_neg hc] at u1
        obtain ⟨g2, u7, v8⟩ := u1
        have s9 : xk_eqv [0, 1, 2, 3, 4, 9, 10, 11, 12, 13, 14, 15, 16, 17, 18, 19, 21, 22, 23, 24, 25, 26, 27, 28, 29, 30, 31, 32, 33] g0 g2 := xk_eqv_tr s0 (xk_eqv_sub (frzU_disturb_1 _ _ u7) (by decide))
        rw [v8]; exact s9
  rw [v2]; exact s3

def relzU_disturbIfMiscounted_2 (g0 : xk_St) (gz : xk_St) : Prop := ∃ (g3 : xk_St), (if (g0 21 1) < 0 then (∃ (g1 : xk_St), relzU_disturb_2 g0 g1 ∧ (g3 = g1)) else (if (g0 21 1) ≤ 400 then (g3 = g0) else (∃ (g2 : xk_St), relzU_disturb_2 g0 g2 ∧ (g3 = g2)))) ∧ (gz = g3)
set_option maxHeartbeats 4000000 in
set_option maxRecDepth 100000 in
theorem kzU_disturbIfMiscounted_2 (l : Launch) (G : va_G) (ac : Nat → ClassId) (ad : Nat → Nat) (g0 : xk_St) : xk_CV l yzU_disturbIfMiscounted czU_disturbIfMiscounted 2 xk_WS xk_r2 G xk_cls (xk_tys ac) [.ref (ad 0), .ref (ad 21)] (xk_wU ad ac g0) (fun (gz : xk_St) => relzU_disturbIfMiscounted_2 g0 gz) (fun gz => xk_wU ad ac gz) := by
  refine xk_ofV (by decide) (Nat.le_of_ble_eq_true rfl) ?_
  intro p e s m args below meth c A Q H locs ls C0 hret hP hD hS hl
  obtain ⟨hx, hb, hml, hts, hown, hK, hA⟩ := C0
  have hl : lv_has ls 2 [(0, .ref (ad 0)), (1, .ref (ad 21))] := hl
  refine lv_aload_n (pc := 0) hx hb dzU_disturbIfMiscounted_0 rfl (lv_at hl 1 rfl) ?_
  refine xk_get (pc := 1) hx hb hts hown hK hP ffzU_207 21 rfl rfl dzU_disturbIfMiscounted_1 ?_
  have K1 : ∀ (g3 : xk_St) (H : Heap) (locs : List Loc), (if (g0 21 1) < 0 then (∃ (g1 : xk_St), relzU_disturb_2 g0 g1 ∧ (g3 = g1)) else (if (g0 21 1) ≤ 400 then (g3 = g0) else (∃ (g2 : xk_St), relzU_disturb_2 g0 g2 ∧ (g3 = g2)))) → (va_P G xk_cls (xk_wU ad ac g3) H) → (va_D A (xk_wU ad ac g3)) → (va_S A s.heap H locs) → W p l e xk_r2 s m args below meth c H locs 0 0 Q (F0 m 22 ls []) := by
    intro g3 H locs R1 hP hD hS
    exact hret g3 H locs 22 ls hP hS (by unfold relzU_disturbIfMiscounted_2; exact ⟨g3, R1, rfl⟩) dzU_disturbIfMiscounted_22
  refine lv_if_lt (pc := 4) (tgt := 17) hx hb dzU_disturbIfMiscounted_4 (by decide) (fun h1 => ?_) (fun h1 => ?_)
  ·
    refine lv_aload_n (pc := 17) hx hb dzU_disturbIfMiscounted_17 rfl (lv_at hl 0 rfl) ?_
    refine lv_aload_n (pc := 18) hx hb dzU_disturbIfMiscounted_18 rfl (lv_at hl 1 rfl) ?_
    refine xk_allVV (As := [.ref (ad 21)]) (rest := []) (H0 := s.heap) (pc := 19) hx hb hml hts hown hK hA hP hD hS (kzU_disturb_2 l G ac ad g0) vfzU_274 (fun _ => rfl) 0 rfl rfl ⟨rfl, rfl⟩ ⟨Nat.le_of_ble_eq_true rfl, Nat.le_of_ble_eq_true rfl⟩ rfl hl.1 rfl (Nat.le_of_ble_eq_true rfl) ⟨Nat.zero_le _, Nat.zero_le _⟩ dzU_disturbIfMiscounted_19 (fun g1 H locs hg1 hP hD hS => ?_)
    have hP : va_P G xk_cls (xk_wU ad ac g1) H := hP
    have hD : va_D A (xk_wU ad ac g1) := hD
    exact K1 g1 H locs (Eq.mpr (if_pos h1) ⟨g1, hg1, rfl⟩) hP hD hS
  ·
    refine lv_aload_n (pc := 7) hx hb dzU_disturbIfMiscounted_7 rfl (lv_at hl 1 rfl) ?_
    refine xk_get (pc := 8) hx hb hts hown hK hP ffzU_207 21 rfl rfl dzU_disturbIfMiscounted_8 ?_
    refine lv_sipush (v := 400) (pc := 11) hx hb dzU_disturbIfMiscounted_11 (by decide) ?_
    refine lv_icmp_le (pc := 14) (tgt := 22) hx hb dzU_disturbIfMiscounted_14 (by decide) (fun h2 => ?_) (fun h2 => ?_)
    ·
      exact K1 g0 H locs (Eq.mpr (if_neg h1) (Eq.mpr (if_pos h2) rfl)) hP hD hS
    ·
      refine lv_aload_n (pc := 17) hx hb dzU_disturbIfMiscounted_17 rfl (lv_at hl 0 rfl) ?_
      refine lv_aload_n (pc := 18) hx hb dzU_disturbIfMiscounted_18 rfl (lv_at hl 1 rfl) ?_
      refine xk_allVV (As := [.ref (ad 21)]) (rest := []) (H0 := s.heap) (pc := 19) hx hb hml hts hown hK hA hP hD hS (kzU_disturb_2 l G ac ad g0) vfzU_274 (fun _ => rfl) 0 rfl rfl ⟨rfl, rfl⟩ ⟨Nat.le_of_ble_eq_true rfl, Nat.le_of_ble_eq_true rfl⟩ rfl hl.1 rfl (Nat.le_of_ble_eq_true rfl) ⟨Nat.zero_le _, Nat.zero_le _⟩ dzU_disturbIfMiscounted_19 (fun g2 H locs hg2 hP hD hS => ?_)
      have hP : va_P G xk_cls (xk_wU ad ac g2) H := hP
      have hD : va_D A (xk_wU ad ac g2) := hD
      exact K1 g2 H locs (Eq.mpr (if_neg h1) (Eq.mpr (if_neg h2) ⟨g2, hg2, rfl⟩)) hP hD hS
theorem frzU_disturbIfMiscounted_2 (g0 : xk_St) (gz : xk_St) : relzU_disturbIfMiscounted_2 g0 gz → xk_eqv [0, 1, 2, 3, 4, 9, 10, 11, 12, 13, 14, 15, 16, 17, 18, 19, 20, 22, 23, 24, 25, 26, 27, 28, 29, 30, 31, 32, 33] g0 gz := by
  intro h
  unfold relzU_disturbIfMiscounted_2 at h
  have s0 : xk_eqv [0, 1, 2, 3, 4, 9, 10, 11, 12, 13, 14, 15, 16, 17, 18, 19, 20, 22, 23, 24, 25, 26, 27, 28, 29, 30, 31, 32, 33] g0 g0 := xk_eqv_rf
  obtain ⟨g3, u1, v2⟩ := h
  have s3 : xk_eqv [0, 1, 2, 3, 4, 9, 10, 11, 12, 13, 14, 15, 16, 17, 18, 19, 20, 22, 23, 24, 25, 26, 27, 28, 29, 30, 31, 32, 33] g0 g3 := by
    by_cases hc : (g0 21 1) < 0
    · rw [if_pos hc] at u1
      obtain ⟨g1, u4, v5⟩ := u1
      have s6 : xk_eqv [0, 1, 2, 3, 4, 9, 10, 11, 12, 13, 14, 15, 16, 17, 18, 19, 20, 22, 23, 24, 25, 26, 27, 28, 29, 30, 31, 32, 33] g0 g1 := xk_eqv_tr s0 (xk_eqv_sub (frzU_disturb_2 _ _ u4) (by decide))
      rw [v5]; exact s6
    · rw [if_neg hc] at u1
      by_cases hc : (g0 21 1) ≤ 400
      · rw [if_pos hc] at u1
        rw [u1]; exact s0
      · rw [if_neg hc] at u1
        obtain ⟨g2, u7, v8⟩ := u1
        have s9 : xk_eqv [0, 1, 2, 3, 4, 9, 10, 11, 12, 13, 14, 15, 16, 17, 18, 19, 20, 22, 23, 24, 25, 26, 27, 28, 29, 30, 31, 32, 33] g0 g2 := xk_eqv_tr s0 (xk_eqv_sub (frzU_disturb_2 _ _ u7) (by decide))
        rw [v8]; exact s9
  rw [v2]; exact s3

def relzU_disturbIfMiscounted_3 (g0 : xk_St) (gz : xk_St) : Prop := ∃ (g3 : xk_St), (if (g0 22 1) < 0 then (∃ (g1 : xk_St), relzU_disturb_3 g0 g1 ∧ (g3 = g1)) else (if (g0 22 1) ≤ 400 then (g3 = g0) else (∃ (g2 : xk_St), relzU_disturb_3 g0 g2 ∧ (g3 = g2)))) ∧ (gz = g3)
set_option maxHeartbeats 4000000 in
set_option maxRecDepth 100000 in
theorem kzU_disturbIfMiscounted_3 (l : Launch) (G : va_G) (ac : Nat → ClassId) (ad : Nat → Nat) (g0 : xk_St) : xk_CV l yzU_disturbIfMiscounted czU_disturbIfMiscounted 2 xk_WS xk_r2 G xk_cls (xk_tys ac) [.ref (ad 0), .ref (ad 22)] (xk_wU ad ac g0) (fun (gz : xk_St) => relzU_disturbIfMiscounted_3 g0 gz) (fun gz => xk_wU ad ac gz) := by
  refine xk_ofV (by decide) (Nat.le_of_ble_eq_true rfl) ?_
  intro p e s m args below meth c A Q H locs ls C0 hret hP hD hS hl
  obtain ⟨hx, hb, hml, hts, hown, hK, hA⟩ := C0
  have hl : lv_has ls 2 [(0, .ref (ad 0)), (1, .ref (ad 22))] := hl
  refine lv_aload_n (pc := 0) hx hb dzU_disturbIfMiscounted_0 rfl (lv_at hl 1 rfl) ?_
  refine xk_get (pc := 1) hx hb hts hown hK hP ffzU_207 22 rfl rfl dzU_disturbIfMiscounted_1 ?_
  have K1 : ∀ (g3 : xk_St) (H : Heap) (locs : List Loc), (if (g0 22 1) < 0 then (∃ (g1 : xk_St), relzU_disturb_3 g0 g1 ∧ (g3 = g1)) else (if (g0 22 1) ≤ 400 then (g3 = g0) else (∃ (g2 : xk_St), relzU_disturb_3 g0 g2 ∧ (g3 = g2)))) → (va_P G xk_cls (xk_wU ad ac g3) H) → (va_D A (xk_wU ad ac g3)) → (va_S A s.heap H locs) → W p l e xk_r2 s m args below meth c H locs 0 0 Q (F0 m 22 ls []) := by
    intro g3 H locs R1 hP hD hS
    exact hret g3 H locs 22 ls hP hS (by unfold relzU_disturbIfMiscounted_3; exact ⟨g3, R1, rfl⟩) dzU_disturbIfMiscounted_22
  refine lv_if_lt (pc := 4) (tgt := 17) hx hb dzU_disturbIfMiscounted_4 (by decide) (fun h1 => ?_) (fun h1 => ?_)
  ·
    refine lv_aload_n (pc := 17) hx hb dzU_disturbIfMiscounted_17 rfl (lv_at hl 0 rfl) ?_
    refine lv_aload_n (pc := 18) hx hb dzU_disturbIfMiscounted_18 rfl (lv_at hl 1 rfl) ?_
    refine xk_allVV (As := [.ref (ad 22)]) (rest := []) (H0 := s.heap) (pc := 19) hx hb hml hts hown hK hA hP hD hS (kzU_disturb_3 l G ac ad g0) vfzU_274 (fun _ => rfl) 0 rfl rfl ⟨rfl, rfl⟩ ⟨Nat.le_of_ble_eq_true rfl, Nat.le_of_ble_eq_true rfl⟩ rfl hl.1 rfl (Nat.le_of_ble_eq_true rfl) ⟨Nat.zero_le _, Nat.zero_le _⟩ dzU_disturbIfMiscounted_19 (fun g1 H locs hg1 hP hD hS => ?_)
    have hP : va_P G xk_cls (xk_wU ad ac g1) H := hP
    have hD : va_D A (xk_wU ad ac g1) := hD
    exact K1 g1 H locs (Eq.mpr (if_pos h1) ⟨g1, hg1, rfl⟩) hP hD hS
  ·
    refine lv_aload_n (pc := 7) hx hb dzU_disturbIfMiscounted_7 rfl (lv_at hl 1 rfl) ?_
    refine xk_get (pc := 8) hx hb hts hown hK hP ffzU_207 22 rfl rfl dzU_disturbIfMiscounted_8 ?_
    refine lv_sipush (v := 400) (pc := 11) hx hb dzU_disturbIfMiscounted_11 (by decide) ?_
    refine lv_icmp_le (pc := 14) (tgt := 22) hx hb dzU_disturbIfMiscounted_14 (by decide) (fun h2 => ?_) (fun h2 => ?_)
    ·
      exact K1 g0 H locs (Eq.mpr (if_neg h1) (Eq.mpr (if_pos h2) rfl)) hP hD hS
    ·
      refine lv_aload_n (pc := 17) hx hb dzU_disturbIfMiscounted_17 rfl (lv_at hl 0 rfl) ?_
      refine lv_aload_n (pc := 18) hx hb dzU_disturbIfMiscounted_18 rfl (lv_at hl 1 rfl) ?_
      refine xk_allVV (As := [.ref (ad 22)]) (rest := []) (H0 := s.heap) (pc := 19) hx hb hml hts hown hK hA hP hD hS (kzU_disturb_3 l G ac ad g0) vfzU_274 (fun _ => rfl) 0 rfl rfl ⟨rfl, rfl⟩ ⟨Nat.le_of_ble_eq_true rfl, Nat.le_of_ble_eq_true rfl⟩ rfl hl.1 rfl (Nat.le_of_ble_eq_true rfl) ⟨Nat.zero_le _, Nat.zero_le _⟩ dzU_disturbIfMiscounted_19 (fun g2 H locs hg2 hP hD hS => ?_)
      have hP : va_P G xk_cls (xk_wU ad ac g2) H := hP
      have hD : va_D A (xk_wU ad ac g2) := hD
      exact K1 g2 H locs (Eq.mpr (if_neg h1) (Eq.mpr (if_neg h2) ⟨g2, hg2, rfl⟩)) hP hD hS
theorem frzU_disturbIfMiscounted_3 (g0 : xk_St) (gz : xk_St) : relzU_disturbIfMiscounted_3 g0 gz → xk_eqv [0, 1, 2, 3, 4, 9, 10, 11, 12, 13, 14, 15, 16, 17, 18, 19, 20, 21, 23, 24, 25, 26, 27, 28, 29, 30, 31, 32, 33] g0 gz := by
  intro h
  unfold relzU_disturbIfMiscounted_3 at h
  have s0 : xk_eqv [0, 1, 2, 3, 4, 9, 10, 11, 12, 13, 14, 15, 16, 17, 18, 19, 20, 21, 23, 24, 25, 26, 27, 28, 29, 30, 31, 32, 33] g0 g0 := xk_eqv_rf
  obtain ⟨g3, u1, v2⟩ := h
  have s3 : xk_eqv [0, 1, 2, 3, 4, 9, 10, 11, 12, 13, 14, 15, 16, 17, 18, 19, 20, 21, 23, 24, 25, 26, 27, 28, 29, 30, 31, 32, 33] g0 g3 := by
    by_cases hc : (g0 22 1) < 0
    · rw [if_pos hc] at u1
      obtain ⟨g1, u4, v5⟩ := u1
      have s6 : xk_eqv [0, 1, 2, 3, 4, 9, 10, 11, 12, 13, 14, 15, 16, 17, 18, 19, 20, 21, 23, 24, 25, 26, 27, 28, 29, 30, 31, 32, 33] g0 g1 := xk_eqv_tr s0 (xk_eqv_sub (frzU_disturb_3 _ _ u4) (by decide))
      rw [v5]; exact s6
    · rw [if_neg hc] at u1
      by_cases hc : (g0 22 1) ≤ 400
      · rw [if_pos hc] at u1
        rw [u1]; exact s0
      · rw [if_neg hc] at u1
        obtain ⟨g2, u7, v8⟩ := u1
        have s9 : xk_eqv [0, 1, 2, 3, 4, 9, 10, 11, 12, 13, 14, 15, 16, 17, 18, 19, 20, 21, 23, 24, 25, 26, 27, 28, 29, 30, 31, 32, 33] g0 g2 := xk_eqv_tr s0 (xk_eqv_sub (frzU_disturb_3 _ _ u7) (by decide))
        rw [v8]; exact s9
  rw [v2]; exact s3

def relzU_disturbIfMiscounted_4 (g0 : xk_St) (gz : xk_St) : Prop := ∃ (g3 : xk_St), (if (g0 23 1) < 0 then (∃ (g1 : xk_St), relzU_disturb_4 g0 g1 ∧ (g3 = g1)) else (if (g0 23 1) ≤ 400 then (g3 = g0) else (∃ (g2 : xk_St), relzU_disturb_4 g0 g2 ∧ (g3 = g2)))) ∧ (gz = g3)
set_option maxHeartbeats 4000000 in
set_option maxRecDepth 100000 in
theorem kzU_disturbIfMiscounted_4 (l : Launch) (G : va_G) (ac : Nat → ClassId) (ad : Nat → Nat) (g0 : xk_St) : xk_CV l yzU_disturbIfMiscounted czU_disturbIfMiscounted 2 xk_WS xk_r2 G xk_cls (xk_tys ac) [.ref (ad 0), .ref (ad 23)] (xk_wU ad ac g0) (fun (gz : xk_St) => relzU_disturbIfMiscounted_4 g0 gz) (fun gz => xk_wU ad ac gz) := by
  refine xk_ofV (by decide) (Nat.le_of_ble_eq_true rfl) ?_
  intro p e s m args below meth c A Q H locs ls C0 hret hP hD hS hl
  obtain ⟨hx, hb, hml, hts, hown, hK, hA⟩ := C0
  have hl : lv_has ls 2 [(0, .ref (ad 0)), (1, .ref (ad 23))] := hl
  refine lv_aload_n (pc := 0) hx hb dzU_disturbIfMiscounted_0 rfl (lv_at hl 1 rfl) ?_
  refine xk_get (pc := 1) hx hb hts hown hK hP ffzU_207 23 rfl rfl dzU_disturbIfMiscounted_1 ?_
  have K1 : ∀ (g3 : xk_St) (H : Heap) (locs : List Loc), (if (g0 23 1) < 0 then (∃ (g1 : xk_St), relzU_disturb_4 g0 g1 ∧ (g3 = g1)) else (if (g0 23 1) ≤ 400 then (g3 = g0) else (∃ (g2 : xk_St), relzU_disturb_4 g0 g2 ∧ (g3 = g2)))) → (va_P G xk_cls (xk_wU ad ac g3) H) → (va_D A (xk_wU ad ac g3)) → (va_S A s.heap H locs) → W p l e xk_r2 s m args below meth c H locs 0 0 Q (F0 m 22 ls []) := by
    intro g3 H locs R1 hP hD hS
    exact hret g3 H locs 22 ls hP hS (by unfold relzU_disturbIfMiscounted_4; exact ⟨g3, R1, rfl⟩) dzU_disturbIfMiscounted_22
  refine lv_if_lt (pc := 4) (tgt := 17) hx hb dzU_disturbIfMiscounted_4 (by decide) (fun h1 => ?_) (fun h1 => ?_)
  ·
    refine lv_aload_n (pc := 17) hx hb dzU_disturbIfMiscounted_17 rfl (lv_at hl 0 rfl) ?_
    refine lv_aload_n (pc := 18) hx hb dzU_disturbIfMiscounted_18 rfl (lv_at hl 1 rfl) ?_
    refine xk_allVV (As := [.ref (ad 23)]) (rest := []) (H0 := s.heap) (pc := 19) hx hb hml hts hown hK hA hP hD hS (kzU_disturb_4 l G ac ad g0) vfzU_274 (fun _ => rfl) 0 rfl rfl ⟨rfl, rfl⟩ ⟨Nat.le_of_ble_eq_true rfl, Nat.le_of_ble_eq_true rfl⟩ rfl hl.1 rfl (Nat.le_of_ble_eq_true rfl) ⟨Nat.zero_le _, Nat.zero_le _⟩ dzU_disturbIfMiscounted_19 (fun g1 H locs hg1 hP hD hS => ?_)
    have hP : va_P G xk_cls (xk_wU ad ac g1) H := hP
    have hD : va_D A (xk_wU ad ac g1) := hD
    exact K1 g1 H locs (Eq.mpr (if_pos h1) ⟨g1, hg1, rfl⟩) hP hD hS
  ·
    refine lv_aload_n (pc := 7) hx hb dzU_disturbIfMiscounted_7 rfl (lv_at hl 1 rfl) ?_
    refine xk_get (pc := 8) hx hb hts hown hK hP ffzU_207 23 rfl rfl dzU_disturbIfMiscounted_8 ?_
    refine lv_sipush (v := 400) (pc := 11) hx hb dzU_disturbIfMiscounted_11 (by decide) ?_
    refine lv_icmp_le (pc := 14) (tgt := 22) hx hb dzU_disturbIfMiscounted_14 (by decide) (fun h2 => ?_) (fun h2 => ?_)
    ·
      exact K1 g0 H locs (Eq.mpr (if_neg h1) (Eq.mpr (if_pos h2) rfl)) hP hD hS
    ·
      refine lv_aload_n (pc := 17) hx hb dzU_disturbIfMiscounted_17 rfl (lv_at hl 0 rfl) ?_
      refine lv_aload_n (pc := 18) hx hb dzU_disturbIfMiscounted_18 rfl (lv_at hl 1 rfl) ?_
      refine xk_allVV (As := [.ref (ad 23)]) (rest := []) (H0 := s.heap) (pc := 19) hx hb hml hts hown hK hA hP hD hS (kzU_disturb_4 l G ac ad g0) vfzU_274 (fun _ => rfl) 0 rfl rfl ⟨rfl, rfl⟩ ⟨Nat.le_of_ble_eq_true rfl, Nat.le_of_ble_eq_true rfl⟩ rfl hl.1 rfl (Nat.le_of_ble_eq_true rfl) ⟨Nat.zero_le _, Nat.zero_le _⟩ dzU_disturbIfMiscounted_19 (fun g2 H locs hg2 hP hD hS => ?_)
      have hP : va_P G xk_cls (xk_wU ad ac g2) H := hP
      have hD : va_D A (xk_wU ad ac g2) := hD
      exact K1 g2 H locs (Eq.mpr (if_neg h1) (Eq.mpr (if_neg h2) ⟨g2, hg2, rfl⟩)) hP hD hS
theorem frzU_disturbIfMiscounted_4 (g0 : xk_St) (gz : xk_St) : relzU_disturbIfMiscounted_4 g0 gz → xk_eqv [0, 1, 2, 3, 4, 9, 10, 11, 12, 13, 14, 15, 16, 17, 18, 19, 20, 21, 22, 24, 25, 26, 27, 28, 29, 30, 31, 32, 33] g0 gz := by
  intro h
  unfold relzU_disturbIfMiscounted_4 at h
  have s0 : xk_eqv [0, 1, 2, 3, 4, 9, 10, 11, 12, 13, 14, 15, 16, 17, 18, 19, 20, 21, 22, 24, 25, 26, 27, 28, 29, 30, 31, 32, 33] g0 g0 := xk_eqv_rf
  obtain ⟨g3, u1, v2⟩ := h
  have s3 : xk_eqv [0, 1, 2, 3, 4, 9, 10, 11, 12, 13, 14, 15, 16, 17, 18, 19, 20, 21, 22, 24, 25, 26, 27, 28, 29, 30, 31, 32, 33] g0 g3 := by
    by_cases hc : (g0 23 1) < 0
    · rw [if_pos hc] at u1
      obtain ⟨g1, u4, v5⟩ := u1
      have s6 : xk_eqv [0, 1, 2, 3, 4, 9, 10, 11, 12, 13, 14, 15, 16, 17, 18, 19, 20, 21, 22, 24, 25, 26, 27, 28, 29, 30, 31, 32, 33] g0 g1 := xk_eqv_tr s0 (xk_eqv_sub (frzU_disturb_4 _ _ u4) (by decide))
      rw [v5]; exact s6
    · rw [if_neg hc] at u1
      by_cases hc : (g0 23 1) ≤ 400
      · rw [if_pos hc] at u1
        rw [u1]; exact s0
      · rw [if_neg hc] at u1
        obtain ⟨g2, u7, v8⟩ := u1
        have s9 : xk_eqv [0, 1, 2, 3, 4, 9, 10, 11, 12, 13, 14, 15, 16, 17, 18, 19, 20, 21, 22, 24, 25, 26, 27, 28, 29, 30, 31, 32, 33] g0 g2 := xk_eqv_tr s0 (xk_eqv_sub (frzU_disturb_4 _ _ u7) (by decide))
        rw [v8]; exact s9
  rw [v2]; exact s3

def relzU_disturbIfMiscounted_5 (g0 : xk_St) (gz : xk_St) : Prop := ∃ (g3 : xk_St), (if (g0 24 1) < 0 then (∃ (g1 : xk_St), relzU_disturb_5 g0 g1 ∧ (g3 = g1)) else (if (g0 24 1) ≤ 400 then (g3 = g0) else (∃ (g2 : xk_St), relzU_disturb_5 g0 g2 ∧ (g3 = g2)))) ∧ (gz = g3)
set_option maxHeartbeats 4000000 in
set_option maxRecDepth 100000 in
theorem kzU_disturbIfMiscounted_5 (l : Launch) (G : va_G) (ac : Nat → ClassId) (ad : Nat → Nat) (g0 : xk_St) : xk_CV l yzU_disturbIfMiscounted czU_disturbIfMiscounted 2 xk_WS xk_r2 G xk_cls (xk_tys ac) [.ref (ad 0), .ref (ad 24)] (xk_wU ad ac g0) (fun (gz : xk_St) => relzU_disturbIfMiscounted_5 g0 gz) (fun gz => xk_wU ad ac gz) := by
  refine xk_ofV (by decide) (Nat.le_of_ble_eq_true rfl) ?_
  intro p e s m args below meth c A Q H locs ls C0 hret hP hD hS hl
  obtain ⟨hx, hb, hml, hts, hown, hK, hA⟩ := C0
  have hl : lv_has ls 2 [(0, .ref (ad 0)), (1, .ref (ad 24))] := hl
  refine lv_aload_n (pc := 0) hx hb dzU_disturbIfMiscounted_0 rfl (lv_at hl 1 rfl) ?_
  refine xk_get (pc := 1) hx hb hts hown hK hP ffzU_207 24 rfl rfl dzU_disturbIfMiscounted_1 ?_
  have K1 : ∀ (g3 : xk_St) (H : Heap) (locs : List Loc), (if (g0 24 1) < 0 then (∃ (g1 : xk_St), relzU_disturb_5 g0 g1 ∧ (g3 = g1)) else (if (g0 24 1) ≤ 400 then (g3 = g0) else (∃ (g2 : xk_St), relzU_disturb_5 g0 g2 ∧ (g3 = g2)))) → (va_P G xk_cls (xk_wU ad ac g3) H) → (va_D A (xk_wU ad ac g3)) → (va_S A s.heap H locs) → W p l e xk_r2 s m args below meth c H locs 0 0 Q (F0 m 22 ls []) := by
    intro g3 H locs R1 hP hD hS
    exact hret g3 H locs 22 ls hP hS (by unfold relzU_disturbIfMiscounted_5; exact ⟨g3, R1, rfl⟩) dzU_disturbIfMiscounted_22
  refine lv_if_lt (pc := 4) (tgt := 17) hx hb dzU_disturbIfMiscounted_4 (by decide) (fun h1 => ?_) (fun h1 => ?_)
  ·
    refine lv_aload_n (pc := 17) hx hb dzU_disturbIfMiscounted_17 rfl (lv_at hl 0 rfl) ?_
    refine lv_aload_n (pc := 18) hx hb dzU_disturbIfMiscounted_18 rfl (lv_at hl 1 rfl) ?_
    refine xk_allVV (As := [.ref (ad 24)]) (rest := []) (H0 := s.heap) (pc := 19) hx hb hml hts hown hK hA hP hD hS (kzU_disturb_5 l G ac ad g0) vfzU_274 (fun _ => rfl) 0 rfl rfl ⟨rfl, rfl⟩ ⟨Nat.le_of_ble_eq_true rfl, Nat.le_of_ble_eq_true rfl⟩ rfl hl.1 rfl (Nat.le_of_ble_eq_true rfl) ⟨Nat.zero_le _, Nat.zero_le _⟩ dzU_disturbIfMiscounted_19 (fun g1 H locs hg1 hP hD hS => ?_)
    have hP : va_P G xk_cls (xk_wU ad ac g1) H := hP
    have hD : va_D A (xk_wU ad ac g1) := hD
    exact K1 g1 H locs (Eq.mpr (if_pos h1) ⟨g1, hg1, rfl⟩) hP hD hS
  ·
    refine lv_aload_n (pc := 7) hx hb dzU_disturbIfMiscounted_7 rfl (lv_at hl 1 rfl) ?_
    refine xk_get (pc := 8) hx hb hts hown hK hP ffzU_207 24 rfl rfl dzU_disturbIfMiscounted_8 ?_
    refine lv_sipush (v := 400) (pc := 11) hx hb dzU_disturbIfMiscounted_11 (by decide) ?_
    refine lv_icmp_le (pc := 14) (tgt := 22) hx hb dzU_disturbIfMiscounted_14 (by decide) (fun h2 => ?_) (fun h2 => ?_)
    ·
      exact K1 g0 H locs (Eq.mpr (if_neg h1) (Eq.mpr (if_pos h2) rfl)) hP hD hS
    ·
      refine lv_aload_n (pc := 17) hx hb dzU_disturbIfMiscounted_17 rfl (lv_at hl 0 rfl) ?_
      refine lv_aload_n (pc := 18) hx hb dzU_disturbIfMiscounted_18 rfl (lv_at hl 1 rfl) ?_
      refine xk_allVV (As := [.ref (ad 24)]) (rest := []) (H0 := s.heap) (pc := 19) hx hb hml hts hown hK hA hP hD hS (kzU_disturb_5 l G ac ad g0) vfzU_274 (fun _ => rfl) 0 rfl rfl ⟨rfl, rfl⟩ ⟨Nat.le_of_ble_eq_true rfl, Nat.le_of_ble_eq_true rfl⟩ rfl hl.1 rfl (Nat.le_of_ble_eq_true rfl) ⟨Nat.zero_le _, Nat.zero_le _⟩ dzU_disturbIfMiscounted_19 (fun g2 H locs hg2 hP hD hS => ?_)
      have hP : va_P G xk_cls (xk_wU ad ac g2) H := hP
      have hD : va_D A (xk_wU ad ac g2) := hD
      exact K1 g2 H locs (Eq.mpr (if_neg h1) (Eq.mpr (if_neg h2) ⟨g2, hg2, rfl⟩)) hP hD hS
theorem frzU_disturbIfMiscounted_5 (g0 : xk_St) (gz : xk_St) : relzU_disturbIfMiscounted_5 g0 gz → xk_eqv [0, 1, 2, 3, 4, 9, 10, 11, 12, 13, 14, 15, 16, 17, 18, 19, 20, 21, 22, 23, 25, 26, 27, 28, 29, 30, 31, 32, 33] g0 gz := by
  intro h
  unfold relzU_disturbIfMiscounted_5 at h
  have s0 : xk_eqv [0, 1, 2, 3, 4, 9, 10, 11, 12, 13, 14, 15, 16, 17, 18, 19, 20, 21, 22, 23, 25, 26, 27, 28, 29, 30, 31, 32, 33] g0 g0 := xk_eqv_rf
  obtain ⟨g3, u1, v2⟩ := h
  have s3 : xk_eqv [0, 1, 2, 3, 4, 9, 10, 11, 12, 13, 14, 15, 16, 17, 18, 19, 20, 21, 22, 23, 25, 26, 27, 28, 29, 30, 31, 32, 33] g0 g3 := by
    by_cases hc : (g0 24 1) < 0
    · rw [if_pos hc] at u1
      obtain ⟨g1, u4, v5⟩ := u1
      have s6 : xk_eqv [0, 1, 2, 3, 4, 9, 10, 11, 12, 13, 14, 15, 16, 17, 18, 19, 20, 21, 22, 23, 25, 26, 27, 28, 29, 30, 31, 32, 33] g0 g1 := xk_eqv_tr s0 (xk_eqv_sub (frzU_disturb_5 _ _ u4) (by decide))
      rw [v5]; exact s6
    · rw [if_neg hc] at u1
      by_cases hc : (g0 24 1) ≤ 400
      · rw [if_pos hc] at u1
        rw [u1]; exact s0
      · rw [if_neg hc] at u1
        obtain ⟨g2, u7, v8⟩ := u1
        have s9 : xk_eqv [0, 1, 2, 3, 4, 9, 10, 11, 12, 13, 14, 15, 16, 17, 18, 19, 20, 21, 22, 23, 25, 26, 27, 28, 29, 30, 31, 32, 33] g0 g2 := xk_eqv_tr s0 (xk_eqv_sub (frzU_disturb_5 _ _ u7) (by decide))
        rw [v8]; exact s9
  rw [v2]; exact s3

def relzU_disturbIfThere_0_m : Prop := True
set_option maxHeartbeats 4000000 in
set_option maxRecDepth 100000 in
theorem kzU_disturbIfThere_0_m (l : Launch) (G : va_G) (ac : Nat → ClassId) (ad : Nat → Nat) (g0 : xk_St) : xk_CV l yzU_disturbIfThere czU_disturbIfThere 3 xk_WS xk_r2 G xk_cls (xk_tys ac) [.ref (ad 0), .ref (ad 9), .int (-1)] (xk_wU ad ac g0) (fun (_ : Unit) => relzU_disturbIfThere_0_m ) (fun _ => (xk_wU ad ac g0)) := by
  refine xk_ofV (by decide) (Nat.le_of_ble_eq_true rfl) ?_
  intro p e s m args below meth c A Q H locs ls C0 hret hP hD hS hl
  obtain ⟨hx, hb, hml, hts, hown, hK, hA⟩ := C0
  have hl : lv_has ls 3 [(0, .ref (ad 0)), (1, .ref (ad 9)), (2, .int (-1))] := hl
  refine lv_iload_n (pc := 0) hx hb dzU_disturbIfThere_0 rfl (lv_at hl 2 rfl) ?_
  refine lv_if_lt (pc := 1) (tgt := 19) hx hb dzU_disturbIfThere_1 (by decide) (fun _ => ?_) (fun hq9 => absurd (by decide) hq9)
  exact hret () H locs 19 ls hP hS (by unfold relzU_disturbIfThere_0_m; exact trivial) dzU_disturbIfThere_19

def relzU_disturbIfThere_0_0 (g0 : xk_St) (gz : xk_St) : Prop := ∃ (g1 : xk_St), relzU_disturb_0 g0 g1 ∧ (gz = g1)
set_option maxHeartbeats 4000000 in
set_option maxRecDepth 100000 in
theorem kzU_disturbIfThere_0_0 (l : Launch) (G : va_G) (ac : Nat → ClassId) (ad : Nat → Nat) (g0 : xk_St) : xk_CV l yzU_disturbIfThere czU_disturbIfThere 3 xk_WS xk_r2 G xk_cls (xk_tys ac) [.ref (ad 0), .ref (ad 9), .int 0] (xk_wU ad ac g0) (fun (gz : xk_St) => relzU_disturbIfThere_0_0 g0 gz) (fun gz => xk_wU ad ac gz) := by
  refine xk_ofV (by decide) (Nat.le_of_ble_eq_true rfl) ?_
  intro p e s m args below meth c A Q H locs ls C0 hret hP hD hS hl
  obtain ⟨hx, hb, hml, hts, hown, hK, hA⟩ := C0
  have hl : lv_has ls 3 [(0, .ref (ad 0)), (1, .ref (ad 9)), (2, .int 0)] := hl
  refine lv_iload_n (pc := 0) hx hb dzU_disturbIfThere_0 rfl (lv_at hl 2 rfl) ?_
  refine lv_if_lt (pc := 1) (tgt := 19) hx hb dzU_disturbIfThere_1 (by decide) (fun hq9 => absurd hq9 (by decide)) (fun _ => ?_)
  refine lv_iload_n (pc := 4) hx hb dzU_disturbIfThere_4 rfl (lv_at hl 2 rfl) ?_
  refine lv_iconst (v := 3) (pc := 5) hx hb dzU_disturbIfThere_5 (by decide) ?_
  refine lv_icmp_ge (pc := 6) (tgt := 19) hx hb dzU_disturbIfThere_6 (by decide) (fun hq9 => absurd hq9 (by decide)) (fun _ => ?_)
  refine lv_aload_n (pc := 9) hx hb dzU_disturbIfThere_9 rfl (lv_at hl 0 rfl) ?_
  refine lv_aload_n (pc := 10) hx hb dzU_disturbIfThere_10 rfl (lv_at hl 1 rfl) ?_
  refine xk_get (pc := 11) hx hb hts hown hK hP ffzU_158 9 rfl rfl dzU_disturbIfThere_11 ?_
  refine lv_iload_n (pc := 14) hx hb dzU_disturbIfThere_14 rfl (lv_at hl 2 rfl) ?_
  refine xk_aald (q0 := 11) (t0 := 3) (j := 0) (b := (ad 19)) (pc := 15) hx hb hK hP rfl rfl (pk_in 0 3 (by decide)) (pk_cl 0) rfl dzU_disturbIfThere_15 ?_
  refine xk_allVV (As := [.ref (ad 19)]) (rest := []) (H0 := s.heap) (pc := 16) hx hb hml hts hown hK hA hP hD hS (kzU_disturb_0 l G ac ad g0) vfzU_274 (fun _ => rfl) 0 rfl rfl ⟨rfl, rfl⟩ ⟨Nat.le_of_ble_eq_true rfl, Nat.le_of_ble_eq_true rfl⟩ rfl hl.1 rfl (Nat.le_of_ble_eq_true rfl) ⟨Nat.zero_le _, Nat.zero_le _⟩ dzU_disturbIfThere_16 (fun g1 H locs hg1 hP hD hS => ?_)
  have hP : va_P G xk_cls (xk_wU ad ac g1) H := hP
  have hD : va_D A (xk_wU ad ac g1) := hD
  exact hret g1 H locs 19 ls hP hS (by unfold relzU_disturbIfThere_0_0; exact ⟨g1, hg1, rfl⟩) dzU_disturbIfThere_19
theorem frzU_disturbIfThere_0_0 (g0 : xk_St) (gz : xk_St) : relzU_disturbIfThere_0_0 g0 gz → xk_eqv [0, 1, 2, 3, 4, 9, 10, 11, 12, 13, 14, 15, 16, 17, 18, 20, 21, 22, 23, 24, 25, 26, 27, 28, 29, 30, 31, 32, 33] g0 gz := by
  intro h
  unfold relzU_disturbIfThere_0_0 at h
  have s0 : xk_eqv [0, 1, 2, 3, 4, 9, 10, 11, 12, 13, 14, 15, 16, 17, 18, 20, 21, 22, 23, 24, 25, 26, 27, 28, 29, 30, 31, 32, 33] g0 g0 := xk_eqv_rf
  obtain ⟨g1, u1, v2⟩ := h
  have s3 : xk_eqv [0, 1, 2, 3, 4, 9, 10, 11, 12, 13, 14, 15, 16, 17, 18, 20, 21, 22, 23, 24, 25, 26, 27, 28, 29, 30, 31, 32, 33] g0 g1 := xk_eqv_tr s0 (xk_eqv_sub (frzU_disturb_0 _ _ u1) (by decide))
  rw [v2]; exact s3

def relzU_disturbIfThere_0_1 (g0 : xk_St) (gz : xk_St) : Prop := ∃ (g1 : xk_St), relzU_disturb_1 g0 g1 ∧ (gz = g1)
set_option maxHeartbeats 4000000 in
set_option maxRecDepth 100000 in
theorem kzU_disturbIfThere_0_1 (l : Launch) (G : va_G) (ac : Nat → ClassId) (ad : Nat → Nat) (g0 : xk_St) : xk_CV l yzU_disturbIfThere czU_disturbIfThere 3 xk_WS xk_r2 G xk_cls (xk_tys ac) [.ref (ad 0), .ref (ad 9), .int 1] (xk_wU ad ac g0) (fun (gz : xk_St) => relzU_disturbIfThere_0_1 g0 gz) (fun gz => xk_wU ad ac gz) := by
  refine xk_ofV (by decide) (Nat.le_of_ble_eq_true rfl) ?_
  intro p e s m args below meth c A Q H locs ls C0 hret hP hD hS hl
  obtain ⟨hx, hb, hml, hts, hown, hK, hA⟩ := C0
  have hl : lv_has ls 3 [(0, .ref (ad 0)), (1, .ref (ad 9)), (2, .int 1)] := hl
  refine lv_iload_n (pc := 0) hx hb dzU_disturbIfThere_0 rfl (lv_at hl 2 rfl) ?_
  refine lv_if_lt (pc := 1) (tgt := 19) hx hb dzU_disturbIfThere_1 (by decide) (fun hq9 => absurd hq9 (by decide)) (fun _ => ?_)
  refine lv_iload_n (pc := 4) hx hb dzU_disturbIfThere_4 rfl (lv_at hl 2 rfl) ?_
  refine lv_iconst (v := 3) (pc := 5) hx hb dzU_disturbIfThere_5 (by decide) ?_
  refine lv_icmp_ge (pc := 6) (tgt := 19) hx hb dzU_disturbIfThere_6 (by decide) (fun hq9 => absurd hq9 (by decide)) (fun _ => ?_)
  refine lv_aload_n (pc := 9) hx hb dzU_disturbIfThere_9 rfl (lv_at hl 0 rfl) ?_
  refine lv_aload_n (pc := 10) hx hb dzU_disturbIfThere_10 rfl (lv_at hl 1 rfl) ?_
  refine xk_get (pc := 11) hx hb hts hown hK hP ffzU_158 9 rfl rfl dzU_disturbIfThere_11 ?_
  refine lv_iload_n (pc := 14) hx hb dzU_disturbIfThere_14 rfl (lv_at hl 2 rfl) ?_
  refine xk_aald (q0 := 11) (t0 := 3) (j := 1) (b := (ad 20)) (pc := 15) hx hb hK hP rfl rfl (pk_in 1 3 (by decide)) (pk_cl 1) rfl dzU_disturbIfThere_15 ?_
  refine xk_allVV (As := [.ref (ad 20)]) (rest := []) (H0 := s.heap) (pc := 16) hx hb hml hts hown hK hA hP hD hS (kzU_disturb_1 l G ac ad g0) vfzU_274 (fun _ => rfl) 0 rfl rfl ⟨rfl, rfl⟩ ⟨Nat.le_of_ble_eq_true rfl, Nat.le_of_ble_eq_true rfl⟩ rfl hl.1 rfl (Nat.le_of_ble_eq_true rfl) ⟨Nat.zero_le _, Nat.zero_le _⟩ dzU_disturbIfThere_16 (fun g1 H locs hg1 hP hD hS => ?_)
  have hP : va_P G xk_cls (xk_wU ad ac g1) H := hP
  have hD : va_D A (xk_wU ad ac g1) := hD
  exact hret g1 H locs 19 ls hP hS (by unfold relzU_disturbIfThere_0_1; exact ⟨g1, hg1, rfl⟩) dzU_disturbIfThere_19
theorem frzU_disturbIfThere_0_1 (g0 : xk_St) (gz : xk_St) : relzU_disturbIfThere_0_1 g0 gz → xk_eqv [0, 1, 2, 3, 4, 9, 10, 11, 12, 13, 14, 15, 16, 17, 18, 19, 21, 22, 23, 24, 25, 26, 27, 28, 29, 30, 31, 32, 33] g0 gz := by
  intro h
  unfold relzU_disturbIfThere_0_1 at h
  have s0 : xk_eqv [0, 1, 2, 3, 4, 9, 10, 11, 12, 13, 14, 15, 16, 17, 18, 19, 21, 22, 23, 24, 25, 26, 27, 28, 29, 30, 31, 32, 33] g0 g0 := xk_eqv_rf
  obtain ⟨g1, u1, v2⟩ := h
  have s3 : xk_eqv [0, 1, 2, 3, 4, 9, 10, 11, 12, 13, 14, 15, 16, 17, 18, 19, 21, 22, 23, 24, 25, 26, 27, 28, 29, 30, 31, 32, 33] g0 g1 := xk_eqv_tr s0 (xk_eqv_sub (frzU_disturb_1 _ _ u1) (by decide))
  rw [v2]; exact s3

def relzU_disturbIfThere_0_2 (g0 : xk_St) (gz : xk_St) : Prop := ∃ (g1 : xk_St), relzU_disturb_2 g0 g1 ∧ (gz = g1)
set_option maxHeartbeats 4000000 in
set_option maxRecDepth 100000 in
theorem kzU_disturbIfThere_0_2 (l : Launch) (G : va_G) (ac : Nat → ClassId) (ad : Nat → Nat) (g0 : xk_St) : xk_CV l yzU_disturbIfThere czU_disturbIfThere 3 xk_WS xk_r2 G xk_cls (xk_tys ac) [.ref (ad 0), .ref (ad 9), .int 2] (xk_wU ad ac g0) (fun (gz : xk_St) => relzU_disturbIfThere_0_2 g0 gz) (fun gz => xk_wU ad ac gz) := by
  refine xk_ofV (by decide) (Nat.le_of_ble_eq_true rfl) ?_
  intro p e s m args below meth c A Q H locs ls C0 hret hP hD hS hl
  obtain ⟨hx, hb, hml, hts, hown, hK, hA⟩ := C0
  have hl : lv_has ls 3 [(0, .ref (ad 0)), (1, .ref (ad 9)), (2, .int 2)] := hl
  refine lv_iload_n (pc := 0) hx hb dzU_disturbIfThere_0 rfl (lv_at hl 2 rfl) ?_
  refine lv_if_lt (pc := 1) (tgt := 19) hx hb dzU_disturbIfThere_1 (by decide) (fun hq9 => absurd hq9 (by decide)) (fun _ => ?_)
  refine lv_iload_n (pc := 4) hx hb dzU_disturbIfThere_4 rfl (lv_at hl 2 rfl) ?_
  refine lv_iconst (v := 3) (pc := 5) hx hb dzU_disturbIfThere_5 (by decide) ?_
  refine lv_icmp_ge (pc := 6) (tgt := 19) hx hb dzU_disturbIfThere_6 (by decide) (fun hq9 => absurd hq9 (by decide)) (fun _ => ?_)
  refine lv_aload_n (pc := 9) hx hb dzU_disturbIfThere_9 rfl (lv_at hl 0 rfl) ?_
  refine lv_aload_n (pc := 10) hx hb dzU_disturbIfThere_10 rfl (lv_at hl 1 rfl) ?_
  refine xk_get (pc := 11) hx hb hts hown hK hP ffzU_158 9 rfl rfl dzU_disturbIfThere_11 ?_
  refine lv_iload_n (pc := 14) hx hb dzU_disturbIfThere_14 rfl (lv_at hl 2 rfl) ?_
  refine xk_aald (q0 := 11) (t0 := 3) (j := 2) (b := (ad 21)) (pc := 15) hx hb hK hP rfl rfl (pk_in 2 3 (by decide)) (pk_cl 2) rfl dzU_disturbIfThere_15 ?_
  refine xk_allVV (As := [.ref (ad 21)]) (rest := []) (H0 := s.heap) (pc := 16) hx hb hml hts hown hK hA hP hD hS (kzU_disturb_2 l G ac ad g0) vfzU_274 (fun _ => rfl) 0 rfl rfl ⟨rfl, rfl⟩ ⟨Nat.le_of_ble_eq_true rfl, Nat.le_of_ble_eq_true rfl⟩ rfl hl.1 rfl (Nat.le_of_ble_eq_true rfl) ⟨Nat.zero_le _, Nat.zero_le _⟩ dzU_disturbIfThere_16 (fun g1 H locs hg1 hP hD hS => ?_)
  have hP : va_P G xk_cls (xk_wU ad ac g1) H := hP
  have hD : va_D A (xk_wU ad ac g1) := hD
  exact hret g1 H locs 19 ls hP hS (by unfold relzU_disturbIfThere_0_2; exact ⟨g1, hg1, rfl⟩) dzU_disturbIfThere_19
theorem frzU_disturbIfThere_0_2 (g0 : xk_St) (gz : xk_St) : relzU_disturbIfThere_0_2 g0 gz → xk_eqv [0, 1, 2, 3, 4, 9, 10, 11, 12, 13, 14, 15, 16, 17, 18, 19, 20, 22, 23, 24, 25, 26, 27, 28, 29, 30, 31, 32, 33] g0 gz := by
  intro h
  unfold relzU_disturbIfThere_0_2 at h
  have s0 : xk_eqv [0, 1, 2, 3, 4, 9, 10, 11, 12, 13, 14, 15, 16, 17, 18, 19, 20, 22, 23, 24, 25, 26, 27, 28, 29, 30, 31, 32, 33] g0 g0 := xk_eqv_rf
  obtain ⟨g1, u1, v2⟩ := h
  have s3 : xk_eqv [0, 1, 2, 3, 4, 9, 10, 11, 12, 13, 14, 15, 16, 17, 18, 19, 20, 22, 23, 24, 25, 26, 27, 28, 29, 30, 31, 32, 33] g0 g1 := xk_eqv_tr s0 (xk_eqv_sub (frzU_disturb_2 _ _ u1) (by decide))
  rw [v2]; exact s3

def relzU_disturbIfThere_0_3 : Prop := True
set_option maxHeartbeats 4000000 in
set_option maxRecDepth 100000 in
theorem kzU_disturbIfThere_0_3 (l : Launch) (G : va_G) (ac : Nat → ClassId) (ad : Nat → Nat) (g0 : xk_St) : xk_CV l yzU_disturbIfThere czU_disturbIfThere 3 xk_WS xk_r2 G xk_cls (xk_tys ac) [.ref (ad 0), .ref (ad 9), .int 3] (xk_wU ad ac g0) (fun (_ : Unit) => relzU_disturbIfThere_0_3 ) (fun _ => (xk_wU ad ac g0)) := by
  refine xk_ofV (by decide) (Nat.le_of_ble_eq_true rfl) ?_
  intro p e s m args below meth c A Q H locs ls C0 hret hP hD hS hl
  obtain ⟨hx, hb, hml, hts, hown, hK, hA⟩ := C0
  have hl : lv_has ls 3 [(0, .ref (ad 0)), (1, .ref (ad 9)), (2, .int 3)] := hl
  refine lv_iload_n (pc := 0) hx hb dzU_disturbIfThere_0 rfl (lv_at hl 2 rfl) ?_
  refine lv_if_lt (pc := 1) (tgt := 19) hx hb dzU_disturbIfThere_1 (by decide) (fun hq9 => absurd hq9 (by decide)) (fun _ => ?_)
  refine lv_iload_n (pc := 4) hx hb dzU_disturbIfThere_4 rfl (lv_at hl 2 rfl) ?_
  refine lv_iconst (v := 3) (pc := 5) hx hb dzU_disturbIfThere_5 (by decide) ?_
  refine lv_icmp_ge (pc := 6) (tgt := 19) hx hb dzU_disturbIfThere_6 (by decide) (fun _ => ?_) (fun hq9 => absurd (by decide) hq9)
  exact hret () H locs 19 ls hP hS (by unfold relzU_disturbIfThere_0_3; exact trivial) dzU_disturbIfThere_19

def relzU_disturbIfThere_1_m : Prop := True
set_option maxHeartbeats 4000000 in
set_option maxRecDepth 100000 in
theorem kzU_disturbIfThere_1_m (l : Launch) (G : va_G) (ac : Nat → ClassId) (ad : Nat → Nat) (g0 : xk_St) : xk_CV l yzU_disturbIfThere czU_disturbIfThere 3 xk_WS xk_r2 G xk_cls (xk_tys ac) [.ref (ad 0), .ref (ad 10), .int (-1)] (xk_wU ad ac g0) (fun (_ : Unit) => relzU_disturbIfThere_1_m ) (fun _ => (xk_wU ad ac g0)) := by
  refine xk_ofV (by decide) (Nat.le_of_ble_eq_true rfl) ?_
  intro p e s m args below meth c A Q H locs ls C0 hret hP hD hS hl
  obtain ⟨hx, hb, hml, hts, hown, hK, hA⟩ := C0
  have hl : lv_has ls 3 [(0, .ref (ad 0)), (1, .ref (ad 10)), (2, .int (-1))] := hl
  refine lv_iload_n (pc := 0) hx hb dzU_disturbIfThere_0 rfl (lv_at hl 2 rfl) ?_
  refine lv_if_lt (pc := 1) (tgt := 19) hx hb dzU_disturbIfThere_1 (by decide) (fun _ => ?_) (fun hq9 => absurd (by decide) hq9)
  exact hret () H locs 19 ls hP hS (by unfold relzU_disturbIfThere_1_m; exact trivial) dzU_disturbIfThere_19

def relzU_disturbIfThere_1_0 (g0 : xk_St) (gz : xk_St) : Prop := ∃ (g1 : xk_St), relzU_disturb_3 g0 g1 ∧ (gz = g1)
set_option maxHeartbeats 4000000 in
set_option maxRecDepth 100000 in
theorem kzU_disturbIfThere_1_0 (l : Launch) (G : va_G) (ac : Nat → ClassId) (ad : Nat → Nat) (g0 : xk_St) : xk_CV l yzU_disturbIfThere czU_disturbIfThere 3 xk_WS xk_r2 G xk_cls (xk_tys ac) [.ref (ad 0), .ref (ad 10), .int 0] (xk_wU ad ac g0) (fun (gz : xk_St) => relzU_disturbIfThere_1_0 g0 gz) (fun gz => xk_wU ad ac gz) := by
  refine xk_ofV (by decide) (Nat.le_of_ble_eq_true rfl) ?_
  intro p e s m args below meth c A Q H locs ls C0 hret hP hD hS hl
  obtain ⟨hx, hb, hml, hts, hown, hK, hA⟩ := C0
  have hl : lv_has ls 3 [(0, .ref (ad 0)), (1, .ref (ad 10)), (2, .int 0)] := hl
  refine lv_iload_n (pc := 0) hx hb dzU_disturbIfThere_0 rfl (lv_at hl 2 rfl) ?_
  refine lv_if_lt (pc := 1) (tgt := 19) hx hb dzU_disturbIfThere_1 (by decide) (fun hq9 => absurd hq9 (by decide)) (fun _ => ?_)
  refine lv_iload_n (pc := 4) hx hb dzU_disturbIfThere_4 rfl (lv_at hl 2 rfl) ?_
  refine lv_iconst (v := 3) (pc := 5) hx hb dzU_disturbIfThere_5 (by decide) ?_
  refine lv_icmp_ge (pc := 6) (tgt := 19) hx hb dzU_disturbIfThere_6 (by decide) (fun hq9 => absurd hq9 (by decide)) (fun _ => ?_)
  refine lv_aload_n (pc := 9) hx hb dzU_disturbIfThere_9 rfl (lv_at hl 0 rfl) ?_
  refine lv_aload_n (pc := 10) hx hb dzU_disturbIfThere_10 rfl (lv_at hl 1 rfl) ?_
  refine xk_get (pc := 11) hx hb hts hown hK hP ffzU_158 10 rfl rfl dzU_disturbIfThere_11 ?_
  refine lv_iload_n (pc := 14) hx hb dzU_disturbIfThere_14 rfl (lv_at hl 2 rfl) ?_
  refine xk_aald (q0 := 12) (t0 := 3) (j := 0) (b := (ad 22)) (pc := 15) hx hb hK hP rfl rfl (pk_in 0 3 (by decide)) (pk_cl 0) rfl dzU_disturbIfThere_15 ?_
  refine xk_allVV (As := [.ref (ad 22)]) (rest := []) (H0 := s.heap) (pc := 16) hx hb hml hts hown hK hA hP hD hS (kzU_disturb_3 l G ac ad g0) vfzU_274 (fun _ => rfl) 0 rfl rfl ⟨rfl, rfl⟩ ⟨Nat.le_of_ble_eq_true rfl, Nat.le_of_ble_eq_true rfl⟩ rfl hl.1 rfl (Nat.le_of_ble_eq_true rfl) ⟨Nat.zero_le _, Nat.zero_le _⟩ dzU_disturbIfThere_16 (fun g1 H locs hg1 hP hD hS => ?_)
  have hP : va_P G xk_cls (xk_wU ad ac g1) H := hP
  have hD : va_D A (xk_wU ad ac g1) := hD
  exact hret g1 H locs 19 ls hP hS (by unfold relzU_disturbIfThere_1_0; exact ⟨g1, hg1, rfl⟩) dzU_disturbIfThere_19
theorem frzU_disturbIfThere_1_0 (g0 : xk_St) (gz : xk_St) : relzU_disturbIfThere_1_0 g0 gz → xk_eqv [0, 1, 2, 3, 4, 9, 10, 11, 12, 13, 14, 15, 16, 17, 18, 19, 20, 21, 23, 24, 25, 26, 27, 28, 29, 30, 31, 32, 33] g0 gz := by
  intro h
  unfold relzU_disturbIfThere_1_0 at h
  have s0 : xk_eqv [0, 1, 2, 3, 4, 9, 10, 11, 12, 13, 14, 15, 16, 17, 18, 19, 20, 21, 23, 24, 25, 26, 27, 28, 29, 30, 31, 32, 33] g0 g0 := xk_eqv_rf
  obtain ⟨g1, u1, v2⟩ := h
  have s3 : xk_eqv [0, 1, 2, 3, 4, 9, 10, 11, 12, 13, 14, 15, 16, 17, 18, 19, 20, 21, 23, 24, 25, 26, 27, 28, 29, 30, 31, 32, 33] g0 g1 := xk_eqv_tr s0 (xk_eqv_sub (frzU_disturb_3 _ _ u1) (by decide))
  rw [v2]; exact s3

def relzU_disturbIfThere_1_1 (g0 : xk_St) (gz : xk_St) : Prop := ∃ (g1 : xk_St), relzU_disturb_4 g0 g1 ∧ (gz = g1)
set_option maxHeartbeats 4000000 in
set_option maxRecDepth 100000 in
theorem kzU_disturbIfThere_1_1 (l : Launch) (G : va_G) (ac : Nat → ClassId) (ad : Nat → Nat) (g0 : xk_St) : xk_CV l yzU_disturbIfThere czU_disturbIfThere 3 xk_WS xk_r2 G xk_cls (xk_tys ac) [.ref (ad 0), .ref (ad 10), .int 1] (xk_wU ad ac g0) (fun (gz : xk_St) => relzU_disturbIfThere_1_1 g0 gz) (fun gz => xk_wU ad ac gz) := by
  refine xk_ofV (by decide) (Nat.le_of_ble_eq_true rfl) ?_
  intro p e s m args below meth c A Q H locs ls C0 hret hP hD hS hl
  obtain ⟨hx, hb, hml, hts, hown, hK, hA⟩ := C0
  have hl : lv_has ls 3 [(0, .ref (ad 0)), (1, .ref (ad 10)), (2, .int 1)] := hl
  refine lv_iload_n (pc := 0) hx hb dzU_disturbIfThere_0 rfl (lv_at hl 2 rfl) ?_
  refine lv_if_lt (pc := 1) (tgt := 19) hx hb dzU_disturbIfThere_1 (by decide) (fun hq9 => absurd hq9 (by decide)) (fun _ => ?_)
  refine lv_iload_n (pc := 4) hx hb dzU_disturbIfThere_4 rfl (lv_at hl 2 rfl) ?_
  refine lv_iconst (v := 3) (pc := 5) hx hb dzU_disturbIfThere_5 (by decide) ?_
  refine lv_icmp_ge (pc := 6) (tgt := 19) hx hb dzU_disturbIfThere_6 (by decide) (fun hq9 => absurd hq9 (by decide)) (fun _ => ?_)
  refine lv_aload_n (pc := 9) hx hb dzU_disturbIfThere_9 rfl (lv_at hl 0 rfl) ?_
  refine lv_aload_n (pc := 10) hx hb dzU_disturbIfThere_10 rfl (lv_at hl 1 rfl) ?_
  refine xk_get (pc := 11) hx hb hts hown hK hP ffzU_158 10 rfl rfl dzU_disturbIfThere_11 ?_
  refine lv_iload_n (pc := 14) hx hb dzU_disturbIfThere_14 rfl (lv_at hl 2 rfl) ?_
  refine xk_aald (q0 := 12) (t0 := 3) (j := 1) (b := (ad 23)) (pc := 15) hx hb hK hP rfl rfl (pk_in 1 3 (by decide)) (pk_cl 1) rfl dzU_disturbIfThere_15 ?_
  refine xk_allVV (As := [.ref (ad 23)]) (rest := []) (H0 := s.heap) (pc := 16) hx hb hml hts hown hK hA hP hD hS (kzU_disturb_4 l G ac ad g0) vfzU_274 (fun _ => rfl) 0 rfl rfl ⟨rfl, rfl⟩ ⟨Nat.le_of_ble_eq_true rfl, Nat.le_of_ble_eq_true rfl⟩ rfl hl.1 rfl (Nat.le_of_ble_eq_true rfl) ⟨Nat.zero_le _, Nat.zero_le _⟩ dzU_disturbIfThere_16 (fun g1 H locs hg1 hP hD hS => ?_)
  have hP : va_P G xk_cls (xk_wU ad ac g1) H := hP
  have hD : va_D A (xk_wU ad ac g1) := hD
  exact hret g1 H locs 19 ls hP hS (by unfold relzU_disturbIfThere_1_1; exact ⟨g1, hg1, rfl⟩) dzU_disturbIfThere_19
theorem frzU_disturbIfThere_1_1 (g0 : xk_St) (gz : xk_St) : relzU_disturbIfThere_1_1 g0 gz → xk_eqv [0, 1, 2, 3, 4, 9, 10, 11, 12, 13, 14, 15, 16, 17, 18, 19, 20, 21, 22, 24, 25, 26, 27, 28, 29, 30, 31, 32, 33] g0 gz := by
  intro h
  unfold relzU_disturbIfThere_1_1 at h
  have s0 : xk_eqv [0, 1, 2, 3, 4, 9, 10, 11, 12, 13, 14, 15, 16, 17, 18, 19, 20, 21, 22, 24, 25, 26, 27, 28, 29, 30, 31, 32, 33] g0 g0 := xk_eqv_rf
  obtain ⟨g1, u1, v2⟩ := h
  have s3 : xk_eqv [0, 1, 2, 3, 4, 9, 10, 11, 12, 13, 14, 15, 16, 17, 18, 19, 20, 21, 22, 24, 25, 26, 27, 28, 29, 30, 31, 32, 33] g0 g1 := xk_eqv_tr s0 (xk_eqv_sub (frzU_disturb_4 _ _ u1) (by decide))
  rw [v2]; exact s3

def relzU_disturbIfThere_1_2 (g0 : xk_St) (gz : xk_St) : Prop := ∃ (g1 : xk_St), relzU_disturb_5 g0 g1 ∧ (gz = g1)
set_option maxHeartbeats 4000000 in
set_option maxRecDepth 100000 in
theorem kzU_disturbIfThere_1_2 (l : Launch) (G : va_G) (ac : Nat → ClassId) (ad : Nat → Nat) (g0 : xk_St) : xk_CV l yzU_disturbIfThere czU_disturbIfThere 3 xk_WS xk_r2 G xk_cls (xk_tys ac) [.ref (ad 0), .ref (ad 10), .int 2] (xk_wU ad ac g0) (fun (gz : xk_St) => relzU_disturbIfThere_1_2 g0 gz) (fun gz => xk_wU ad ac gz) := by
  refine xk_ofV (by decide) (Nat.le_of_ble_eq_true rfl) ?_
  intro p e s m args below meth c A Q H locs ls C0 hret hP hD hS hl
  obtain ⟨hx, hb, hml, hts, hown, hK, hA⟩ := C0
  have hl : lv_has ls 3 [(0, .ref (ad 0)), (1, .ref (ad 10)), (2, .int 2)] := hl
  refine lv_iload_n (pc := 0) hx hb dzU_disturbIfThere_0 rfl (lv_at hl 2 rfl) ?_
  refine lv_if_lt (pc := 1) (tgt := 19) hx hb dzU_disturbIfThere_1 (by decide) (fun hq9 => absurd hq9 (by decide)) (fun _ => ?_)
  refine lv_iload_n (pc := 4) hx hb dzU_disturbIfThere_4 rfl (lv_at hl 2 rfl) ?_
  refine lv_iconst (v := 3) (pc := 5) hx hb dzU_disturbIfThere_5 (by decide) ?_
  refine lv_icmp_ge (pc := 6) (tgt := 19) hx hb dzU_disturbIfThere_6 (by decide) (fun hq9 => absurd hq9 (by decide)) (fun _ => ?_)
  refine lv_aload_n (pc := 9) hx hb dzU_disturbIfThere_9 rfl (lv_at hl 0 rfl) ?_
  refine lv_aload_n (pc := 10) hx hb dzU_disturbIfThere_10 rfl (lv_at hl 1 rfl) ?_
  refine xk_get (pc := 11) hx hb hts hown hK hP ffzU_158 10 rfl rfl dzU_disturbIfThere_11 ?_
  refine lv_iload_n (pc := 14) hx hb dzU_disturbIfThere_14 rfl (lv_at hl 2 rfl) ?_
  refine xk_aald (q0 := 12) (t0 := 3) (j := 2) (b := (ad 24)) (pc := 15) hx hb hK hP rfl rfl (pk_in 2 3 (by decide)) (pk_cl 2) rfl dzU_disturbIfThere_15 ?_
  refine xk_allVV (As := [.ref (ad 24)]) (rest := []) (H0 := s.heap) (pc := 16) hx hb hml hts hown hK hA hP hD hS (kzU_disturb_5 l G ac ad g0) vfzU_274 (fun _ => rfl) 0 rfl rfl ⟨rfl, rfl⟩ ⟨Nat.le_of_ble_eq_true rfl, Nat.le_of_ble_eq_true rfl⟩ rfl hl.1 rfl (Nat.le_of_ble_eq_true rfl) ⟨Nat.zero_le _, Nat.zero_le _⟩ dzU_disturbIfThere_16 (fun g1 H locs hg1 hP hD hS => ?_)
  have hP : va_P G xk_cls (xk_wU ad ac g1) H := hP
  have hD : va_D A (xk_wU ad ac g1) := hD
  exact hret g1 H locs 19 ls hP hS (by unfold relzU_disturbIfThere_1_2; exact ⟨g1, hg1, rfl⟩) dzU_disturbIfThere_19
theorem frzU_disturbIfThere_1_2 (g0 : xk_St) (gz : xk_St) : relzU_disturbIfThere_1_2 g0 gz → xk_eqv [0, 1, 2, 3, 4, 9, 10, 11, 12, 13, 14, 15, 16, 17, 18, 19, 20, 21, 22, 23, 25, 26, 27, 28, 29, 30, 31, 32, 33] g0 gz := by
  intro h
  unfold relzU_disturbIfThere_1_2 at h
  have s0 : xk_eqv [0, 1, 2, 3, 4, 9, 10, 11, 12, 13, 14, 15, 16, 17, 18, 19, 20, 21, 22, 23, 25, 26, 27, 28, 29, 30, 31, 32, 33] g0 g0 := xk_eqv_rf
  obtain ⟨g1, u1, v2⟩ := h
  have s3 : xk_eqv [0, 1, 2, 3, 4, 9, 10, 11, 12, 13, 14, 15, 16, 17, 18, 19, 20, 21, 22, 23, 25, 26, 27, 28, 29, 30, 31, 32, 33] g0 g1 := xk_eqv_tr s0 (xk_eqv_sub (frzU_disturb_5 _ _ u1) (by decide))
  rw [v2]; exact s3

def relzU_disturbIfThere_1_3 : Prop := True
set_option maxHeartbeats 4000000 in
set_option maxRecDepth 100000 in
theorem kzU_disturbIfThere_1_3 (l : Launch) (G : va_G) (ac : Nat → ClassId) (ad : Nat → Nat) (g0 : xk_St) : xk_CV l yzU_disturbIfThere czU_disturbIfThere 3 xk_WS xk_r2 G xk_cls (xk_tys ac) [.ref (ad 0), .ref (ad 10), .int 3] (xk_wU ad ac g0) (fun (_ : Unit) => relzU_disturbIfThere_1_3 ) (fun _ => (xk_wU ad ac g0)) := by
  refine xk_ofV (by decide) (Nat.le_of_ble_eq_true rfl) ?_
  intro p e s m args below meth c A Q H locs ls C0 hret hP hD hS hl
  obtain ⟨hx, hb, hml, hts, hown, hK, hA⟩ := C0
  have hl : lv_has ls 3 [(0, .ref (ad 0)), (1, .ref (ad 10)), (2, .int 3)] := hl
  refine lv_iload_n (pc := 0) hx hb dzU_disturbIfThere_0 rfl (lv_at hl 2 rfl) ?_
  refine lv_if_lt (pc := 1) (tgt := 19) hx hb dzU_disturbIfThere_1 (by decide) (fun hq9 => absurd hq9 (by decide)) (fun _ => ?_)
  refine lv_iload_n (pc := 4) hx hb dzU_disturbIfThere_4 rfl (lv_at hl 2 rfl) ?_
  refine lv_iconst (v := 3) (pc := 5) hx hb dzU_disturbIfThere_5 (by decide) ?_
  refine lv_icmp_ge (pc := 6) (tgt := 19) hx hb dzU_disturbIfThere_6 (by decide) (fun _ => ?_) (fun hq9 => absurd (by decide) hq9)
  exact hret () H locs 19 ls hP hS (by unfold relzU_disturbIfThere_1_3; exact trivial) dzU_disturbIfThere_19

