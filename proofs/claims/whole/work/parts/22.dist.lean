def relzU_disturb_0 (g0 : xk_St) (g9 : xk_St) : Prop := ∃ (g3 : xk_St), (if (g0 19 3) = 0 then (∃ (g1 : xk_St), g1 = va_up g0 19 (upd (g0 19) 3 1) ∧ (∃ (g2 : xk_St), g2 = va_up (va_up (va_up (va_up g1 5 (upd (g1 5) 3 (qzJ_add_a3 (g1 5 3)))) 6 (qzJ_add_b (g1 5 3) (g1 6) (g1 0 5))) 7 (qzJ_add_c (g1 5 3) (g1 7) 1)) 8 (qzJ_add_d (g1 5 3) (g1 8) (g1 19 0)) ∧ (g3 = g2))) else (g3 = g0)) ∧ (g9 = g3)
set_option maxHeartbeats 4000000 in
set_option maxRecDepth 100000 in
theorem kzU_disturb_0 (l : Launch) (G : va_G) (ac : Nat → ClassId) (ad : Nat → Nat) (g0 : xk_St) : xk_CV l yzU_disturb czU_disturb 2 xk_WS xk_r1 G xk_cls (xk_tys ac) [.ref (ad 0), .ref (ad 19)] (xk_wU ad ac g0) (fun (g9 : xk_St) => relzU_disturb_0 g0 g9) (fun g9 => xk_wU ad ac g9) := by
  refine xk_ofV (by decide) (Nat.le_of_ble_eq_true rfl) ?_
  intro p e s m args below meth c A Q H locs ls C0 hret hP hD hS hl
  obtain ⟨hx, hb, hml, hts, hown, hK, hA⟩ := C0
  have hl : lv_has ls 2 [(0, .ref (ad 0)), (1, .ref (ad 19))] := hl
  refine lv_aload_n (pc := 0) hx hb dzU_disturb_0 rfl (lv_at hl 1 rfl) ?_
  refine xk_get (pc := 1) hx hb hts hown hK hP ffzU_181 19 rfl rfl dzU_disturb_1 ?_
  have K1 : ∀ (g3 : xk_St) (H : Heap) (locs : List Loc), (if (g0 19 3) = 0 then (∃ (g1 : xk_St), g1 = va_up g0 19 (upd (g0 19) 3 1) ∧ (∃ (g2 : xk_St), g2 = va_up (va_up (va_up (va_up g1 5 (upd (g1 5) 3 (qzJ_add_a3 (g1 5 3)))) 6 (qzJ_add_b (g1 5 3) (g1 6) (g1 0 5))) 7 (qzJ_add_c (g1 5 3) (g1 7) 1)) 8 (qzJ_add_d (g1 5 3) (g1 8) (g1 19 0)) ∧ (g3 = g2))) else (g3 = g0)) → (va_P G xk_cls (xk_wU ad ac g3) H) → (va_D A (xk_wU ad ac g3)) → (va_S A s.heap H locs) → W p l e xk_r1 s m args below meth c H locs 0 0 Q (F0 m 28 ls []) := by
    intro g3 H locs R1 hP hD hS
    exact hret g3 H locs 28 ls hP hS (by unfold relzU_disturb_0; exact ⟨g3, R1, rfl⟩) dzU_disturb_28
  refine lv_if_ne (pc := 4) (tgt := 28) hx hb dzU_disturb_4 (by decide) (fun h1 => ?_) (fun h1 => ?_)
  ·
    exact K1 g0 H locs (Eq.mpr (if_neg h1) rfl) hP hD hS
  ·
    refine lv_aload_n (pc := 7) hx hb dzU_disturb_7 rfl (lv_at hl 1 rfl) ?_
    refine lv_iconst (v := 1) (pc := 8) hx hb dzU_disturb_8 (by decide) ?_
    refine xk_putf (pc := 9) hx hb hts hown hK hP hD hS pfzU_181 19 rfl (xk_bn xk_b1) (xk_bf xk_b1) (Nat.le_of_ble_eq_true rfl) dzU_disturb_9 (fun H locs hP hD hS => ?_)
    obtain ⟨g1, eg1⟩ : ∃ z : xk_St, z = va_up g0 19 (upd (g0 19) 3 1) := ⟨_, rfl⟩
    have hP : va_P G xk_cls (xk_wU ad ac g1) H := by rw [eg1]; exact hP
    have hD : va_D A (xk_wU ad ac g1) := by rw [eg1]; exact hD
    refine lv_aload_n (pc := 12) hx hb dzU_disturb_12 rfl (lv_at hl 0 rfl) ?_
    refine xk_get (pc := 13) hx hb hts hown hK hP ffzU_37 0 rfl rfl dzU_disturb_13 ?_
    refine lv_aload_n (pc := 16) hx hb dzU_disturb_16 rfl (lv_at hl 0 rfl) ?_
    refine xk_get (pc := 17) hx hb hts hown hK hP ffzU_41 0 rfl rfl dzU_disturb_17 ?_
    refine lv_iconst (v := 1) (pc := 20) hx hb dzU_disturb_20 (by decide) ?_
    refine lv_aload_n (pc := 21) hx hb dzU_disturb_21 rfl (lv_at hl 1 rfl) ?_
    refine xk_get (pc := 22) hx hb hts hown hK hP ffzU_204 19 rfl rfl dzU_disturb_22 ?_
    refine xk_callVV (As := [.int (g1 0 5), .int 1, .int (g1 19 0)]) (rest := []) (H0 := s.heap) (pc := 25) hx hb hml hts hown hK hA hP hD hS (kzJ_add l G ac (ad 5) (ad 6) (ad 7) (ad 8) (g1 5 3) (g1 6) (g1 7) (g1 8) (g1 0 5) 1 (g1 19 0)) vfzU_170 [5, 6, 7, 8] (by decide) rfl (fun _ => rfl) 5 rfl rfl ⟨rfl, rfl⟩ ⟨Nat.le_of_ble_eq_true rfl, Nat.le_of_ble_eq_true rfl⟩ rfl hl.1 rfl (Nat.le_of_ble_eq_true rfl) ⟨Nat.zero_le _, Nat.zero_le _⟩ dzU_disturb_25 (fun u9 H locs e9 hP hD hS => ?_)
    obtain ⟨g2, eg2⟩ : ∃ z : xk_St, z = va_up (va_up (va_up (va_up g1 5 (upd (g1 5) 3 (qzJ_add_a3 (g1 5 3)))) 6 (qzJ_add_b (g1 5 3) (g1 6) (g1 0 5))) 7 (qzJ_add_c (g1 5 3) (g1 7) 1)) 8 (qzJ_add_d (g1 5 3) (g1 8) (g1 19 0)) := ⟨_, rfl⟩
    have hP : va_P G xk_cls (xk_wU ad ac g2) H := by rw [eg2]; exact hP
    have hD : va_D A (xk_wU ad ac g2) := by rw [eg2]; exact hD
    exact K1 g2 H locs (Eq.mpr (if_pos h1) ⟨g1, eg1, ⟨g2, eg2, rfl⟩⟩) hP hD hS
def relzU_disturb_1 (g0 : xk_St) (g9 : xk_St) : Prop := ∃ (g3 : xk_St), (if (g0 20 3) = 0 then (∃ (g1 : xk_St), g1 = va_up g0 20 (upd (g0 20) 3 1) ∧ (∃ (g2 : xk_St), g2 = va_up (va_up (va_up (va_up g1 5 (upd (g1 5) 3 (qzJ_add_a3 (g1 5 3)))) 6 (qzJ_add_b (g1 5 3) (g1 6) (g1 0 5))) 7 (qzJ_add_c (g1 5 3) (g1 7) 1)) 8 (qzJ_add_d (g1 5 3) (g1 8) (g1 20 0)) ∧ (g3 = g2))) else (g3 = g0)) ∧ (g9 = g3)
set_option maxHeartbeats 4000000 in
set_option maxRecDepth 100000 in
theorem kzU_disturb_1 (l : Launch) (G : va_G) (ac : Nat → ClassId) (ad : Nat → Nat) (g0 : xk_St) : xk_CV l yzU_disturb czU_disturb 2 xk_WS xk_r1 G xk_cls (xk_tys ac) [.ref (ad 0), .ref (ad 20)] (xk_wU ad ac g0) (fun (g9 : xk_St) => relzU_disturb_1 g0 g9) (fun g9 => xk_wU ad ac g9) := by
  refine xk_ofV (by decide) (Nat.le_of_ble_eq_true rfl) ?_
  intro p e s m args below meth c A Q H locs ls C0 hret hP hD hS hl
  obtain ⟨hx, hb, hml, hts, hown, hK, hA⟩ := C0
  have hl : lv_has ls 2 [(0, .ref (ad 0)), (1, .ref (ad 20))] := hl
  refine lv_aload_n (pc := 0) hx hb dzU_disturb_0 rfl (lv_at hl 1 rfl) ?_
  refine xk_get (pc := 1) hx hb hts hown hK hP ffzU_181 20 rfl rfl dzU_disturb_1 ?_
  have K1 : ∀ (g3 : xk_St) (H : Heap) (locs : List Loc), (if (g0 20 3) = 0 then (∃ (g1 : xk_St), g1 = va_up g0 20 (upd (g0 20) 3 1) ∧ (∃ (g2 : xk_St), g2 = va_up (va_up (va_up (va_up g1 5 (upd (g1 5) 3 (qzJ_add_a3 (g1 5 3)))) 6 (qzJ_add_b (g1 5 3) (g1 6) (g1 0 5))) 7 (qzJ_add_c (g1 5 3) (g1 7) 1)) 8 (qzJ_add_d (g1 5 3) (g1 8) (g1 20 0)) ∧ (g3 = g2))) else (g3 = g0)) → (va_P G xk_cls (xk_wU ad ac g3) H) → (va_D A (xk_wU ad ac g3)) → (va_S A s.heap H locs) → W p l e xk_r1 s m args below meth c H locs 0 0 Q (F0 m 28 ls []) := by
    intro g3 H locs R1 hP hD hS
    exact hret g3 H locs 28 ls hP hS (by unfold relzU_disturb_1; exact ⟨g3, R1, rfl⟩) dzU_disturb_28
  refine lv_if_ne (pc := 4) (tgt := 28) hx hb dzU_disturb_4 (by decide) (fun h1 => ?_) (fun h1 => ?_)
  ·
    exact K1 g0 H locs (Eq.mpr (if_neg h1) rfl) hP hD hS
  ·
    refine lv_aload_n (pc := 7) hx hb dzU_disturb_7 rfl (lv_at hl 1 rfl) ?_
    refine lv_iconst (v := 1) (pc := 8) hx hb dzU_disturb_8 (by decide) ?_
    refine xk_putf (pc := 9) hx hb hts hown hK hP hD hS pfzU_181 20 rfl (xk_bn xk_b1) (xk_bf xk_b1) (Nat.le_of_ble_eq_true rfl) dzU_disturb_9 (fun H locs hP hD hS => ?_)
    obtain ⟨g1, eg1⟩ : ∃ z : xk_St, z = va_up g0 20 (upd (g0 20) 3 1) := ⟨_, rfl⟩
    have hP : va_P G xk_cls (xk_wU ad ac g1) H := by rw [eg1]; exact hP
    have hD : va_D A (xk_wU ad ac g1) := by rw [eg1]; exact hD
    refine lv_aload_n (pc := 12) hx hb dzU_disturb_12 rfl (lv_at hl 0 rfl) ?_
    refine xk_get (pc := 13) hx hb hts hown hK hP ffzU_37 0 rfl rfl dzU_disturb_13 ?_
    refine lv_aload_n (pc := 16) hx hb dzU_disturb_16 rfl (lv_at hl 0 rfl) ?_
    refine xk_get (pc := 17) hx hb hts hown hK hP ffzU_41 0 rfl rfl dzU_disturb_17 ?_
    refine lv_iconst (v := 1) (pc := 20) hx hb dzU_disturb_20 (by decide) ?_
    refine lv_aload_n (pc := 21) hx hb dzU_disturb_21 rfl (lv_at hl 1 rfl) ?_
    refine xk_get (pc := 22) hx hb hts hown hK hP ffzU_204 20 rfl rfl dzU_disturb_22 ?_
    refine xk_callVV (As := [.int (g1 0 5), .int 1, .int (g1 20 0)]) (rest := []) (H0 := s.heap) (pc := 25) hx hb hml hts hown hK hA hP hD hS (kzJ_add l G ac (ad 5) (ad 6) (ad 7) (ad 8) (g1 5 3) (g1 6) (g1 7) (g1 8) (g1 0 5) 1 (g1 20 0)) vfzU_170 [5, 6, 7, 8] (by decide) rfl (fun _ => rfl) 5 rfl rfl ⟨rfl, rfl⟩ ⟨Nat.le_of_ble_eq_true rfl, Nat.le_of_ble_eq_true rfl⟩ rfl hl.1 rfl (Nat.le_of_ble_eq_true rfl) ⟨Nat.zero_le _, Nat.zero_le _⟩ dzU_disturb_25 (fun u9 H locs e9 hP hD hS => ?_)
    obtain ⟨g2, eg2⟩ : ∃ z : xk_St, z = va_up (va_up (va_up (va_up g1 5 (upd (g1 5) 3 (qzJ_add_a3 (g1 5 3)))) 6 (qzJ_add_b (g1 5 3) (g1 6) (g1 0 5))) 7 (qzJ_add_c (g1 5 3) (g1 7) 1)) 8 (qzJ_add_d (g1 5 3) (g1 8) (g1 20 0)) := ⟨_, rfl⟩
    have hP : va_P G xk_cls (xk_wU ad ac g2) H := by rw [eg2]; exact hP
    have hD : va_D A (xk_wU ad ac g2) := by rw [eg2]; exact hD
    exact K1 g2 H locs (Eq.mpr (if_pos h1) ⟨g1, eg1, ⟨g2, eg2, rfl⟩⟩) hP hD hS
def relzU_disturb_2 (g0 : xk_St) (g9 : xk_St) : Prop := ∃ (g3 : xk_St), (if (g0 21 3) = 0 then (∃ (g1 : xk_St), g1 = va_up g0 21 (upd (g0 21) 3 1) ∧ (∃ (g2 : xk_St), g2 = va_up (va_up (va_up (va_up g1 5 (upd (g1 5) 3 (qzJ_add_a3 (g1 5 3)))) 6 (qzJ_add_b (g1 5 3) (g1 6) (g1 0 5))) 7 (qzJ_add_c (g1 5 3) (g1 7) 1)) 8 (qzJ_add_d (g1 5 3) (g1 8) (g1 21 0)) ∧ (g3 = g2))) else (g3 = g0)) ∧ (g9 = g3)
set_option maxHeartbeats 4000000 in
set_option maxRecDepth 100000 in
theorem kzU_disturb_2 (l : Launch) (G : va_G) (ac : Nat → ClassId) (ad : Nat → Nat) (g0 : xk_St) : xk_CV l yzU_disturb czU_disturb 2 xk_WS xk_r1 G xk_cls (xk_tys ac) [.ref (ad 0), .ref (ad 21)] (xk_wU ad ac g0) (fun (g9 : xk_St) => relzU_disturb_2 g0 g9) (fun g9 => xk_wU ad ac g9) := by
  refine xk_ofV (by decide) (Nat.le_of_ble_eq_true rfl) ?_
  intro p e s m args below meth c A Q H locs ls C0 hret hP hD hS hl
  obtain ⟨hx, hb, hml, hts, hown, hK, hA⟩ := C0
  have hl : lv_has ls 2 [(0, .ref (ad 0)), (1, .ref (ad 21))] := hl
  refine lv_aload_n (pc := 0) hx hb dzU_disturb_0 rfl (lv_at hl 1 rfl) ?_
  refine xk_get (pc := 1) hx hb hts hown hK hP ffzU_181 21 rfl rfl dzU_disturb_1 ?_
  have K1 : ∀ (g3 : xk_St) (H : Heap) (locs : List Loc), (if (g0 21 3) = 0 then (∃ (g1 : xk_St), g1 = va_up g0 21 (upd (g0 21) 3 1) ∧ (∃ (g2 : xk_St), g2 = va_up (va_up (va_up (va_up g1 5 (upd (g1 5) 3 (qzJ_add_a3 (g1 5 3)))) 6 (qzJ_add_b (g1 5 3) (g1 6) (g1 0 5))) 7 (qzJ_add_c (g1 5 3) (g1 7) 1)) 8 (qzJ_add_d (g1 5 3) (g1 8) (g1 21 0)) ∧ (g3 = g2))) else (g3 = g0)) → (va_P G xk_cls (xk_wU ad ac g3) H) → (va_D A (xk_wU ad ac g3)) → (va_S A s.heap H locs) → W p l e xk_r1 s m args below meth c H locs 0 0 Q (F0 m 28 ls []) := by
    intro g3 H locs R1 hP hD hS
    exact hret g3 H locs 28 ls hP hS (by unfold relzU_disturb_2; exact ⟨g3, R1, rfl⟩) dzU_disturb_28
  refine lv_if_ne (pc := 4) (tgt := 28) hx hb dzU_disturb_4 (by decide) (fun h1 => ?_) (fun h1 => ?_)
  ·
    exact K1 g0 H locs (Eq.mpr (if_neg h1) rfl) hP hD hS
  ·
    refine lv_aload_n (pc := 7) hx hb dzU_disturb_7 rfl (lv_at hl 1 rfl) ?_
    refine lv_iconst (v := 1) (pc := 8) hx hb dzU_disturb_8 (by decide) ?_
    refine xk_putf (pc := 9) hx hb hts hown hK hP hD hS pfzU_181 21 rfl (xk_bn xk_b1) (xk_bf xk_b1) (Nat.le_of_ble_eq_true rfl) dzU_disturb_9 (fun H locs hP hD hS => ?_)
    obtain ⟨g1, eg1⟩ : ∃ z : xk_St, z = va_up g0 21 (upd (g0 21) 3 1) := ⟨_, rfl⟩
    have hP : va_P G xk_cls (xk_wU ad ac g1) H := by rw [eg1]; exact hP
    have hD : va_D A (xk_wU ad ac g1) := by rw [eg1]; exact hD
    refine lv_aload_n (pc := 12) hx hb dzU_disturb_12 rfl (lv_at hl 0 rfl) ?_
    refine xk_get (pc := 13) hx hb hts hown hK hP ffzU_37 0 rfl rfl dzU_disturb_13 ?_
    refine lv_aload_n (pc := 16) hx hb dzU_disturb_16 rfl (lv_at hl 0 rfl) ?_
    refine xk_get (pc := 17) hx hb hts hown hK hP ffzU_41 0 rfl rfl dzU_disturb_17 ?_
    refine lv_iconst (v := 1) (pc := 20) hx hb dzU_disturb_20 (by decide) ?_
    refine lv_aload_n (pc := 21) hx hb dzU_disturb_21 rfl (lv_at hl 1 rfl) ?_
    refine xk_get (pc := 22) hx hb hts hown hK hP ffzU_204 21 rfl rfl dzU_disturb_22 ?_
    refine xk_callVV (As := [.int (g1 0 5), .int 1, .int (g1 21 0)]) (rest := []) (H0 := s.heap) (pc := 25) hx hb hml hts hown hK hA hP hD hS (kzJ_add l G ac (ad 5) (ad 6) (ad 7) (ad 8) (g1 5 3) (g1 6) (g1 7) (g1 8) (g1 0 5) 1 (g1 21 0)) vfzU_170 [5, 6, 7, 8] (by decide) rfl (fun _ => rfl) 5 rfl rfl ⟨rfl, rfl⟩ ⟨Nat.le_of_ble_eq_true rfl, Nat.le_of_ble_eq_true rfl⟩ rfl hl.1 rfl (Nat.le_of_ble_eq_true rfl) ⟨Nat.zero_le _, Nat.zero_le _⟩ dzU_disturb_25 (fun u9 H locs e9 hP hD hS => ?_)
    obtain ⟨g2, eg2⟩ : ∃ z : xk_St, z = va_up (va_up (va_up (va_up g1 5 (upd (g1 5) 3 (qzJ_add_a3 (g1 5 3)))) 6 (qzJ_add_b (g1 5 3) (g1 6) (g1 0 5))) 7 (qzJ_add_c (g1 5 3) (g1 7) 1)) 8 (qzJ_add_d (g1 5 3) (g1 8) (g1 21 0)) := ⟨_, rfl⟩
    have hP : va_P G xk_cls (xk_wU ad ac g2) H := by rw [eg2]; exact hP
    have hD : va_D A (xk_wU ad ac g2) := by rw [eg2]; exact hD
    exact K1 g2 H locs (Eq.mpr (if_pos h1) ⟨g1, eg1, ⟨g2, eg2, rfl⟩⟩) hP hD hS
def relzU_disturb_3 (g0 : xk_St) (g9 : xk_St) : Prop := ∃ (g3 : xk_St), (if (g0 22 3) = 0 then (∃ (g1 : xk_St), g1 = va_up g0 22 (upd (g0 22) 3 1) ∧ (∃ (g2 : xk_St), g2 = va_up (va_up (va_up (va_up g1 5 (upd (g1 5) 3 (qzJ_add_a3 (g1 5 3)))) 6 (qzJ_add_b (g1 5 3) (g1 6) (g1 0 5))) 7 (qzJ_add_c (g1 5 3) (g1 7) 1)) 8 (qzJ_add_d (g1 5 3) (g1 8) (g1 22 0)) ∧ (g3 = g2))) else (g3 = g0)) ∧ (g9 = g3)
set_option maxHeartbeats 4000000 in
set_option maxRecDepth 100000 in
theorem kzU_disturb_3 (l : Launch) (G : va_G) (ac : Nat → ClassId) (ad : Nat → Nat) (g0 : xk_St) : xk_CV l yzU_disturb czU_disturb 2 xk_WS xk_r1 G xk_cls (xk_tys ac) [.ref (ad 0), .ref (ad 22)] (xk_wU ad ac g0) (fun (g9 : xk_St) => relzU_disturb_3 g0 g9) (fun g9 => xk_wU ad ac g9) := by
  refine xk_ofV (by decide) (Nat.le_of_ble_eq_true rfl) ?_
  intro p e s m args below meth c A Q H locs ls C0 hret hP hD hS hl
  obtain ⟨hx, hb, hml, hts, hown, hK, hA⟩ := C0
  have hl : lv_has ls 2 [(0, .ref (ad 0)), (1, .ref (ad 22))] := hl
  refine lv_aload_n (pc := 0) hx hb dzU_disturb_0 rfl (lv_at hl 1 rfl) ?_
  refine xk_get (pc := 1) hx hb hts hown hK hP ffzU_181 22 rfl rfl dzU_disturb_1 ?_
  have K1 : ∀ (g3 : xk_St) (H : Heap) (locs : List Loc), (if (g0 22 3) = 0 then (∃ (g1 : xk_St), g1 = va_up g0 22 (upd (g0 22) 3 1) ∧ (∃ (g2 : xk_St), g2 = va_up (va_up (va_up (va_up g1 5 (upd (g1 5) 3 (qzJ_add_a3 (g1 5 3)))) 6 (qzJ_add_b (g1 5 3) (g1 6) (g1 0 5))) 7 (qzJ_add_c (g1 5 3) (g1 7) 1)) 8 (qzJ_add_d (g1 5 3) (g1 8) (g1 22 0)) ∧ (g3 = g2))) else (g3 = g0)) → (va_P G xk_cls (xk_wU ad ac g3) H) → (va_D A (xk_wU ad ac g3)) → (va_S A s.heap H locs) → W p l e xk_r1 s m args below meth c H locs 0 0 Q (F0 m 28 ls []) := by
    intro g3 H locs R1 hP hD hS
    exact hret g3 H locs 28 ls hP hS (by unfold relzU_disturb_3; exact ⟨g3, R1, rfl⟩) dzU_disturb_28
  refine lv_if_ne (pc := 4) (tgt := 28) hx hb dzU_disturb_4 (by decide) (fun h1 => ?_) (fun h1 => ?_)
  ·
    exact K1 g0 H locs (Eq.mpr (if_neg h1) rfl) hP hD hS
  ·
    refine lv_aload_n (pc := 7) hx hb dzU_disturb_7 rfl (lv_at hl 1 rfl) ?_
    refine lv_iconst (v := 1) (pc := 8) hx hb dzU_disturb_8 (by decide) ?_
    refine xk_putf (pc := 9) hx hb hts hown hK hP hD hS pfzU_181 22 rfl (xk_bn xk_b1) (xk_bf xk_b1) (Nat.le_of_ble_eq_true rfl) dzU_disturb_9 (fun H locs hP hD hS => ?_)
    obtain ⟨g1, eg1⟩ : ∃ z : xk_St, z = va_up g0 22 (upd (g0 22) 3 1) := ⟨_, rfl⟩
    have hP : va_P G xk_cls (xk_wU ad ac g1) H := by rw [eg1]; exact hP
    have hD : va_D A (xk_wU ad ac g1) := by rw [eg1]; exact hD
    refine lv_aload_n (pc := 12) hx hb dzU_disturb_12 rfl (lv_at hl 0 rfl) ?_
    refine xk_get (pc := 13) hx hb hts hown hK hP ffzU_37 0 rfl rfl dzU_disturb_13 ?_
    refine lv_aload_n (pc := 16) hx hb dzU_disturb_16 rfl (lv_at hl 0 rfl) ?_
    refine xk_get (pc := 17) hx hb hts hown hK hP ffzU_41 0 rfl rfl dzU_disturb_17 ?_
    refine lv_iconst (v := 1) (pc := 20) hx hb dzU_disturb_20 (by decide) ?_
    refine lv_aload_n (pc := 21) hx hb dzU_disturb_21 rfl (lv_at hl 1 rfl) ?_
    refine xk_get (pc := 22) hx hb hts hown hK hP ffzU_204 22 rfl rfl dzU_disturb_22 ?_
    refine xk_callVV (As := [.int (g1 0 5), .int 1, .int (g1 22 0)]) (rest := []) (H0 := s.heap) (pc := 25) hx hb hml hts hown hK hA hP hD hS (kzJ_add l G ac (ad 5) (ad 6) (ad 7) (ad 8) (g1 5 3) (g1 6) (g1 7) (g1 8) (g1 0 5) 1 (g1 22 0)) vfzU_170 [5, 6, 7, 8] (by decide) rfl (fun _ => rfl) 5 rfl rfl ⟨rfl, rfl⟩ ⟨Nat.le_of_ble_eq_true rfl, Nat.le_of_ble_eq_true rfl⟩ rfl hl.1 rfl (Nat.le_of_ble_eq_true rfl) ⟨Nat.zero_le _, Nat.zero_le _⟩ dzU_disturb_25 (fun u9 H locs e9 hP hD hS => ?_)
    obtain ⟨g2, eg2⟩ : ∃ z : xk_St, z = va_up (va_up (va_up (va_up g1 5 (upd (g1 5) 3 (qzJ_add_a3 (g1 5 3)))) 6 (qzJ_add_b (g1 5 3) (g1 6) (g1 0 5))) 7 (qzJ_add_c (g1 5 3) (g1 7) 1)) 8 (qzJ_add_d (g1 5 3) (g1 8) (g1 22 0)) := ⟨_, rfl⟩
    have hP : va_P G xk_cls (xk_wU ad ac g2) H := by rw [eg2]; exact hP
    have hD : va_D A (xk_wU ad ac g2) := by rw [eg2]; exact hD
    exact K1 g2 H locs (Eq.mpr (if_pos h1) ⟨g1, eg1, ⟨g2, eg2, rfl⟩⟩) hP hD hS
def relzU_disturb_4 (g0 : xk_St) (g9 : xk_St) : Prop := ∃ (g3 : xk_St), (if (g0 23 3) = 0 then (∃ (g1 : xk_St), g1 = va_up g0 23 (upd (g0 23) 3 1) ∧ (∃ (g2 : xk_St), g2 = va_up (va_up (va_up (va_up g1 5 (upd (g1 5) 3 (qzJ_add_a3 (g1 5 3)))) 6 (qzJ_add_b (g1 5 3) (g1 6) (g1 0 5))) 7 (qzJ_add_c (g1 5 3) (g1 7) 1)) 8 (qzJ_add_d (g1 5 3) (g1 8) (g1 23 0)) ∧ (g3 = g2))) else (g3 = g0)) ∧ (g9 = g3)
set_option maxHeartbeats 4000000 in
set_option maxRecDepth 100000 in
theorem kzU_disturb_4 (l : Launch) (G : va_G) (ac : Nat → ClassId) (ad : Nat → Nat) (g0 : xk_St) : xk_CV l yzU_disturb czU_disturb 2 xk_WS xk_r1 G xk_cls (xk_tys ac) [.ref (ad 0), .ref (ad 23)] (xk_wU ad ac g0) (fun (g9 : xk_St) => relzU_disturb_4 g0 g9) (fun g9 => xk_wU ad ac g9) := by
  refine xk_ofV (by decide) (Nat.le_of_ble_eq_true rfl) ?_
  intro p e s m args below meth c A Q H locs ls C0 hret hP hD hS hl
  obtain ⟨hx, hb, hml, hts, hown, hK, hA⟩ := C0
  have hl : lv_has ls 2 [(0, .ref (ad 0)), (1, .ref (ad 23))] := hl
  refine lv_aload_n (pc := 0) hx hb dzU_disturb_0 rfl (lv_at hl 1 rfl) ?_
  refine xk_get (pc := 1) hx hb hts hown hK hP ffzU_181 23 rfl rfl dzU_disturb_1 ?_
  have K1 : ∀ (g3 : xk_St) (H : Heap) (locs : List Loc), (if (g0 23 3) = 0 then (∃ (g1 : xk_St), g1 = va_up g0 23 (upd (g0 23) 3 1) ∧ (∃ (g2 : xk_St), g2 = va_up (va_up (va_up (va_up g1 5 (upd (g1 5) 3 (qzJ_add_a3 (g1 5 3)))) 6 (qzJ_add_b (g1 5 3) (g1 6) (g1 0 5))) 7 (qzJ_add_c (g1 5 3) (g1 7) 1)) 8 (qzJ_add_d (g1 5 3) (g1 8) (g1 23 0)) ∧ (g3 = g2))) else (g3 = g0)) → (va_P G xk_cls (xk_wU ad ac g3) H) → (va_D A (xk_wU ad ac g3)) → (va_S A s.heap H locs) → W p l e xk_r1 s m args below meth c H locs 0 0 Q (F0 m 28 ls []) := by
    intro g3 H locs R1 hP hD hS
    exact hret g3 H locs 28 ls hP hS (by unfold relzU_disturb_4; exact ⟨g3, R1, rfl⟩) dzU_disturb_28
  refine lv_if_ne (pc := 4) (tgt := 28) hx hb dzU_disturb_4 (by decide) (fun h1 => ?_) (fun h1 => ?_)
  ·
    exact K1 g0 H locs (Eq.mpr (if_neg h1) rfl) hP hD hS
  ·
    refine lv_aload_n (pc := 7) hx hb dzU_disturb_7 rfl (lv_at hl 1 rfl) ?_
    refine lv_iconst (v := 1) (pc := 8) hx hb dzU_disturb_8 (by decide) ?_
    refine xk_putf (pc := 9) hx hb hts hown hK hP hD hS pfzU_181 23 rfl (xk_bn xk_b1) (xk_bf xk_b1) (Nat.le_of_ble_eq_true rfl) dzU_disturb_9 (fun H locs hP hD hS => ?_)
    obtain ⟨g1, eg1⟩ : ∃ z : xk_St, z = va_up g0 23 (upd (g0 23) 3 1) := ⟨_, rfl⟩
    have hP : va_P G xk_cls (xk_wU ad ac g1) H := by rw [eg1]; exact hP
    have hD : va_D A (xk_wU ad ac g1) := by rw [eg1]; exact hD
    refine lv_aload_n (pc := 12) hx hb dzU_disturb_12 rfl (lv_at hl 0 rfl) ?_
    refine xk_get (pc := 13) hx hb hts hown hK hP ffzU_37 0 rfl rfl dzU_disturb_13 ?_
    refine lv_aload_n (pc := 16) hx hb dzU_disturb_16 rfl (lv_at hl 0 rfl) ?_
    refine xk_get (pc := 17) hx hb hts hown hK hP ffzU_41 0 rfl rfl dzU_disturb_17 ?_
    refine lv_iconst (v := 1) (pc := 20) hx hb dzU_disturb_20 (by decide) ?_
    refine lv_aload_n (pc := 21) hx hb dzU_disturb_21 rfl (lv_at hl 1 rfl) ?_
    refine xk_get (pc := 22) hx hb hts hown hK hP ffzU_204 23 rfl rfl dzU_disturb_22 ?_
    refine xk_callVV (As := [.int (g1 0 5), .int 1, .int (g1 23 0)]) (rest := []) (H0 := s.heap) (pc := 25) hx hb hml hts hown hK hA hP hD hS (kzJ_add l G ac (ad 5) (ad 6) (ad 7) (ad 8) (g1 5 3) (g1 6) (g1 7) (g1 8) (g1 0 5) 1 (g1 23 0)) vfzU_170 [5, 6, 7, 8] (by decide) rfl (fun _ => rfl) 5 rfl rfl ⟨rfl, rfl⟩ ⟨Nat.le_of_ble_eq_true rfl, Nat.le_of_ble_eq_true rfl⟩ rfl hl.1 rfl (Nat.le_of_ble_eq_true rfl) ⟨Nat.zero_le _, Nat.zero_le _⟩ dzU_disturb_25 (fun u9 H locs e9 hP hD hS => ?_)
    obtain ⟨g2, eg2⟩ : ∃ z : xk_St, z = va_up (va_up (va_up (va_up g1 5 (upd (g1 5) 3 (qzJ_add_a3 (g1 5 3)))) 6 (qzJ_add_b (g1 5 3) (g1 6) (g1 0 5))) 7 (qzJ_add_c (g1 5 3) (g1 7) 1)) 8 (qzJ_add_d (g1 5 3) (g1 8) (g1 23 0)) := ⟨_, rfl⟩
    have hP : va_P G xk_cls (xk_wU ad ac g2) H := by rw [eg2]; exact hP
    have hD : va_D A (xk_wU ad ac g2) := by rw [eg2]; exact hD
    exact K1 g2 H locs (Eq.mpr (if_pos h1) ⟨g1, eg1, ⟨g2, eg2, rfl⟩⟩) hP hD hS
def relzU_disturb_5 (g0 : xk_St) (g9 : xk_St) : Prop := ∃ (g3 : xk_St), (if (g0 24 3) = 0 then (∃ (g1 : xk_St), g1 = va_up g0 24 (upd (g0 24) 3 1) ∧ (∃ (g2 : xk_St), g2 = va_up (va_up (va_up (va_up g1 5 (upd (g1 5) 3 (qzJ_add_a3 (g1 5 3)))) 6 (qzJ_add_b (g1 5 3) (g1 6) (g1 0 5))) 7 (qzJ_add_c (g1 5 3) (g1 7) 1)) 8 (qzJ_add_d (g1 5 3) (g1 8) (g1 24 0)) ∧ (g3 = g2))) else (g3 = g0)) ∧ (g9 = g3)
set_option maxHeartbeats 4000000 in
set_option maxRecDepth 100000 in
theorem kzU_disturb_5 (l : Launch) (G : va_G) (ac : Nat → ClassId) (ad : Nat → Nat) (g0 : xk_St) : xk_CV l yzU_disturb czU_disturb 2 xk_WS xk_r1 G xk_cls (xk_tys ac) [.ref (ad 0), .ref (ad 24)] (xk_wU ad ac g0) (fun (g9 : xk_St) => relzU_disturb_5 g0 g9) (fun g9 => xk_wU ad ac g9) := by
  refine xk_ofV (by decide) (Nat.le_of_ble_eq_true rfl) ?_
  intro p e s m args below meth c A Q H locs ls C0 hret hP hD hS hl
  obtain ⟨hx, hb, hml, hts, hown, hK, hA⟩ := C0
  have hl : lv_has ls 2 [(0, .ref (ad 0)), (1, .ref (ad 24))] := hl
  refine lv_aload_n (pc := 0) hx hb dzU_disturb_0 rfl (lv_at hl 1 rfl) ?_
  refine xk_get (pc := 1) hx hb hts hown hK hP ffzU_181 24 rfl rfl dzU_disturb_1 ?_
  have K1 : ∀ (g3 : xk_St) (H : Heap) (locs : List Loc), (if (g0 24 3) = 0 then (∃ (g1 : xk_St), g1 = va_up g0 24 (upd (g0 24) 3 1) ∧ (∃ (g2 : xk_St), g2 = va_up (va_up (va_up (va_up g1 5 (upd (g1 5) 3 (qzJ_add_a3 (g1 5 3)))) 6 (qzJ_add_b (g1 5 3) (g1 6) (g1 0 5))) 7 (qzJ_add_c (g1 5 3) (g1 7) 1)) 8 (qzJ_add_d (g1 5 3) (g1 8) (g1 24 0)) ∧ (g3 = g2))) else (g3 = g0)) → (va_P G xk_cls (xk_wU ad ac g3) H) → (va_D A (xk_wU ad ac g3)) → (va_S A s.heap H locs) → W p l e xk_r1 s m args below meth c H locs 0 0 Q (F0 m 28 ls []) := by
    intro g3 H locs R1 hP hD hS
    exact hret g3 H locs 28 ls hP hS (by unfold relzU_disturb_5; exact ⟨g3, R1, rfl⟩) dzU_disturb_28
  refine lv_if_ne (pc := 4) (tgt := 28) hx hb dzU_disturb_4 (by decide) (fun h1 => ?_) (fun h1 => ?_)
  ·
    exact K1 g0 H locs (Eq.mpr (if_neg h1) rfl) hP hD hS
  ·
    refine lv_aload_n (pc := 7) hx hb dzU_disturb_7 rfl (lv_at hl 1 rfl) ?_
    refine lv_iconst (v := 1) (pc := 8) hx hb dzU_disturb_8 (by decide) ?_
    refine xk_putf (pc := 9) hx hb hts hown hK hP hD hS pfzU_181 24 rfl (xk_bn xk_b1) (xk_bf xk_b1) (Nat.le_of_ble_eq_true rfl) dzU_disturb_9 (fun H locs hP hD hS => ?_)
    obtain ⟨g1, eg1⟩ : ∃ z : xk_St, z = va_up g0 24 (upd (g0 24) 3 1) := ⟨_, rfl⟩
    have hP : va_P G xk_cls (xk_wU ad ac g1) H := by rw [eg1]; exact hP
    have hD : va_D A (xk_wU ad ac g1) := by rw [eg1]; exact hD
    refine lv_aload_n (pc := 12) hx hb dzU_disturb_12 rfl (lv_at hl 0 rfl) ?_
    refine xk_get (pc := 13) hx hb hts hown hK hP ffzU_37 0 rfl rfl dzU_disturb_13 ?_
    refine lv_aload_n (pc := 16) hx hb dzU_disturb_16 rfl (lv_at hl 0 rfl) ?_
    refine xk_get (pc := 17) hx hb hts hown hK hP ffzU_41 0 rfl rfl dzU_disturb_17 ?_
    refine lv_iconst (v := 1) (pc := 20) hx hb dzU_disturb_20 (by decide) ?_
    refine lv_aload_n (pc := 21) hx hb dzU_disturb_21 rfl (lv_at hl 1 rfl) ?_
    refine xk_get (pc := 22) hx hb hts hown hK hP ffzU_204 24 rfl rfl dzU_disturb_22 ?_
    refine xk_callVV (As := [.int (g1 0 5), .int 1, .int (g1 24 0)]) (rest := []) (H0 := s.heap) (pc := 25) hx hb hml hts hown hK hA hP hD hS (kzJ_add l G ac (ad 5) (ad 6) (ad 7) (ad 8) (g1 5 3) (g1 6) (g1 7) (g1 8) (g1 0 5) 1 (g1 24 0)) vfzU_170 [5, 6, 7, 8] (by decide) rfl (fun _ => rfl) 5 rfl rfl ⟨rfl, rfl⟩ ⟨Nat.le_of_ble_eq_true rfl, Nat.le_of_ble_eq_true rfl⟩ rfl hl.1 rfl (Nat.le_of_ble_eq_true rfl) ⟨Nat.zero_le _, Nat.zero_le _⟩ dzU_disturb_25 (fun u9 H locs e9 hP hD hS => ?_)
    obtain ⟨g2, eg2⟩ : ∃ z : xk_St, z = va_up (va_up (va_up (va_up g1 5 (upd (g1 5) 3 (qzJ_add_a3 (g1 5 3)))) 6 (qzJ_add_b (g1 5 3) (g1 6) (g1 0 5))) 7 (qzJ_add_c (g1 5 3) (g1 7) 1)) 8 (qzJ_add_d (g1 5 3) (g1 8) (g1 24 0)) := ⟨_, rfl⟩
    have hP : va_P G xk_cls (xk_wU ad ac g2) H := by rw [eg2]; exact hP
    have hD : va_D A (xk_wU ad ac g2) := by rw [eg2]; exact hD
    exact K1 g2 H locs (Eq.mpr (if_pos h1) ⟨g1, eg1, ⟨g2, eg2, rfl⟩⟩) hP hD hS
def relzU_rememberBalances (g0 : xk_St) (g9 : xk_St) : Prop := ∃ (g1 : xk_St), g1 = va_up g0 19 (upd (g0 19) 2 (qzS_rememberBalance_a2 (g0 19 1))) ∧ (∃ (g2 : xk_St), g2 = va_up g1 20 (upd (g1 20) 2 (qzS_rememberBalance_a2 (g1 20 1))) ∧ (∃ (g3 : xk_St), g3 = va_up g2 21 (upd (g2 21) 2 (qzS_rememberBalance_a2 (g2 21 1))) ∧ (∃ (g4 : xk_St), g4 = va_up g3 22 (upd (g3 22) 2 (qzS_rememberBalance_a2 (g3 22 1))) ∧ (∃ (g5 : xk_St), g5 = va_up g4 23 (upd (g4 23) 2 (qzS_rememberBalance_a2 (g4 23 1))) ∧ (∃ (g6 : xk_St), g6 = va_up g5 24 (upd (g5 24) 2 (qzS_rememberBalance_a2 (g5 24 1))) ∧ (g9 = g6))))))
set_option maxHeartbeats 4000000 in
set_option maxRecDepth 100000 in
theorem kzU_rememberBalances (l : Launch) (G : va_G) (ac : Nat → ClassId) (ad : Nat → Nat) (g0 : xk_St) : xk_CV l yzU_rememberBalances czU_rememberBalances 3 xk_WS xk_r1 G xk_cls (xk_tys ac) [.ref (ad 0)] (xk_wU ad ac g0) (fun (g9 : xk_St) => relzU_rememberBalances g0 g9) (fun g9 => xk_wU ad ac g9) := by
  refine xk_ofV (by decide) (Nat.le_of_ble_eq_true rfl) ?_
  intro p e s m args below meth c A Q H locs ls C0 hret hP hD hS hl
  obtain ⟨hx, hb, hml, hts, hown, hK, hA⟩ := C0
  have hl : lv_has ls 3 [(0, .ref (ad 0))] := hl
  refine lv_iconst (v := 0) (pc := 0) hx hb dzU_rememberBalances_0 (by decide) ?_
  refine lv_istore_n (lv' := [(1, .int 0), (0, .ref (ad 0))]) (pc := 1) hx hb dzU_rememberBalances_1 rfl hl (by decide) rfl (fun ls hl => ?_)
  refine lv_iload_n (pc := 2) hx hb dzU_rememberBalances_2 rfl (lv_at hl 0 rfl) ?_
  refine lv_iconst (v := 2) (pc := 3) hx hb dzU_rememberBalances_3 (by decide) ?_
  refine lv_icmp_ge (pc := 4) (tgt := 40) hx hb dzU_rememberBalances_4 (by decide) (fun h9 => absurd h9 (by decide)) (fun _ => ?_)
  refine lv_iconst (v := 0) (pc := 7) hx hb dzU_rememberBalances_7 (by decide) ?_
  refine lv_istore_n (lv' := [(2, .int 0), (1, .int 0), (0, .ref (ad 0))]) (pc := 8) hx hb dzU_rememberBalances_8 rfl hl (by decide) rfl (fun ls hl => ?_)
  refine lv_iload_n (pc := 9) hx hb dzU_rememberBalances_9 rfl (lv_at hl 0 rfl) ?_
  refine lv_iconst (v := 3) (pc := 10) hx hb dzU_rememberBalances_10 (by decide) ?_
  refine lv_icmp_ge (pc := 11) (tgt := 34) hx hb dzU_rememberBalances_11 (by decide) (fun h9 => absurd h9 (by decide)) (fun _ => ?_)
  refine lv_aload_n (pc := 14) hx hb dzU_rememberBalances_14 rfl (lv_at hl 2 rfl) ?_
  refine xk_get (pc := 15) hx hb hts hown hK hP ffzU_11 0 rfl rfl dzU_rememberBalances_15 ?_
  refine lv_iload_n (pc := 18) hx hb dzU_rememberBalances_18 rfl (lv_at hl 1 rfl) ?_
  refine xk_aald (q0 := 1) (t0 := 2) (j := 0) (b := (ad 9)) (pc := 19) hx hb hK hP rfl rfl (pk_in 0 2 (by decide)) (pk_cl 0) rfl dzU_rememberBalances_19 ?_
  refine xk_get (pc := 20) hx hb hts hown hK hP ffzU_158 9 rfl rfl dzU_rememberBalances_20 ?_
  refine lv_iload_n (pc := 23) hx hb dzU_rememberBalances_23 rfl (lv_at hl 0 rfl) ?_
  refine xk_aald (q0 := 11) (t0 := 3) (j := 0) (b := (ad 19)) (pc := 24) hx hb hK hP rfl rfl (pk_in 0 3 (by decide)) (pk_cl 0) rfl dzU_rememberBalances_24 ?_
  refine xk_callVV (As := []) (rest := []) (H0 := s.heap) (pc := 25) hx hb hml hts hown hK hA hP hD hS (kzS_rememberBalance l G ac (ad 19) (g0 19 0) (g0 19 1) (g0 19 2) (g0 19 3) (g0 19 4) (g0 19 5) (g0 19 6) (g0 19 7) (g0 19 8)) vfzU_278 [19] (by decide) rfl (fun _ => rfl) 19 rfl rfl ⟨rfl, rfl⟩ ⟨Nat.le_of_ble_eq_true rfl, Nat.le_of_ble_eq_true rfl⟩ rfl hl.1 rfl (Nat.le_of_ble_eq_true rfl) ⟨Nat.zero_le _, Nat.zero_le _⟩ dzU_rememberBalances_25 (fun u9 H locs e9 hP hD hS => ?_)
  obtain ⟨g1, eg1⟩ : ∃ z : xk_St, z = va_up g0 19 (upd (g0 19) 2 (qzS_rememberBalance_a2 (g0 19 1))) := ⟨_, rfl⟩
  have hP : va_P G xk_cls (xk_wU ad ac g1) H := by rw [eg1]; exact hP
  have hD : va_D A (xk_wU ad ac g1) := by rw [eg1]; exact hD
  refine lv_iinc (k := 0) (x := 0) (v := 1) (lv' := [(2, .int 1), (1, .int 0), (0, .ref (ad 0))]) (pc := 28) hx hb dzU_rememberBalances_28 hl rfl (by decide) (by decide) rfl (fun ls hl => ?_)
  refine lv_goto (tgt := 9) (pc := 31) hx hb dzU_rememberBalances_31 (by decide) ?_
  refine lv_iload_n (pc := 9) hx hb dzU_rememberBalances_9 rfl (lv_at hl 0 rfl) ?_
  refine lv_iconst (v := 3) (pc := 10) hx hb dzU_rememberBalances_10 (by decide) ?_
  refine lv_icmp_ge (pc := 11) (tgt := 34) hx hb dzU_rememberBalances_11 (by decide) (fun h9 => absurd h9 (by decide)) (fun _ => ?_)
  refine lv_aload_n (pc := 14) hx hb dzU_rememberBalances_14 rfl (lv_at hl 2 rfl) ?_
  refine xk_get (pc := 15) hx hb hts hown hK hP ffzU_11 0 rfl rfl dzU_rememberBalances_15 ?_
  refine lv_iload_n (pc := 18) hx hb dzU_rememberBalances_18 rfl (lv_at hl 1 rfl) ?_
  refine xk_aald (q0 := 1) (t0 := 2) (j := 0) (b := (ad 9)) (pc := 19) hx hb hK hP rfl rfl (pk_in 0 2 (by decide)) (pk_cl 0) rfl dzU_rememberBalances_19 ?_
  refine xk_get (pc := 20) hx hb hts hown hK hP ffzU_158 9 rfl rfl dzU_rememberBalances_20 ?_
  refine lv_iload_n (pc := 23) hx hb dzU_rememberBalances_23 rfl (lv_at hl 0 rfl) ?_
  refine xk_aald (q0 := 11) (t0 := 3) (j := 1) (b := (ad 20)) (pc := 24) hx hb hK hP rfl rfl (pk_in 1 3 (by decide)) (pk_cl 1) rfl dzU_rememberBalances_24 ?_
  refine xk_callVV (As := []) (rest := []) (H0 := s.heap) (pc := 25) hx hb hml hts hown hK hA hP hD hS (kzS_rememberBalance l G ac (ad 20) (g1 20 0) (g1 20 1) (g1 20 2) (g1 20 3) (g1 20 4) (g1 20 5) (g1 20 6) (g1 20 7) (g1 20 8)) vfzU_278 [20] (by decide) rfl (fun _ => rfl) 20 rfl rfl ⟨rfl, rfl⟩ ⟨Nat.le_of_ble_eq_true rfl, Nat.le_of_ble_eq_true rfl⟩ rfl hl.1 rfl (Nat.le_of_ble_eq_true rfl) ⟨Nat.zero_le _, Nat.zero_le _⟩ dzU_rememberBalances_25 (fun u9 H locs e9 hP hD hS => ?_)
  obtain ⟨g2, eg2⟩ : ∃ z : xk_St, z = va_up g1 20 (upd (g1 20) 2 (qzS_rememberBalance_a2 (g1 20 1))) := ⟨_, rfl⟩
  have hP : va_P G xk_cls (xk_wU ad ac g2) H := by rw [eg2]; exact hP
  have hD : va_D A (xk_wU ad ac g2) := by rw [eg2]; exact hD
  refine lv_iinc (k := 0) (x := 1) (v := 2) (lv' := [(2, .int 2), (1, .int 0), (0, .ref (ad 0))]) (pc := 28) hx hb dzU_rememberBalances_28 hl rfl (by decide) (by decide) rfl (fun ls hl => ?_)
  refine lv_goto (tgt := 9) (pc := 31) hx hb dzU_rememberBalances_31 (by decide) ?_
  refine lv_iload_n (pc := 9) hx hb dzU_rememberBalances_9 rfl (lv_at hl 0 rfl) ?_
  refine lv_iconst (v := 3) (pc := 10) hx hb dzU_rememberBalances_10 (by decide) ?_
  refine lv_icmp_ge (pc := 11) (tgt := 34) hx hb dzU_rememberBalances_11 (by decide) (fun h9 => absurd h9 (by decide)) (fun _ => ?_)
  refine lv_aload_n (pc := 14) hx hb dzU_rememberBalances_14 rfl (lv_at hl 2 rfl) ?_
  refine xk_get (pc := 15) hx hb hts hown hK hP ffzU_11 0 rfl rfl dzU_rememberBalances_15 ?_
  refine lv_iload_n (pc := 18) hx hb dzU_rememberBalances_18 rfl (lv_at hl 1 rfl) ?_
  refine xk_aald (q0 := 1) (t0 := 2) (j := 0) (b := (ad 9)) (pc := 19) hx hb hK hP rfl rfl (pk_in 0 2 (by decide)) (pk_cl 0) rfl dzU_rememberBalances_19 ?_
  refine xk_get (pc := 20) hx hb hts hown hK hP ffzU_158 9 rfl rfl dzU_rememberBalances_20 ?_
  refine lv_iload_n (pc := 23) hx hb dzU_rememberBalances_23 rfl (lv_at hl 0 rfl) ?_
  refine xk_aald (q0 := 11) (t0 := 3) (j := 2) (b := (ad 21)) (pc := 24) hx hb hK hP rfl rfl (pk_in 2 3 (by decide)) (pk_cl 2) rfl dzU_rememberBalances_24 ?_
  refine xk_callVV (As := []) (rest := []) (H0 := s.heap) (pc := 25) hx hb hml hts hown hK hA hP hD hS (kzS_rememberBalance l G ac (ad 21) (g2 21 0) (g2 21 1) (g2 21 2) (g2 21 3) (g2 21 4) (g2 21 5) (g2 21 6) (g2 21 7) (g2 21 8)) vfzU_278 [21] (by decide) rfl (fun _ => rfl) 21 rfl rfl ⟨rfl, rfl⟩ ⟨Nat.le_of_ble_eq_true rfl, Nat.le_of_ble_eq_true rfl⟩ rfl hl.1 rfl (Nat.le_of_ble_eq_true rfl) ⟨Nat.zero_le _, Nat.zero_le _⟩ dzU_rememberBalances_25 (fun u9 H locs e9 hP hD hS => ?_)
  obtain ⟨g3, eg3⟩ : ∃ z : xk_St, z = va_up g2 21 (upd (g2 21) 2 (qzS_rememberBalance_a2 (g2 21 1))) := ⟨_, rfl⟩
  have hP : va_P G xk_cls (xk_wU ad ac g3) H := by rw [eg3]; exact hP
  have hD : va_D A (xk_wU ad ac g3) := by rw [eg3]; exact hD
  refine lv_iinc (k := 0) (x := 2) (v := 3) (lv' := [(2, .int 3), (1, .int 0), (0, .ref (ad 0))]) (pc := 28) hx hb dzU_rememberBalances_28 hl rfl (by decide) (by decide) rfl (fun ls hl => ?_)
  refine lv_goto (tgt := 9) (pc := 31) hx hb dzU_rememberBalances_31 (by decide) ?_
  refine lv_iload_n (pc := 9) hx hb dzU_rememberBalances_9 rfl (lv_at hl 0 rfl) ?_
  refine lv_iconst (v := 3) (pc := 10) hx hb dzU_rememberBalances_10 (by decide) ?_
  refine lv_icmp_ge (pc := 11) (tgt := 34) hx hb dzU_rememberBalances_11 (by decide) (fun _ => ?_) (fun h9 => absurd (by decide) h9)
  refine lv_iinc (k := 1) (x := 0) (v := 1) (lv' := [(1, .int 1), (2, .int 3), (0, .ref (ad 0))]) (pc := 34) hx hb dzU_rememberBalances_34 hl rfl (by decide) (by decide) rfl (fun ls hl => ?_)
  refine lv_goto (tgt := 2) (pc := 37) hx hb dzU_rememberBalances_37 (by decide) ?_
  refine lv_iload_n (pc := 2) hx hb dzU_rememberBalances_2 rfl (lv_at hl 0 rfl) ?_
  refine lv_iconst (v := 2) (pc := 3) hx hb dzU_rememberBalances_3 (by decide) ?_
  refine lv_icmp_ge (pc := 4) (tgt := 40) hx hb dzU_rememberBalances_4 (by decide) (fun h9 => absurd h9 (by decide)) (fun _ => ?_)
  refine lv_iconst (v := 0) (pc := 7) hx hb dzU_rememberBalances_7 (by decide) ?_
  refine lv_istore_n (lv' := [(2, .int 0), (1, .int 1), (0, .ref (ad 0))]) (pc := 8) hx hb dzU_rememberBalances_8 rfl hl (by decide) rfl (fun ls hl => ?_)
  refine lv_iload_n (pc := 9) hx hb dzU_rememberBalances_9 rfl (lv_at hl 0 rfl) ?_
  refine lv_iconst (v := 3) (pc := 10) hx hb dzU_rememberBalances_10 (by decide) ?_
  refine lv_icmp_ge (pc := 11) (tgt := 34) hx hb dzU_rememberBalances_11 (by decide) (fun h9 => absurd h9 (by decide)) (fun _ => ?_)
  refine lv_aload_n (pc := 14) hx hb dzU_rememberBalances_14 rfl (lv_at hl 2 rfl) ?_
  refine xk_get (pc := 15) hx hb hts hown hK hP ffzU_11 0 rfl rfl dzU_rememberBalances_15 ?_
  refine lv_iload_n (pc := 18) hx hb dzU_rememberBalances_18 rfl (lv_at hl 1 rfl) ?_
  refine xk_aald (q0 := 1) (t0 := 2) (j := 1) (b := (ad 10)) (pc := 19) hx hb hK hP rfl rfl (pk_in 1 2 (by decide)) (pk_cl 1) rfl dzU_rememberBalances_19 ?_
  refine xk_get (pc := 20) hx hb hts hown hK hP ffzU_158 10 rfl rfl dzU_rememberBalances_20 ?_
  refine lv_iload_n (pc := 23) hx hb dzU_rememberBalances_23 rfl (lv_at hl 0 rfl) ?_
  refine xk_aald (q0 := 12) (t0 := 3) (j := 0) (b := (ad 22)) (pc := 24) hx hb hK hP rfl rfl (pk_in 0 3 (by decide)) (pk_cl 0) rfl dzU_rememberBalances_24 ?_
  refine xk_callVV (As := []) (rest := []) (H0 := s.heap) (pc := 25) hx hb hml hts hown hK hA hP hD hS (kzS_rememberBalance l G ac (ad 22) (g3 22 0) (g3 22 1) (g3 22 2) (g3 22 3) (g3 22 4) (g3 22 5) (g3 22 6) (g3 22 7) (g3 22 8)) vfzU_278 [22] (by decide) rfl (fun _ => rfl) 22 rfl rfl ⟨rfl, rfl⟩ ⟨Nat.le_of_ble_eq_true rfl, Nat.le_of_ble_eq_true rfl⟩ rfl hl.1 rfl (Nat.le_of_ble_eq_true rfl) ⟨Nat.zero_le _, Nat.zero_le _⟩ dzU_rememberBalances_25 (fun u9 H locs e9 hP hD hS => ?_)
  obtain ⟨g4, eg4⟩ : ∃ z : xk_St, z = va_up g3 22 (upd (g3 22) 2 (qzS_rememberBalance_a2 (g3 22 1))) := ⟨_, rfl⟩
  have hP : va_P G xk_cls (xk_wU ad ac g4) H := by rw [eg4]; exact hP
  have hD : va_D A (xk_wU ad ac g4) := by rw [eg4]; exact hD
  refine lv_iinc (k := 0) (x := 0) (v := 1) (lv' := [(2, .int 1), (1, .int 1), (0, .ref (ad 0))]) (pc := 28) hx hb dzU_rememberBalances_28 hl rfl (by decide) (by decide) rfl (fun ls hl => ?_)
  refine lv_goto (tgt := 9) (pc := 31) hx hb dzU_rememberBalances_31 (by decide) ?_
  refine lv_iload_n (pc := 9) hx hb dzU_rememberBalances_9 rfl (lv_at hl 0 rfl) ?_
  refine lv_iconst (v := 3) (pc := 10) hx hb dzU_rememberBalances_10 (by decide) ?_
  refine lv_icmp_ge (pc := 11) (tgt := 34) hx hb dzU_rememberBalances_11 (by decide) (fun h9 => absurd h9 (by decide)) (fun _ => ?_)
  refine lv_aload_n (pc := 14) hx hb dzU_rememberBalances_14 rfl (lv_at hl 2 rfl) ?_
  refine xk_get (pc := 15) hx hb hts hown hK hP ffzU_11 0 rfl rfl dzU_rememberBalances_15 ?_
  refine lv_iload_n (pc := 18) hx hb dzU_rememberBalances_18 rfl (lv_at hl 1 rfl) ?_
  refine xk_aald (q0 := 1) (t0 := 2) (j := 1) (b := (ad 10)) (pc := 19) hx hb hK hP rfl rfl (pk_in 1 2 (by decide)) (pk_cl 1) rfl dzU_rememberBalances_19 ?_
  refine xk_get (pc := 20) hx hb hts hown hK hP ffzU_158 10 rfl rfl dzU_rememberBalances_20 ?_
  refine lv_iload_n (pc := 23) hx hb dzU_rememberBalances_23 rfl (lv_at hl 0 rfl) ?_
  refine xk_aald (q0 := 12) (t0 := 3) (j := 1) (b := (ad 23)) (pc := 24) hx hb hK hP rfl rfl (pk_in 1 3 (by decide)) (pk_cl 1) rfl dzU_rememberBalances_24 ?_
  refine xk_callVV (As := []) (rest := []) (H0 := s.heap) (pc := 25) hx hb hml hts hown hK hA hP hD hS (kzS_rememberBalance l G ac (ad 23) (g4 23 0) (g4 23 1) (g4 23 2) (g4 23 3) (g4 23 4) (g4 23 5) (g4 23 6) (g4 23 7) (g4 23 8)) vfzU_278 [23] (by decide) rfl (fun _ => rfl) 23 rfl rfl ⟨rfl, rfl⟩ ⟨Nat.le_of_ble_eq_true rfl, Nat.le_of_ble_eq_true rfl⟩ rfl hl.1 rfl (Nat.le_of_ble_eq_true rfl) ⟨Nat.zero_le _, Nat.zero_le _⟩ dzU_rememberBalances_25 (fun u9 H locs e9 hP hD hS => ?_)
  obtain ⟨g5, eg5⟩ : ∃ z : xk_St, z = va_up g4 23 (upd (g4 23) 2 (qzS_rememberBalance_a2 (g4 23 1))) := ⟨_, rfl⟩
  have hP : va_P G xk_cls (xk_wU ad ac g5) H := by rw [eg5]; exact hP
  have hD : va_D A (xk_wU ad ac g5) := by rw [eg5]; exact hD
  refine lv_iinc (k := 0) (x := 1) (v := 2) (lv' := [(2, .int 2), (1, .int 1), (0, .ref (ad 0))]) (pc := 28) hx hb dzU_rememberBalances_28 hl rfl (by decide) (by decide) rfl (fun ls hl => ?_)
  refine lv_goto (tgt := 9) (pc := 31) hx hb dzU_rememberBalances_31 (by decide) ?_
  refine lv_iload_n (pc := 9) hx hb dzU_rememberBalances_9 rfl (lv_at hl 0 rfl) ?_
  refine lv_iconst (v := 3) (pc := 10) hx hb dzU_rememberBalances_10 (by decide) ?_
  refine lv_icmp_ge (pc := 11) (tgt := 34) hx hb dzU_rememberBalances_11 (by decide) (fun h9 => absurd h9 (by decide)) (fun _ => ?_)
  refine lv_aload_n (pc := 14) hx hb dzU_rememberBalances_14 rfl (lv_at hl 2 rfl) ?_
  refine xk_get (pc := 15) hx hb hts hown hK hP ffzU_11 0 rfl rfl dzU_rememberBalances_15 ?_
  refine lv_iload_n (pc := 18) hx hb dzU_rememberBalances_18 rfl (lv_at hl 1 rfl) ?_
  refine xk_aald (q0 := 1) (t0 := 2) (j := 1) (b := (ad 10)) (pc := 19) hx hb hK hP rfl rfl (pk_in 1 2 (by decide)) (pk_cl 1) rfl dzU_rememberBalances_19 ?_
  refine xk_get (pc := 20) hx hb hts hown hK hP ffzU_158 10 rfl rfl dzU_rememberBalances_20 ?_
  refine lv_iload_n (pc := 23) hx hb dzU_rememberBalances_23 rfl (lv_at hl 0 rfl) ?_
  refine xk_aald (q0 := 12) (t0 := 3) (j := 2) (b := (ad 24)) (pc := 24) hx hb hK hP rfl rfl (pk_in 2 3 (by decide)) (pk_cl 2) rfl dzU_rememberBalances_24 ?_
  refine xk_callVV (As := []) (rest := []) (H0 := s.heap) (pc := 25) hx hb hml hts hown hK hA hP hD hS (kzS_rememberBalance l G ac (ad 24) (g5 24 0) (g5 24 1) (g5 24 2) (g5 24 3) (g5 24 4) (g5 24 5) (g5 24 6) (g5 24 7) (g5 24 8)) vfzU_278 [24] (by decide) rfl (fun _ => rfl) 24 rfl rfl ⟨rfl, rfl⟩ ⟨Nat.le_of_ble_eq_true rfl, Nat.le_of_ble_eq_true rfl⟩ rfl hl.1 rfl (Nat.le_of_ble_eq_true rfl) ⟨Nat.zero_le _, Nat.zero_le _⟩ dzU_rememberBalances_25 (fun u9 H locs e9 hP hD hS => ?_)
  obtain ⟨g6, eg6⟩ : ∃ z : xk_St, z = va_up g5 24 (upd (g5 24) 2 (qzS_rememberBalance_a2 (g5 24 1))) := ⟨_, rfl⟩
  have hP : va_P G xk_cls (xk_wU ad ac g6) H := by rw [eg6]; exact hP
  have hD : va_D A (xk_wU ad ac g6) := by rw [eg6]; exact hD
  refine lv_iinc (k := 0) (x := 2) (v := 3) (lv' := [(2, .int 3), (1, .int 1), (0, .ref (ad 0))]) (pc := 28) hx hb dzU_rememberBalances_28 hl rfl (by decide) (by decide) rfl (fun ls hl => ?_)
  refine lv_goto (tgt := 9) (pc := 31) hx hb dzU_rememberBalances_31 (by decide) ?_
  refine lv_iload_n (pc := 9) hx hb dzU_rememberBalances_9 rfl (lv_at hl 0 rfl) ?_
  refine lv_iconst (v := 3) (pc := 10) hx hb dzU_rememberBalances_10 (by decide) ?_
  refine lv_icmp_ge (pc := 11) (tgt := 34) hx hb dzU_rememberBalances_11 (by decide) (fun _ => ?_) (fun h9 => absurd (by decide) h9)
  refine lv_iinc (k := 1) (x := 1) (v := 2) (lv' := [(1, .int 2), (2, .int 3), (0, .ref (ad 0))]) (pc := 34) hx hb dzU_rememberBalances_34 hl rfl (by decide) (by decide) rfl (fun ls hl => ?_)
  refine lv_goto (tgt := 2) (pc := 37) hx hb dzU_rememberBalances_37 (by decide) ?_
  refine lv_iload_n (pc := 2) hx hb dzU_rememberBalances_2 rfl (lv_at hl 0 rfl) ?_
  refine lv_iconst (v := 2) (pc := 3) hx hb dzU_rememberBalances_3 (by decide) ?_
  refine lv_icmp_ge (pc := 4) (tgt := 40) hx hb dzU_rememberBalances_4 (by decide) (fun _ => ?_) (fun h9 => absurd (by decide) h9)
  exact hret g6 H locs 40 ls hP hS (by unfold relzU_rememberBalances; exact ⟨g1, eg1, ⟨g2, eg2, ⟨g3, eg3, ⟨g4, eg4, ⟨g5, eg5, ⟨g6, eg6, rfl⟩⟩⟩⟩⟩⟩) dzU_rememberBalances_40
