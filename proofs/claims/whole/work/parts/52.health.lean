def relzU_health_0_0 (g0 : xk_St) (k2 : Int32) (rz : Int32) (gz : xk_St) : Prop := ∃ (x1 : Int32), (if ((g0 17) 0) = k2 then (x1 = 0) else (x1 = 1)) ∧ (∃ (g1 : xk_St), g1 = va_up g0 17 (upd (g0 17) 0 k2) ∧ (∃ (g3 : xk_St), (if k2 = 0 then (∃ (g2 : xk_St), relzU_disturbIfThere_0_0 g1 g2 ∧ (g3 = g2)) else (g3 = g1)) ∧ (rz = x1 ∧ xk_b rz ∧ gz = g3)))
set_option maxHeartbeats 4000000 in
set_option maxRecDepth 100000 in
theorem kzU_health_0_0 (l : Launch) (G : va_G) (ac : Nat → ClassId) (ad : Nat → Nat) (g0 : xk_St) (k2 : Int32) (hb2 : xk_b k2) : xk_CI l yzU_health czU_health 6 .boolean xk_WS xk_r3 G xk_cls (xk_tys ac) [.ref (ad 0), .int 0, .int 0, .int k2] (xk_wU ad ac g0) (fun rz (gz : xk_St) => relzU_health_0_0 g0 k2 rz gz) (fun gz => xk_wU ad ac gz) := by
  refine xk_ofI (by decide) (Nat.le_of_ble_eq_true rfl) ?_
  intro p e s m args below meth c A Q H locs ls C0 hret hP hD hS hl
  obtain ⟨hx, hb, hml, hts, hown, hK, hA⟩ := C0
  have hl : lv_has ls 6 [(0, .ref (ad 0)), (1, .int 0), (2, .int 0), (3, .int k2)] := hl
  refine lv_aload_n (pc := 0) hx hb dzU_health_0 rfl (lv_at hl 0 rfl) ?_
  refine lv_iload_n (pc := 1) hx hb dzU_health_1 rfl (lv_at hl 1 rfl) ?_
  refine xk_allVR (As := [.int 0]) (rest := []) (H0 := s.heap) (pc := 2) hx hb hml hts hown hK hA hP hD hS (kzU_findTrack_0 l G ac ad g0) vfzU_63 0 rfl rfl ⟨rfl, rfl⟩ ⟨Nat.le_of_ble_eq_true rfl, Nat.le_of_ble_eq_true rfl⟩ rfl hl.1 rfl (Nat.le_of_ble_eq_true rfl) ⟨Nat.zero_le _, Nat.zero_le _⟩ dzU_health_2 (fun H locs hP hD hS => ?_)
  have hP : va_P G xk_cls (xk_wU ad ac g0) H := hP
  have hD : va_D A (xk_wU ad ac g0) := hD
  refine lv_astore (lv' := [(4, .ref (ad 9)), (0, .ref (ad 0)), (1, .int 0), (2, .int 0), (3, .int k2)]) (pc := 5) hx hb dzU_health_5 hl (by decide) rfl (fun ls hl => ?_)
  refine lv_iload_n (pc := 7) hx hb dzU_health_7 rfl (lv_at hl 3 rfl) ?_
  refine xk_callSV (As := [.int 0]) (rest := []) (H0 := s.heap) (pc := 8) hx hb hml hts hown hK hA hP hD hS (kzU_checkHead_0 l G ac) sfzU_67 [] (by decide) rfl (fun _ => rfl) ⟨rfl, rfl⟩ ⟨Nat.le_of_ble_eq_true rfl, Nat.le_of_ble_eq_true rfl⟩ rfl hl.1 rfl (Nat.le_of_ble_eq_true rfl) ⟨Nat.zero_le _, Nat.zero_le _⟩ dzU_health_8 (fun u9 H locs e9 hP hD hS => ?_)
  have hP : va_P G xk_cls (xk_wU ad ac g0) H := hP
  have hD : va_D A (xk_wU ad ac g0) := hD
  refine lv_aload (pc := 11) hx hb dzU_health_11 (lv_at hl 0 rfl) ?_
  refine xk_get (pc := 13) hx hb hts hown hK hP ffzU_86 9 rfl rfl dzU_health_13 ?_
  refine lv_iload_n (pc := 16) hx hb dzU_health_16 rfl (lv_at hl 3 rfl) ?_
  refine xk_zald (q0 := 17) (t0 := 1) (j := 0) (pc := 17) hx hb hK hP rfl rfl (pk_in 0 4 (by decide)) (pk_cl 0) dzU_health_17 ?_
  refine lv_iload_n (pc := 18) hx hb dzU_health_18 rfl (lv_at hl 4 rfl) ?_
  have K1 : ∀ (x1 : Int32), (if ((g0 17) 0) = k2 then (x1 = 0) else (x1 = 1)) → (xk_b x1) → W p l e xk_r3 s m args below meth c H locs 0 0 Q (F0 m 27 ls [.int x1]) := by
    intro x1 R1 bx1
    refine lv_istore (lv' := [(5, .int x1), (4, .ref (ad 9)), (0, .ref (ad 0)), (1, .int 0), (2, .int 0), (3, .int k2)]) (pc := 27) hx hb dzU_health_27 hl (by decide) rfl (fun ls hl => ?_)
    refine lv_aload (pc := 29) hx hb dzU_health_29 (lv_at hl 1 rfl) ?_
    refine xk_get (pc := 31) hx hb hts hown hK hP ffzU_86 9 rfl rfl dzU_health_31 ?_
    refine lv_iload_n (pc := 34) hx hb dzU_health_34 rfl (lv_at hl 4 rfl) ?_
    refine lv_iload_n (pc := 35) hx hb dzU_health_35 rfl (lv_at hl 5 rfl) ?_
    refine xk_zast (q0 := 17) (t0 := 1) (j := 0) (pc := 36) hx hb hK hP hD hS rfl rfl (pk_in 0 4 (by decide)) (pk_cl 0) hb2 dzU_health_36 (fun H locs hP hD hS => ?_)
    obtain ⟨g1, eg1⟩ : ∃ z : xk_St, z = va_up g0 17 (upd (g0 17) 0 k2) := ⟨_, rfl⟩
    have hP : va_P G xk_cls (xk_wU ad ac g1) H := by rw [eg1]; exact hP
    have hD : va_D A (xk_wU ad ac g1) := by rw [eg1]; exact hD
    refine lv_iload_n (pc := 37) hx hb dzU_health_37 rfl (lv_at hl 5 rfl) ?_
    have K2 : ∀ (g3 : xk_St) (H : Heap) (locs : List Loc), (if k2 = 0 then (∃ (g2 : xk_St), relzU_disturbIfThere_0_0 g1 g2 ∧ (g3 = g2)) else (g3 = g1)) → (va_P G xk_cls (xk_wU ad ac g3) H) → (va_D A (xk_wU ad ac g3)) → (va_S A s.heap H locs) → W p l e xk_r3 s m args below meth c H locs 0 0 Q (F0 m 57 ls []) := by
      intro g3 H locs R2 hP hD hS
      refine lv_iload (pc := 57) hx hb dzU_health_57 (lv_at hl 0 rfl) ?_
      exact hret _ g3 H locs 59 ls hP hS (xk_bn bx1) (by unfold relzU_health_0_0; exact ⟨x1, R1, ⟨g1, eg1, ⟨g3, R2, ⟨rfl, bx1, rfl⟩⟩⟩⟩) dzU_health_59
    refine lv_if_ne (pc := 38) (tgt := 57) hx hb dzU_health_38 (by decide) (fun h2 => ?_) (fun h2 => ?_)
    ·
      exact K2 g1 H locs (Eq.mpr (if_neg h2) rfl) hP hD hS
    ·
      refine lv_aload_n (pc := 41) hx hb dzU_health_41 rfl (lv_at hl 2 rfl) ?_
      refine lv_aload (pc := 42) hx hb dzU_health_42 (lv_at hl 1 rfl) ?_
      refine lv_iload_n (pc := 44) hx hb dzU_health_44 rfl (lv_at hl 4 rfl) ?_
      refine lv_iconst (v := 1) (pc := 45) hx hb dzU_health_45 (by decide) ?_
      refine lv_isub (pc := 46) hx hb dzU_health_46 ?_
      refine xk_is (y := (-1)) (by decide) ?_
      refine xk_allVV (As := [.ref (ad 9), .int (-1)]) (rest := []) (H0 := s.heap) (pc := 47) hx hb hml hts hown hK hA hP hD hS (kzU_disturbIfThere_0_m l G ac ad g1) vfzU_90 (fun _ => rfl) 0 rfl rfl ⟨rfl, rfl⟩ ⟨Nat.le_of_ble_eq_true rfl, Nat.le_of_ble_eq_true rfl⟩ rfl hl.1 rfl (Nat.le_of_ble_eq_true rfl) ⟨Nat.zero_le _, Nat.zero_le _⟩ dzU_health_47 (fun u9 H locs e9 hP hD hS => ?_)
      refine lv_aload_n (pc := 50) hx hb dzU_health_50 rfl (lv_at hl 2 rfl) ?_
      refine lv_aload (pc := 51) hx hb dzU_health_51 (lv_at hl 1 rfl) ?_
      refine lv_iload_n (pc := 53) hx hb dzU_health_53 rfl (lv_at hl 4 rfl) ?_
      refine xk_allVV (As := [.ref (ad 9), .int 0]) (rest := []) (H0 := s.heap) (pc := 54) hx hb hml hts hown hK hA hP hD hS (kzU_disturbIfThere_0_0 l G ac ad g1) vfzU_90 (fun _ => rfl) 0 rfl rfl ⟨rfl, rfl⟩ ⟨Nat.le_of_ble_eq_true rfl, Nat.le_of_ble_eq_true rfl⟩ rfl hl.1 rfl (Nat.le_of_ble_eq_true rfl) ⟨Nat.zero_le _, Nat.zero_le _⟩ dzU_health_54 (fun g2 H locs hg2 hP hD hS => ?_)
      have hP : va_P G xk_cls (xk_wU ad ac g2) H := hP
      have hD : va_D A (xk_wU ad ac g2) := hD
      exact K2 g2 H locs (Eq.mpr (if_pos h2) ⟨g2, hg2, rfl⟩) hP hD hS
  refine lv_icmp_eq (pc := 19) (tgt := 26) hx hb dzU_health_19 (by decide) (fun h1 => ?_) (fun h1 => ?_)
  ·
    refine lv_iconst (v := 0) (pc := 26) hx hb dzU_health_26 (by decide) ?_
    exact K1 0 (Eq.mpr (if_pos h1) rfl) xk_b0
  ·
    refine lv_iconst (v := 1) (pc := 22) hx hb dzU_health_22 (by decide) ?_
    refine lv_goto (tgt := 27) (pc := 23) hx hb dzU_health_23 (by decide) ?_
    exact K1 1 (Eq.mpr (if_neg h1) rfl) xk_b1
theorem frzU_health_0_0 (g0 : xk_St) (k2 : Int32) (rz : Int32) (gz : xk_St) : relzU_health_0_0 g0 k2 rz gz → xk_eqv [0, 1, 2, 3, 4, 9, 10, 11, 12, 13, 14, 15, 16, 18, 20, 21, 22, 23, 24, 25, 26, 27, 28, 29, 30, 31, 32, 33] g0 gz := by
  intro h
  unfold relzU_health_0_0 at h
  have s0 : xk_eqv [0, 1, 2, 3, 4, 9, 10, 11, 12, 13, 14, 15, 16, 18, 20, 21, 22, 23, 24, 25, 26, 27, 28, 29, 30, 31, 32, 33] g0 g0 := xk_eqv_rf
  obtain ⟨x1, u1, v2⟩ := h
  obtain ⟨g1, u3, v4⟩ := v2
  have s5 : xk_eqv [0, 1, 2, 3, 4, 9, 10, 11, 12, 13, 14, 15, 16, 18, 20, 21, 22, 23, 24, 25, 26, 27, 28, 29, 30, 31, 32, 33] g0 g1 := by rw [u3]; repeat (first | exact s0 | refine xk_eqv_up (by decide) ?_)
  obtain ⟨g3, u6, v7⟩ := v4
  have s8 : xk_eqv [0, 1, 2, 3, 4, 9, 10, 11, 12, 13, 14, 15, 16, 18, 20, 21, 22, 23, 24, 25, 26, 27, 28, 29, 30, 31, 32, 33] g0 g3 := by
    by_cases hc : k2 = 0
    · rw [if_pos hc] at u6
      obtain ⟨g2, u9, v10⟩ := u6
      have s11 : xk_eqv [0, 1, 2, 3, 4, 9, 10, 11, 12, 13, 14, 15, 16, 18, 20, 21, 22, 23, 24, 25, 26, 27, 28, 29, 30, 31, 32, 33] g0 g2 := xk_eqv_tr s5 (xk_eqv_sub (frzU_disturbIfThere_0_0 _ _ u9) (by decide))
      rw [v10]; exact s11
    · rw [if_neg hc] at u6
      rw [u6]; exact s5
  rw [v7.2.2]; exact s8

def relzU_health_0_1 (g0 : xk_St) (k2 : Int32) (rz : Int32) (gz : xk_St) : Prop := ∃ (x1 : Int32), (if ((g0 17) 1) = k2 then (x1 = 0) else (x1 = 1)) ∧ (∃ (g1 : xk_St), g1 = va_up g0 17 (upd (g0 17) 1 k2) ∧ (∃ (g4 : xk_St), (if k2 = 0 then (∃ (g2 : xk_St), relzU_disturbIfThere_0_0 g1 g2 ∧ (∃ (g3 : xk_St), relzU_disturbIfThere_0_1 g2 g3 ∧ (g4 = g3))) else (g4 = g1)) ∧ (rz = x1 ∧ xk_b rz ∧ gz = g4)))
set_option maxHeartbeats 4000000 in
set_option maxRecDepth 100000 in
theorem kzU_health_0_1 (l : Launch) (G : va_G) (ac : Nat → ClassId) (ad : Nat → Nat) (g0 : xk_St) (k2 : Int32) (hb2 : xk_b k2) : xk_CI l yzU_health czU_health 6 .boolean xk_WS xk_r3 G xk_cls (xk_tys ac) [.ref (ad 0), .int 0, .int 1, .int k2] (xk_wU ad ac g0) (fun rz (gz : xk_St) => relzU_health_0_1 g0 k2 rz gz) (fun gz => xk_wU ad ac gz) := by
  refine xk_ofI (by decide) (Nat.le_of_ble_eq_true rfl) ?_
  intro p e s m args below meth c A Q H locs ls C0 hret hP hD hS hl
  obtain ⟨hx, hb, hml, hts, hown, hK, hA⟩ := C0
  have hl : lv_has ls 6 [(0, .ref (ad 0)), (1, .int 0), (2, .int 1), (3, .int k2)] := hl
  refine lv_aload_n (pc := 0) hx hb dzU_health_0 rfl (lv_at hl 0 rfl) ?_
  refine lv_iload_n (pc := 1) hx hb dzU_health_1 rfl (lv_at hl 1 rfl) ?_
  refine xk_allVR (As := [.int 0]) (rest := []) (H0 := s.heap) (pc := 2) hx hb hml hts hown hK hA hP hD hS (kzU_findTrack_0 l G ac ad g0) vfzU_63 0 rfl rfl ⟨rfl, rfl⟩ ⟨Nat.le_of_ble_eq_true rfl, Nat.le_of_ble_eq_true rfl⟩ rfl hl.1 rfl (Nat.le_of_ble_eq_true rfl) ⟨Nat.zero_le _, Nat.zero_le _⟩ dzU_health_2 (fun H locs hP hD hS => ?_)
  have hP : va_P G xk_cls (xk_wU ad ac g0) H := hP
  have hD : va_D A (xk_wU ad ac g0) := hD
  refine lv_astore (lv' := [(4, .ref (ad 9)), (0, .ref (ad 0)), (1, .int 0), (2, .int 1), (3, .int k2)]) (pc := 5) hx hb dzU_health_5 hl (by decide) rfl (fun ls hl => ?_)
  refine lv_iload_n (pc := 7) hx hb dzU_health_7 rfl (lv_at hl 3 rfl) ?_
  refine xk_callSV (As := [.int 1]) (rest := []) (H0 := s.heap) (pc := 8) hx hb hml hts hown hK hA hP hD hS (kzU_checkHead_1 l G ac) sfzU_67 [] (by decide) rfl (fun _ => rfl) ⟨rfl, rfl⟩ ⟨Nat.le_of_ble_eq_true rfl, Nat.le_of_ble_eq_true rfl⟩ rfl hl.1 rfl (Nat.le_of_ble_eq_true rfl) ⟨Nat.zero_le _, Nat.zero_le _⟩ dzU_health_8 (fun u9 H locs e9 hP hD hS => ?_)
  have hP : va_P G xk_cls (xk_wU ad ac g0) H := hP
  have hD : va_D A (xk_wU ad ac g0) := hD
  refine lv_aload (pc := 11) hx hb dzU_health_11 (lv_at hl 0 rfl) ?_
  refine xk_get (pc := 13) hx hb hts hown hK hP ffzU_86 9 rfl rfl dzU_health_13 ?_
  refine lv_iload_n (pc := 16) hx hb dzU_health_16 rfl (lv_at hl 3 rfl) ?_
  refine xk_zald (q0 := 17) (t0 := 1) (j := 1) (pc := 17) hx hb hK hP rfl rfl (pk_in 1 4 (by decide)) (pk_cl 1) dzU_health_17 ?_
  refine lv_iload_n (pc := 18) hx hb dzU_health_18 rfl (lv_at hl 4 rfl) ?_
  have K1 : ∀ (x1 : Int32), (if ((g0 17) 1) = k2 then (x1 = 0) else (x1 = 1)) → (xk_b x1) → W p l e xk_r3 s m args below meth c H locs 0 0 Q (F0 m 27 ls [.int x1]) := by
    intro x1 R1 bx1
    refine lv_istore (lv' := [(5, .int x1), (4, .ref (ad 9)), (0, .ref (ad 0)), (1, .int 0), (2, .int 1), (3, .int k2)]) (pc := 27) hx hb dzU_health_27 hl (by decide) rfl (fun ls hl => ?_)
    refine lv_aload (pc := 29) hx hb dzU_health_29 (lv_at hl 1 rfl) ?_
    refine xk_get (pc := 31) hx hb hts hown hK hP ffzU_86 9 rfl rfl dzU_health_31 ?_
    refine lv_iload_n (pc := 34) hx hb dzU_health_34 rfl (lv_at hl 4 rfl) ?_
    refine lv_iload_n (pc := 35) hx hb dzU_health_35 rfl (lv_at hl 5 rfl) ?_
    refine xk_zast (q0 := 17) (t0 := 1) (j := 1) (pc := 36) hx hb hK hP hD hS rfl rfl (pk_in 1 4 (by decide)) (pk_cl 1) hb2 dzU_health_36 (fun H locs hP hD hS => ?_)
    obtain ⟨g1, eg1⟩ : ∃ z : xk_St, z = va_up g0 17 (upd (g0 17) 1 k2) := ⟨_, rfl⟩
    have hP : va_P G xk_cls (xk_wU ad ac g1) H := by rw [eg1]; exact hP
    have hD : va_D A (xk_wU ad ac g1) := by rw [eg1]; exact hD
    refine lv_iload_n (pc := 37) hx hb dzU_health_37 rfl (lv_at hl 5 rfl) ?_
    have K2 : ∀ (g4 : xk_St) (H : Heap) (locs : List Loc), (if k2 = 0 then (∃ (g2 : xk_St), relzU_disturbIfThere_0_0 g1 g2 ∧ (∃ (g3 : xk_St), relzU_disturbIfThere_0_1 g2 g3 ∧ (g4 = g3))) else (g4 = g1)) → (va_P G xk_cls (xk_wU ad ac g4) H) → (va_D A (xk_wU ad ac g4)) → (va_S A s.heap H locs) → W p l e xk_r3 s m args below meth c H locs 0 0 Q (F0 m 57 ls []) := by
      intro g4 H locs R2 hP hD hS
      refine lv_iload (pc := 57) hx hb dzU_health_57 (lv_at hl 0 rfl) ?_
      exact hret _ g4 H locs 59 ls hP hS (xk_bn bx1) (by unfold relzU_health_0_1; exact ⟨x1, R1, ⟨g1, eg1, ⟨g4, R2, ⟨rfl, bx1, rfl⟩⟩⟩⟩) dzU_health_59
    refine lv_if_ne (pc := 38) (tgt := 57) hx hb dzU_health_38 (by decide) (fun h2 => ?_) (fun h2 => ?_)
    ·
      exact K2 g1 H locs (Eq.mpr (if_neg h2) rfl) hP hD hS
    ·
      refine lv_aload_n (pc := 41) hx hb dzU_health_41 rfl (lv_at hl 2 rfl) ?_
      refine lv_aload (pc := 42) hx hb dzU_health_42 (lv_at hl 1 rfl) ?_
      refine lv_iload_n (pc := 44) hx hb dzU_health_44 rfl (lv_at hl 4 rfl) ?_
      refine lv_iconst (v := 1) (pc := 45) hx hb dzU_health_45 (by decide) ?_
      refine lv_isub (pc := 46) hx hb dzU_health_46 ?_
      refine xk_is (y := 0) (by decide) ?_
      refine xk_allVV (As := [.ref (ad 9), .int 0]) (rest := []) (H0 := s.heap) (pc := 47) hx hb hml hts hown hK hA hP hD hS (kzU_disturbIfThere_0_0 l G ac ad g1) vfzU_90 (fun _ => rfl) 0 rfl rfl ⟨rfl, rfl⟩ ⟨Nat.le_of_ble_eq_true rfl, Nat.le_of_ble_eq_true rfl⟩ rfl hl.1 rfl (Nat.le_of_ble_eq_true rfl) ⟨Nat.zero_le _, Nat.zero_le _⟩ dzU_health_47 (fun g2 H locs hg2 hP hD hS => ?_)
      have hP : va_P G xk_cls (xk_wU ad ac g2) H := hP
      have hD : va_D A (xk_wU ad ac g2) := hD
      refine lv_aload_n (pc := 50) hx hb dzU_health_50 rfl (lv_at hl 2 rfl) ?_
      refine lv_aload (pc := 51) hx hb dzU_health_51 (lv_at hl 1 rfl) ?_
      refine lv_iload_n (pc := 53) hx hb dzU_health_53 rfl (lv_at hl 4 rfl) ?_
      refine xk_allVV (As := [.ref (ad 9), .int 1]) (rest := []) (H0 := s.heap) (pc := 54) hx hb hml hts hown hK hA hP hD hS (kzU_disturbIfThere_0_1 l G ac ad g2) vfzU_90 (fun _ => rfl) 0 rfl rfl ⟨rfl, rfl⟩ ⟨Nat.le_of_ble_eq_true rfl, Nat.le_of_ble_eq_true rfl⟩ rfl hl.1 rfl (Nat.le_of_ble_eq_true rfl) ⟨Nat.zero_le _, Nat.zero_le _⟩ dzU_health_54 (fun g3 H locs hg3 hP hD hS => ?_)
      have hP : va_P G xk_cls (xk_wU ad ac g3) H := hP
      have hD : va_D A (xk_wU ad ac g3) := hD
      exact K2 g3 H locs (Eq.mpr (if_pos h2) ⟨g2, hg2, ⟨g3, hg3, rfl⟩⟩) hP hD hS
  refine lv_icmp_eq (pc := 19) (tgt := 26) hx hb dzU_health_19 (by decide) (fun h1 => ?_) (fun h1 => ?_)
  ·
    refine lv_iconst (v := 0) (pc := 26) hx hb dzU_health_26 (by decide) ?_
    exact K1 0 (Eq.mpr (if_pos h1) rfl) xk_b0
  ·
    refine lv_iconst (v := 1) (pc := 22) hx hb dzU_health_22 (by decide) ?_
    refine lv_goto (tgt := 27) (pc := 23) hx hb dzU_health_23 (by decide) ?_
    exact K1 1 (Eq.mpr (if_neg h1) rfl) xk_b1
theorem frzU_health_0_1 (g0 : xk_St) (k2 : Int32) (rz : Int32) (gz : xk_St) : relzU_health_0_1 g0 k2 rz gz → xk_eqv [0, 1, 2, 3, 4, 9, 10, 11, 12, 13, 14, 15, 16, 18, 21, 22, 23, 24, 25, 26, 27, 28, 29, 30, 31, 32, 33] g0 gz := by
  intro h
  unfold relzU_health_0_1 at h
  have s0 : xk_eqv [0, 1, 2, 3, 4, 9, 10, 11, 12, 13, 14, 15, 16, 18, 21, 22, 23, 24, 25, 26, 27, 28, 29, 30, 31, 32, 33] g0 g0 := xk_eqv_rf
  obtain ⟨x1, u1, v2⟩ := h
  obtain ⟨g1, u3, v4⟩ := v2
  have s5 : xk_eqv [0, 1, 2, 3, 4, 9, 10, 11, 12, 13, 14, 15, 16, 18, 21, 22, 23, 24, 25, 26, 27, 28, 29, 30, 31, 32, 33] g0 g1 := by rw [u3]; repeat (first | exact s0 | refine xk_eqv_up (by decide) ?_)
  obtain ⟨g4, u6, v7⟩ := v4
  have s8 : xk_eqv [0, 1, 2, 3, 4, 9, 10, 11, 12, 13, 14, 15, 16, 18, 21, 22, 23, 24, 25, 26, 27, 28, 29, 30, 31, 32, 33] g0 g4 := by
    by_cases hc : k2 = 0
    · rw [if_pos hc] at u6
      obtain ⟨g2, u9, v10⟩ := u6
      have s11 : xk_eqv [0, 1, 2, 3, 4, 9, 10, 11, 12, 13, 14, 15, 16, 18, 21, 22, 23, 24, 25, 26, 27, 28, 29, 30, 31, 32, 33] g0 g2 := xk_eqv_tr s5 (xk_eqv_sub (frzU_disturbIfThere_0_0 _ _ u9) (by decide))
      obtain ⟨g3, u12, v13⟩ := v10
      have s14 : xk_eqv [0, 1, 2, 3, 4, 9, 10, 11, 12, 13, 14, 15, 16, 18, 21, 22, 23, 24, 25, 26, 27, 28, 29, 30, 31, 32, 33] g0 g3 := xk_eqv_tr s11 (xk_eqv_sub (frzU_disturbIfThere_0_1 _ _ u12) (by decide))
      rw [v13]; exact s14
    · rw [if_neg hc] at u6
      rw [u6]; exact s5
  rw [v7.2.2]; exact s8

def relzU_health_0_2 (g0 : xk_St) (k2 : Int32) (rz : Int32) (gz : xk_St) : Prop := ∃ (x1 : Int32), (if ((g0 17) 2) = k2 then (x1 = 0) else (x1 = 1)) ∧ (∃ (g1 : xk_St), g1 = va_up g0 17 (upd (g0 17) 2 k2) ∧ (∃ (g4 : xk_St), (if k2 = 0 then (∃ (g2 : xk_St), relzU_disturbIfThere_0_1 g1 g2 ∧ (∃ (g3 : xk_St), relzU_disturbIfThere_0_2 g2 g3 ∧ (g4 = g3))) else (g4 = g1)) ∧ (rz = x1 ∧ xk_b rz ∧ gz = g4)))
set_option maxHeartbeats 4000000 in
set_option maxRecDepth 100000 in
theorem kzU_health_0_2 (l : Launch) (G : va_G) (ac : Nat → ClassId) (ad : Nat → Nat) (g0 : xk_St) (k2 : Int32) (hb2 : xk_b k2) : xk_CI l yzU_health czU_health 6 .boolean xk_WS xk_r3 G xk_cls (xk_tys ac) [.ref (ad 0), .int 0, .int 2, .int k2] (xk_wU ad ac g0) (fun rz (gz : xk_St) => relzU_health_0_2 g0 k2 rz gz) (fun gz => xk_wU ad ac gz) := by
  refine xk_ofI (by decide) (Nat.le_of_ble_eq_true rfl) ?_
  intro p e s m args below meth c A Q H locs ls C0 hret hP hD hS hl
  obtain ⟨hx, hb, hml, hts, hown, hK, hA⟩ := C0
  have hl : lv_has ls 6 [(0, .ref (ad 0)), (1, .int 0), (2, .int 2), (3, .int k2)] := hl
  refine lv_aload_n (pc := 0) hx hb dzU_health_0 rfl (lv_at hl 0 rfl) ?_
  refine lv_iload_n (pc := 1) hx hb dzU_health_1 rfl (lv_at hl 1 rfl) ?_
  refine xk_allVR (As := [.int 0]) (rest := []) (H0 := s.heap) (pc := 2) hx hb hml hts hown hK hA hP hD hS (kzU_findTrack_0 l G ac ad g0) vfzU_63 0 rfl rfl ⟨rfl, rfl⟩ ⟨Nat.le_of_ble_eq_true rfl, Nat.le_of_ble_eq_true rfl⟩ rfl hl.1 rfl (Nat.le_of_ble_eq_true rfl) ⟨Nat.zero_le _, Nat.zero_le _⟩ dzU_health_2 (fun H locs hP hD hS => ?_)
  have hP : va_P G xk_cls (xk_wU ad ac g0) H := hP
  have hD : va_D A (xk_wU ad ac g0) := hD
  refine lv_astore (lv' := [(4, .ref (ad 9)), (0, .ref (ad 0)), (1, .int 0), (2, .int 2), (3, .int k2)]) (pc := 5) hx hb dzU_health_5 hl (by decide) rfl (fun ls hl => ?_)
  refine lv_iload_n (pc := 7) hx hb dzU_health_7 rfl (lv_at hl 3 rfl) ?_
  refine xk_callSV (As := [.int 2]) (rest := []) (H0 := s.heap) (pc := 8) hx hb hml hts hown hK hA hP hD hS (kzU_checkHead_2 l G ac) sfzU_67 [] (by decide) rfl (fun _ => rfl) ⟨rfl, rfl⟩ ⟨Nat.le_of_ble_eq_true rfl, Nat.le_of_ble_eq_true rfl⟩ rfl hl.1 rfl (Nat.le_of_ble_eq_true rfl) ⟨Nat.zero_le _, Nat.zero_le _⟩ dzU_health_8 (fun u9 H locs e9 hP hD hS => ?_)
  have hP : va_P G xk_cls (xk_wU ad ac g0) H := hP
  have hD : va_D A (xk_wU ad ac g0) := hD
  refine lv_aload (pc := 11) hx hb dzU_health_11 (lv_at hl 0 rfl) ?_
  refine xk_get (pc := 13) hx hb hts hown hK hP ffzU_86 9 rfl rfl dzU_health_13 ?_
  refine lv_iload_n (pc := 16) hx hb dzU_health_16 rfl (lv_at hl 3 rfl) ?_
  refine xk_zald (q0 := 17) (t0 := 1) (j := 2) (pc := 17) hx hb hK hP rfl rfl (pk_in 2 4 (by decide)) (pk_cl 2) dzU_health_17 ?_
  refine lv_iload_n (pc := 18) hx hb dzU_health_18 rfl (lv_at hl 4 rfl) ?_
  have K1 : ∀ (x1 : Int32), (if ((g0 17) 2) = k2 then (x1 = 0) else (x1 = 1)) → (xk_b x1) → W p l e xk_r3 s m args below meth c H locs 0 0 Q (F0 m 27 ls [.int x1]) := by
    intro x1 R1 bx1
    refine lv_istore (lv' := [(5, .int x1), (4, .ref (ad 9)), (0, .ref (ad 0)), (1, .int 0), (2, .int 2), (3, .int k2)]) (pc := 27) hx hb dzU_health_27 hl (by decide) rfl (fun ls hl => ?_)
    refine lv_aload (pc := 29) hx hb dzU_health_29 (lv_at hl 1 rfl) ?_
    refine xk_get (pc := 31) hx hb hts hown hK hP ffzU_86 9 rfl rfl dzU_health_31 ?_
    refine lv_iload_n (pc := 34) hx hb dzU_health_34 rfl (lv_at hl 4 rfl) ?_
    refine lv_iload_n (pc := 35) hx hb dzU_health_35 rfl (lv_at hl 5 rfl) ?_
    refine xk_zast (q0 := 17) (t0 := 1) (j := 2) (pc := 36) hx hb hK hP hD hS rfl rfl (pk_in 2 4 (by decide)) (pk_cl 2) hb2 dzU_health_36 (fun H locs hP hD hS => ?_)
    obtain ⟨g1, eg1⟩ : ∃ z : xk_St, z = va_up g0 17 (upd (g0 17) 2 k2) := ⟨_, rfl⟩
    have hP : va_P G xk_cls (xk_wU ad ac g1) H := by rw [eg1]; exact hP
    have hD : va_D A (xk_wU ad ac g1) := by rw [eg1]; exact hD
    refine lv_iload_n (pc := 37) hx hb dzU_health_37 rfl (lv_at hl 5 rfl) ?_
    have K2 : ∀ (g4 : xk_St) (H : Heap) (locs : List Loc), (if k2 = 0 then (∃ (g2 : xk_St), relzU_disturbIfThere_0_1 g1 g2 ∧ (∃ (g3 : xk_St), relzU_disturbIfThere_0_2 g2 g3 ∧ (g4 = g3))) else (g4 = g1)) → (va_P G xk_cls (xk_wU ad ac g4) H) → (va_D A (xk_wU ad ac g4)) → (va_S A s.heap H locs) → W p l e xk_r3 s m args below meth c H locs 0 0 Q (F0 m 57 ls []) := by
      intro g4 H locs R2 hP hD hS
      refine lv_iload (pc := 57) hx hb dzU_health_57 (lv_at hl 0 rfl) ?_
      exact hret _ g4 H locs 59 ls hP hS (xk_bn bx1) (by unfold relzU_health_0_2; exact ⟨x1, R1, ⟨g1, eg1, ⟨g4, R2, ⟨rfl, bx1, rfl⟩⟩⟩⟩) dzU_health_59
    refine lv_if_ne (pc := 38) (tgt := 57) hx hb dzU_health_38 (by decide) (fun h2 => ?_) (fun h2 => ?_)
    ·
      exact K2 g1 H locs (Eq.mpr (if_neg h2) rfl) hP hD hS
    ·
      refine lv_aload_n (pc := 41) hx hb dzU_health_41 rfl (lv_at hl 2 rfl) ?_
      refine lv_aload (pc := 42) hx hb dzU_health_42 (lv_at hl 1 rfl) ?_
      refine lv_iload_n (pc := 44) hx hb dzU_health_44 rfl (lv_at hl 4 rfl) ?_
      refine lv_iconst (v := 1) (pc := 45) hx hb dzU_health_45 (by decide) ?_
      refine lv_isub (pc := 46) hx hb dzU_health_46 ?_
      refine xk_is (y := 1) (by decide) ?_
      refine xk_allVV (As := [.ref (ad 9), .int 1]) (rest := []) (H0 := s.heap) (pc := 47) hx hb hml hts hown hK hA hP hD hS (kzU_disturbIfThere_0_1 l G ac ad g1) vfzU_90 (fun _ => rfl) 0 rfl rfl ⟨rfl, rfl⟩ ⟨Nat.le_of_ble_eq_true rfl, Nat.le_of_ble_eq_true rfl⟩ rfl hl.1 rfl (Nat.le_of_ble_eq_true rfl) ⟨Nat.zero_le _, Nat.zero_le _⟩ dzU_health_47 (fun g2 H locs hg2 hP hD hS => ?_)
      have hP : va_P G xk_cls (xk_wU ad ac g2) H := hP
      have hD : va_D A (xk_wU ad ac g2) := hD
      refine lv_aload_n (pc := 50) hx hb dzU_health_50 rfl (lv_at hl 2 rfl) ?_
      refine lv_aload (pc := 51) hx hb dzU_health_51 (lv_at hl 1 rfl) ?_
      refine lv_iload_n (pc := 53) hx hb dzU_health_53 rfl (lv_at hl 4 rfl) ?_
      refine xk_allVV (As := [.ref (ad 9), .int 2]) (rest := []) (H0 := s.heap) (pc := 54) hx hb hml hts hown hK hA hP hD hS (kzU_disturbIfThere_0_2 l G ac ad g2) vfzU_90 (fun _ => rfl) 0 rfl rfl ⟨rfl, rfl⟩ ⟨Nat.le_of_ble_eq_true rfl, Nat.le_of_ble_eq_true rfl⟩ rfl hl.1 rfl (Nat.le_of_ble_eq_true rfl) ⟨Nat.zero_le _, Nat.zero_le _⟩ dzU_health_54 (fun g3 H locs hg3 hP hD hS => ?_)
      have hP : va_P G xk_cls (xk_wU ad ac g3) H := hP
      have hD : va_D A (xk_wU ad ac g3) := hD
      exact K2 g3 H locs (Eq.mpr (if_pos h2) ⟨g2, hg2, ⟨g3, hg3, rfl⟩⟩) hP hD hS
  refine lv_icmp_eq (pc := 19) (tgt := 26) hx hb dzU_health_19 (by decide) (fun h1 => ?_) (fun h1 => ?_)
  ·
    refine lv_iconst (v := 0) (pc := 26) hx hb dzU_health_26 (by decide) ?_
    exact K1 0 (Eq.mpr (if_pos h1) rfl) xk_b0
  ·
    refine lv_iconst (v := 1) (pc := 22) hx hb dzU_health_22 (by decide) ?_
    refine lv_goto (tgt := 27) (pc := 23) hx hb dzU_health_23 (by decide) ?_
    exact K1 1 (Eq.mpr (if_neg h1) rfl) xk_b1
theorem frzU_health_0_2 (g0 : xk_St) (k2 : Int32) (rz : Int32) (gz : xk_St) : relzU_health_0_2 g0 k2 rz gz → xk_eqv [0, 1, 2, 3, 4, 9, 10, 11, 12, 13, 14, 15, 16, 18, 19, 22, 23, 24, 25, 26, 27, 28, 29, 30, 31, 32, 33] g0 gz := by
  intro h
  unfold relzU_health_0_2 at h
  have s0 : xk_eqv [0, 1, 2, 3, 4, 9, 10, 11, 12, 13, 14, 15, 16, 18, 19, 22, 23, 24, 25, 26, 27, 28, 29, 30, 31, 32, 33] g0 g0 := xk_eqv_rf
  obtain ⟨x1, u1, v2⟩ := h
  obtain ⟨g1, u3, v4⟩ := v2
  have s5 : xk_eqv [0, 1, 2, 3, 4, 9, 10, 11, 12, 13, 14, 15, 16, 18, 19, 22, 23, 24, 25, 26, 27, 28, 29, 30, 31, 32, 33] g0 g1 := by rw [u3]; repeat (first | exact s0 | refine xk_eqv_up (by decide) ?_)
  obtain ⟨g4, u6, v7⟩ := v4
  have s8 : xk_eqv [0, 1, 2, 3, 4, 9, 10, 11, 12, 13, 14, 15, 16, 18, 19, 22, 23, 24, 25, 26, 27, 28, 29, 30, 31, 32, 33] g0 g4 := by
    by_cases hc : k2 = 0
    · rw [if_pos hc] at u6
      obtain ⟨g2, u9, v10⟩ := u6
      have s11 : xk_eqv [0, 1, 2, 3, 4, 9, 10, 11, 12, 13, 14, 15, 16, 18, 19, 22, 23, 24, 25, 26, 27, 28, 29, 30, 31, 32, 33] g0 g2 := xk_eqv_tr s5 (xk_eqv_sub (frzU_disturbIfThere_0_1 _ _ u9) (by decide))
      obtain ⟨g3, u12, v13⟩ := v10
      have s14 : xk_eqv [0, 1, 2, 3, 4, 9, 10, 11, 12, 13, 14, 15, 16, 18, 19, 22, 23, 24, 25, 26, 27, 28, 29, 30, 31, 32, 33] g0 g3 := xk_eqv_tr s11 (xk_eqv_sub (frzU_disturbIfThere_0_2 _ _ u12) (by decide))
      rw [v13]; exact s14
    · rw [if_neg hc] at u6
      rw [u6]; exact s5
  rw [v7.2.2]; exact s8

def relzU_health_0_3 (g0 : xk_St) (k2 : Int32) (rz : Int32) (gz : xk_St) : Prop := ∃ (x1 : Int32), (if ((g0 17) 3) = k2 then (x1 = 0) else (x1 = 1)) ∧ (∃ (g1 : xk_St), g1 = va_up g0 17 (upd (g0 17) 3 k2) ∧ (∃ (g3 : xk_St), (if k2 = 0 then (∃ (g2 : xk_St), relzU_disturbIfThere_0_2 g1 g2 ∧ (g3 = g2)) else (g3 = g1)) ∧ (rz = x1 ∧ xk_b rz ∧ gz = g3)))
set_option maxHeartbeats 4000000 in
set_option maxRecDepth 100000 in
theorem kzU_health_0_3 (l : Launch) (G : va_G) (ac : Nat → ClassId) (ad : Nat → Nat) (g0 : xk_St) (k2 : Int32) (hb2 : xk_b k2) : xk_CI l yzU_health czU_health 6 .boolean xk_WS xk_r3 G xk_cls (xk_tys ac) [.ref (ad 0), .int 0, .int 3, .int k2] (xk_wU ad ac g0) (fun rz (gz : xk_St) => relzU_health_0_3 g0 k2 rz gz) (fun gz => xk_wU ad ac gz) := by
  refine xk_ofI (by decide) (Nat.le_of_ble_eq_true rfl) ?_
  intro p e s m args below meth c A Q H locs ls C0 hret hP hD hS hl
  obtain ⟨hx, hb, hml, hts, hown, hK, hA⟩ := C0
  have hl : lv_has ls 6 [(0, .ref (ad 0)), (1, .int 0), (2, .int 3), (3, .int k2)] := hl
  refine lv_aload_n (pc := 0) hx hb dzU_health_0 rfl (lv_at hl 0 rfl) ?_
  refine lv_iload_n (pc := 1) hx hb dzU_health_1 rfl (lv_at hl 1 rfl) ?_
  refine xk_allVR (As := [.int 0]) (rest := []) (H0 := s.heap) (pc := 2) hx hb hml hts hown hK hA hP hD hS (kzU_findTrack_0 l G ac ad g0) vfzU_63 0 rfl rfl ⟨rfl, rfl⟩ ⟨Nat.le_of_ble_eq_true rfl, Nat.le_of_ble_eq_true rfl⟩ rfl hl.1 rfl (Nat.le_of_ble_eq_true rfl) ⟨Nat.zero_le _, Nat.zero_le _⟩ dzU_health_2 (fun H locs hP hD hS => ?_)
  have hP : va_P G xk_cls (xk_wU ad ac g0) H := hP
  have hD : va_D A (xk_wU ad ac g0) := hD
  refine lv_astore (lv' := [(4, .ref (ad 9)), (0, .ref (ad 0)), (1, .int 0), (2, .int 3), (3, .int k2)]) (pc := 5) hx hb dzU_health_5 hl (by decide) rfl (fun ls hl => ?_)
  refine lv_iload_n (pc := 7) hx hb dzU_health_7 rfl (lv_at hl 3 rfl) ?_
  refine xk_callSV (As := [.int 3]) (rest := []) (H0 := s.heap) (pc := 8) hx hb hml hts hown hK hA hP hD hS (kzU_checkHead_3 l G ac) sfzU_67 [] (by decide) rfl (fun _ => rfl) ⟨rfl, rfl⟩ ⟨Nat.le_of_ble_eq_true rfl, Nat.le_of_ble_eq_true rfl⟩ rfl hl.1 rfl (Nat.le_of_ble_eq_true rfl) ⟨Nat.zero_le _, Nat.zero_le _⟩ dzU_health_8 (fun u9 H locs e9 hP hD hS => ?_)
  have hP : va_P G xk_cls (xk_wU ad ac g0) H := hP
  have hD : va_D A (xk_wU ad ac g0) := hD
  refine lv_aload (pc := 11) hx hb dzU_health_11 (lv_at hl 0 rfl) ?_
  refine xk_get (pc := 13) hx hb hts hown hK hP ffzU_86 9 rfl rfl dzU_health_13 ?_
  refine lv_iload_n (pc := 16) hx hb dzU_health_16 rfl (lv_at hl 3 rfl) ?_
  refine xk_zald (q0 := 17) (t0 := 1) (j := 3) (pc := 17) hx hb hK hP rfl rfl (pk_in 3 4 (by decide)) (pk_cl 3) dzU_health_17 ?_
  refine lv_iload_n (pc := 18) hx hb dzU_health_18 rfl (lv_at hl 4 rfl) ?_
  have K1 : ∀ (x1 : Int32), (if ((g0 17) 3) = k2 then (x1 = 0) else (x1 = 1)) → (xk_b x1) → W p l e xk_r3 s m args below meth c H locs 0 0 Q (F0 m 27 ls [.int x1]) := by
    intro x1 R1 bx1
    refine lv_istore (lv' := [(5, .int x1), (4, .ref (ad 9)), (0, .ref (ad 0)), (1, .int 0), (2, .int 3), (3, .int k2)]) (pc := 27) hx hb dzU_health_27 hl (by decide) rfl (fun ls hl => ?_)
    refine lv_aload (pc := 29) hx hb dzU_health_29 (lv_at hl 1 rfl) ?_
    refine xk_get (pc := 31) hx hb hts hown hK hP ffzU_86 9 rfl rfl dzU_health_31 ?_
    refine lv_iload_n (pc := 34) hx hb dzU_health_34 rfl (lv_at hl 4 rfl) ?_
    refine lv_iload_n (pc := 35) hx hb dzU_health_35 rfl (lv_at hl 5 rfl) ?_
    refine xk_zast (q0 := 17) (t0 := 1) (j := 3) (pc := 36) hx hb hK hP hD hS rfl rfl (pk_in 3 4 (by decide)) (pk_cl 3) hb2 dzU_health_36 (fun H locs hP hD hS => ?_)
    obtain ⟨g1, eg1⟩ : ∃ z : xk_St, z = va_up g0 17 (upd (g0 17) 3 k2) := ⟨_, rfl⟩
    have hP : va_P G xk_cls (xk_wU ad ac g1) H := by rw [eg1]; exact hP
    have hD : va_D A (xk_wU ad ac g1) := by rw [eg1]; exact hD
    refine lv_iload_n (pc := 37) hx hb dzU_health_37 rfl (lv_at hl 5 rfl) ?_
    have K2 : ∀ (g3 : xk_St) (H : Heap) (locs : List Loc), (if k2 = 0 then (∃ (g2 : xk_St), relzU_disturbIfThere_0_2 g1 g2 ∧ (g3 = g2)) else (g3 = g1)) → (va_P G xk_cls (xk_wU ad ac g3) H) → (va_D A (xk_wU ad ac g3)) → (va_S A s.heap H locs) → W p l e xk_r3 s m args below meth c H locs 0 0 Q (F0 m 57 ls []) := by
      intro g3 H locs R2 hP hD hS
      refine lv_iload (pc := 57) hx hb dzU_health_57 (lv_at hl 0 rfl) ?_
      exact hret _ g3 H locs 59 ls hP hS (xk_bn bx1) (by unfold relzU_health_0_3; exact ⟨x1, R1, ⟨g1, eg1, ⟨g3, R2, ⟨rfl, bx1, rfl⟩⟩⟩⟩) dzU_health_59
    refine lv_if_ne (pc := 38) (tgt := 57) hx hb dzU_health_38 (by decide) (fun h2 => ?_) (fun h2 => ?_)
    ·
      exact K2 g1 H locs (Eq.mpr (if_neg h2) rfl) hP hD hS
    ·
      refine lv_aload_n (pc := 41) hx hb dzU_health_41 rfl (lv_at hl 2 rfl) ?_
      refine lv_aload (pc := 42) hx hb dzU_health_42 (lv_at hl 1 rfl) ?_
      refine lv_iload_n (pc := 44) hx hb dzU_health_44 rfl (lv_at hl 4 rfl) ?_
      refine lv_iconst (v := 1) (pc := 45) hx hb dzU_health_45 (by decide) ?_
      refine lv_isub (pc := 46) hx hb dzU_health_46 ?_
      refine xk_is (y := 2) (by decide) ?_
      refine xk_allVV (As := [.ref (ad 9), .int 2]) (rest := []) (H0 := s.heap) (pc := 47) hx hb hml hts hown hK hA hP hD hS (kzU_disturbIfThere_0_2 l G ac ad g1) vfzU_90 (fun _ => rfl) 0 rfl rfl ⟨rfl, rfl⟩ ⟨Nat.le_of_ble_eq_true rfl, Nat.le_of_ble_eq_true rfl⟩ rfl hl.1 rfl (Nat.le_of_ble_eq_true rfl) ⟨Nat.zero_le _, Nat.zero_le _⟩ dzU_health_47 (fun g2 H locs hg2 hP hD hS => ?_)
      have hP : va_P G xk_cls (xk_wU ad ac g2) H := hP
      have hD : va_D A (xk_wU ad ac g2) := hD
      refine lv_aload_n (pc := 50) hx hb dzU_health_50 rfl (lv_at hl 2 rfl) ?_
      refine lv_aload (pc := 51) hx hb dzU_health_51 (lv_at hl 1 rfl) ?_
      refine lv_iload_n (pc := 53) hx hb dzU_health_53 rfl (lv_at hl 4 rfl) ?_
      refine xk_allVV (As := [.ref (ad 9), .int 3]) (rest := []) (H0 := s.heap) (pc := 54) hx hb hml hts hown hK hA hP hD hS (kzU_disturbIfThere_0_3 l G ac ad g2) vfzU_90 (fun _ => rfl) 0 rfl rfl ⟨rfl, rfl⟩ ⟨Nat.le_of_ble_eq_true rfl, Nat.le_of_ble_eq_true rfl⟩ rfl hl.1 rfl (Nat.le_of_ble_eq_true rfl) ⟨Nat.zero_le _, Nat.zero_le _⟩ dzU_health_54 (fun u9 H locs e9 hP hD hS => ?_)
      exact K2 g2 H locs (Eq.mpr (if_pos h2) ⟨g2, hg2, rfl⟩) hP hD hS
  refine lv_icmp_eq (pc := 19) (tgt := 26) hx hb dzU_health_19 (by decide) (fun h1 => ?_) (fun h1 => ?_)
  ·
    refine lv_iconst (v := 0) (pc := 26) hx hb dzU_health_26 (by decide) ?_
    exact K1 0 (Eq.mpr (if_pos h1) rfl) xk_b0
  ·
    refine lv_iconst (v := 1) (pc := 22) hx hb dzU_health_22 (by decide) ?_
    refine lv_goto (tgt := 27) (pc := 23) hx hb dzU_health_23 (by decide) ?_
    exact K1 1 (Eq.mpr (if_neg h1) rfl) xk_b1
theorem frzU_health_0_3 (g0 : xk_St) (k2 : Int32) (rz : Int32) (gz : xk_St) : relzU_health_0_3 g0 k2 rz gz → xk_eqv [0, 1, 2, 3, 4, 9, 10, 11, 12, 13, 14, 15, 16, 18, 19, 20, 22, 23, 24, 25, 26, 27, 28, 29, 30, 31, 32, 33] g0 gz := by
  intro h
  unfold relzU_health_0_3 at h
  have s0 : xk_eqv [0, 1, 2, 3, 4, 9, 10, 11, 12, 13, 14, 15, 16, 18, 19, 20, 22, 23, 24, 25, 26, 27, 28, 29, 30, 31, 32, 33] g0 g0 := xk_eqv_rf
  obtain ⟨x1, u1, v2⟩ := h
  obtain ⟨g1, u3, v4⟩ := v2
  have s5 : xk_eqv [0, 1, 2, 3, 4, 9, 10, 11, 12, 13, 14, 15, 16, 18, 19, 20, 22, 23, 24, 25, 26, 27, 28, 29, 30, 31, 32, 33] g0 g1 := by rw [u3]; repeat (first | exact s0 | refine xk_eqv_up (by decide) ?_)
  obtain ⟨g3, u6, v7⟩ := v4
  have s8 : xk_eqv [0, 1, 2, 3, 4, 9, 10, 11, 12, 13, 14, 15, 16, 18, 19, 20, 22, 23, 24, 25, 26, 27, 28, 29, 30, 31, 32, 33] g0 g3 := by
    by_cases hc : k2 = 0
    · rw [if_pos hc] at u6
      obtain ⟨g2, u9, v10⟩ := u6
      have s11 : xk_eqv [0, 1, 2, 3, 4, 9, 10, 11, 12, 13, 14, 15, 16, 18, 19, 20, 22, 23, 24, 25, 26, 27, 28, 29, 30, 31, 32, 33] g0 g2 := xk_eqv_tr s5 (xk_eqv_sub (frzU_disturbIfThere_0_2 _ _ u9) (by decide))
      rw [v10]; exact s11
    · rw [if_neg hc] at u6
      rw [u6]; exact s5
  rw [v7.2.2]; exact s8

def relzU_health_1_0 (g0 : xk_St) (k2 : Int32) (rz : Int32) (gz : xk_St) : Prop := ∃ (x1 : Int32), (if ((g0 18) 0) = k2 then (x1 = 0) else (x1 = 1)) ∧ (∃ (g1 : xk_St), g1 = va_up g0 18 (upd (g0 18) 0 k2) ∧ (∃ (g3 : xk_St), (if k2 = 0 then (∃ (g2 : xk_St), relzU_disturbIfThere_1_0 g1 g2 ∧ (g3 = g2)) else (g3 = g1)) ∧ (rz = x1 ∧ xk_b rz ∧ gz = g3)))
set_option maxHeartbeats 4000000 in
set_option maxRecDepth 100000 in
theorem kzU_health_1_0 (l : Launch) (G : va_G) (ac : Nat → ClassId) (ad : Nat → Nat) (g0 : xk_St) (k2 : Int32) (hb2 : xk_b k2) : xk_CI l yzU_health czU_health 6 .boolean xk_WS xk_r3 G xk_cls (xk_tys ac) [.ref (ad 0), .int 1, .int 0, .int k2] (xk_wU ad ac g0) (fun rz (gz : xk_St) => relzU_health_1_0 g0 k2 rz gz) (fun gz => xk_wU ad ac gz) := by
  refine xk_ofI (by decide) (Nat.le_of_ble_eq_true rfl) ?_
  intro p e s m args below meth c A Q H locs ls C0 hret hP hD hS hl
  obtain ⟨hx, hb, hml, hts, hown, hK, hA⟩ := C0
  have hl : lv_has ls 6 [(0, .ref (ad 0)), (1, .int 1), (2, .int 0), (3, .int k2)] := hl
  refine lv_aload_n (pc := 0) hx hb dzU_health_0 rfl (lv_at hl 0 rfl) ?_
  refine lv_iload_n (pc := 1) hx hb dzU_health_1 rfl (lv_at hl 1 rfl) ?_
  refine xk_allVR (As := [.int 1]) (rest := []) (H0 := s.heap) (pc := 2) hx hb hml hts hown hK hA hP hD hS (kzU_findTrack_1 l G ac ad g0) vfzU_63 0 rfl rfl ⟨rfl, rfl⟩ ⟨Nat.le_of_ble_eq_true rfl, Nat.le_of_ble_eq_true rfl⟩ rfl hl.1 rfl (Nat.le_of_ble_eq_true rfl) ⟨Nat.zero_le _, Nat.zero_le _⟩ dzU_health_2 (fun H locs hP hD hS => ?_)
  have hP : va_P G xk_cls (xk_wU ad ac g0) H := hP
  have hD : va_D A (xk_wU ad ac g0) := hD
  refine lv_astore (lv' := [(4, .ref (ad 10)), (0, .ref (ad 0)), (1, .int 1), (2, .int 0), (3, .int k2)]) (pc := 5) hx hb dzU_health_5 hl (by decide) rfl (fun ls hl => ?_)
  refine lv_iload_n (pc := 7) hx hb dzU_health_7 rfl (lv_at hl 3 rfl) ?_
  refine xk_callSV (As := [.int 0]) (rest := []) (H0 := s.heap) (pc := 8) hx hb hml hts hown hK hA hP hD hS (kzU_checkHead_0 l G ac) sfzU_67 [] (by decide) rfl (fun _ => rfl) ⟨rfl, rfl⟩ ⟨Nat.le_of_ble_eq_true rfl, Nat.le_of_ble_eq_true rfl⟩ rfl hl.1 rfl (Nat.le_of_ble_eq_true rfl) ⟨Nat.zero_le _, Nat.zero_le _⟩ dzU_health_8 (fun u9 H locs e9 hP hD hS => ?_)
  have hP : va_P G xk_cls (xk_wU ad ac g0) H := hP
  have hD : va_D A (xk_wU ad ac g0) := hD
  refine lv_aload (pc := 11) hx hb dzU_health_11 (lv_at hl 0 rfl) ?_
  refine xk_get (pc := 13) hx hb hts hown hK hP ffzU_86 10 rfl rfl dzU_health_13 ?_
  refine lv_iload_n (pc := 16) hx hb dzU_health_16 rfl (lv_at hl 3 rfl) ?_
  refine xk_zald (q0 := 18) (t0 := 1) (j := 0) (pc := 17) hx hb hK hP rfl rfl (pk_in 0 4 (by decide)) (pk_cl 0) dzU_health_17 ?_
  refine lv_iload_n (pc := 18) hx hb dzU_health_18 rfl (lv_at hl 4 rfl) ?_
  have K1 : ∀ (x1 : Int32), (if ((g0 18) 0) = k2 then (x1 = 0) else (x1 = 1)) → (xk_b x1) → W p l e xk_r3 s m args below meth c H locs 0 0 Q (F0 m 27 ls [.int x1]) := by
    intro x1 R1 bx1
    refine lv_istore (lv' := [(5, .int x1), (4, .ref (ad 10)), (0, .ref (ad 0)), (1, .int 1), (2, .int 0), (3, .int k2)]) (pc := 27) hx hb dzU_health_27 hl (by decide) rfl (fun ls hl => ?_)
    refine lv_aload (pc := 29) hx hb dzU_health_29 (lv_at hl 1 rfl) ?_
    refine xk_get (pc := 31) hx hb hts hown hK hP ffzU_86 10 rfl rfl dzU_health_31 ?_
    refine lv_iload_n (pc := 34) hx hb dzU_health_34 rfl (lv_at hl 4 rfl) ?_
    refine lv_iload_n (pc := 35) hx hb dzU_health_35 rfl (lv_at hl 5 rfl) ?_
    refine xk_zast (q0 := 18) (t0 := 1) (j := 0) (pc := 36) hx hb hK hP hD hS rfl rfl (pk_in 0 4 (by decide)) (pk_cl 0) hb2 dzU_health_36 (fun H locs hP hD hS => ?_)
    obtain ⟨g1, eg1⟩ : ∃ z : xk_St, z = va_up g0 18 (upd (g0 18) 0 k2) := ⟨_, rfl⟩
    have hP : va_P G xk_cls (xk_wU ad ac g1) H := by rw [eg1]; exact hP
    have hD : va_D A (xk_wU ad ac g1) := by rw [eg1]; exact hD
    refine lv_iload_n (pc := 37) hx hb dzU_health_37 rfl (lv_at hl 5 rfl) ?_
    have K2 : ∀ (g3 : xk_St) (H : Heap) (locs : List Loc), (if k2 = 0 then (∃ (g2 : xk_St), relzU_disturbIfThere_1_0 g1 g2 ∧ (g3 = g2)) else (g3 = g1)) → (va_P G xk_cls (xk_wU ad ac g3) H) → (va_D A (xk_wU ad ac g3)) → (va_S A s.heap H locs) → W p l e xk_r3 s m args below meth c H locs 0 0 Q (F0 m 57 ls []) := by
      intro g3 H locs R2 hP hD hS
      refine lv_iload (pc := 57) hx hb dzU_health_57 (lv_at hl 0 rfl) ?_
      exact hret _ g3 H locs 59 ls hP hS (xk_bn bx1) (by unfold relzU_health_1_0; exact ⟨x1, R1, ⟨g1, eg1, ⟨g3, R2, ⟨rfl, bx1, rfl⟩⟩⟩⟩) dzU_health_59
    refine lv_if_ne (pc := 38) (tgt := 57) hx hb dzU_health_38 (by decide) (fun h2 => ?_) (fun h2 => ?_)
    ·
      exact K2 g1 H locs (Eq.mpr (if_neg h2) rfl) hP hD hS
    ·
      refine lv_aload_n (pc := 41) hx hb dzU_health_41 rfl (lv_at hl 2 rfl) ?_
      refine lv_aload (pc := 42) hx hb dzU_health_42 (lv_at hl 1 rfl) ?_
      refine lv_iload_n (pc := 44) hx hb dzU_health_44 rfl (lv_at hl 4 rfl) ?_
      refine lv_iconst (v := 1) (pc := 45) hx hb dzU_health_45 (by decide) ?_
      refine lv_isub (pc := 46) hx hb dzU_health_46 ?_
      refine xk_is (y := (-1)) (by decide) ?_
      refine xk_allVV (As := [.ref (ad 10), .int (-1)]) (rest := []) (H0 := s.heap) (pc := 47) hx hb hml hts hown hK hA hP hD hS (kzU_disturbIfThere_1_m l G ac ad g1) vfzU_90 (fun _ => rfl) 0 rfl rfl ⟨rfl, rfl⟩ ⟨Nat.le_of_ble_eq_true rfl, Nat.le_of_ble_eq_true rfl⟩ rfl hl.1 rfl (Nat.le_of_ble_eq_true rfl) ⟨Nat.zero_le _, Nat.zero_le _⟩ dzU_health_47 (fun u9 H locs e9 hP hD hS => ?_)
      refine lv_aload_n (pc := 50) hx hb dzU_health_50 rfl (lv_at hl 2 rfl) ?_
      refine lv_aload (pc := 51) hx hb dzU_health_51 (lv_at hl 1 rfl) ?_
      refine lv_iload_n (pc := 53) hx hb dzU_health_53 rfl (lv_at hl 4 rfl) ?_
      refine xk_allVV (As := [.ref (ad 10), .int 0]) (rest := []) (H0 := s.heap) (pc := 54) hx hb hml hts hown hK hA hP hD hS (kzU_disturbIfThere_1_0 l G ac ad g1) vfzU_90 (fun _ => rfl) 0 rfl rfl ⟨rfl, rfl⟩ ⟨Nat.le_of_ble_eq_true rfl, Nat.le_of_ble_eq_true rfl⟩ rfl hl.1 rfl (Nat.le_of_ble_eq_true rfl) ⟨Nat.zero_le _, Nat.zero_le _⟩ dzU_health_54 (fun g2 H locs hg2 hP hD hS => ?_)
      have hP : va_P G xk_cls (xk_wU ad ac g2) H := hP
      have hD : va_D A (xk_wU ad ac g2) := hD
      exact K2 g2 H locs (Eq.mpr (if_pos h2) ⟨g2, hg2, rfl⟩) hP hD hS
  refine lv_icmp_eq (pc := 19) (tgt := 26) hx hb dzU_health_19 (by decide) (fun h1 => ?_) (fun h1 => ?_)
  ·
    refine lv_iconst (v := 0) (pc := 26) hx hb dzU_health_26 (by decide) ?_
    exact K1 0 (Eq.mpr (if_pos h1) rfl) xk_b0
  ·
    refine lv_iconst (v := 1) (pc := 22) hx hb dzU_health_22 (by decide) ?_
    refine lv_goto (tgt := 27) (pc := 23) hx hb dzU_health_23 (by decide) ?_
    exact K1 1 (Eq.mpr (if_neg h1) rfl) xk_b1
theorem frzU_health_1_0 (g0 : xk_St) (k2 : Int32) (rz : Int32) (gz : xk_St) : relzU_health_1_0 g0 k2 rz gz → xk_eqv [0, 1, 2, 3, 4, 9, 10, 11, 12, 13, 14, 15, 16, 17, 19, 20, 21, 23, 24, 25, 26, 27, 28, 29, 30, 31, 32, 33] g0 gz := by
  intro h
  unfold relzU_health_1_0 at h
  have s0 : xk_eqv [0, 1, 2, 3, 4, 9, 10, 11, 12, 13, 14, 15, 16, 17, 19, 20, 21, 23, 24, 25, 26, 27, 28, 29, 30, 31, 32, 33] g0 g0 := xk_eqv_rf
  obtain ⟨x1, u1, v2⟩ := h
  obtain ⟨g1, u3, v4⟩ := v2
  have s5 : xk_eqv [0, 1, 2, 3, 4, 9, 10, 11, 12, 13, 14, 15, 16, 17, 19, 20, 21, 23, 24, 25, 26, 27, 28, 29, 30, 31, 32, 33] g0 g1 := by rw [u3]; repeat (first | exact s0 | refine xk_eqv_up (by decide) ?_)
  obtain ⟨g3, u6, v7⟩ := v4
  have s8 : xk_eqv [0, 1, 2, 3, 4, 9, 10, 11, 12, 13, 14, 15, 16, 17, 19, 20, 21, 23, 24, 25, 26, 27, 28, 29, 30, 31, 32, 33] g0 g3 := by
    by_cases hc : k2 = 0
    · rw [if_pos hc] at u6
      obtain ⟨g2, u9, v10⟩ := u6
      have s11 : xk_eqv [0, 1, 2, 3, 4, 9, 10, 11, 12, 13, 14, 15, 16, 17, 19, 20, 21, 23, 24, 25, 26, 27, 28, 29, 30, 31, 32, 33] g0 g2 := xk_eqv_tr s5 (xk_eqv_sub (frzU_disturbIfThere_1_0 _ _ u9) (by decide))
      rw [v10]; exact s11
    · rw [if_neg hc] at u6
      rw [u6]; exact s5
  rw [v7.2.2]; exact s8

def relzU_health_1_1 (g0 : xk_St) (k2 : Int32) (rz : Int32) (gz : xk_St) : Prop := ∃ (x1 : Int32), (if ((g0 18) 1) = k2 then (x1 = 0) else (x1 = 1)) ∧ (∃ (g1 : xk_St), g1 = va_up g0 18 (upd (g0 18) 1 k2) ∧ (∃ (g4 : xk_St), (if k2 = 0 then (∃ (g2 : xk_St), relzU_disturbIfThere_1_0 g1 g2 ∧ (∃ (g3 : xk_St), relzU_disturbIfThere_1_1 g2 g3 ∧ (g4 = g3))) else (g4 = g1)) ∧ (rz = x1 ∧ xk_b rz ∧ gz = g4)))
set_option maxHeartbeats 4000000 in
set_option maxRecDepth 100000 in
theorem kzU_health_1_1 (l : Launch) (G : va_G) (ac : Nat → ClassId) (ad : Nat → Nat) (g0 : xk_St) (k2 : Int32) (hb2 : xk_b k2) : xk_CI l yzU_health czU_health 6 .boolean xk_WS xk_r3 G xk_cls (xk_tys ac) [.ref (ad 0), .int 1, .int 1, .int k2] (xk_wU ad ac g0) (fun rz (gz : xk_St) => relzU_health_1_1 g0 k2 rz gz) (fun gz => xk_wU ad ac gz) := by
  refine xk_ofI (by decide) (Nat.le_of_ble_eq_true rfl) ?_
  intro p e s m args below meth c A Q H locs ls C0 hret hP hD hS hl
  obtain ⟨hx, hb, hml, hts, hown, hK, hA⟩ := C0
  have hl : lv_has ls 6 [(0, .ref (ad 0)), (1, .int 1), (2, .int 1), (3, .int k2)] := hl
  refine lv_aload_n (pc := 0) hx hb dzU_health_0 rfl (lv_at hl 0 rfl) ?_
  refine lv_iload_n (pc := 1) hx hb dzU_health_1 rfl (lv_at hl 1 rfl) ?_
  refine xk_allVR (As := [.int 1]) (rest := []) (H0 := s.heap) (pc := 2) hx hb hml hts hown hK hA hP hD hS (kzU_findTrack_1 l G ac ad g0) vfzU_63 0 rfl rfl ⟨rfl, rfl⟩ ⟨Nat.le_of_ble_eq_true rfl, Nat.le_of_ble_eq_true rfl⟩ rfl hl.1 rfl (Nat.le_of_ble_eq_true rfl) ⟨Nat.zero_le _, Nat.zero_le _⟩ dzU_health_2 (fun H locs hP hD hS => ?_)
  have hP : va_P G xk_cls (xk_wU ad ac g0) H := hP
  have hD : va_D A (xk_wU ad ac g0) := hD
  refine lv_astore (lv' := [(4, .ref (ad 10)), (0, .ref (ad 0)), (1, .int 1), (2, .int 1), (3, .int k2)]) (pc := 5) hx hb dzU_health_5 hl (by decide) rfl (fun ls hl => ?_)
  refine lv_iload_n (pc := 7) hx hb dzU_health_7 rfl (lv_at hl 3 rfl) ?_
  refine xk_callSV (As := [.int 1]) (rest := []) (H0 := s.heap) (pc := 8) hx hb hml hts hown hK hA hP hD hS (kzU_checkHead_1 l G ac) sfzU_67 [] (by decide) rfl (fun _ => rfl) ⟨rfl, rfl⟩ ⟨Nat.le_of_ble_eq_true rfl, Nat.le_of_ble_eq_true rfl⟩ rfl hl.1 rfl (Nat.le_of_ble_eq_true rfl) ⟨Nat.zero_le _, Nat.zero_le _⟩ dzU_health_8 (fun u9 H locs e9 hP hD hS => ?_)
  have hP : va_P G xk_cls (xk_wU ad ac g0) H := hP
  have hD : va_D A (xk_wU ad ac g0) := hD
  refine lv_aload (pc := 11) hx hb dzU_health_11 (lv_at hl 0 rfl) ?_
  refine xk_get (pc := 13) hx hb hts hown hK hP ffzU_86 10 rfl rfl dzU_health_13 ?_
  refine lv_iload_n (pc := 16) hx hb dzU_health_16 rfl (lv_at hl 3 rfl) ?_
  refine xk_zald (q0 := 18) (t0 := 1) (j := 1) (pc := 17) hx hb hK hP rfl rfl (pk_in 1 4 (by decide)) (pk_cl 1) dzU_health_17 ?_
  refine lv_iload_n (pc := 18) hx hb dzU_health_18 rfl (lv_at hl 4 rfl) ?_
  have K1 : ∀ (x1 : Int32), (if ((g0 18) 1) = k2 then (x1 = 0) else (x1 = 1)) → (xk_b x1) → W p l e xk_r3 s m args below meth c H locs 0 0 Q (F0 m 27 ls [.int x1]) := by
    intro x1 R1 bx1
    refine lv_istore (lv' := [(5, .int x1), (4, .ref (ad 10)), (0, .ref (ad 0)), (1, .int 1), (2, .int 1), (3, .int k2)]) (pc := 27) hx hb dzU_health_27 hl (by decide) rfl (fun ls hl => ?_)
    refine lv_aload (pc := 29) hx hb dzU_health_29 (lv_at hl 1 rfl) ?_
    refine xk_get (pc := 31) hx hb hts hown hK hP ffzU_86 10 rfl rfl dzU_health_31 ?_
    refine lv_iload_n (pc := 34) hx hb dzU_health_34 rfl (lv_at hl 4 rfl) ?_
    refine lv_iload_n (pc := 35) hx hb dzU_health_35 rfl (lv_at hl 5 rfl) ?_
    refine xk_zast (q0 := 18) (t0 := 1) (j := 1) (pc := 36) hx hb hK hP hD hS rfl rfl (pk_in 1 4 (by decide)) (pk_cl 1) hb2 dzU_health_36 (fun H locs hP hD hS => ?_)
    obtain ⟨g1, eg1⟩ : ∃ z : xk_St, z = va_up g0 18 (upd (g0 18) 1 k2) := ⟨_, rfl⟩
    have hP : va_P G xk_cls (xk_wU ad ac g1) H := by rw [eg1]; exact hP
    have hD : va_D A (xk_wU ad ac g1) := by rw [eg1]; exact hD
    refine lv_iload_n (pc := 37) hx hb dzU_health_37 rfl (lv_at hl 5 rfl) ?_
    have K2 : ∀ (g4 : xk_St) (H : Heap) (locs : List Loc), (if k2 = 0 then (∃ (g2 : xk_St), relzU_disturbIfThere_1_0 g1 g2 ∧ (∃ (g3 : xk_St), relzU_disturbIfThere_1_1 g2 g3 ∧ (g4 = g3))) else (g4 = g1)) → (va_P G xk_cls (xk_wU ad ac g4) H) → (va_D A (xk_wU ad ac g4)) → (va_S A s.heap H locs) → W p l e xk_r3 s m args below meth c H locs 0 0 Q (F0 m 57 ls []) := by
      intro g4 H locs R2 hP hD hS
      refine lv_iload (pc := 57) hx hb dzU_health_57 (lv_at hl 0 rfl) ?_
      exact hret _ g4 H locs 59 ls hP hS (xk_bn bx1) (by unfold relzU_health_1_1; exact ⟨x1, R1, ⟨g1, eg1, ⟨g4, R2, ⟨rfl, bx1, rfl⟩⟩⟩⟩) dzU_health_59
    refine lv_if_ne (pc := 38) (tgt := 57) hx hb dzU_health_38 (by decide) (fun h2 => ?_) (fun h2 => ?_)
    ·
      exact K2 g1 H locs (Eq.mpr (if_neg h2) rfl) hP hD hS
    ·
      refine lv_aload_n (pc := 41) hx hb dzU_health_41 rfl (lv_at hl 2 rfl) ?_
      refine lv_aload (pc := 42) hx hb dzU_health_42 (lv_at hl 1 rfl) ?_
      refine lv_iload_n (pc := 44) hx hb dzU_health_44 rfl (lv_at hl 4 rfl) ?_
      refine lv_iconst (v := 1) (pc := 45) hx hb dzU_health_45 (by decide) ?_
      refine lv_isub (pc := 46) hx hb dzU_health_46 ?_
      refine xk_is (y := 0) (by decide) ?_
      refine xk_allVV (As := [.ref (ad 10), .int 0]) (rest := []) (H0 := s.heap) (pc := 47) hx hb hml hts hown hK hA hP hD hS (kzU_disturbIfThere_1_0 l G ac ad g1) vfzU_90 (fun _ => rfl) 0 rfl rfl ⟨rfl, rfl⟩ ⟨Nat.le_of_ble_eq_true rfl, Nat.le_of_ble_eq_true rfl⟩ rfl hl.1 rfl (Nat.le_of_ble_eq_true rfl) ⟨Nat.zero_le _, Nat.zero_le _⟩ dzU_health_47 (fun g2 H locs hg2 hP hD hS => ?_)
      have hP : va_P G xk_cls (xk_wU ad ac g2) H := hP
      have hD : va_D A (xk_wU ad ac g2) := hD
      refine lv_aload_n (pc := 50) hx hb dzU_health_50 rfl (lv_at hl 2 rfl) ?_
      refine lv_aload (pc := 51) hx hb dzU_health_51 (lv_at hl 1 rfl) ?_
      refine lv_iload_n (pc := 53) hx hb dzU_health_53 rfl (lv_at hl 4 rfl) ?_
      refine xk_allVV (As := [.ref (ad 10), .int 1]) (rest := []) (H0 := s.heap) (pc := 54) hx hb hml hts hown hK hA hP hD hS (kzU_disturbIfThere_1_1 l G ac ad g2) vfzU_90 (fun _ => rfl) 0 rfl rfl ⟨rfl, rfl⟩ ⟨Nat.le_of_ble_eq_true rfl, Nat.le_of_ble_eq_true rfl⟩ rfl hl.1 rfl (Nat.le_of_ble_eq_true rfl) ⟨Nat.zero_le _, Nat.zero_le _⟩ dzU_health_54 (fun g3 H locs hg3 hP hD hS => ?_)
      have hP : va_P G xk_cls (xk_wU ad ac g3) H := hP
      have hD : va_D A (xk_wU ad ac g3) := hD
      exact K2 g3 H locs (Eq.mpr (if_pos h2) ⟨g2, hg2, ⟨g3, hg3, rfl⟩⟩) hP hD hS
  refine lv_icmp_eq (pc := 19) (tgt := 26) hx hb dzU_health_19 (by decide) (fun h1 => ?_) (fun h1 => ?_)
  ·
    refine lv_iconst (v := 0) (pc := 26) hx hb dzU_health_26 (by decide) ?_
    exact K1 0 (Eq.mpr (if_pos h1) rfl) xk_b0
  ·
    refine lv_iconst (v := 1) (pc := 22) hx hb dzU_health_22 (by decide) ?_
    refine lv_goto (tgt := 27) (pc := 23) hx hb dzU_health_23 (by decide) ?_
    exact K1 1 (Eq.mpr (if_neg h1) rfl) xk_b1
theorem frzU_health_1_1 (g0 : xk_St) (k2 : Int32) (rz : Int32) (gz : xk_St) : relzU_health_1_1 g0 k2 rz gz → xk_eqv [0, 1, 2, 3, 4, 9, 10, 11, 12, 13, 14, 15, 16, 17, 19, 20, 21, 24, 25, 26, 27, 28, 29, 30, 31, 32, 33] g0 gz := by
  intro h
  unfold relzU_health_1_1 at h
  have s0 : xk_eqv [0, 1, 2, 3, 4, 9, 10, 11, 12, 13, 14, 15, 16, 17, 19, 20, 21, 24, 25, 26, 27, 28, 29, 30, 31, 32, 33] g0 g0 := xk_eqv_rf
  obtain ⟨x1, u1, v2⟩ := h
  obtain ⟨g1, u3, v4⟩ := v2
  have s5 : xk_eqv [0, 1, 2, 3, 4, 9, 10, 11, 12, 13, 14, 15, 16, 17, 19, 20, 21, 24, 25, 26, 27, 28, 29, 30, 31, 32, 33] g0 g1 := by rw [u3]; repeat (first | exact s0 | refine xk_eqv_up (by decide) ?_)
  obtain ⟨g4, u6, v7⟩ := v4
  have s8 : xk_eqv [0, 1, 2, 3, 4, 9, 10, 11, 12, 13, 14, 15, 16, 17, 19, 20, 21, 24, 25, 26, 27, 28, 29, 30, 31, 32, 33] g0 g4 := by
    by_cases hc : k2 = 0
    · rw [if_pos hc] at u6
      obtain ⟨g2, u9, v10⟩ := u6
      have s11 : xk_eqv [0, 1, 2, 3, 4, 9, 10, 11, 12, 13, 14, 15, 16, 17, 19, 20, 21, 24, 25, 26, 27, 28, 29, 30, 31, 32, 33] g0 g2 := xk_eqv_tr s5 (xk_eqv_sub (frzU_disturbIfThere_1_0 _ _ u9) (by decide))
      obtain ⟨g3, u12, v13⟩ := v10
      have s14 : xk_eqv [0, 1, 2, 3, 4, 9, 10, 11, 12, 13, 14, 15, 16, 17, 19, 20, 21, 24, 25, 26, 27, 28, 29, 30, 31, 32, 33] g0 g3 := xk_eqv_tr s11 (xk_eqv_sub (frzU_disturbIfThere_1_1 _ _ u12) (by decide))
      rw [v13]; exact s14
    · rw [if_neg hc] at u6
      rw [u6]; exact s5
  rw [v7.2.2]; exact s8

def relzU_health_1_2 (g0 : xk_St) (k2 : Int32) (rz : Int32) (gz : xk_St) : Prop := ∃ (x1 : Int32), (if ((g0 18) 2) = k2 then (x1 = 0) else (x1 = 1)) ∧ (∃ (g1 : xk_St), g1 = va_up g0 18 (upd (g0 18) 2 k2) ∧ (∃ (g4 : xk_St), (if k2 = 0 then (∃ (g2 : xk_St), relzU_disturbIfThere_1_1 g1 g2 ∧ (∃ (g3 : xk_St), relzU_disturbIfThere_1_2 g2 g3 ∧ (g4 = g3))) else (g4 = g1)) ∧ (rz = x1 ∧ xk_b rz ∧ gz = g4)))
set_option maxHeartbeats 4000000 in
set_option maxRecDepth 100000 in
theorem kzU_health_1_2 (l : Launch) (G : va_G) (ac : Nat → ClassId) (ad : Nat → Nat) (g0 : xk_St) (k2 : Int32) (hb2 : xk_b k2) : xk_CI l yzU_health czU_health 6 .boolean xk_WS xk_r3 G xk_cls (xk_tys ac) [.ref (ad 0), .int 1, .int 2, .int k2] (xk_wU ad ac g0) (fun rz (gz : xk_St) => relzU_health_1_2 g0 k2 rz gz) (fun gz => xk_wU ad ac gz) := by
  refine xk_ofI (by decide) (Nat.le_of_ble_eq_true rfl) ?_
  intro p e s m args below meth c A Q H locs ls C0 hret hP hD hS hl
  obtain ⟨hx, hb, hml, hts, hown, hK, hA⟩ := C0
  have hl : lv_has ls 6 [(0, .ref (ad 0)), (1, .int 1), (2, .int 2), (3, .int k2)] := hl
  refine lv_aload_n (pc := 0) hx hb dzU_health_0 rfl (lv_at hl 0 rfl) ?_
  refine lv_iload_n (pc := 1) hx hb dzU_health_1 rfl (lv_at hl 1 rfl) ?_
  refine xk_allVR (As := [.int 1]) (rest := []) (H0 := s.heap) (pc := 2) hx hb hml hts hown hK hA hP hD hS (kzU_findTrack_1 l G ac ad g0) vfzU_63 0 rfl rfl ⟨rfl, rfl⟩ ⟨Nat.le_of_ble_eq_true rfl, Nat.le_of_ble_eq_true rfl⟩ rfl hl.1 rfl (Nat.le_of_ble_eq_true rfl) ⟨Nat.zero_le _, Nat.zero_le _⟩ dzU_health_2 (fun H locs hP hD hS => ?_)
  have hP : va_P G xk_cls (xk_wU ad ac g0) H := hP
  have hD : va_D A (xk_wU ad ac g0) := hD
  refine lv_astore (lv' := [(4, .ref (ad 10)), (0, .ref (ad 0)), (1, .int 1), (2, .int 2), (3, .int k2)]) (pc := 5) hx hb dzU_health_5 hl (by decide) rfl (fun ls hl => ?_)
  refine lv_iload_n (pc := 7) hx hb dzU_health_7 rfl (lv_at hl 3 rfl) ?_
  refine xk_callSV (As := [.int 2]) (rest := []) (H0 := s.heap) (pc := 8) hx hb hml hts hown hK hA hP hD hS (kzU_checkHead_2 l G ac) sfzU_67 [] (by decide) rfl (fun _ => rfl) ⟨rfl, rfl⟩ ⟨Nat.le_of_ble_eq_true rfl, Nat.le_of_ble_eq_true rfl⟩ rfl hl.1 rfl (Nat.le_of_ble_eq_true rfl) ⟨Nat.zero_le _, Nat.zero_le _⟩ dzU_health_8 (fun u9 H locs e9 hP hD hS => ?_)
  have hP : va_P G xk_cls (xk_wU ad ac g0) H := hP
  have hD : va_D A (xk_wU ad ac g0) := hD
  refine lv_aload (pc := 11) hx hb dzU_health_11 (lv_at hl 0 rfl) ?_
  refine xk_get (pc := 13) hx hb hts hown hK hP ffzU_86 10 rfl rfl dzU_health_13 ?_
  refine lv_iload_n (pc := 16) hx hb dzU_health_16 rfl (lv_at hl 3 rfl) ?_
  refine xk_zald (q0 := 18) (t0 := 1) (j := 2) (pc := 17) hx hb hK hP rfl rfl (pk_in 2 4 (by decide)) (pk_cl 2) dzU_health_17 ?_
  refine lv_iload_n (pc := 18) hx hb dzU_health_18 rfl (lv_at hl 4 rfl) ?_
  have K1 : ∀ (x1 : Int32), (if ((g0 18) 2) = k2 then (x1 = 0) else (x1 = 1)) → (xk_b x1) → W p l e xk_r3 s m args below meth c H locs 0 0 Q (F0 m 27 ls [.int x1]) := by
    intro x1 R1 bx1
    refine lv_istore (lv' := [(5, .int x1), (4, .ref (ad 10)), (0, .ref (ad 0)), (1, .int 1), (2, .int 2), (3, .int k2)]) (pc := 27) hx hb dzU_health_27 hl (by decide) rfl (fun ls hl => ?_)
    refine lv_aload (pc := 29) hx hb dzU_health_29 (lv_at hl 1 rfl) ?_
    refine xk_get (pc := 31) hx hb hts hown hK hP ffzU_86 10 rfl rfl dzU_health_31 ?_
    refine lv_iload_n (pc := 34) hx hb dzU_health_34 rfl (lv_at hl 4 rfl) ?_
    refine lv_iload_n (pc := 35) hx hb dzU_health_35 rfl (lv_at hl 5 rfl) ?_
    refine xk_zast (q0 := 18) (t0 := 1) (j := 2) (pc := 36) hx hb hK hP hD hS rfl rfl (pk_in 2 4 (by decide)) (pk_cl 2) hb2 dzU_health_36 (fun H locs hP hD hS => ?_)
    obtain ⟨g1, eg1⟩ : ∃ z : xk_St, z = va_up g0 18 (upd (g0 18) 2 k2) := ⟨_, rfl⟩
    have hP : va_P G xk_cls (xk_wU ad ac g1) H := by rw [eg1]; exact hP
    have hD : va_D A (xk_wU ad ac g1) := by rw [eg1]; exact hD
    refine lv_iload_n (pc := 37) hx hb dzU_health_37 rfl (lv_at hl 5 rfl) ?_
    have K2 : ∀ (g4 : xk_St) (H : Heap) (locs : List Loc), (if k2 = 0 then (∃ (g2 : xk_St), relzU_disturbIfThere_1_1 g1 g2 ∧ (∃ (g3 : xk_St), relzU_disturbIfThere_1_2 g2 g3 ∧ (g4 = g3))) else (g4 = g1)) → (va_P G xk_cls (xk_wU ad ac g4) H) → (va_D A (xk_wU ad ac g4)) → (va_S A s.heap H locs) → W p l e xk_r3 s m args below meth c H locs 0 0 Q (F0 m 57 ls []) := by
      intro g4 H locs R2 hP hD hS
      refine lv_iload (pc := 57) hx hb dzU_health_57 (lv_at hl 0 rfl) ?_
      exact hret _ g4 H locs 59 ls hP hS (xk_bn bx1) (by unfold relzU_health_1_2; exact ⟨x1, R1, ⟨g1, eg1, ⟨g4, R2, ⟨rfl, bx1, rfl⟩⟩⟩⟩) dzU_health_59
    refine lv_if_ne (pc := 38) (tgt := 57) hx hb dzU_health_38 (by decide) (fun h2 => ?_) (fun h2 => ?_)
    ·
      exact K2 g1 H locs (Eq.mpr (if_neg h2) rfl) hP hD hS
    ·
      refine lv_aload_n (pc := 41) hx hb dzU_health_41 rfl (lv_at hl 2 rfl) ?_
      refine lv_aload (pc := 42) hx hb dzU_health_42 (lv_at hl 1 rfl) ?_
      refine lv_iload_n (pc := 44) hx hb dzU_health_44 rfl (lv_at hl 4 rfl) ?_
      refine lv_iconst (v := 1) (pc := 45) hx hb dzU_health_45 (by decide) ?_
      refine lv_isub (pc := 46) hx hb dzU_health_46 ?_
      refine xk_is (y := 1) (by decide) ?_
      refine xk_allVV (As := [.ref (ad 10), .int 1]) (rest := []) (H0 := s.heap) (pc := 47) hx hb hml hts hown hK hA hP hD hS (kzU_disturbIfThere_1_1 l G ac ad g1) vfzU_90 (fun _ => rfl) 0 rfl rfl ⟨rfl, rfl⟩ ⟨Nat.le_of_ble_eq_true rfl, Nat.le_of_ble_eq_true rfl⟩ rfl hl.1 rfl (Nat.le_of_ble_eq_true rfl) ⟨Nat.zero_le _, Nat.zero_le _⟩ dzU_health_47 (fun g2 H locs hg2 hP hD hS => ?_)
      have hP : va_P G xk_cls (xk_wU ad ac g2) H := hP
      have hD : va_D A (xk_wU ad ac g2) := hD
      refine lv_aload_n (pc := 50) hx hb dzU_health_50 rfl (lv_at hl 2 rfl) ?_
      refine lv_aload (pc := 51) hx hb dzU_health_51 (lv_at hl 1 rfl) ?_
      refine lv_iload_n (pc := 53) hx hb dzU_health_53 rfl (lv_at hl 4 rfl) ?_
      refine xk_allVV (As := [.ref (ad 10), .int 2]) (rest := []) (H0 := s.heap) (pc := 54) hx hb hml hts hown hK hA hP hD hS (kzU_disturbIfThere_1_2 l G ac ad g2) vfzU_90 (fun _ => rfl) 0 rfl rfl ⟨rfl, rfl⟩ ⟨Nat.le_of_ble_eq_true rfl, Nat.le_of_ble_eq_true rfl⟩ rfl hl.1 rfl (Nat.le_of_ble_eq_true rfl) ⟨Nat.zero_le _, Nat.zero_le _⟩ dzU_health_54 (fun g3 H locs hg3 hP hD hS => ?_)
      have hP : va_P G xk_cls (xk_wU ad ac g3) H := hP
      have hD : va_D A (xk_wU ad ac g3) := hD
      exact K2 g3 H locs (Eq.mpr (if_pos h2) ⟨g2, hg2, ⟨g3, hg3, rfl⟩⟩) hP hD hS
  refine lv_icmp_eq (pc := 19) (tgt := 26) hx hb dzU_health_19 (by decide) (fun h1 => ?_) (fun h1 => ?_)
  ·
    refine lv_iconst (v := 0) (pc := 26) hx hb dzU_health_26 (by decide) ?_
    exact K1 0 (Eq.mpr (if_pos h1) rfl) xk_b0
  ·
    refine lv_iconst (v := 1) (pc := 22) hx hb dzU_health_22 (by decide) ?_
    refine lv_goto (tgt := 27) (pc := 23) hx hb dzU_health_23 (by decide) ?_
    exact K1 1 (Eq.mpr (if_neg h1) rfl) xk_b1
theorem frzU_health_1_2 (g0 : xk_St) (k2 : Int32) (rz : Int32) (gz : xk_St) : relzU_health_1_2 g0 k2 rz gz → xk_eqv [0, 1, 2, 3, 4, 9, 10, 11, 12, 13, 14, 15, 16, 17, 19, 20, 21, 22, 25, 26, 27, 28, 29, 30, 31, 32, 33] g0 gz := by
  intro h
  unfold relzU_health_1_2 at h
  have s0 : xk_eqv [0, 1, 2, 3, 4, 9, 10, 11, 12, 13, 14, 15, 16, 17, 19, 20, 21, 22, 25, 26, 27, 28, 29, 30, 31, 32, 33] g0 g0 := xk_eqv_rf
  obtain ⟨x1, u1, v2⟩ := h
  obtain ⟨g1, u3, v4⟩ := v2
  have s5 : xk_eqv [0, 1, 2, 3, 4, 9, 10, 11, 12, 13, 14, 15, 16, 17, 19, 20, 21, 22, 25, 26, 27, 28, 29, 30, 31, 32, 33] g0 g1 := by rw [u3]; repeat (first | exact s0 | refine xk_eqv_up (by decide) ?_)
  obtain ⟨g4, u6, v7⟩ := v4
  have s8 : xk_eqv [0, 1, 2, 3, 4, 9, 10, 11, 12, 13, 14, 15, 16, 17, 19, 20, 21, 22, 25, 26, 27, 28, 29, 30, 31, 32, 33] g0 g4 := by
    by_cases hc : k2 = 0
    · rw [if_pos hc] at u6
      obtain ⟨g2, u9, v10⟩ := u6
      have s11 : xk_eqv [0, 1, 2, 3, 4, 9, 10, 11, 12, 13, 14, 15, 16, 17, 19, 20, 21, 22, 25, 26, 27, 28, 29, 30, 31, 32, 33] g0 g2 := xk_eqv_tr s5 (xk_eqv_sub (frzU_disturbIfThere_1_1 _ _ u9) (by decide))
      obtain ⟨g3, u12, v13⟩ := v10
      have s14 : xk_eqv [0, 1, 2, 3, 4, 9, 10, 11, 12, 13, 14, 15, 16, 17, 19, 20, 21, 22, 25, 26, 27, 28, 29, 30, 31, 32, 33] g0 g3 := xk_eqv_tr s11 (xk_eqv_sub (frzU_disturbIfThere_1_2 _ _ u12) (by decide))
      rw [v13]; exact s14
    · rw [if_neg hc] at u6
      rw [u6]; exact s5
  rw [v7.2.2]; exact s8

def relzU_health_1_3 (g0 : xk_St) (k2 : Int32) (rz : Int32) (gz : xk_St) : Prop := ∃ (x1 : Int32), (if ((g0 18) 3) = k2 then (x1 = 0) else (x1 = 1)) ∧ (∃ (g1 : xk_St), g1 = va_up g0 18 (upd (g0 18) 3 k2) ∧ (∃ (g3 : xk_St), (if k2 = 0 then (∃ (g2 : xk_St), relzU_disturbIfThere_1_2 g1 g2 ∧ (g3 = g2)) else (g3 = g1)) ∧ (rz = x1 ∧ xk_b rz ∧ gz = g3)))
set_option maxHeartbeats 4000000 in
set_option maxRecDepth 100000 in
theorem kzU_health_1_3 (l : Launch) (G : va_G) (ac : Nat → ClassId) (ad : Nat → Nat) (g0 : xk_St) (k2 : Int32) (hb2 : xk_b k2) : xk_CI l yzU_health czU_health 6 .boolean xk_WS xk_r3 G xk_cls (xk_tys ac) [.ref (ad 0), .int 1, .int 3, .int k2] (xk_wU ad ac g0) (fun rz (gz : xk_St) => relzU_health_1_3 g0 k2 rz gz) (fun gz => xk_wU ad ac gz) := by
  refine xk_ofI (by decide) (Nat.le_of_ble_eq_true rfl) ?_
  intro p e s m args below meth c A Q H locs ls C0 hret hP hD hS hl
  obtain ⟨hx, hb, hml, hts, hown, hK, hA⟩ := C0
  have hl : lv_has ls 6 [(0, .ref (ad 0)), (1, .int 1), (2, .int 3), (3, .int k2)] := hl
  refine lv_aload_n (pc := 0) hx hb dzU_health_0 rfl (lv_at hl 0 rfl) ?_
  refine lv_iload_n (pc := 1) hx hb dzU_health_1 rfl (lv_at hl 1 rfl) ?_
  refine xk_allVR (As := [.int 1]) (rest := []) (H0 := s.heap) (pc := 2) hx hb hml hts hown hK hA hP hD hS (kzU_findTrack_1 l G ac ad g0) vfzU_63 0 rfl rfl ⟨rfl, rfl⟩ ⟨Nat.le_of_ble_eq_true rfl, Nat.le_of_ble_eq_true rfl⟩ rfl hl.1 rfl (Nat.le_of_ble_eq_true rfl) ⟨Nat.zero_le _, Nat.zero_le _⟩ dzU_health_2 (fun H locs hP hD hS => ?_)
  have hP : va_P G xk_cls (xk_wU ad ac g0) H := hP
  have hD : va_D A (xk_wU ad ac g0) := hD
  refine lv_astore (lv' := [(4, .ref (ad 10)), (0, .ref (ad 0)), (1, .int 1), (2, .int 3), (3, .int k2)]) (pc := 5) hx hb dzU_health_5 hl (by decide) rfl (fun ls hl => ?_)
  refine lv_iload_n (pc := 7) hx hb dzU_health_7 rfl (lv_at hl 3 rfl) ?_
  refine xk_callSV (As := [.int 3]) (rest := []) (H0 := s.heap) (pc := 8) hx hb hml hts hown hK hA hP hD hS (kzU_checkHead_3 l G ac) sfzU_67 [] (by decide) rfl (fun _ => rfl) ⟨rfl, rfl⟩ ⟨Nat.le_of_ble_eq_true rfl, Nat.le_of_ble_eq_true rfl⟩ rfl hl.1 rfl (Nat.le_of_ble_eq_true rfl) ⟨Nat.zero_le _, Nat.zero_le _⟩ dzU_health_8 (fun u9 H locs e9 hP hD hS => ?_)
  have hP : va_P G xk_cls (xk_wU ad ac g0) H := hP
  have hD : va_D A (xk_wU ad ac g0) := hD
  refine lv_aload (pc := 11) hx hb dzU_health_11 (lv_at hl 0 rfl) ?_
  refine xk_get (pc := 13) hx hb hts hown hK hP ffzU_86 10 rfl rfl dzU_health_13 ?_
  refine lv_iload_n (pc := 16) hx hb dzU_health_16 rfl (lv_at hl 3 rfl) ?_
  refine xk_zald (q0 := 18) (t0 := 1) (j := 3) (pc := 17) hx hb hK hP rfl rfl (pk_in 3 4 (by decide)) (pk_cl 3) dzU_health_17 ?_
  refine lv_iload_n (pc := 18) hx hb dzU_health_18 rfl (lv_at hl 4 rfl) ?_
  have K1 : ∀ (x1 : Int32), (if ((g0 18) 3) = k2 then (x1 = 0) else (x1 = 1)) → (xk_b x1) → W p l e xk_r3 s m args below meth c H locs 0 0 Q (F0 m 27 ls [.int x1]) := by
    intro x1 R1 bx1
    refine lv_istore (lv' := [(5, .int x1), (4, .ref (ad 10)), (0, .ref (ad 0)), (1, .int 1), (2, .int 3), (3, .int k2)]) (pc := 27) hx hb dzU_health_27 hl (by decide) rfl (fun ls hl => ?_)
    refine lv_aload (pc := 29) hx hb dzU_health_29 (lv_at hl 1 rfl) ?_
    refine xk_get (pc := 31) hx hb hts hown hK hP ffzU_86 10 rfl rfl dzU_health_31 ?_
    refine lv_iload_n (pc := 34) hx hb dzU_health_34 rfl (lv_at hl 4 rfl) ?_
    refine lv_iload_n (pc := 35) hx hb dzU_health_35 rfl (lv_at hl 5 rfl) ?_
    refine xk_zast (q0 := 18) (t0 := 1) (j := 3) (pc := 36) hx hb hK hP hD hS rfl rfl (pk_in 3 4 (by decide)) (pk_cl 3) hb2 dzU_health_36 (fun H locs hP hD hS => ?_)
    obtain ⟨g1, eg1⟩ : ∃ z : xk_St, z = va_up g0 18 (upd (g0 18) 3 k2) := ⟨_, rfl⟩
    have hP : va_P G xk_cls (xk_wU ad ac g1) H := by rw [eg1]; exact hP
    have hD : va_D A (xk_wU ad ac g1) := by rw [eg1]; exact hD
    refine lv_iload_n (pc := 37) hx hb dzU_health_37 rfl (lv_at hl 5 rfl) ?_
    have K2 : ∀ (g3 : xk_St) (H : Heap) (locs : List Loc), (if k2 = 0 then (∃ (g2 : xk_St), relzU_disturbIfThere_1_2 g1 g2 ∧ (g3 = g2)) else (g3 = g1)) → (va_P G xk_cls (xk_wU ad ac g3) H) → (va_D A (xk_wU ad ac g3)) → (va_S A s.heap H locs) → W p l e xk_r3 s m args below meth c H locs 0 0 Q (F0 m 57 ls []) := by
      intro g3 H locs R2 hP hD hS
      refine lv_iload (pc := 57) hx hb dzU_health_57 (lv_at hl 0 rfl) ?_
      exact hret _ g3 H locs 59 ls hP hS (xk_bn bx1) (by unfold relzU_health_1_3; exact ⟨x1, R1, ⟨g1, eg1, ⟨g3, R2, ⟨rfl, bx1, rfl⟩⟩⟩⟩) dzU_health_59
    refine lv_if_ne (pc := 38) (tgt := 57) hx hb dzU_health_38 (by decide) (fun h2 => ?_) (fun h2 => ?_)
    ·
      exact K2 g1 H locs (Eq.mpr (if_neg h2) rfl) hP hD hS
    ·
      refine lv_aload_n (pc := 41) hx hb dzU_health_41 rfl (lv_at hl 2 rfl) ?_
      refine lv_aload (pc := 42) hx hb dzU_health_42 (lv_at hl 1 rfl) ?_
      refine lv_iload_n (pc := 44) hx hb dzU_health_44 rfl (lv_at hl 4 rfl) ?_
      refine lv_iconst (v := 1) (pc := 45) hx hb dzU_health_45 (by decide) ?_
      refine lv_isub (pc := 46) hx hb dzU_health_46 ?_
      refine xk_is (y := 2) (by decide) ?_
      refine xk_allVV (As := [.ref (ad 10), .int 2]) (rest := []) (H0 := s.heap) (pc := 47) hx hb hml hts hown hK hA hP hD hS (kzU_disturbIfThere_1_2 l G ac ad g1) vfzU_90 (fun _ => rfl) 0 rfl rfl ⟨rfl, rfl⟩ ⟨Nat.le_of_ble_eq_true rfl, Nat.le_of_ble_eq_true rfl⟩ rfl hl.1 rfl (Nat.le_of_ble_eq_true rfl) ⟨Nat.zero_le _, Nat.zero_le _⟩ dzU_health_47 (fun g2 H locs hg2 hP hD hS => ?_)
      have hP : va_P G xk_cls (xk_wU ad ac g2) H := hP
      have hD : va_D A (xk_wU ad ac g2) := hD
      refine lv_aload_n (pc := 50) hx hb dzU_health_50 rfl (lv_at hl 2 rfl) ?_
      refine lv_aload (pc := 51) hx hb dzU_health_51 (lv_at hl 1 rfl) ?_
      refine lv_iload_n (pc := 53) hx hb dzU_health_53 rfl (lv_at hl 4 rfl) ?_
      refine xk_allVV (As := [.ref (ad 10), .int 3]) (rest := []) (H0 := s.heap) (pc := 54) hx hb hml hts hown hK hA hP hD hS (kzU_disturbIfThere_1_3 l G ac ad g2) vfzU_90 (fun _ => rfl) 0 rfl rfl ⟨rfl, rfl⟩ ⟨Nat.le_of_ble_eq_true rfl, Nat.le_of_ble_eq_true rfl⟩ rfl hl.1 rfl (Nat.le_of_ble_eq_true rfl) ⟨Nat.zero_le _, Nat.zero_le _⟩ dzU_health_54 (fun u9 H locs e9 hP hD hS => ?_)
      exact K2 g2 H locs (Eq.mpr (if_pos h2) ⟨g2, hg2, rfl⟩) hP hD hS
  refine lv_icmp_eq (pc := 19) (tgt := 26) hx hb dzU_health_19 (by decide) (fun h1 => ?_) (fun h1 => ?_)
  ·
    refine lv_iconst (v := 0) (pc := 26) hx hb dzU_health_26 (by decide) ?_
    exact K1 0 (Eq.mpr (if_pos h1) rfl) xk_b0
  ·
    refine lv_iconst (v := 1) (pc := 22) hx hb dzU_health_22 (by decide) ?_
    refine lv_goto (tgt := 27) (pc := 23) hx hb dzU_health_23 (by decide) ?_
    exact K1 1 (Eq.mpr (if_neg h1) rfl) xk_b1
theorem frzU_health_1_3 (g0 : xk_St) (k2 : Int32) (rz : Int32) (gz : xk_St) : relzU_health_1_3 g0 k2 rz gz → xk_eqv [0, 1, 2, 3, 4, 9, 10, 11, 12, 13, 14, 15, 16, 17, 19, 20, 21, 22, 23, 25, 26, 27, 28, 29, 30, 31, 32, 33] g0 gz := by
  intro h
  unfold relzU_health_1_3 at h
  have s0 : xk_eqv [0, 1, 2, 3, 4, 9, 10, 11, 12, 13, 14, 15, 16, 17, 19, 20, 21, 22, 23, 25, 26, 27, 28, 29, 30, 31, 32, 33] g0 g0 := xk_eqv_rf
  obtain ⟨x1, u1, v2⟩ := h
  obtain ⟨g1, u3, v4⟩ := v2
  have s5 : xk_eqv [0, 1, 2, 3, 4, 9, 10, 11, 12, 13, 14, 15, 16, 17, 19, 20, 21, 22, 23, 25, 26, 27, 28, 29, 30, 31, 32, 33] g0 g1 := by rw [u3]; repeat (first | exact s0 | refine xk_eqv_up (by decide) ?_)
  obtain ⟨g3, u6, v7⟩ := v4
  have s8 : xk_eqv [0, 1, 2, 3, 4, 9, 10, 11, 12, 13, 14, 15, 16, 17, 19, 20, 21, 22, 23, 25, 26, 27, 28, 29, 30, 31, 32, 33] g0 g3 := by
    by_cases hc : k2 = 0
    · rw [if_pos hc] at u6
      obtain ⟨g2, u9, v10⟩ := u6
      have s11 : xk_eqv [0, 1, 2, 3, 4, 9, 10, 11, 12, 13, 14, 15, 16, 17, 19, 20, 21, 22, 23, 25, 26, 27, 28, 29, 30, 31, 32, 33] g0 g2 := xk_eqv_tr s5 (xk_eqv_sub (frzU_disturbIfThere_1_2 _ _ u9) (by decide))
      rw [v10]; exact s11
    · rw [if_neg hc] at u6
      rw [u6]; exact s5
  rw [v7.2.2]; exact s8

