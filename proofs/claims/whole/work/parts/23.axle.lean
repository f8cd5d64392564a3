def relzU_countAxle_0_0_p (g0 : xk_St) (gz : xk_St) : Prop := ∃ (g1 : xk_St), g1 = va_up g0 25 (upd (g0 25) 2 1) ∧ (∃ (g2 : xk_St), g2 = va_up g1 19 (upd (upd (upd (g1 19) 1 (qzS_countIn_a1 (g1 19 1))) 5 (qzS_countIn_a5 (g1 19 5) 1)) 7 (qzS_countIn_a7 (g1 19 7) 1)) ∧ (∃ (g3 : xk_St), relzU_disturbIfMiscounted_0 g2 g3 ∧ (gz = g3)))
set_option maxHeartbeats 4000000 in
set_option maxRecDepth 100000 in
theorem kzU_countAxle_0_0_p (l : Launch) (G : va_G) (ac : Nat → ClassId) (ad : Nat → Nat) (g0 : xk_St) (k2 : Int32) (hd : k2 = 1) : xk_CV l yzU_countAxle czU_countAxle 6 xk_WS xk_r3 G xk_cls (xk_tys ac) [.ref (ad 0), .ref (ad 9), .int 0, .int k2] (xk_wU ad ac g0) (fun (gz : xk_St) => relzU_countAxle_0_0_p g0 gz) (fun gz => xk_wU ad ac gz) := by
  subst hd
  refine xk_ofV (by decide) (Nat.le_of_ble_eq_true rfl) ?_
  intro p e s m args below meth c A Q H locs ls C0 hret hP hD hS hl
  obtain ⟨hx, hb, hml, hts, hown, hK, hA⟩ := C0
  have hl : lv_has ls 6 [(0, .ref (ad 0)), (1, .ref (ad 9)), (2, .int 0), (3, .int 1)] := hl
  refine lv_iload_n (pc := 0) hx hb dzU_countAxle_0 rfl (lv_at hl 3 rfl) ?_
  refine lv_iconst (v := 1) (pc := 1) hx hb dzU_countAxle_1 (by decide) ?_
  refine lv_icmp_ne (pc := 2) (tgt := 11) hx hb dzU_countAxle_2 (by decide) (fun hq9 => absurd (by decide) hq9) (fun _ => ?_)
  refine lv_iload_n (pc := 5) hx hb dzU_countAxle_5 rfl (lv_at hl 2 rfl) ?_
  refine lv_iconst (v := 1) (pc := 6) hx hb dzU_countAxle_6 (by decide) ?_
  refine lv_isub (pc := 7) hx hb dzU_countAxle_7 ?_
  refine xk_is (y := (-1)) (by decide) ?_
  refine lv_goto (tgt := 12) (pc := 8) hx hb dzU_countAxle_8 (by decide) ?_
  refine lv_istore (lv' := [(4, .int (-1)), (0, .ref (ad 0)), (1, .ref (ad 9)), (2, .int 0), (3, .int 1)]) (pc := 12) hx hb dzU_countAxle_12 hl (by decide) rfl (fun ls hl => ?_)
  refine lv_iload (pc := 14) hx hb dzU_countAxle_14 (lv_at hl 0 rfl) ?_
  refine lv_iload_n (pc := 16) hx hb dzU_countAxle_16 rfl (lv_at hl 4 rfl) ?_
  refine lv_iadd (pc := 17) hx hb dzU_countAxle_17 ?_
  refine xk_is (y := 0) (by decide) ?_
  refine lv_istore (lv' := [(5, .int 0), (4, .int (-1)), (0, .ref (ad 0)), (1, .ref (ad 9)), (2, .int 0), (3, .int 1)]) (pc := 18) hx hb dzU_countAxle_18 hl (by decide) rfl (fun ls hl => ?_)
  refine lv_iload (pc := 20) hx hb dzU_countAxle_20 (lv_at hl 1 rfl) ?_
  refine lv_if_lt (pc := 22) (tgt := 56) hx hb dzU_countAxle_22 (by decide) (fun _ => ?_) (fun hq9 => absurd (by decide) hq9)
  refine lv_aload_n (pc := 56) hx hb dzU_countAxle_56 rfl (lv_at hl 3 rfl) ?_
  refine xk_get (pc := 57) hx hb hts hown hK hP ffzU_212 9 rfl rfl dzU_countAxle_57 ?_
  refine lv_iload_n (pc := 60) hx hb dzU_countAxle_60 rfl (lv_at hl 5 rfl) ?_
  refine lv_iconst (v := 1) (pc := 61) hx hb dzU_countAxle_61 (by decide) ?_
  refine lv_icmp_ne (pc := 62) (tgt := 69) hx hb dzU_countAxle_62 (by decide) (fun hq9 => absurd (by decide) hq9) (fun _ => ?_)
  refine lv_iconst (v := 0) (pc := 65) hx hb dzU_countAxle_65 (by decide) ?_
  refine lv_goto (tgt := 70) (pc := 66) hx hb dzU_countAxle_66 (by decide) ?_
  refine xk_aald (q0 := 13) (t0 := 4) (j := 0) (b := (ad 25)) (pc := 70) hx hb hK hP rfl rfl (pk_in 0 2 (by decide)) (pk_cl 0) rfl dzU_countAxle_70 ?_
  refine lv_iconst (v := 1) (pc := 71) hx hb dzU_countAxle_71 (by decide) ?_
  refine xk_putf (pc := 72) hx hb hts hown hK hP hD hS pfzU_295 25 rfl (xk_bn xk_b1) (xk_bf xk_b1) (Nat.le_of_ble_eq_true rfl) dzU_countAxle_72 (fun H locs hP hD hS => ?_)
  obtain ⟨g1, eg1⟩ : ∃ z : xk_St, z = va_up g0 25 (upd (g0 25) 2 1) := ⟨_, rfl⟩
  have hP : va_P G xk_cls (xk_wU ad ac g1) H := by rw [eg1]; exact hP
  have hD : va_D A (xk_wU ad ac g1) := by rw [eg1]; exact hD
  refine lv_iload (pc := 75) hx hb dzU_countAxle_75 (lv_at hl 0 rfl) ?_
  refine lv_if_lt (pc := 77) (tgt := 108) hx hb dzU_countAxle_77 (by decide) (fun hq9 => absurd hq9 (by decide)) (fun _ => ?_)
  refine lv_iload (pc := 80) hx hb dzU_countAxle_80 (lv_at hl 0 rfl) ?_
  refine lv_iconst (v := 3) (pc := 82) hx hb dzU_countAxle_82 (by decide) ?_
  refine lv_icmp_ge (pc := 83) (tgt := 108) hx hb dzU_countAxle_83 (by decide) (fun hq9 => absurd hq9 (by decide)) (fun _ => ?_)
  refine lv_aload_n (pc := 86) hx hb dzU_countAxle_86 rfl (lv_at hl 3 rfl) ?_
  refine xk_get (pc := 87) hx hb hts hown hK hP ffzU_158 9 rfl rfl dzU_countAxle_87 ?_
  refine lv_iload (pc := 90) hx hb dzU_countAxle_90 (lv_at hl 0 rfl) ?_
  refine xk_aald (q0 := 11) (t0 := 3) (j := 0) (b := (ad 19)) (pc := 92) hx hb hK hP rfl rfl (pk_in 0 3 (by decide)) (pk_cl 0) rfl dzU_countAxle_92 ?_
  refine lv_iload_n (pc := 93) hx hb dzU_countAxle_93 rfl (lv_at hl 5 rfl) ?_
  refine xk_callVV (As := [.int 1]) (rest := []) (H0 := s.heap) (pc := 94) hx hb hml hts hown hK hA hP hD hS (kzS_countIn l G ac (ad 19) (g1 19 0) (g1 19 1) (g1 19 2) (g1 19 3) (g1 19 4) (g1 19 5) (g1 19 6) (g1 19 7) (g1 19 8) 1) vfzU_298 [19] (by decide) rfl (fun _ => rfl) 19 rfl rfl ⟨rfl, rfl⟩ ⟨Nat.le_of_ble_eq_true rfl, Nat.le_of_ble_eq_true rfl⟩ rfl hl.1 rfl (Nat.le_of_ble_eq_true rfl) ⟨Nat.zero_le _, Nat.zero_le _⟩ dzU_countAxle_94 (fun u9 H locs e9 hP hD hS => ?_)
  obtain ⟨g2, eg2⟩ : ∃ z : xk_St, z = va_up g1 19 (upd (upd (upd (g1 19) 1 (qzS_countIn_a1 (g1 19 1))) 5 (qzS_countIn_a5 (g1 19 5) 1)) 7 (qzS_countIn_a7 (g1 19 7) 1)) := ⟨_, rfl⟩
  have hP : va_P G xk_cls (xk_wU ad ac g2) H := by rw [eg2]; exact hP
  have hD : va_D A (xk_wU ad ac g2) := by rw [eg2]; exact hD
  refine lv_aload_n (pc := 97) hx hb dzU_countAxle_97 rfl (lv_at hl 2 rfl) ?_
  refine lv_aload_n (pc := 98) hx hb dzU_countAxle_98 rfl (lv_at hl 3 rfl) ?_
  refine xk_get (pc := 99) hx hb hts hown hK hP ffzU_158 9 rfl rfl dzU_countAxle_99 ?_
  refine lv_iload (pc := 102) hx hb dzU_countAxle_102 (lv_at hl 0 rfl) ?_
  refine xk_aald (q0 := 11) (t0 := 3) (j := 0) (b := (ad 19)) (pc := 104) hx hb hK hP rfl rfl (pk_in 0 3 (by decide)) (pk_cl 0) rfl dzU_countAxle_104 ?_
  refine xk_allVV (As := [.ref (ad 19)]) (rest := []) (H0 := s.heap) (pc := 105) hx hb hml hts hown hK hA hP hD hS (kzU_disturbIfMiscounted_0 l G ac ad g2) vfzU_292 (fun _ => rfl) 0 rfl rfl ⟨rfl, rfl⟩ ⟨Nat.le_of_ble_eq_true rfl, Nat.le_of_ble_eq_true rfl⟩ rfl hl.1 rfl (Nat.le_of_ble_eq_true rfl) ⟨Nat.zero_le _, Nat.zero_le _⟩ dzU_countAxle_105 (fun g3 H locs hg3 hP hD hS => ?_)
  have hP : va_P G xk_cls (xk_wU ad ac g3) H := hP
  have hD : va_D A (xk_wU ad ac g3) := hD
  exact hret g3 H locs 108 ls hP hS (by unfold relzU_countAxle_0_0_p; exact ⟨g1, eg1, ⟨g2, eg2, ⟨g3, hg3, rfl⟩⟩⟩) dzU_countAxle_108
theorem frzU_countAxle_0_0_p (g0 : xk_St) (gz : xk_St) : relzU_countAxle_0_0_p g0 gz → xk_eqv [0, 1, 2, 3, 4, 9, 10, 11, 12, 13, 14, 15, 16, 17, 18, 20, 21, 22, 23, 24, 26, 27, 28, 29, 30, 31, 32, 33] g0 gz := by
  intro h
  unfold relzU_countAxle_0_0_p at h
  have s0 : xk_eqv [0, 1, 2, 3, 4, 9, 10, 11, 12, 13, 14, 15, 16, 17, 18, 20, 21, 22, 23, 24, 26, 27, 28, 29, 30, 31, 32, 33] g0 g0 := xk_eqv_rf
  obtain ⟨g1, u1, v2⟩ := h
  have s3 : xk_eqv [0, 1, 2, 3, 4, 9, 10, 11, 12, 13, 14, 15, 16, 17, 18, 20, 21, 22, 23, 24, 26, 27, 28, 29, 30, 31, 32, 33] g0 g1 := by rw [u1]; repeat (first | exact s0 | refine xk_eqv_up (by decide) ?_)
  obtain ⟨g2, u4, v5⟩ := v2
  have s6 : xk_eqv [0, 1, 2, 3, 4, 9, 10, 11, 12, 13, 14, 15, 16, 17, 18, 20, 21, 22, 23, 24, 26, 27, 28, 29, 30, 31, 32, 33] g0 g2 := by rw [u4]; repeat (first | exact s3 | refine xk_eqv_up (by decide) ?_)
  obtain ⟨g3, u7, v8⟩ := v5
  have s9 : xk_eqv [0, 1, 2, 3, 4, 9, 10, 11, 12, 13, 14, 15, 16, 17, 18, 20, 21, 22, 23, 24, 26, 27, 28, 29, 30, 31, 32, 33] g0 g3 := xk_eqv_tr s6 (xk_eqv_sub (frzU_disturbIfMiscounted_0 _ _ u7) (by decide))
  rw [v8]; exact s9

def relzU_countAxle_0_0_m (g0 : xk_St) (gz : xk_St) : Prop := ∃ (g1 : xk_St), g1 = va_up g0 19 (upd (upd (upd (g0 19) 1 (qzS_countOut_a1 (g0 19 1))) 6 (qzS_countOut_a6 (g0 19 6) (-1))) 8 (qzS_countOut_a8 (g0 19 8) (-1))) ∧ (∃ (g2 : xk_St), relzU_disturbIfMiscounted_0 g1 g2 ∧ (gz = g2))
set_option maxHeartbeats 4000000 in
set_option maxRecDepth 100000 in
theorem kzU_countAxle_0_0_m (l : Launch) (G : va_G) (ac : Nat → ClassId) (ad : Nat → Nat) (g0 : xk_St) (k2 : Int32) (hd : k2 = (-1)) : xk_CV l yzU_countAxle czU_countAxle 6 xk_WS xk_r3 G xk_cls (xk_tys ac) [.ref (ad 0), .ref (ad 9), .int 0, .int k2] (xk_wU ad ac g0) (fun (gz : xk_St) => relzU_countAxle_0_0_m g0 gz) (fun gz => xk_wU ad ac gz) := by
  subst hd
  refine xk_ofV (by decide) (Nat.le_of_ble_eq_true rfl) ?_
  intro p e s m args below meth c A Q H locs ls C0 hret hP hD hS hl
  obtain ⟨hx, hb, hml, hts, hown, hK, hA⟩ := C0
  have hl : lv_has ls 6 [(0, .ref (ad 0)), (1, .ref (ad 9)), (2, .int 0), (3, .int (-1))] := hl
  refine lv_iload_n (pc := 0) hx hb dzU_countAxle_0 rfl (lv_at hl 3 rfl) ?_
  refine lv_iconst (v := 1) (pc := 1) hx hb dzU_countAxle_1 (by decide) ?_
  refine lv_icmp_ne (pc := 2) (tgt := 11) hx hb dzU_countAxle_2 (by decide) (fun _ => ?_) (fun hq9 => absurd hq9 (by decide))
  refine lv_iload_n (pc := 11) hx hb dzU_countAxle_11 rfl (lv_at hl 2 rfl) ?_
  refine lv_istore (lv' := [(4, .int 0), (0, .ref (ad 0)), (1, .ref (ad 9)), (2, .int 0), (3, .int (-1))]) (pc := 12) hx hb dzU_countAxle_12 hl (by decide) rfl (fun ls hl => ?_)
  refine lv_iload (pc := 14) hx hb dzU_countAxle_14 (lv_at hl 0 rfl) ?_
  refine lv_iload_n (pc := 16) hx hb dzU_countAxle_16 rfl (lv_at hl 4 rfl) ?_
  refine lv_iadd (pc := 17) hx hb dzU_countAxle_17 ?_
  refine xk_is (y := (-1)) (by decide) ?_
  refine lv_istore (lv' := [(5, .int (-1)), (4, .int 0), (0, .ref (ad 0)), (1, .ref (ad 9)), (2, .int 0), (3, .int (-1))]) (pc := 18) hx hb dzU_countAxle_18 hl (by decide) rfl (fun ls hl => ?_)
  refine lv_iload (pc := 20) hx hb dzU_countAxle_20 (lv_at hl 1 rfl) ?_
  refine lv_if_lt (pc := 22) (tgt := 56) hx hb dzU_countAxle_22 (by decide) (fun hq9 => absurd hq9 (by decide)) (fun _ => ?_)
  refine lv_iload (pc := 25) hx hb dzU_countAxle_25 (lv_at hl 1 rfl) ?_
  refine lv_iconst (v := 3) (pc := 27) hx hb dzU_countAxle_27 (by decide) ?_
  refine lv_icmp_ge (pc := 28) (tgt := 56) hx hb dzU_countAxle_28 (by decide) (fun hq9 => absurd hq9 (by decide)) (fun _ => ?_)
  refine lv_aload_n (pc := 31) hx hb dzU_countAxle_31 rfl (lv_at hl 3 rfl) ?_
  refine xk_get (pc := 32) hx hb hts hown hK hP ffzU_158 9 rfl rfl dzU_countAxle_32 ?_
  refine lv_iload (pc := 35) hx hb dzU_countAxle_35 (lv_at hl 1 rfl) ?_
  refine xk_aald (q0 := 11) (t0 := 3) (j := 0) (b := (ad 19)) (pc := 37) hx hb hK hP rfl rfl (pk_in 0 3 (by decide)) (pk_cl 0) rfl dzU_countAxle_37 ?_
  refine lv_iload_n (pc := 38) hx hb dzU_countAxle_38 rfl (lv_at hl 5 rfl) ?_
  refine xk_callVV (As := [.int (-1)]) (rest := []) (H0 := s.heap) (pc := 39) hx hb hml hts hown hK hA hP hD hS (kzS_countOut l G ac (ad 19) (g0 19 0) (g0 19 1) (g0 19 2) (g0 19 3) (g0 19 4) (g0 19 5) (g0 19 6) (g0 19 7) (g0 19 8) (-1)) vfzU_289 [19] (by decide) rfl (fun _ => rfl) 19 rfl rfl ⟨rfl, rfl⟩ ⟨Nat.le_of_ble_eq_true rfl, Nat.le_of_ble_eq_true rfl⟩ rfl hl.1 rfl (Nat.le_of_ble_eq_true rfl) ⟨Nat.zero_le _, Nat.zero_le _⟩ dzU_countAxle_39 (fun u9 H locs e9 hP hD hS => ?_)
  obtain ⟨g1, eg1⟩ : ∃ z : xk_St, z = va_up g0 19 (upd (upd (upd (g0 19) 1 (qzS_countOut_a1 (g0 19 1))) 6 (qzS_countOut_a6 (g0 19 6) (-1))) 8 (qzS_countOut_a8 (g0 19 8) (-1))) := ⟨_, rfl⟩
  have hP : va_P G xk_cls (xk_wU ad ac g1) H := by rw [eg1]; exact hP
  have hD : va_D A (xk_wU ad ac g1) := by rw [eg1]; exact hD
  refine lv_aload_n (pc := 42) hx hb dzU_countAxle_42 rfl (lv_at hl 2 rfl) ?_
  refine lv_aload_n (pc := 43) hx hb dzU_countAxle_43 rfl (lv_at hl 3 rfl) ?_
  refine xk_get (pc := 44) hx hb hts hown hK hP ffzU_158 9 rfl rfl dzU_countAxle_44 ?_
  refine lv_iload (pc := 47) hx hb dzU_countAxle_47 (lv_at hl 1 rfl) ?_
  refine xk_aald (q0 := 11) (t0 := 3) (j := 0) (b := (ad 19)) (pc := 49) hx hb hK hP rfl rfl (pk_in 0 3 (by decide)) (pk_cl 0) rfl dzU_countAxle_49 ?_
  refine xk_allVV (As := [.ref (ad 19)]) (rest := []) (H0 := s.heap) (pc := 50) hx hb hml hts hown hK hA hP hD hS (kzU_disturbIfMiscounted_0 l G ac ad g1) vfzU_292 (fun _ => rfl) 0 rfl rfl ⟨rfl, rfl⟩ ⟨Nat.le_of_ble_eq_true rfl, Nat.le_of_ble_eq_true rfl⟩ rfl hl.1 rfl (Nat.le_of_ble_eq_true rfl) ⟨Nat.zero_le _, Nat.zero_le _⟩ dzU_countAxle_50 (fun g2 H locs hg2 hP hD hS => ?_)
  have hP : va_P G xk_cls (xk_wU ad ac g2) H := hP
  have hD : va_D A (xk_wU ad ac g2) := hD
  refine lv_goto (tgt := 75) (pc := 53) hx hb dzU_countAxle_53 (by decide) ?_
  refine lv_iload (pc := 75) hx hb dzU_countAxle_75 (lv_at hl 0 rfl) ?_
  refine lv_if_lt (pc := 77) (tgt := 108) hx hb dzU_countAxle_77 (by decide) (fun _ => ?_) (fun hq9 => absurd (by decide) hq9)
  exact hret g2 H locs 108 ls hP hS (by unfold relzU_countAxle_0_0_m; exact ⟨g1, eg1, ⟨g2, hg2, rfl⟩⟩) dzU_countAxle_108
theorem frzU_countAxle_0_0_m (g0 : xk_St) (gz : xk_St) : relzU_countAxle_0_0_m g0 gz → xk_eqv [0, 1, 2, 3, 4, 9, 10, 11, 12, 13, 14, 15, 16, 17, 18, 20, 21, 22, 23, 24, 25, 26, 27, 28, 29, 30, 31, 32, 33] g0 gz := by
  intro h
  unfold relzU_countAxle_0_0_m at h
  have s0 : xk_eqv [0, 1, 2, 3, 4, 9, 10, 11, 12, 13, 14, 15, 16, 17, 18, 20, 21, 22, 23, 24, 25, 26, 27, 28, 29, 30, 31, 32, 33] g0 g0 := xk_eqv_rf
  obtain ⟨g1, u1, v2⟩ := h
  have s3 : xk_eqv [0, 1, 2, 3, 4, 9, 10, 11, 12, 13, 14, 15, 16, 17, 18, 20, 21, 22, 23, 24, 25, 26, 27, 28, 29, 30, 31, 32, 33] g0 g1 := by rw [u1]; repeat (first | exact s0 | refine xk_eqv_up (by decide) ?_)
  obtain ⟨g2, u4, v5⟩ := v2
  have s6 : xk_eqv [0, 1, 2, 3, 4, 9, 10, 11, 12, 13, 14, 15, 16, 17, 18, 20, 21, 22, 23, 24, 25, 26, 27, 28, 29, 30, 31, 32, 33] g0 g2 := xk_eqv_tr s3 (xk_eqv_sub (frzU_disturbIfMiscounted_0 _ _ u4) (by decide))
  rw [v5]; exact s6

def relzU_countAxle_0_1_p (g0 : xk_St) (gz : xk_St) : Prop := ∃ (g1 : xk_St), g1 = va_up g0 19 (upd (upd (upd (g0 19) 1 (qzS_countOut_a1 (g0 19 1))) 6 (qzS_countOut_a6 (g0 19 6) 1)) 8 (qzS_countOut_a8 (g0 19 8) 1)) ∧ (∃ (g2 : xk_St), relzU_disturbIfMiscounted_0 g1 g2 ∧ (∃ (g3 : xk_St), g3 = va_up g2 20 (upd (upd (upd (g2 20) 1 (qzS_countIn_a1 (g2 20 1))) 5 (qzS_countIn_a5 (g2 20 5) 1)) 7 (qzS_countIn_a7 (g2 20 7) 1)) ∧ (∃ (g4 : xk_St), relzU_disturbIfMiscounted_1 g3 g4 ∧ (gz = g4))))
set_option maxHeartbeats 4000000 in
set_option maxRecDepth 100000 in
theorem kzU_countAxle_0_1_p (l : Launch) (G : va_G) (ac : Nat → ClassId) (ad : Nat → Nat) (g0 : xk_St) (k2 : Int32) (hd : k2 = 1) : xk_CV l yzU_countAxle czU_countAxle 6 xk_WS xk_r3 G xk_cls (xk_tys ac) [.ref (ad 0), .ref (ad 9), .int 1, .int k2] (xk_wU ad ac g0) (fun (gz : xk_St) => relzU_countAxle_0_1_p g0 gz) (fun gz => xk_wU ad ac gz) := by
  subst hd
  refine xk_ofV (by decide) (Nat.le_of_ble_eq_true rfl) ?_
  intro p e s m args below meth c A Q H locs ls C0 hret hP hD hS hl
  obtain ⟨hx, hb, hml, hts, hown, hK, hA⟩ := C0
  have hl : lv_has ls 6 [(0, .ref (ad 0)), (1, .ref (ad 9)), (2, .int 1), (3, .int 1)] := hl
  refine lv_iload_n (pc := 0) hx hb dzU_countAxle_0 rfl (lv_at hl 3 rfl) ?_
  refine lv_iconst (v := 1) (pc := 1) hx hb dzU_countAxle_1 (by decide) ?_
  refine lv_icmp_ne (pc := 2) (tgt := 11) hx hb dzU_countAxle_2 (by decide) (fun hq9 => absurd (by decide) hq9) (fun _ => ?_)
  refine lv_iload_n (pc := 5) hx hb dzU_countAxle_5 rfl (lv_at hl 2 rfl) ?_
  refine lv_iconst (v := 1) (pc := 6) hx hb dzU_countAxle_6 (by decide) ?_
  refine lv_isub (pc := 7) hx hb dzU_countAxle_7 ?_
  refine xk_is (y := 0) (by decide) ?_
  refine lv_goto (tgt := 12) (pc := 8) hx hb dzU_countAxle_8 (by decide) ?_
  refine lv_istore (lv' := [(4, .int 0), (0, .ref (ad 0)), (1, .ref (ad 9)), (2, .int 1), (3, .int 1)]) (pc := 12) hx hb dzU_countAxle_12 hl (by decide) rfl (fun ls hl => ?_)
  refine lv_iload (pc := 14) hx hb dzU_countAxle_14 (lv_at hl 0 rfl) ?_
  refine lv_iload_n (pc := 16) hx hb dzU_countAxle_16 rfl (lv_at hl 4 rfl) ?_
  refine lv_iadd (pc := 17) hx hb dzU_countAxle_17 ?_
  refine xk_is (y := 1) (by decide) ?_
  refine lv_istore (lv' := [(5, .int 1), (4, .int 0), (0, .ref (ad 0)), (1, .ref (ad 9)), (2, .int 1), (3, .int 1)]) (pc := 18) hx hb dzU_countAxle_18 hl (by decide) rfl (fun ls hl => ?_)
  refine lv_iload (pc := 20) hx hb dzU_countAxle_20 (lv_at hl 1 rfl) ?_
  refine lv_if_lt (pc := 22) (tgt := 56) hx hb dzU_countAxle_22 (by decide) (fun hq9 => absurd hq9 (by decide)) (fun _ => ?_)
  refine lv_iload (pc := 25) hx hb dzU_countAxle_25 (lv_at hl 1 rfl) ?_
  refine lv_iconst (v := 3) (pc := 27) hx hb dzU_countAxle_27 (by decide) ?_
  refine lv_icmp_ge (pc := 28) (tgt := 56) hx hb dzU_countAxle_28 (by decide) (fun hq9 => absurd hq9 (by decide)) (fun _ => ?_)
  refine lv_aload_n (pc := 31) hx hb dzU_countAxle_31 rfl (lv_at hl 3 rfl) ?_
  refine xk_get (pc := 32) hx hb hts hown hK hP ffzU_158 9 rfl rfl dzU_countAxle_32 ?_
  refine lv_iload (pc := 35) hx hb dzU_countAxle_35 (lv_at hl 1 rfl) ?_
  refine xk_aald (q0 := 11) (t0 := 3) (j := 0) (b := (ad 19)) (pc := 37) hx hb hK hP rfl rfl (pk_in 0 3 (by decide)) (pk_cl 0) rfl dzU_countAxle_37 ?_
  refine lv_iload_n (pc := 38) hx hb dzU_countAxle_38 rfl (lv_at hl 5 rfl) ?_
  refine xk_callVV (As := [.int 1]) (rest := []) (H0 := s.heap) (pc := 39) hx hb hml hts hown hK hA hP hD hS (kzS_countOut l G ac (ad 19) (g0 19 0) (g0 19 1) (g0 19 2) (g0 19 3) (g0 19 4) (g0 19 5) (g0 19 6) (g0 19 7) (g0 19 8) 1) vfzU_289 [19] (by decide) rfl (fun _ => rfl) 19 rfl rfl ⟨rfl, rfl⟩ ⟨Nat.le_of_ble_eq_true rfl, Nat.le_of_ble_eq_true rfl⟩ rfl hl.1 rfl (Nat.le_of_ble_eq_true rfl) ⟨Nat.zero_le _, Nat.zero_le _⟩ dzU_countAxle_39 (fun u9 H locs e9 hP hD hS => ?_)
  obtain ⟨g1, eg1⟩ : ∃ z : xk_St, z = va_up g0 19 (upd (upd (upd (g0 19) 1 (qzS_countOut_a1 (g0 19 1))) 6 (qzS_countOut_a6 (g0 19 6) 1)) 8 (qzS_countOut_a8 (g0 19 8) 1)) := ⟨_, rfl⟩
  have hP : va_P G xk_cls (xk_wU ad ac g1) H := by rw [eg1]; exact hP
  have hD : va_D A (xk_wU ad ac g1) := by rw [eg1]; exact hD
  refine lv_aload_n (pc := 42) hx hb dzU_countAxle_42 rfl (lv_at hl 2 rfl) ?_
  refine lv_aload_n (pc := 43) hx hb dzU_countAxle_43 rfl (lv_at hl 3 rfl) ?_
  refine xk_get (pc := 44) hx hb hts hown hK hP ffzU_158 9 rfl rfl dzU_countAxle_44 ?_
  refine lv_iload (pc := 47) hx hb dzU_countAxle_47 (lv_at hl 1 rfl) ?_
  refine xk_aald (q0 := 11) (t0 := 3) (j := 0) (b := (ad 19)) (pc := 49) hx hb hK hP rfl rfl (pk_in 0 3 (by decide)) (pk_cl 0) rfl dzU_countAxle_49 ?_
  refine xk_allVV (As := [.ref (ad 19)]) (rest := []) (H0 := s.heap) (pc := 50) hx hb hml hts hown hK hA hP hD hS (kzU_disturbIfMiscounted_0 l G ac ad g1) vfzU_292 (fun _ => rfl) 0 rfl rfl ⟨rfl, rfl⟩ ⟨Nat.le_of_ble_eq_true rfl, Nat.le_of_ble_eq_true rfl⟩ rfl hl.1 rfl (Nat.le_of_ble_eq_true rfl) ⟨Nat.zero_le _, Nat.zero_le _⟩ dzU_countAxle_50 (fun g2 H locs hg2 hP hD hS => ?_)
  have hP : va_P G xk_cls (xk_wU ad ac g2) H := hP
  have hD : va_D A (xk_wU ad ac g2) := hD
  refine lv_goto (tgt := 75) (pc := 53) hx hb dzU_countAxle_53 (by decide) ?_
  refine lv_iload (pc := 75) hx hb dzU_countAxle_75 (lv_at hl 0 rfl) ?_
  refine lv_if_lt (pc := 77) (tgt := 108) hx hb dzU_countAxle_77 (by decide) (fun hq9 => absurd hq9 (by decide)) (fun _ => ?_)
  refine lv_iload (pc := 80) hx hb dzU_countAxle_80 (lv_at hl 0 rfl) ?_
  refine lv_iconst (v := 3) (pc := 82) hx hb dzU_countAxle_82 (by decide) ?_
  refine lv_icmp_ge (pc := 83) (tgt := 108) hx hb dzU_countAxle_83 (by decide) (fun hq9 => absurd hq9 (by decide)) (fun _ => ?_)
  refine lv_aload_n (pc := 86) hx hb dzU_countAxle_86 rfl (lv_at hl 3 rfl) ?_
  refine xk_get (pc := 87) hx hb hts hown hK hP ffzU_158 9 rfl rfl dzU_countAxle_87 ?_
  refine lv_iload (pc := 90) hx hb dzU_countAxle_90 (lv_at hl 0 rfl) ?_
  refine xk_aald (q0 := 11) (t0 := 3) (j := 1) (b := (ad 20)) (pc := 92) hx hb hK hP rfl rfl (pk_in 1 3 (by decide)) (pk_cl 1) rfl dzU_countAxle_92 ?_
  refine lv_iload_n (pc := 93) hx hb dzU_countAxle_93 rfl (lv_at hl 5 rfl) ?_
  refine xk_callVV (As := [.int 1]) (rest := []) (H0 := s.heap) (pc := 94) hx hb hml hts hown hK hA hP hD hS (kzS_countIn l G ac (ad 20) (g2 20 0) (g2 20 1) (g2 20 2) (g2 20 3) (g2 20 4) (g2 20 5) (g2 20 6) (g2 20 7) (g2 20 8) 1) vfzU_298 [20] (by decide) rfl (fun _ => rfl) 20 rfl rfl ⟨rfl, rfl⟩ ⟨Nat.le_of_ble_eq_true rfl, Nat.le_of_ble_eq_true rfl⟩ rfl hl.1 rfl (Nat.le_of_ble_eq_true rfl) ⟨Nat.zero_le _, Nat.zero_le _⟩ dzU_countAxle_94 (fun u9 H locs e9 hP hD hS => ?_)
  obtain ⟨g3, eg3⟩ : ∃ z : xk_St, z = va_up g2 20 (upd (upd (upd (g2 20) 1 (qzS_countIn_a1 (g2 20 1))) 5 (qzS_countIn_a5 (g2 20 5) 1)) 7 (qzS_countIn_a7 (g2 20 7) 1)) := ⟨_, rfl⟩
  have hP : va_P G xk_cls (xk_wU ad ac g3) H := by rw [eg3]; exact hP
  have hD : va_D A (xk_wU ad ac g3) := by rw [eg3]; exact hD
  refine lv_aload_n (pc := 97) hx hb dzU_countAxle_97 rfl (lv_at hl 2 rfl) ?_
  refine lv_aload_n (pc := 98) hx hb dzU_countAxle_98 rfl (lv_at hl 3 rfl) ?_
  refine xk_get (pc := 99) hx hb hts hown hK hP ffzU_158 9 rfl rfl dzU_countAxle_99 ?_
  refine lv_iload (pc := 102) hx hb dzU_countAxle_102 (lv_at hl 0 rfl) ?_
  refine xk_aald (q0 := 11) (t0 := 3) (j := 1) (b := (ad 20)) (pc := 104) hx hb hK hP rfl rfl (pk_in 1 3 (by decide)) (pk_cl 1) rfl dzU_countAxle_104 ?_
  refine xk_allVV (As := [.ref (ad 20)]) (rest := []) (H0 := s.heap) (pc := 105) hx hb hml hts hown hK hA hP hD hS (kzU_disturbIfMiscounted_1 l G ac ad g3) vfzU_292 (fun _ => rfl) 0 rfl rfl ⟨rfl, rfl⟩ ⟨Nat.le_of_ble_eq_true rfl, Nat.le_of_ble_eq_true rfl⟩ rfl hl.1 rfl (Nat.le_of_ble_eq_true rfl) ⟨Nat.zero_le _, Nat.zero_le _⟩ dzU_countAxle_105 (fun g4 H locs hg4 hP hD hS => ?_)
  have hP : va_P G xk_cls (xk_wU ad ac g4) H := hP
  have hD : va_D A (xk_wU ad ac g4) := hD
  exact hret g4 H locs 108 ls hP hS (by unfold relzU_countAxle_0_1_p; exact ⟨g1, eg1, ⟨g2, hg2, ⟨g3, eg3, ⟨g4, hg4, rfl⟩⟩⟩⟩) dzU_countAxle_108
theorem frzU_countAxle_0_1_p (g0 : xk_St) (gz : xk_St) : relzU_countAxle_0_1_p g0 gz → xk_eqv [0, 1, 2, 3, 4, 9, 10, 11, 12, 13, 14, 15, 16, 17, 18, 21, 22, 23, 24, 25, 26, 27, 28, 29, 30, 31, 32, 33] g0 gz := by
  intro h
  unfold relzU_countAxle_0_1_p at h
  have s0 : xk_eqv [0, 1, 2, 3, 4, 9, 10, 11, 12, 13, 14, 15, 16, 17, 18, 21, 22, 23, 24, 25, 26, 27, 28, 29, 30, 31, 32, 33] g0 g0 := xk_eqv_rf
  obtain ⟨g1, u1, v2⟩ := h
  have s3 : xk_eqv [0, 1, 2, 3, 4, 9, 10, 11, 12, 13, 14, 15, 16, 17, 18, 21, 22, 23, 24, 25, 26, 27, 28, 29, 30, 31, 32, 33] g0 g1 := by rw [u1]; repeat (first | exact s0 | refine xk_eqv_up (by decide) ?_)
  obtain ⟨g2, u4, v5⟩ := v2
  have s6 : xk_eqv [0, 1, 2, 3, 4, 9, 10, 11, 12, 13, 14, 15, 16, 17, 18, 21, 22, 23, 24, 25, 26, 27, 28, 29, 30, 31, 32, 33] g0 g2 := xk_eqv_tr s3 (xk_eqv_sub (frzU_disturbIfMiscounted_0 _ _ u4) (by decide))
  obtain ⟨g3, u7, v8⟩ := v5
  have s9 : xk_eqv [0, 1, 2, 3, 4, 9, 10, 11, 12, 13, 14, 15, 16, 17, 18, 21, 22, 23, 24, 25, 26, 27, 28, 29, 30, 31, 32, 33] g0 g3 := by rw [u7]; repeat (first | exact s6 | refine xk_eqv_up (by decide) ?_)
  obtain ⟨g4, u10, v11⟩ := v8
  have s12 : xk_eqv [0, 1, 2, 3, 4, 9, 10, 11, 12, 13, 14, 15, 16, 17, 18, 21, 22, 23, 24, 25, 26, 27, 28, 29, 30, 31, 32, 33] g0 g4 := xk_eqv_tr s9 (xk_eqv_sub (frzU_disturbIfMiscounted_1 _ _ u10) (by decide))
  rw [v11]; exact s12

def relzU_countAxle_0_1_m (g0 : xk_St) (gz : xk_St) : Prop := ∃ (g1 : xk_St), g1 = va_up g0 20 (upd (upd (upd (g0 20) 1 (qzS_countOut_a1 (g0 20 1))) 6 (qzS_countOut_a6 (g0 20 6) (-1))) 8 (qzS_countOut_a8 (g0 20 8) (-1))) ∧ (∃ (g2 : xk_St), relzU_disturbIfMiscounted_1 g1 g2 ∧ (∃ (g3 : xk_St), g3 = va_up g2 19 (upd (upd (upd (g2 19) 1 (qzS_countIn_a1 (g2 19 1))) 5 (qzS_countIn_a5 (g2 19 5) (-1))) 7 (qzS_countIn_a7 (g2 19 7) (-1))) ∧ (∃ (g4 : xk_St), relzU_disturbIfMiscounted_0 g3 g4 ∧ (gz = g4))))
set_option maxHeartbeats 4000000 in
set_option maxRecDepth 100000 in
theorem kzU_countAxle_0_1_m (l : Launch) (G : va_G) (ac : Nat → ClassId) (ad : Nat → Nat) (g0 : xk_St) (k2 : Int32) (hd : k2 = (-1)) : xk_CV l yzU_countAxle czU_countAxle 6 xk_WS xk_r3 G xk_cls (xk_tys ac) [.ref (ad 0), .ref (ad 9), .int 1, .int k2] (xk_wU ad ac g0) (fun (gz : xk_St) => relzU_countAxle_0_1_m g0 gz) (fun gz => xk_wU ad ac gz) := by
  subst hd
  refine xk_ofV (by decide) (Nat.le_of_ble_eq_true rfl) ?_
  intro p e s m args below meth c A Q H locs ls C0 hret hP hD hS hl
  obtain ⟨hx, hb, hml, hts, hown, hK, hA⟩ := C0
  have hl : lv_has ls 6 [(0, .ref (ad 0)), (1, .ref (ad 9)), (2, .int 1), (3, .int (-1))] := hl
  refine lv_iload_n (pc := 0) hx hb dzU_countAxle_0 rfl (lv_at hl 3 rfl) ?_
  refine lv_iconst (v := 1) (pc := 1) hx hb dzU_countAxle_1 (by decide) ?_
  refine lv_icmp_ne (pc := 2) (tgt := 11) hx hb dzU_countAxle_2 (by decide) (fun _ => ?_) (fun hq9 => absurd hq9 (by decide))
  refine lv_iload_n (pc := 11) hx hb dzU_countAxle_11 rfl (lv_at hl 2 rfl) ?_
  refine lv_istore (lv' := [(4, .int 1), (0, .ref (ad 0)), (1, .ref (ad 9)), (2, .int 1), (3, .int (-1))]) (pc := 12) hx hb dzU_countAxle_12 hl (by decide) rfl (fun ls hl => ?_)
  refine lv_iload (pc := 14) hx hb dzU_countAxle_14 (lv_at hl 0 rfl) ?_
  refine lv_iload_n (pc := 16) hx hb dzU_countAxle_16 rfl (lv_at hl 4 rfl) ?_
  refine lv_iadd (pc := 17) hx hb dzU_countAxle_17 ?_
  refine xk_is (y := 0) (by decide) ?_
  refine lv_istore (lv' := [(5, .int 0), (4, .int 1), (0, .ref (ad 0)), (1, .ref (ad 9)), (2, .int 1), (3, .int (-1))]) (pc := 18) hx hb dzU_countAxle_18 hl (by decide) rfl (fun ls hl => ?_)
  refine lv_iload (pc := 20) hx hb dzU_countAxle_20 (lv_at hl 1 rfl) ?_
  refine lv_if_lt (pc := 22) (tgt := 56) hx hb dzU_countAxle_22 (by decide) (fun hq9 => absurd hq9 (by decide)) (fun _ => ?_)
  refine lv_iload (pc := 25) hx hb dzU_countAxle_25 (lv_at hl 1 rfl) ?_
  refine lv_iconst (v := 3) (pc := 27) hx hb dzU_countAxle_27 (by decide) ?_
  refine lv_icmp_ge (pc := 28) (tgt := 56) hx hb dzU_countAxle_28 (by decide) (fun hq9 => absurd hq9 (by decide)) (fun _ => ?_)
  refine lv_aload_n (pc := 31) hx hb dzU_countAxle_31 rfl (lv_at hl 3 rfl) ?_
  refine xk_get (pc := 32) hx hb hts hown hK hP ffzU_158 9 rfl rfl dzU_countAxle_32 ?_
  refine lv_iload (pc := 35) hx hb dzU_countAxle_35 (lv_at hl 1 rfl) ?_
  refine xk_aald (q0 := 11) (t0 := 3) (j := 1) (b := (ad 20)) (pc := 37) hx hb hK hP rfl rfl (pk_in 1 3 (by decide)) (pk_cl 1) rfl dzU_countAxle_37 ?_
  refine lv_iload_n (pc := 38) hx hb dzU_countAxle_38 rfl (lv_at hl 5 rfl) ?_
  refine xk_callVV (As := [.int (-1)]) (rest := []) (H0 := s.heap) (pc := 39) hx hb hml hts hown hK hA hP hD hS (kzS_countOut l G ac (ad 20) (g0 20 0) (g0 20 1) (g0 20 2) (g0 20 3) (g0 20 4) (g0 20 5) (g0 20 6) (g0 20 7) (g0 20 8) (-1)) vfzU_289 [20] (by decide) rfl (fun _ => rfl) 20 rfl rfl ⟨rfl, rfl⟩ ⟨Nat.le_of_ble_eq_true rfl, Nat.le_of_ble_eq_true rfl⟩ rfl hl.1 rfl (Nat.le_of_ble_eq_true rfl) ⟨Nat.zero_le _, Nat.zero_le _⟩ dzU_countAxle_39 (fun u9 H locs e9 hP hD hS => ?_)
  obtain ⟨g1, eg1⟩ : ∃ z : xk_St, z = va_up g0 20 (upd (upd (upd (g0 20) 1 (qzS_countOut_a1 (g0 20 1))) 6 (qzS_countOut_a6 (g0 20 6) (-1))) 8 (qzS_countOut_a8 (g0 20 8) (-1))) := ⟨_, rfl⟩
  have hP : va_P G xk_cls (xk_wU ad ac g1) H := by rw [eg1]; exact hP
  have hD : va_D A (xk_wU ad ac g1) := by rw [eg1]; exact hD
  refine lv_aload_n (pc := 42) hx hb dzU_countAxle_42 rfl (lv_at hl 2 rfl) ?_
  refine lv_aload_n (pc := 43) hx hb dzU_countAxle_43 rfl (lv_at hl 3 rfl) ?_
  refine xk_get (pc := 44) hx hb hts hown hK hP ffzU_158 9 rfl rfl dzU_countAxle_44 ?_
  refine lv_iload (pc := 47) hx hb dzU_countAxle_47 (lv_at hl 1 rfl) ?_
  refine xk_aald (q0 := 11) (t0 := 3) (j := 1) (b := (ad 20)) (pc := 49) hx hb hK hP rfl rfl (pk_in 1 3 (by decide)) (pk_cl 1) rfl dzU_countAxle_49 ?_
  refine xk_allVV (As := [.ref (ad 20)]) (rest := []) (H0 := s.heap) (pc := 50) hx hb hml hts hown hK hA hP hD hS (kzU_disturbIfMiscounted_1 l G ac ad g1) vfzU_292 (fun _ => rfl) 0 rfl rfl ⟨rfl, rfl⟩ ⟨Nat.le_of_ble_eq_true rfl, Nat.le_of_ble_eq_true rfl⟩ rfl hl.1 rfl (Nat.le_of_ble_eq_true rfl) ⟨Nat.zero_le _, Nat.zero_le _⟩ dzU_countAxle_50 (fun g2 H locs hg2 hP hD hS => ?_)
  have hP : va_P G xk_cls (xk_wU ad ac g2) H := hP
  have hD : va_D A (xk_wU ad ac g2) := hD
  refine lv_goto (tgt := 75) (pc := 53) hx hb dzU_countAxle_53 (by decide) ?_
  refine lv_iload (pc := 75) hx hb dzU_countAxle_75 (lv_at hl 0 rfl) ?_
  refine lv_if_lt (pc := 77) (tgt := 108) hx hb dzU_countAxle_77 (by decide) (fun hq9 => absurd hq9 (by decide)) (fun _ => ?_)
  refine lv_iload (pc := 80) hx hb dzU_countAxle_80 (lv_at hl 0 rfl) ?_
  refine lv_iconst (v := 3) (pc := 82) hx hb dzU_countAxle_82 (by decide) ?_
  refine lv_icmp_ge (pc := 83) (tgt := 108) hx hb dzU_countAxle_83 (by decide) (fun hq9 => absurd hq9 (by decide)) (fun _ => ?_)
  refine lv_aload_n (pc := 86) hx hb dzU_countAxle_86 rfl (lv_at hl 3 rfl) ?_
  refine xk_get (pc := 87) hx hb hts hown hK hP ffzU_158 9 rfl rfl dzU_countAxle_87 ?_
  refine lv_iload (pc := 90) hx hb dzU_countAxle_90 (lv_at hl 0 rfl) ?_
  refine xk_aald (q0 := 11) (t0 := 3) (j := 0) (b := (ad 19)) (pc := 92) hx hb hK hP rfl rfl (pk_in 0 3 (by decide)) (pk_cl 0) rfl dzU_countAxle_92 ?_
  refine lv_iload_n (pc := 93) hx hb dzU_countAxle_93 rfl (lv_at hl 5 rfl) ?_
  refine xk_callVV (As := [.int (-1)]) (rest := []) (H0 := s.heap) (pc := 94) hx hb hml hts hown hK hA hP hD hS (kzS_countIn l G ac (ad 19) (g2 19 0) (g2 19 1) (g2 19 2) (g2 19 3) (g2 19 4) (g2 19 5) (g2 19 6) (g2 19 7) (g2 19 8) (-1)) vfzU_298 [19] (by decide) rfl (fun _ => rfl) 19 rfl rfl ⟨rfl, rfl⟩ ⟨Nat.le_of_ble_eq_true rfl, Nat.le_of_ble_eq_true rfl⟩ rfl hl.1 rfl (Nat.le_of_ble_eq_true rfl) ⟨Nat.zero_le _, Nat.zero_le _⟩ dzU_countAxle_94 (fun u9 H locs e9 hP hD hS => ?_)
  obtain ⟨g3, eg3⟩ : ∃ z : xk_St, z = va_up g2 19 (upd (upd (upd (g2 19) 1 (qzS_countIn_a1 (g2 19 1))) 5 (qzS_countIn_a5 (g2 19 5) (-1))) 7 (qzS_countIn_a7 (g2 19 7) (-1))) := ⟨_, rfl⟩
  have hP : va_P G xk_cls (xk_wU ad ac g3) H := by rw [eg3]; exact hP
  have hD : va_D A (xk_wU ad ac g3) := by rw [eg3]; exact hD
  refine lv_aload_n (pc := 97) hx hb dzU_countAxle_97 rfl (lv_at hl 2 rfl) ?_
  refine lv_aload_n (pc := 98) hx hb dzU_countAxle_98 rfl (lv_at hl 3 rfl) ?_
  refine xk_get (pc := 99) hx hb hts hown hK hP ffzU_158 9 rfl rfl dzU_countAxle_99 ?_
  refine lv_iload (pc := 102) hx hb dzU_countAxle_102 (lv_at hl 0 rfl) ?_
  refine xk_aald (q0 := 11) (t0 := 3) (j := 0) (b := (ad 19)) (pc := 104) hx hb hK hP rfl rfl (pk_in 0 3 (by decide)) (pk_cl 0) rfl dzU_countAxle_104 ?_
  refine xk_allVV (As := [.ref (ad 19)]) (rest := []) (H0 := s.heap) (pc := 105) hx hb hml hts hown hK hA hP hD hS (kzU_disturbIfMiscounted_0 l G ac ad g3) vfzU_292 (fun _ => rfl) 0 rfl rfl ⟨rfl, rfl⟩ ⟨Nat.le_of_ble_eq_true rfl, Nat.le_of_ble_eq_true rfl⟩ rfl hl.1 rfl (Nat.le_of_ble_eq_true rfl) ⟨Nat.zero_le _, Nat.zero_le _⟩ dzU_countAxle_105 (fun g4 H locs hg4 hP hD hS => ?_)
  have hP : va_P G xk_cls (xk_wU ad ac g4) H := hP
  have hD : va_D A (xk_wU ad ac g4) := hD
  exact hret g4 H locs 108 ls hP hS (by unfold relzU_countAxle_0_1_m; exact ⟨g1, eg1, ⟨g2, hg2, ⟨g3, eg3, ⟨g4, hg4, rfl⟩⟩⟩⟩) dzU_countAxle_108
theorem frzU_countAxle_0_1_m (g0 : xk_St) (gz : xk_St) : relzU_countAxle_0_1_m g0 gz → xk_eqv [0, 1, 2, 3, 4, 9, 10, 11, 12, 13, 14, 15, 16, 17, 18, 21, 22, 23, 24, 25, 26, 27, 28, 29, 30, 31, 32, 33] g0 gz := by
  intro h
  unfold relzU_countAxle_0_1_m at h
  have s0 : xk_eqv [0, 1, 2, 3, 4, 9, 10, 11, 12, 13, 14, 15, 16, 17, 18, 21, 22, 23, 24, 25, 26, 27, 28, 29, 30, 31, 32, 33] g0 g0 := xk_eqv_rf
  obtain ⟨g1, u1, v2⟩ := h
  have s3 : xk_eqv [0, 1, 2, 3, 4, 9, 10, 11, 12, 13, 14, 15, 16, 17, 18, 21, 22, 23, 24, 25, 26, 27, 28, 29, 30, 31, 32, 33] g0 g1 := by rw [u1]; repeat (first | exact s0 | refine xk_eqv_up (by decide) ?_)
  obtain ⟨g2, u4, v5⟩ := v2
  have s6 : xk_eqv [0, 1, 2, 3, 4, 9, 10, 11, 12, 13, 14, 15, 16, 17, 18, 21, 22, 23, 24, 25, 26, 27, 28, 29, 30, 31, 32, 33] g0 g2 := xk_eqv_tr s3 (xk_eqv_sub (frzU_disturbIfMiscounted_1 _ _ u4) (by decide))
  obtain ⟨g3, u7, v8⟩ := v5
  have s9 : xk_eqv [0, 1, 2, 3, 4, 9, 10, 11, 12, 13, 14, 15, 16, 17, 18, 21, 22, 23, 24, 25, 26, 27, 28, 29, 30, 31, 32, 33] g0 g3 := by rw [u7]; repeat (first | exact s6 | refine xk_eqv_up (by decide) ?_)
  obtain ⟨g4, u10, v11⟩ := v8
  have s12 : xk_eqv [0, 1, 2, 3, 4, 9, 10, 11, 12, 13, 14, 15, 16, 17, 18, 21, 22, 23, 24, 25, 26, 27, 28, 29, 30, 31, 32, 33] g0 g4 := xk_eqv_tr s9 (xk_eqv_sub (frzU_disturbIfMiscounted_0 _ _ u10) (by decide))
  rw [v11]; exact s12

def relzU_countAxle_0_2_p (g0 : xk_St) (gz : xk_St) : Prop := ∃ (g1 : xk_St), g1 = va_up g0 20 (upd (upd (upd (g0 20) 1 (qzS_countOut_a1 (g0 20 1))) 6 (qzS_countOut_a6 (g0 20 6) 1)) 8 (qzS_countOut_a8 (g0 20 8) 1)) ∧ (∃ (g2 : xk_St), relzU_disturbIfMiscounted_1 g1 g2 ∧ (∃ (g3 : xk_St), g3 = va_up g2 21 (upd (upd (upd (g2 21) 1 (qzS_countIn_a1 (g2 21 1))) 5 (qzS_countIn_a5 (g2 21 5) 1)) 7 (qzS_countIn_a7 (g2 21 7) 1)) ∧ (∃ (g4 : xk_St), relzU_disturbIfMiscounted_2 g3 g4 ∧ (gz = g4))))
set_option maxHeartbeats 4000000 in
set_option maxRecDepth 100000 in
theorem kzU_countAxle_0_2_p (l : Launch) (G : va_G) (ac : Nat → ClassId) (ad : Nat → Nat) (g0 : xk_St) (k2 : Int32) (hd : k2 = 1) : xk_CV l yzU_countAxle czU_countAxle 6 xk_WS xk_r3 G xk_cls (xk_tys ac) [.ref (ad 0), .ref (ad 9), .int 2, .int k2] (xk_wU ad ac g0) (fun (gz : xk_St) => relzU_countAxle_0_2_p g0 gz) (fun gz => xk_wU ad ac gz) := by
  subst hd
  refine xk_ofV (by decide) (Nat.le_of_ble_eq_true rfl) ?_
  intro p e s m args below meth c A Q H locs ls C0 hret hP hD hS hl
  obtain ⟨hx, hb, hml, hts, hown, hK, hA⟩ := C0
  have hl : lv_has ls 6 [(0, .ref (ad 0)), (1, .ref (ad 9)), (2, .int 2), (3, .int 1)] := hl
  refine lv_iload_n (pc := 0) hx hb dzU_countAxle_0 rfl (lv_at hl 3 rfl) ?_
  refine lv_iconst (v := 1) (pc := 1) hx hb dzU_countAxle_1 (by decide) ?_
  refine lv_icmp_ne (pc := 2) (tgt := 11) hx hb dzU_countAxle_2 (by decide) (fun hq9 => absurd (by decide) hq9) (fun _ => ?_)
  refine lv_iload_n (pc := 5) hx hb dzU_countAxle_5 rfl (lv_at hl 2 rfl) ?_
  refine lv_iconst (v := 1) (pc := 6) hx hb dzU_countAxle_6 (by decide) ?_
  refine lv_isub (pc := 7) hx hb dzU_countAxle_7 ?_
  refine xk_is (y := 1) (by decide) ?_
  refine lv_goto (tgt := 12) (pc := 8) hx hb dzU_countAxle_8 (by decide) ?_
  refine lv_istore (lv' := [(4, .int 1), (0, .ref (ad 0)), (1, .ref (ad 9)), (2, .int 2), (3, .int 1)]) (pc := 12) hx hb dzU_countAxle_12 hl (by decide) rfl (fun ls hl => ?_)
  refine lv_iload (pc := 14) hx hb dzU_countAxle_14 (lv_at hl 0 rfl) ?_
  refine lv_iload_n (pc := 16) hx hb dzU_countAxle_16 rfl (lv_at hl 4 rfl) ?_
  refine lv_iadd (pc := 17) hx hb dzU_countAxle_17 ?_
  refine xk_is (y := 2) (by decide) ?_
  refine lv_istore (lv' := [(5, .int 2), (4, .int 1), (0, .ref (ad 0)), (1, .ref (ad 9)), (2, .int 2), (3, .int 1)]) (pc := 18) hx hb dzU_countAxle_18 hl (by decide) rfl (fun ls hl => ?_)
  refine lv_iload (pc := 20) hx hb dzU_countAxle_20 (lv_at hl 1 rfl) ?_
  refine lv_if_lt (pc := 22) (tgt := 56) hx hb dzU_countAxle_22 (by decide) (fun hq9 => absurd hq9 (by decide)) (fun _ => ?_)
  refine lv_iload (pc := 25) hx hb dzU_countAxle_25 (lv_at hl 1 rfl) ?_
  refine lv_iconst (v := 3) (pc := 27) hx hb dzU_countAxle_27 (by decide) ?_
  refine lv_icmp_ge (pc := 28) (tgt := 56) hx hb dzU_countAxle_28 (by decide) (fun hq9 => absurd hq9 (by decide)) (fun _ => ?_)
  refine lv_aload_n (pc := 31) hx hb dzU_countAxle_31 rfl (lv_at hl 3 rfl) ?_
  refine xk_get (pc := 32) hx hb hts hown hK hP ffzU_158 9 rfl rfl dzU_countAxle_32 ?_
  refine lv_iload (pc := 35) hx hb dzU_countAxle_35 (lv_at hl 1 rfl) ?_
  refine xk_aald (q0 := 11) (t0 := 3) (j := 1) (b := (ad 20)) (pc := 37) hx hb hK hP rfl rfl (pk_in 1 3 (by decide)) (pk_cl 1) rfl dzU_countAxle_37 ?_
  refine lv_iload_n (pc := 38) hx hb dzU_countAxle_38 rfl (lv_at hl 5 rfl) ?_
  refine xk_callVV (As := [.int 1]) (rest := []) (H0 := s.heap) (pc := 39) hx hb hml hts hown hK hA hP hD hS (kzS_countOut l G ac (ad 20) (g0 20 0) (g0 20 1) (g0 20 2) (g0 20 3) (g0 20 4) (g0 20 5) (g0 20 6) (g0 20 7) (g0 20 8) 1) vfzU_289 [20] (by decide) rfl (fun _ => rfl) 20 rfl rfl ⟨rfl, rfl⟩ ⟨Nat.le_of_ble_eq_true rfl, Nat.le_of_ble_eq_true rfl⟩ rfl hl.1 rfl (Nat.le_of_ble_eq_true rfl) ⟨Nat.zero_le _, Nat.zero_le _⟩ dzU_countAxle_39 (fun u9 H locs e9 hP hD hS => ?_)
  obtain ⟨g1, eg1⟩ : ∃ z : xk_St, z = va_up g0 20 (upd (upd (upd (g0 20) 1 (qzS_countOut_a1 (g0 20 1))) 6 (qzS_countOut_a6 (g0 20 6) 1)) 8 (qzS_countOut_a8 (g0 20 8) 1)) := ⟨_, rfl⟩
  have hP : va_P G xk_cls (xk_wU ad ac g1) H := by rw [eg1]; exact hP
  have hD : va_D A (xk_wU ad ac g1) := by rw [eg1]; exact hD
  refine lv_aload_n (pc := 42) hx hb dzU_countAxle_42 rfl (lv_at hl 2 rfl) ?_
  refine lv_aload_n (pc := 43) hx hb dzU_countAxle_43 rfl (lv_at hl 3 rfl) ?_
  refine xk_get (pc := 44) hx hb hts hown hK hP ffzU_158 9 rfl rfl dzU_countAxle_44 ?_
  refine lv_iload (pc := 47) hx hb dzU_countAxle_47 (lv_at hl 1 rfl) ?_
  refine xk_aald (q0 := 11) (t0 := 3) (j := 1) (b := (ad 20)) (pc := 49) hx hb hK hP rfl rfl (pk_in 1 3 (by decide)) (pk_cl 1) rfl dzU_countAxle_49 ?_
  refine xk_allVV (As := [.ref (ad 20)]) (rest := []) (H0 := s.heap) (pc := 50) hx hb hml hts hown hK hA hP hD hS (kzU_disturbIfMiscounted_1 l G ac ad g1) vfzU_292 (fun _ => rfl) 0 rfl rfl ⟨rfl, rfl⟩ ⟨Nat.le_of_ble_eq_true rfl, Nat.le_of_ble_eq_true rfl⟩ rfl hl.1 rfl (Nat.le_of_ble_eq_true rfl) ⟨Nat.zero_le _, Nat.zero_le _⟩ dzU_countAxle_50 (fun g2 H locs hg2 hP hD hS => ?_)
  have hP : va_P G xk_cls (xk_wU ad ac g2) H := hP
  have hD : va_D A (xk_wU ad ac g2) := hD
  refine lv_goto (tgt := 75) (pc := 53) hx hb dzU_countAxle_53 (by decide) ?_
  refine lv_iload (pc := 75) hx hb dzU_countAxle_75 (lv_at hl 0 rfl) ?_
  refine lv_if_lt (pc := 77) (tgt := 108) hx hb dzU_countAxle_77 (by decide) (fun hq9 => absurd hq9 (by decide)) (fun _ => ?_)
  refine lv_iload (pc := 80) hx hb dzU_countAxle_80 (lv_at hl 0 rfl) ?_
  refine lv_iconst (v := 3) (pc := 82) hx hb dzU_countAxle_82 (by decide) ?_
  refine lv_icmp_ge (pc := 83) (tgt := 108) hx hb dzU_countAxle_83 (by decide) (fun hq9 => absurd hq9 (by decide)) (fun _ => ?_)
  refine lv_aload_n (pc := 86) hx hb dzU_countAxle_86 rfl (lv_at hl 3 rfl) ?_
  refine xk_get (pc := 87) hx hb hts hown hK hP ffzU_158 9 rfl rfl dzU_countAxle_87 ?_
  refine lv_iload (pc := 90) hx hb dzU_countAxle_90 (lv_at hl 0 rfl) ?_
  refine xk_aald (q0 := 11) (t0 := 3) (j := 2) (b := (ad 21)) (pc := 92) hx hb hK hP rfl rfl (pk_in 2 3 (by decide)) (pk_cl 2) rfl dzU_countAxle_92 ?_
  refine lv_iload_n (pc := 93) hx hb dzU_countAxle_93 rfl (lv_at hl 5 rfl) ?_
  refine xk_callVV (As := [.int 1]) (rest := []) (H0 := s.heap) (pc := 94) hx hb hml hts hown hK hA hP hD hS (kzS_countIn l G ac (ad 21) (g2 21 0) (g2 21 1) (g2 21 2) (g2 21 3) (g2 21 4) (g2 21 5) (g2 21 6) (g2 21 7) (g2 21 8) 1) vfzU_298 [21] (by decide) rfl (fun _ => rfl) 21 rfl rfl ⟨rfl, rfl⟩ ⟨Nat.le_of_ble_eq_true rfl, Nat.le_of_ble_eq_true rfl⟩ rfl hl.1 rfl (Nat.le_of_ble_eq_true rfl) ⟨Nat.zero_le _, Nat.zero_le _⟩ dzU_countAxle_94 (fun u9 H locs e9 hP hD hS => ?_)
  obtain ⟨g3, eg3⟩ : ∃ z : xk_St, z = va_up g2 21 (upd (upd (upd (g2 21) 1 (qzS_countIn_a1 (g2 21 1))) 5 (qzS_countIn_a5 (g2 21 5) 1)) 7 (qzS_countIn_a7 (g2 21 7) 1)) := ⟨_, rfl⟩
  have hP : va_P G xk_cls (xk_wU ad ac g3) H := by rw [eg3]; exact hP
  have hD : va_D A (xk_wU ad ac g3) := by rw [eg3]; exact hD
  refine lv_aload_n (pc := 97) hx hb dzU_countAxle_97 rfl (lv_at hl 2 rfl) ?_
  refine lv_aload_n (pc := 98) hx hb dzU_countAxle_98 rfl (lv_at hl 3 rfl) ?_
  refine xk_get (pc := 99) hx hb hts hown hK hP ffzU_158 9 rfl rfl dzU_countAxle_99 ?_
  refine lv_iload (pc := 102) hx hb dzU_countAxle_102 (lv_at hl 0 rfl) ?_
  refine xk_aald (q0 := 11) (t0 := 3) (j := 2) (b := (ad 21)) (pc := 104) hx hb hK hP rfl rfl (pk_in 2 3 (by decide)) (pk_cl 2) rfl dzU_countAxle_104 ?_
  refine xk_allVV (As := [.ref (ad 21)]) (rest := []) (H0 := s.heap) (pc := 105) hx hb hml hts hown hK hA hP hD hS (kzU_disturbIfMiscounted_2 l G ac ad g3) vfzU_292 (fun _ => rfl) 0 rfl rfl ⟨rfl, rfl⟩ ⟨Nat.le_of_ble_eq_true rfl, Nat.le_of_ble_eq_true rfl⟩ rfl hl.1 rfl (Nat.le_of_ble_eq_true rfl) ⟨Nat.zero_le _, Nat.zero_le _⟩ dzU_countAxle_105 (fun g4 H locs hg4 hP hD hS => ?_)
  have hP : va_P G xk_cls (xk_wU ad ac g4) H := hP
  have hD : va_D A (xk_wU ad ac g4) := hD
  exact hret g4 H locs 108 ls hP hS (by unfold relzU_countAxle_0_2_p; exact ⟨g1, eg1, ⟨g2, hg2, ⟨g3, eg3, ⟨g4, hg4, rfl⟩⟩⟩⟩) dzU_countAxle_108
theorem frzU_countAxle_0_2_p (g0 : xk_St) (gz : xk_St) : relzU_countAxle_0_2_p g0 gz → xk_eqv [0, 1, 2, 3, 4, 9, 10, 11, 12, 13, 14, 15, 16, 17, 18, 19, 22, 23, 24, 25, 26, 27, 28, 29, 30, 31, 32, 33] g0 gz := by
  intro h
  unfold relzU_countAxle_0_2_p at h
  have s0 : xk_eqv [0, 1, 2, 3, 4, 9, 10, 11, 12, 13, 14, 15, 16, 17, 18, 19, 22, 23, 24, 25, 26, 27, 28, 29, 30, 31, 32, 33] g0 g0 := xk_eqv_rf
  obtain ⟨g1, u1, v2⟩ := h
  have s3 : xk_eqv [0, 1, 2, 3, 4, 9, 10, 11, 12, 13, 14, 15, 16, 17, 18, 19, 22, 23, 24, 25, 26, 27, 28, 29, 30, 31, 32, 33] g0 g1 := by rw [u1]; repeat (first | exact s0 | refine xk_eqv_up (by decide) ?_)
  obtain ⟨g2, u4, v5⟩ := v2
  have s6 : xk_eqv [0, 1, 2, 3, 4, 9, 10, 11, 12, 13, 14, 15, 16, 17, 18, 19, 22, 23, 24, 25, 26, 27, 28, 29, 30, 31, 32, 33] g0 g2 := xk_eqv_tr s3 (xk_eqv_sub (frzU_disturbIfMiscounted_1 _ _ u4) (by decide))
  obtain ⟨g3, u7, v8⟩ := v5
  have s9 : xk_eqv [0, 1, 2, 3, 4, 9, 10, 11, 12, 13, 14, 15, 16, 17, 18, 19, 22, 23, 24, 25, 26, 27, 28, 29, 30, 31, 32, 33] g0 g3 := by rw [u7]; repeat (first | exact s6 | refine xk_eqv_up (by decide) ?_)
  obtain ⟨g4, u10, v11⟩ := v8
  have s12 : xk_eqv [0, 1, 2, 3, 4, 9, 10, 11, 12, 13, 14, 15, 16, 17, 18, 19, 22, 23, 24, 25, 26, 27, 28, 29, 30, 31, 32, 33] g0 g4 := xk_eqv_tr s9 (xk_eqv_sub (frzU_disturbIfMiscounted_2 _ _ u10) (by decide))
  rw [v11]; exact s12

def relzU_countAxle_0_2_m (g0 : xk_St) (gz : xk_St) : Prop := ∃ (g1 : xk_St), g1 = va_up g0 21 (upd (upd (upd (g0 21) 1 (qzS_countOut_a1 (g0 21 1))) 6 (qzS_countOut_a6 (g0 21 6) (-1))) 8 (qzS_countOut_a8 (g0 21 8) (-1))) ∧ (∃ (g2 : xk_St), relzU_disturbIfMiscounted_2 g1 g2 ∧ (∃ (g3 : xk_St), g3 = va_up g2 20 (upd (upd (upd (g2 20) 1 (qzS_countIn_a1 (g2 20 1))) 5 (qzS_countIn_a5 (g2 20 5) (-1))) 7 (qzS_countIn_a7 (g2 20 7) (-1))) ∧ (∃ (g4 : xk_St), relzU_disturbIfMiscounted_1 g3 g4 ∧ (gz = g4))))
set_option maxHeartbeats 4000000 in
set_option maxRecDepth 100000 in
theorem kzU_countAxle_0_2_m (l : Launch) (G : va_G) (ac : Nat → ClassId) (ad : Nat → Nat) (g0 : xk_St) (k2 : Int32) (hd : k2 = (-1)) : xk_CV l yzU_countAxle czU_countAxle 6 xk_WS xk_r3 G xk_cls (xk_tys ac) [.ref (ad 0), .ref (ad 9), .int 2, .int k2] (xk_wU ad ac g0) (fun (gz : xk_St) => relzU_countAxle_0_2_m g0 gz) (fun gz => xk_wU ad ac gz) := by
  subst hd
  refine xk_ofV (by decide) (Nat.le_of_ble_eq_true rfl) ?_
  intro p e s m args below meth c A Q H locs ls C0 hret hP hD hS hl
  obtain ⟨hx, hb, hml, hts, hown, hK, hA⟩ := C0
  have hl : lv_has ls 6 [(0, .ref (ad 0)), (1, .ref (ad 9)), (2, .int 2), (3, .int (-1))] := hl
  refine lv_iload_n (pc := 0) hx hb dzU_countAxle_0 rfl (lv_at hl 3 rfl) ?_
  refine lv_iconst (v := 1) (pc := 1) hx hb dzU_countAxle_1 (by decide) ?_
  refine lv_icmp_ne (pc := 2) (tgt := 11) hx hb dzU_countAxle_2 (by decide) (fun _ => ?_) (fun hq9 => absurd hq9 (by decide))
  refine lv_iload_n (pc := 11) hx hb dzU_countAxle_11 rfl (lv_at hl 2 rfl) ?_
  refine lv_istore (lv' := [(4, .int 2), (0, .ref (ad 0)), (1, .ref (ad 9)), (2, .int 2), (3, .int (-1))]) (pc := 12) hx hb dzU_countAxle_12 hl (by decide) rfl (fun ls hl => ?_)
  refine lv_iload (pc := 14) hx hb dzU_countAxle_14 (lv_at hl 0 rfl) ?_
  refine lv_iload_n (pc := 16) hx hb dzU_countAxle_16 rfl (lv_at hl 4 rfl) ?_
  refine lv_iadd (pc := 17) hx hb dzU_countAxle_17 ?_
  refine xk_is (y := 1) (by decide) ?_
  refine lv_istore (lv' := [(5, .int 1), (4, .int 2), (0, .ref (ad 0)), (1, .ref (ad 9)), (2, .int 2), (3, .int (-1))]) (pc := 18) hx hb dzU_countAxle_18 hl (by decide) rfl (fun ls hl => ?_)
  refine lv_iload (pc := 20) hx hb dzU_countAxle_20 (lv_at hl 1 rfl) ?_
  refine lv_if_lt (pc := 22) (tgt := 56) hx hb dzU_countAxle_22 (by decide) (fun hq9 => absurd hq9 (by decide)) (fun _ => ?_)
  refine lv_iload (pc := 25) hx hb dzU_countAxle_25 (lv_at hl 1 rfl) ?_
  refine lv_iconst (v := 3) (pc := 27) hx hb dzU_countAxle_27 (by decide) ?_
  refine lv_icmp_ge (pc := 28) (tgt := 56) hx hb dzU_countAxle_28 (by decide) (fun hq9 => absurd hq9 (by decide)) (fun _ => ?_)
  refine lv_aload_n (pc := 31) hx hb dzU_countAxle_31 rfl (lv_at hl 3 rfl) ?_
  refine xk_get (pc := 32) hx hb hts hown hK hP ffzU_158 9 rfl rfl dzU_countAxle_32 ?_
  refine lv_iload (pc := 35) hx hb dzU_countAxle_35 (lv_at hl 1 rfl) ?_
  refine xk_aald (q0 := 11) (t0 := 3) (j := 2) (b := (ad 21)) (pc := 37) hx hb hK hP rfl rfl (pk_in 2 3 (by decide)) (pk_cl 2) rfl dzU_countAxle_37 ?_
  refine lv_iload_n (pc := 38) hx hb dzU_countAxle_38 rfl (lv_at hl 5 rfl) ?_
  refine xk_callVV (As := [.int (-1)]) (rest := []) (H0 := s.heap) (pc := 39) hx hb hml hts hown hK hA hP hD hS (kzS_countOut l G ac (ad 21) (g0 21 0) (g0 21 1) (g0 21 2) (g0 21 3) (g0 21 4) (g0 21 5) (g0 21 6) (g0 21 7) (g0 21 8) (-1)) vfzU_289 [21] (by decide) rfl (fun _ => rfl) 21 rfl rfl ⟨rfl, rfl⟩ ⟨Nat.le_of_ble_eq_true rfl, Nat.le_of_ble_eq_true rfl⟩ rfl hl.1 rfl (Nat.le_of_ble_eq_true rfl) ⟨Nat.zero_le _, Nat.zero_le _⟩ dzU_countAxle_39 (fun u9 H locs e9 hP hD hS => ?_)
  obtain ⟨g1, eg1⟩ : ∃ z : xk_St, z = va_up g0 21 (upd (upd (upd (g0 21) 1 (qzS_countOut_a1 (g0 21 1))) 6 (qzS_countOut_a6 (g0 21 6) (-1))) 8 (qzS_countOut_a8 (g0 21 8) (-1))) := ⟨_, rfl⟩
  have hP : va_P G xk_cls (xk_wU ad ac g1) H := by rw [eg1]; exact hP
  have hD : va_D A (xk_wU ad ac g1) := by rw [eg1]; exact hD
  refine lv_aload_n (pc := 42) hx hb dzU_countAxle_42 rfl (lv_at hl 2 rfl) ?_
  refine lv_aload_n (pc := 43) hx hb dzU_countAxle_43 rfl (lv_at hl 3 rfl) ?_
  refine xk_get (pc := 44) hx hb hts hown hK hP ffzU_158 9 rfl rfl dzU_countAxle_44 ?_
  refine lv_iload (pc := 47) hx hb dzU_countAxle_47 (lv_at hl 1 rfl) ?_
  refine xk_aald (q0 := 11) (t0 := 3) (j := 2) (b := (ad 21)) (pc := 49) hx hb hK hP rfl rfl (pk_in 2 3 (by decide)) (pk_cl 2) rfl dzU_countAxle_49 ?_
  refine xk_allVV (As := [.ref (ad 21)]) (rest := []) (H0 := s.heap) (pc := 50) hx hb hml hts hown hK hA hP hD hS (kzU_disturbIfMiscounted_2 l G ac ad g1) vfzU_292 (fun _ => rfl) 0 rfl rfl ⟨rfl, rfl⟩ ⟨Nat.le_of_ble_eq_true rfl, Nat.le_of_ble_eq_true rfl⟩ rfl hl.1 rfl (Nat.le_of_ble_eq_true rfl) ⟨Nat.zero_le _, Nat.zero_le _⟩ dzU_countAxle_50 (fun g2 H locs hg2 hP hD hS => ?_)
  have hP : va_P G xk_cls (xk_wU ad ac g2) H := hP
  have hD : va_D A (xk_wU ad ac g2) := hD
  refine lv_goto (tgt := 75) (pc := 53) hx hb dzU_countAxle_53 (by decide) ?_
  refine lv_iload (pc := 75) hx hb dzU_countAxle_75 (lv_at hl 0 rfl) ?_
  refine lv_if_lt (pc := 77) (tgt := 108) hx hb dzU_countAxle_77 (by decide) (fun hq9 => absurd hq9 (by decide)) (fun _ => ?_)
  refine lv_iload (pc := 80) hx hb dzU_countAxle_80 (lv_at hl 0 rfl) ?_
  refine lv_iconst (v := 3) (pc := 82) hx hb dzU_countAxle_82 (by decide) ?_
  refine lv_icmp_ge (pc := 83) (tgt := 108) hx hb dzU_countAxle_83 (by decide) (fun hq9 => absurd hq9 (by decide)) (fun _ => ?_)
  refine lv_aload_n (pc := 86) hx hb dzU_countAxle_86 rfl (lv_at hl 3 rfl) ?_
  refine xk_get (pc := 87) hx hb hts hown hK hP ffzU_158 9 rfl rfl dzU_countAxle_87 ?_
  refine lv_iload (pc := 90) hx hb dzU_countAxle_90 (lv_at hl 0 rfl) ?_
  refine xk_aald (q0 := 11) (t0 := 3) (j := 1) (b := (ad 20)) (pc := 92) hx hb hK hP rfl rfl (pk_in 1 3 (by decide)) (pk_cl 1) rfl dzU_countAxle_92 ?_
  refine lv_iload_n (pc := 93) hx hb dzU_countAxle_93 rfl (lv_at hl 5 rfl) ?_
  refine xk_callVV (As := [.int (-1)]) (rest := []) (H0 := s.heap) (pc := 94) hx hb hml hts hown hK hA hP hD hS (kzS_countIn l G ac (ad 20) (g2 20 0) (g2 20 1) (g2 20 2) (g2 20 3) (g2 20 4) (g2 20 5) (g2 20 6) (g2 20 7) (g2 20 8) (-1)) vfzU_298 [20] (by decide) rfl (fun _ => rfl) 20 rfl rfl ⟨rfl, rfl⟩ ⟨Nat.le_of_ble_eq_true rfl, Nat.le_of_ble_eq_true rfl⟩ rfl hl.1 rfl (Nat.le_of_ble_eq_true rfl) ⟨Nat.zero_le _, Nat.zero_le _⟩ dzU_countAxle_94 (fun u9 H locs e9 hP hD hS => ?_)
  obtain ⟨g3, eg3⟩ : ∃ z : xk_St, z = va_up g2 20 (upd (upd (upd (g2 20) 1 (qzS_countIn_a1 (g2 20 1))) 5 (qzS_countIn_a5 (g2 20 5) (-1))) 7 (qzS_countIn_a7 (g2 20 7) (-1))) := ⟨_, rfl⟩
  have hP : va_P G xk_cls (xk_wU ad ac g3) H := by rw [eg3]; exact hP
  have hD : va_D A (xk_wU ad ac g3) := by rw [eg3]; exact hD
  refine lv_aload_n (pc := 97) hx hb dzU_countAxle_97 rfl (lv_at hl 2 rfl) ?_
  refine lv_aload_n (pc := 98) hx hb dzU_countAxle_98 rfl (lv_at hl 3 rfl) ?_
  refine xk_get (pc := 99) hx hb hts hown hK hP ffzU_158 9 rfl rfl dzU_countAxle_99 ?_
  refine lv_iload (pc := 102) hx hb dzU_countAxle_102 (lv_at hl 0 rfl) ?_
  refine xk_aald (q0 := 11) (t0 := 3) (j := 1) (b := (ad 20)) (pc := 104) hx hb hK hP rfl rfl (pk_in 1 3 (by decide)) (pk_cl 1) rfl dzU_countAxle_104 ?_
  refine xk_allVV (As := [.ref (ad 20)]) (rest := []) (H0 := s.heap) (pc := 105) hx hb hml hts hown hK hA hP hD hS (kzU_disturbIfMiscounted_1 l G ac ad g3) vfzU_292 (fun _ => rfl) 0 rfl rfl ⟨rfl, rfl⟩ ⟨Nat.le_of_ble_eq_true rfl, Nat.le_of_ble_eq_true rfl⟩ rfl hl.1 rfl (Nat.le_of_ble_eq_true rfl) ⟨Nat.zero_le _, Nat.zero_le _⟩ dzU_countAxle_105 (fun g4 H locs hg4 hP hD hS => ?_)
  have hP : va_P G xk_cls (xk_wU ad ac g4) H := hP
  have hD : va_D A (xk_wU ad ac g4) := hD
  exact hret g4 H locs 108 ls hP hS (by unfold relzU_countAxle_0_2_m; exact ⟨g1, eg1, ⟨g2, hg2, ⟨g3, eg3, ⟨g4, hg4, rfl⟩⟩⟩⟩) dzU_countAxle_108
theorem frzU_countAxle_0_2_m (g0 : xk_St) (gz : xk_St) : relzU_countAxle_0_2_m g0 gz → xk_eqv [0, 1, 2, 3, 4, 9, 10, 11, 12, 13, 14, 15, 16, 17, 18, 19, 22, 23, 24, 25, 26, 27, 28, 29, 30, 31, 32, 33] g0 gz := by
  intro h
  unfold relzU_countAxle_0_2_m at h
  have s0 : xk_eqv [0, 1, 2, 3, 4, 9, 10, 11, 12, 13, 14, 15, 16, 17, 18, 19, 22, 23, 24, 25, 26, 27, 28, 29, 30, 31, 32, 33] g0 g0 := xk_eqv_rf
  obtain ⟨g1, u1, v2⟩ := h
  have s3 : xk_eqv [0, 1, 2, 3, 4, 9, 10, 11, 12, 13, 14, 15, 16, 17, 18, 19, 22, 23, 24, 25, 26, 27, 28, 29, 30, 31, 32, 33] g0 g1 := by rw [u1]; repeat (first | exact s0 | refine xk_eqv_up (by decide) ?_)
  obtain ⟨g2, u4, v5⟩ := v2
  have s6 : xk_eqv [0, 1, 2, 3, 4, 9, 10, 11, 12, 13, 14, 15, 16, 17, 18, 19, 22, 23, 24, 25, 26, 27, 28, 29, 30, 31, 32, 33] g0 g2 := xk_eqv_tr s3 (xk_eqv_sub (frzU_disturbIfMiscounted_2 _ _ u4) (by decide))
  obtain ⟨g3, u7, v8⟩ := v5
  have s9 : xk_eqv [0, 1, 2, 3, 4, 9, 10, 11, 12, 13, 14, 15, 16, 17, 18, 19, 22, 23, 24, 25, 26, 27, 28, 29, 30, 31, 32, 33] g0 g3 := by rw [u7]; repeat (first | exact s6 | refine xk_eqv_up (by decide) ?_)
  obtain ⟨g4, u10, v11⟩ := v8
  have s12 : xk_eqv [0, 1, 2, 3, 4, 9, 10, 11, 12, 13, 14, 15, 16, 17, 18, 19, 22, 23, 24, 25, 26, 27, 28, 29, 30, 31, 32, 33] g0 g4 := xk_eqv_tr s9 (xk_eqv_sub (frzU_disturbIfMiscounted_1 _ _ u10) (by decide))
  rw [v11]; exact s12

def relzU_countAxle_0_3_p (g0 : xk_St) (gz : xk_St) : Prop := ∃ (g1 : xk_St), g1 = va_up g0 21 (upd (upd (upd (g0 21) 1 (qzS_countOut_a1 (g0 21 1))) 6 (qzS_countOut_a6 (g0 21 6) 1)) 8 (qzS_countOut_a8 (g0 21 8) 1)) ∧ (∃ (g2 : xk_St), relzU_disturbIfMiscounted_2 g1 g2 ∧ (gz = g2))
set_option maxHeartbeats 4000000 in
set_option maxRecDepth 100000 in
theorem kzU_countAxle_0_3_p (l : Launch) (G : va_G) (ac : Nat → ClassId) (ad : Nat → Nat) (g0 : xk_St) (k2 : Int32) (hd : k2 = 1) : xk_CV l yzU_countAxle czU_countAxle 6 xk_WS xk_r3 G xk_cls (xk_tys ac) [.ref (ad 0), .ref (ad 9), .int 3, .int k2] (xk_wU ad ac g0) (fun (gz : xk_St) => relzU_countAxle_0_3_p g0 gz) (fun gz => xk_wU ad ac gz) := by
  subst hd
  refine xk_ofV (by decide) (Nat.le_of_ble_eq_true rfl) ?_
  intro p e s m args below meth c A Q H locs ls C0 hret hP hD hS hl
  obtain ⟨hx, hb, hml, hts, hown, hK, hA⟩ := C0
  have hl : lv_has ls 6 [(0, .ref (ad 0)), (1, .ref (ad 9)), (2, .int 3), (3, .int 1)] := hl
  refine lv_iload_n (pc := 0) hx hb dzU_countAxle_0 rfl (lv_at hl 3 rfl) ?_
  refine lv_iconst (v := 1) (pc := 1) hx hb dzU_countAxle_1 (by decide) ?_
  refine lv_icmp_ne (pc := 2) (tgt := 11) hx hb dzU_countAxle_2 (by decide) (fun hq9 => absurd (by decide) hq9) (fun _ => ?_)
  refine lv_iload_n (pc := 5) hx hb dzU_countAxle_5 rfl (lv_at hl 2 rfl) ?_
  refine lv_iconst (v := 1) (pc := 6) hx hb dzU_countAxle_6 (by decide) ?_
  refine lv_isub (pc := 7) hx hb dzU_countAxle_7 ?_
  refine xk_is (y := 2) (by decide) ?_
  refine lv_goto (tgt := 12) (pc := 8) hx hb dzU_countAxle_8 (by decide) ?_
  refine lv_istore (lv' := [(4, .int 2), (0, .ref (ad 0)), (1, .ref (ad 9)), (2, .int 3), (3, .int 1)]) (pc := 12) hx hb dzU_countAxle_12 hl (by decide) rfl (fun ls hl => ?_)
  refine lv_iload (pc := 14) hx hb dzU_countAxle_14 (lv_at hl 0 rfl) ?_
  refine lv_iload_n (pc := 16) hx hb dzU_countAxle_16 rfl (lv_at hl 4 rfl) ?_
  refine lv_iadd (pc := 17) hx hb dzU_countAxle_17 ?_
  refine xk_is (y := 3) (by decide) ?_
  refine lv_istore (lv' := [(5, .int 3), (4, .int 2), (0, .ref (ad 0)), (1, .ref (ad 9)), (2, .int 3), (3, .int 1)]) (pc := 18) hx hb dzU_countAxle_18 hl (by decide) rfl (fun ls hl => ?_)
  refine lv_iload (pc := 20) hx hb dzU_countAxle_20 (lv_at hl 1 rfl) ?_
  refine lv_if_lt (pc := 22) (tgt := 56) hx hb dzU_countAxle_22 (by decide) (fun hq9 => absurd hq9 (by decide)) (fun _ => ?_)
  refine lv_iload (pc := 25) hx hb dzU_countAxle_25 (lv_at hl 1 rfl) ?_
  refine lv_iconst (v := 3) (pc := 27) hx hb dzU_countAxle_27 (by decide) ?_
  refine lv_icmp_ge (pc := 28) (tgt := 56) hx hb dzU_countAxle_28 (by decide) (fun hq9 => absurd hq9 (by decide)) (fun _ => ?_)
  refine lv_aload_n (pc := 31) hx hb dzU_countAxle_31 rfl (lv_at hl 3 rfl) ?_
  refine xk_get (pc := 32) hx hb hts hown hK hP ffzU_158 9 rfl rfl dzU_countAxle_32 ?_
  refine lv_iload (pc := 35) hx hb dzU_countAxle_35 (lv_at hl 1 rfl) ?_
  refine xk_aald (q0 := 11) (t0 := 3) (j := 2) (b := (ad 21)) (pc := 37) hx hb hK hP rfl rfl (pk_in 2 3 (by decide)) (pk_cl 2) rfl dzU_countAxle_37 ?_
  refine lv_iload_n (pc := 38) hx hb dzU_countAxle_38 rfl (lv_at hl 5 rfl) ?_
  refine xk_callVV (As := [.int 1]) (rest := []) (H0 := s.heap) (pc := 39) hx hb hml hts hown hK hA hP hD hS (kzS_countOut l G ac (ad 21) (g0 21 0) (g0 21 1) (g0 21 2) (g0 21 3) (g0 21 4) (g0 21 5) (g0 21 6) (g0 21 7) (g0 21 8) 1) vfzU_289 [21] (by decide) rfl (fun _ => rfl) 21 rfl rfl ⟨rfl, rfl⟩ ⟨Nat.le_of_ble_eq_true rfl, Nat.le_of_ble_eq_true rfl⟩ rfl hl.1 rfl (Nat.le_of_ble_eq_true rfl) ⟨Nat.zero_le _, Nat.zero_le _⟩ dzU_countAxle_39 (fun u9 H locs e9 hP hD hS => ?_)
  obtain ⟨g1, eg1⟩ : ∃ z : xk_St, z = va_up g0 21 (upd (upd (upd (g0 21) 1 (qzS_countOut_a1 (g0 21 1))) 6 (qzS_countOut_a6 (g0 21 6) 1)) 8 (qzS_countOut_a8 (g0 21 8) 1)) := ⟨_, rfl⟩
  have hP : va_P G xk_cls (xk_wU ad ac g1) H := by rw [eg1]; exact hP
  have hD : va_D A (xk_wU ad ac g1) := by rw [eg1]; exact hD
  refine lv_aload_n (pc := 42) hx hb dzU_countAxle_42 rfl (lv_at hl 2 rfl) ?_
  refine lv_aload_n (pc := 43) hx hb dzU_countAxle_43 rfl (lv_at hl 3 rfl) ?_
  refine xk_get (pc := 44) hx hb hts hown hK hP ffzU_158 9 rfl rfl dzU_countAxle_44 ?_
  refine lv_iload (pc := 47) hx hb dzU_countAxle_47 (lv_at hl 1 rfl) ?_
  refine xk_aald (q0 := 11) (t0 := 3) (j := 2) (b := (ad 21)) (pc := 49) hx hb hK hP rfl rfl (pk_in 2 3 (by decide)) (pk_cl 2) rfl dzU_countAxle_49 ?_
  refine xk_allVV (As := [.ref (ad 21)]) (rest := []) (H0 := s.heap) (pc := 50) hx hb hml hts hown hK hA hP hD hS (kzU_disturbIfMiscounted_2 l G ac ad g1) vfzU_292 (fun _ => rfl) 0 rfl rfl ⟨rfl, rfl⟩ ⟨Nat.le_of_ble_eq_true rfl, Nat.le_of_ble_eq_true rfl⟩ rfl hl.1 rfl (Nat.le_of_ble_eq_true rfl) ⟨Nat.zero_le _, Nat.zero_le _⟩ dzU_countAxle_50 (fun g2 H locs hg2 hP hD hS => ?_)
  have hP : va_P G xk_cls (xk_wU ad ac g2) H := hP
  have hD : va_D A (xk_wU ad ac g2) := hD
  refine lv_goto (tgt := 75) (pc := 53) hx hb dzU_countAxle_53 (by decide) ?_
  refine lv_iload (pc := 75) hx hb dzU_countAxle_75 (lv_at hl 0 rfl) ?_
  refine lv_if_lt (pc := 77) (tgt := 108) hx hb dzU_countAxle_77 (by decide) (fun hq9 => absurd hq9 (by decide)) (fun _ => ?_)
  refine lv_iload (pc := 80) hx hb dzU_countAxle_80 (lv_at hl 0 rfl) ?_
  refine lv_iconst (v := 3) (pc := 82) hx hb dzU_countAxle_82 (by decide) ?_
  refine lv_icmp_ge (pc := 83) (tgt := 108) hx hb dzU_countAxle_83 (by decide) (fun _ => ?_) (fun hq9 => absurd (by decide) hq9)
  exact hret g2 H locs 108 ls hP hS (by unfold relzU_countAxle_0_3_p; exact ⟨g1, eg1, ⟨g2, hg2, rfl⟩⟩) dzU_countAxle_108
theorem frzU_countAxle_0_3_p (g0 : xk_St) (gz : xk_St) : relzU_countAxle_0_3_p g0 gz → xk_eqv [0, 1, 2, 3, 4, 9, 10, 11, 12, 13, 14, 15, 16, 17, 18, 19, 20, 22, 23, 24, 25, 26, 27, 28, 29, 30, 31, 32, 33] g0 gz := by
  intro h
  unfold relzU_countAxle_0_3_p at h
  have s0 : xk_eqv [0, 1, 2, 3, 4, 9, 10, 11, 12, 13, 14, 15, 16, 17, 18, 19, 20, 22, 23, 24, 25, 26, 27, 28, 29, 30, 31, 32, 33] g0 g0 := xk_eqv_rf
  obtain ⟨g1, u1, v2⟩ := h
  have s3 : xk_eqv [0, 1, 2, 3, 4, 9, 10, 11, 12, 13, 14, 15, 16, 17, 18, 19, 20, 22, 23, 24, 25, 26, 27, 28, 29, 30, 31, 32, 33] g0 g1 := by rw [u1]; repeat (first | exact s0 | refine xk_eqv_up (by decide) ?_)
  obtain ⟨g2, u4, v5⟩ := v2
  have s6 : xk_eqv [0, 1, 2, 3, 4, 9, 10, 11, 12, 13, 14, 15, 16, 17, 18, 19, 20, 22, 23, 24, 25, 26, 27, 28, 29, 30, 31, 32, 33] g0 g2 := xk_eqv_tr s3 (xk_eqv_sub (frzU_disturbIfMiscounted_2 _ _ u4) (by decide))
  rw [v5]; exact s6

def relzU_countAxle_0_3_m (g0 : xk_St) (gz : xk_St) : Prop := ∃ (g1 : xk_St), g1 = va_up g0 26 (upd (g0 26) 2 1) ∧ (∃ (g2 : xk_St), g2 = va_up g1 21 (upd (upd (upd (g1 21) 1 (qzS_countIn_a1 (g1 21 1))) 5 (qzS_countIn_a5 (g1 21 5) (-1))) 7 (qzS_countIn_a7 (g1 21 7) (-1))) ∧ (∃ (g3 : xk_St), relzU_disturbIfMiscounted_2 g2 g3 ∧ (gz = g3)))
set_option maxHeartbeats 4000000 in
set_option maxRecDepth 100000 in
theorem kzU_countAxle_0_3_m (l : Launch) (G : va_G) (ac : Nat → ClassId) (ad : Nat → Nat) (g0 : xk_St) (k2 : Int32) (hd : k2 = (-1)) : xk_CV l yzU_countAxle czU_countAxle 6 xk_WS xk_r3 G xk_cls (xk_tys ac) [.ref (ad 0), .ref (ad 9), .int 3, .int k2] (xk_wU ad ac g0) (fun (gz : xk_St) => relzU_countAxle_0_3_m g0 gz) (fun gz => xk_wU ad ac gz) := by
  subst hd
  refine xk_ofV (by decide) (Nat.le_of_ble_eq_true rfl) ?_
  intro p e s m args below meth c A Q H locs ls C0 hret hP hD hS hl
  obtain ⟨hx, hb, hml, hts, hown, hK, hA⟩ := C0
  have hl : lv_has ls 6 [(0, .ref (ad 0)), (1, .ref (ad 9)), (2, .int 3), (3, .int (-1))] := hl
  refine lv_iload_n (pc := 0) hx hb dzU_countAxle_0 rfl (lv_at hl 3 rfl) ?_
  refine lv_iconst (v := 1) (pc := 1) hx hb dzU_countAxle_1 (by decide) ?_
  refine lv_icmp_ne (pc := 2) (tgt := 11) hx hb dzU_countAxle_2 (by decide) (fun _ => ?_) (fun hq9 => absurd hq9 (by decide))
  refine lv_iload_n (pc := 11) hx hb dzU_countAxle_11 rfl (lv_at hl 2 rfl) ?_
  refine lv_istore (lv' := [(4, .int 3), (0, .ref (ad 0)), (1, .ref (ad 9)), (2, .int 3), (3, .int (-1))]) (pc := 12) hx hb dzU_countAxle_12 hl (by decide) rfl (fun ls hl => ?_)
  refine lv_iload (pc := 14) hx hb dzU_countAxle_14 (lv_at hl 0 rfl) ?_
  refine lv_iload_n (pc := 16) hx hb dzU_countAxle_16 rfl (lv_at hl 4 rfl) ?_
  refine lv_iadd (pc := 17) hx hb dzU_countAxle_17 ?_
  refine xk_is (y := 2) (by decide) ?_
  refine lv_istore (lv' := [(5, .int 2), (4, .int 3), (0, .ref (ad 0)), (1, .ref (ad 9)), (2, .int 3), (3, .int (-1))]) (pc := 18) hx hb dzU_countAxle_18 hl (by decide) rfl (fun ls hl => ?_)
  refine lv_iload (pc := 20) hx hb dzU_countAxle_20 (lv_at hl 1 rfl) ?_
  refine lv_if_lt (pc := 22) (tgt := 56) hx hb dzU_countAxle_22 (by decide) (fun hq9 => absurd hq9 (by decide)) (fun _ => ?_)
  refine lv_iload (pc := 25) hx hb dzU_countAxle_25 (lv_at hl 1 rfl) ?_
  refine lv_iconst (v := 3) (pc := 27) hx hb dzU_countAxle_27 (by decide) ?_
  refine lv_icmp_ge (pc := 28) (tgt := 56) hx hb dzU_countAxle_28 (by decide) (fun _ => ?_) (fun hq9 => absurd (by decide) hq9)
  refine lv_aload_n (pc := 56) hx hb dzU_countAxle_56 rfl (lv_at hl 3 rfl) ?_
  refine xk_get (pc := 57) hx hb hts hown hK hP ffzU_212 9 rfl rfl dzU_countAxle_57 ?_
  refine lv_iload_n (pc := 60) hx hb dzU_countAxle_60 rfl (lv_at hl 5 rfl) ?_
  refine lv_iconst (v := 1) (pc := 61) hx hb dzU_countAxle_61 (by decide) ?_
  refine lv_icmp_ne (pc := 62) (tgt := 69) hx hb dzU_countAxle_62 (by decide) (fun _ => ?_) (fun hq9 => absurd hq9 (by decide))
  refine lv_iconst (v := 1) (pc := 69) hx hb dzU_countAxle_69 (by decide) ?_
  refine xk_aald (q0 := 13) (t0 := 4) (j := 1) (b := (ad 26)) (pc := 70) hx hb hK hP rfl rfl (pk_in 1 2 (by decide)) (pk_cl 1) rfl dzU_countAxle_70 ?_
  refine lv_iconst (v := 1) (pc := 71) hx hb dzU_countAxle_71 (by decide) ?_
  refine xk_putf (pc := 72) hx hb hts hown hK hP hD hS pfzU_295 26 rfl (xk_bn xk_b1) (xk_bf xk_b1) (Nat.le_of_ble_eq_true rfl) dzU_countAxle_72 (fun H locs hP hD hS => ?_)
  obtain ⟨g1, eg1⟩ : ∃ z : xk_St, z = va_up g0 26 (upd (g0 26) 2 1) := ⟨_, rfl⟩
  have hP : va_P G xk_cls (xk_wU ad ac g1) H := by rw [eg1]; exact hP
  have hD : va_D A (xk_wU ad ac g1) := by rw [eg1]; exact hD
  refine lv_iload (pc := 75) hx hb dzU_countAxle_75 (lv_at hl 0 rfl) ?_
  refine lv_if_lt (pc := 77) (tgt := 108) hx hb dzU_countAxle_77 (by decide) (fun hq9 => absurd hq9 (by decide)) (fun _ => ?_)
  refine lv_iload (pc := 80) hx hb dzU_countAxle_80 (lv_at hl 0 rfl) ?_
  refine lv_iconst (v := 3) (pc := 82) hx hb dzU_countAxle_82 (by decide) ?_
  refine lv_icmp_ge (pc := 83) (tgt := 108) hx hb dzU_countAxle_83 (by decide) (fun hq9 => absurd hq9 (by decide)) (fun _ => ?_)
  refine lv_aload_n (pc := 86) hx hb dzU_countAxle_86 rfl (lv_at hl 3 rfl) ?_
  refine xk_get (pc := 87) hx hb hts hown hK hP ffzU_158 9 rfl rfl dzU_countAxle_87 ?_
  refine lv_iload (pc := 90) hx hb dzU_countAxle_90 (lv_at hl 0 rfl) ?_
  refine xk_aald (q0 := 11) (t0 := 3) (j := 2) (b := (ad 21)) (pc := 92) hx hb hK hP rfl rfl (pk_in 2 3 (by decide)) (pk_cl 2) rfl dzU_countAxle_92 ?_
  refine lv_iload_n (pc := 93) hx hb dzU_countAxle_93 rfl (lv_at hl 5 rfl) ?_
  refine xk_callVV (As := [.int (-1)]) (rest := []) (H0 := s.heap) (pc := 94) hx hb hml hts hown hK hA hP hD hS (kzS_countIn l G ac (ad 21) (g1 21 0) (g1 21 1) (g1 21 2) (g1 21 3) (g1 21 4) (g1 21 5) (g1 21 6) (g1 21 7) (g1 21 8) (-1)) vfzU_298 [21] (by decide) rfl (fun _ => rfl) 21 rfl rfl ⟨rfl, rfl⟩ ⟨Nat.le_of_ble_eq_true rfl, Nat.le_of_ble_eq_true rfl⟩ rfl hl.1 rfl (Nat.le_of_ble_eq_true rfl) ⟨Nat.zero_le _, Nat.zero_le _⟩ dzU_countAxle_94 (fun u9 H locs e9 hP hD hS => ?_)
  obtain ⟨g2, eg2⟩ : ∃ z : xk_St, z = va_up g1 21 (upd (upd (upd (g1 21) 1 (qzS_countIn_a1 (g1 21 1))) 5 (qzS_countIn_a5 (g1 21 5) (-1))) 7 (qzS_countIn_a7 (g1 21 7) (-1))) := ⟨_, rfl⟩
  have hP : va_P G xk_cls (xk_wU ad ac g2) H := by rw [eg2]; exact hP
  have hD : va_D A (xk_wU ad ac g2) := by rw [eg2]; exact hD
  refine lv_aload_n (pc := 97) hx hb dzU_countAxle_97 rfl (lv_at hl 2 rfl) ?_
  refine lv_aload_n (pc := 98) hx hb dzU_countAxle_98 rfl (lv_at hl 3 rfl) ?_
  refine xk_get (pc := 99) hx hb hts hown hK hP ffzU_158 9 rfl rfl dzU_countAxle_99 ?_
  refine lv_iload (pc := 102) hx hb dzU_countAxle_102 (lv_at hl 0 rfl) ?_
  refine xk_aald (q0 := 11) (t0 := 3) (j := 2) (b := (ad 21)) (pc := 104) hx hb hK hP rfl rfl (pk_in 2 3 (by decide)) (pk_cl 2) rfl dzU_countAxle_104 ?_
  refine xk_allVV (As := [.ref (ad 21)]) (rest := []) (H0 := s.heap) (pc := 105) hx hb hml hts hown hK hA hP hD hS (kzU_disturbIfMiscounted_2 l G ac ad g2) vfzU_292 (fun _ => rfl) 0 rfl rfl ⟨rfl, rfl⟩ ⟨Nat.le_of_ble_eq_true rfl, Nat.le_of_ble_eq_true rfl⟩ rfl hl.1 rfl (Nat.le_of_ble_eq_true rfl) ⟨Nat.zero_le _, Nat.zero_le _⟩ dzU_countAxle_105 (fun g3 H locs hg3 hP hD hS => ?_)
  have hP : va_P G xk_cls (xk_wU ad ac g3) H := hP
  have hD : va_D A (xk_wU ad ac g3) := hD
  exact hret g3 H locs 108 ls hP hS (by unfold relzU_countAxle_0_3_m; exact ⟨g1, eg1, ⟨g2, eg2, ⟨g3, hg3, rfl⟩⟩⟩) dzU_countAxle_108
theorem frzU_countAxle_0_3_m (g0 : xk_St) (gz : xk_St) : relzU_countAxle_0_3_m g0 gz → xk_eqv [0, 1, 2, 3, 4, 9, 10, 11, 12, 13, 14, 15, 16, 17, 18, 19, 20, 22, 23, 24, 25, 27, 28, 29, 30, 31, 32, 33] g0 gz := by
  intro h
  unfold relzU_countAxle_0_3_m at h
  have s0 : xk_eqv [0, 1, 2, 3, 4, 9, 10, 11, 12, 13, 14, 15, 16, 17, 18, 19, 20, 22, 23, 24, 25, 27, 28, 29, 30, 31, 32, 33] g0 g0 := xk_eqv_rf
  obtain ⟨g1, u1, v2⟩ := h
  have s3 : xk_eqv [0, 1, 2, 3, 4, 9, 10, 11, 12, 13, 14, 15, 16, 17, 18, 19, 20, 22, 23, 24, 25, 27, 28, 29, 30, 31, 32, 33] g0 g1 := by rw [u1]; repeat (first | exact s0 | refine xk_eqv_up (by decide) ?_)
  obtain ⟨g2, u4, v5⟩ := v2
  have s6 : xk_eqv [0, 1, 2, 3, 4, 9, 10, 11, 12, 13, 14, 15, 16, 17, 18, 19, 20, 22, 23, 24, 25, 27, 28, 29, 30, 31, 32, 33] g0 g2 := by rw [u4]; repeat (first | exact s3 | refine xk_eqv_up (by decide) ?_)
  obtain ⟨g3, u7, v8⟩ := v5
  have s9 : xk_eqv [0, 1, 2, 3, 4, 9, 10, 11, 12, 13, 14, 15, 16, 17, 18, 19, 20, 22, 23, 24, 25, 27, 28, 29, 30, 31, 32, 33] g0 g3 := xk_eqv_tr s6 (xk_eqv_sub (frzU_disturbIfMiscounted_2 _ _ u7) (by decide))
  rw [v8]; exact s9

def relzU_countAxle_1_0_p (g0 : xk_St) (gz : xk_St) : Prop := ∃ (g1 : xk_St), g1 = va_up g0 27 (upd (g0 27) 2 1) ∧ (∃ (g2 : xk_St), g2 = va_up g1 22 (upd (upd (upd (g1 22) 1 (qzS_countIn_a1 (g1 22 1))) 5 (qzS_countIn_a5 (g1 22 5) 1)) 7 (qzS_countIn_a7 (g1 22 7) 1)) ∧ (∃ (g3 : xk_St), relzU_disturbIfMiscounted_3 g2 g3 ∧ (gz = g3)))
set_option maxHeartbeats 4000000 in
set_option maxRecDepth 100000 in
theorem kzU_countAxle_1_0_p (l : Launch) (G : va_G) (ac : Nat → ClassId) (ad : Nat → Nat) (g0 : xk_St) (k2 : Int32) (hd : k2 = 1) : xk_CV l yzU_countAxle czU_countAxle 6 xk_WS xk_r3 G xk_cls (xk_tys ac) [.ref (ad 0), .ref (ad 10), .int 0, .int k2] (xk_wU ad ac g0) (fun (gz : xk_St) => relzU_countAxle_1_0_p g0 gz) (fun gz => xk_wU ad ac gz) := by
  subst hd
  refine xk_ofV (by decide) (Nat.le_of_ble_eq_true rfl) ?_
  intro p e s m args below meth c A Q H locs ls C0 hret hP hD hS hl
  obtain ⟨hx, hb, hml, hts, hown, hK, hA⟩ := C0
  have hl : lv_has ls 6 [(0, .ref (ad 0)), (1, .ref (ad 10)), (2, .int 0), (3, .int 1)] := hl
  refine lv_iload_n (pc := 0) hx hb dzU_countAxle_0 rfl (lv_at hl 3 rfl) ?_
  refine lv_iconst (v := 1) (pc := 1) hx hb dzU_countAxle_1 (by decide) ?_
  refine lv_icmp_ne (pc := 2) (tgt := 11) hx hb dzU_countAxle_2 (by decide) (fun hq9 => absurd (by decide) hq9) (fun _ => ?_)
  refine lv_iload_n (pc := 5) hx hb dzU_countAxle_5 rfl (lv_at hl 2 rfl) ?_
  refine lv_iconst (v := 1) (pc := 6) hx hb dzU_countAxle_6 (by decide) ?_
  refine lv_isub (pc := 7) hx hb dzU_countAxle_7 ?_
  refine xk_is (y := (-1)) (by decide) ?_
  refine lv_goto (tgt := 12) (pc := 8) hx hb dzU_countAxle_8 (by decide) ?_
  refine lv_istore (lv' := [(4, .int (-1)), (0, .ref (ad 0)), (1, .ref (ad 10)), (2, .int 0), (3, .int 1)]) (pc := 12) hx hb dzU_countAxle_12 hl (by decide) rfl (fun ls hl => ?_)
  refine lv_iload (pc := 14) hx hb dzU_countAxle_14 (lv_at hl 0 rfl) ?_
  refine lv_iload_n (pc := 16) hx hb dzU_countAxle_16 rfl (lv_at hl 4 rfl) ?_
  refine lv_iadd (pc := 17) hx hb dzU_countAxle_17 ?_
  refine xk_is (y := 0) (by decide) ?_
  refine lv_istore (lv' := [(5, .int 0), (4, .int (-1)), (0, .ref (ad 0)), (1, .ref (ad 10)), (2, .int 0), (3, .int 1)]) (pc := 18) hx hb dzU_countAxle_18 hl (by decide) rfl (fun ls hl => ?_)
  refine lv_iload (pc := 20) hx hb dzU_countAxle_20 (lv_at hl 1 rfl) ?_
  refine lv_if_lt (pc := 22) (tgt := 56) hx hb dzU_countAxle_22 (by decide) (fun _ => ?_) (fun hq9 => absurd (by decide) hq9)
  refine lv_aload_n (pc := 56) hx hb dzU_countAxle_56 rfl (lv_at hl 3 rfl) ?_
  refine xk_get (pc := 57) hx hb hts hown hK hP ffzU_212 10 rfl rfl dzU_countAxle_57 ?_
  refine lv_iload_n (pc := 60) hx hb dzU_countAxle_60 rfl (lv_at hl 5 rfl) ?_
  refine lv_iconst (v := 1) (pc := 61) hx hb dzU_countAxle_61 (by decide) ?_
  refine lv_icmp_ne (pc := 62) (tgt := 69) hx hb dzU_countAxle_62 (by decide) (fun hq9 => absurd (by decide) hq9) (fun _ => ?_)
  refine lv_iconst (v := 0) (pc := 65) hx hb dzU_countAxle_65 (by decide) ?_
  refine lv_goto (tgt := 70) (pc := 66) hx hb dzU_countAxle_66 (by decide) ?_
  refine xk_aald (q0 := 14) (t0 := 4) (j := 0) (b := (ad 27)) (pc := 70) hx hb hK hP rfl rfl (pk_in 0 2 (by decide)) (pk_cl 0) rfl dzU_countAxle_70 ?_
  refine lv_iconst (v := 1) (pc := 71) hx hb dzU_countAxle_71 (by decide) ?_
  refine xk_putf (pc := 72) hx hb hts hown hK hP hD hS pfzU_295 27 rfl (xk_bn xk_b1) (xk_bf xk_b1) (Nat.le_of_ble_eq_true rfl) dzU_countAxle_72 (fun H locs hP hD hS => ?_)
  obtain ⟨g1, eg1⟩ : ∃ z : xk_St, z = va_up g0 27 (upd (g0 27) 2 1) := ⟨_, rfl⟩
  have hP : va_P G xk_cls (xk_wU ad ac g1) H := by rw [eg1]; exact hP
  have hD : va_D A (xk_wU ad ac g1) := by rw [eg1]; exact hD
  refine lv_iload (pc := 75) hx hb dzU_countAxle_75 (lv_at hl 0 rfl) ?_
  refine lv_if_lt (pc := 77) (tgt := 108) hx hb dzU_countAxle_77 (by decide) (fun hq9 => absurd hq9 (by decide)) (fun _ => ?_)
  refine lv_iload (pc := 80) hx hb dzU_countAxle_80 (lv_at hl 0 rfl) ?_
  refine lv_iconst (v := 3) (pc := 82) hx hb dzU_countAxle_82 (by decide) ?_
  refine lv_icmp_ge (pc := 83) (tgt := 108) hx hb dzU_countAxle_83 (by decide) (fun hq9 => absurd hq9 (by decide)) (fun _ => ?_)
  refine lv_aload_n (pc := 86) hx hb dzU_countAxle_86 rfl (lv_at hl 3 rfl) ?_
  refine xk_get (pc := 87) hx hb hts hown hK hP ffzU_158 10 rfl rfl dzU_countAxle_87 ?_
  refine lv_iload (pc := 90) hx hb dzU_countAxle_90 (lv_at hl 0 rfl) ?_
  refine xk_aald (q0 := 12) (t0 := 3) (j := 0) (b := (ad 22)) (pc := 92) hx hb hK hP rfl rfl (pk_in 0 3 (by decide)) (pk_cl 0) rfl dzU_countAxle_92 ?_
  refine lv_iload_n (pc := 93) hx hb dzU_countAxle_93 rfl (lv_at hl 5 rfl) ?_
  refine xk_callVV (As := [.int 1]) (rest := []) (H0 := s.heap) (pc := 94) hx hb hml hts hown hK hA hP hD hS (kzS_countIn l G ac (ad 22) (g1 22 0) (g1 22 1) (g1 22 2) (g1 22 3) (g1 22 4) (g1 22 5) (g1 22 6) (g1 22 7) (g1 22 8) 1) vfzU_298 [22] (by decide) rfl (fun _ => rfl) 22 rfl rfl ⟨rfl, rfl⟩ ⟨Nat.le_of_ble_eq_true rfl, Nat.le_of_ble_eq_true rfl⟩ rfl hl.1 rfl (Nat.le_of_ble_eq_true rfl) ⟨Nat.zero_le _, Nat.zero_le _⟩ dzU_countAxle_94 (fun u9 H locs e9 hP hD hS => ?_)
  obtain ⟨g2, eg2⟩ : ∃ z : xk_St, z = va_up g1 22 (upd (upd (upd (g1 22) 1 (qzS_countIn_a1 (g1 22 1))) 5 (qzS_countIn_a5 (g1 22 5) 1)) 7 (qzS_countIn_a7 (g1 22 7) 1)) := ⟨_, rfl⟩
  have hP : va_P G xk_cls (xk_wU ad ac g2) H := by rw [eg2]; exact hP
  have hD : va_D A (xk_wU ad ac g2) := by rw [eg2]; exact hD
  refine lv_aload_n (pc := 97) hx hb dzU_countAxle_97 rfl (lv_at hl 2 rfl) ?_
  refine lv_aload_n (pc := 98) hx hb dzU_countAxle_98 rfl (lv_at hl 3 rfl) ?_
  refine xk_get (pc := 99) hx hb hts hown hK hP ffzU_158 10 rfl rfl dzU_countAxle_99 ?_
  refine lv_iload (pc := 102) hx hb dzU_countAxle_102 (lv_at hl 0 rfl) ?_
  refine xk_aald (q0 := 12) (t0 := 3) (j := 0) (b := (ad 22)) (pc := 104) hx hb hK hP rfl rfl (pk_in 0 3 (by decide)) (pk_cl 0) rfl dzU_countAxle_104 ?_
  refine xk_allVV (As := [.ref (ad 22)]) (rest := []) (H0 := s.heap) (pc := 105) hx hb hml hts hown hK hA hP hD hS (kzU_disturbIfMiscounted_3 l G ac ad g2) vfzU_292 (fun _ => rfl) 0 rfl rfl ⟨rfl, rfl⟩ ⟨Nat.le_of_ble_eq_true rfl, Nat.le_of_ble_eq_true rfl⟩ rfl hl.1 rfl (Nat.le_of_ble_eq_true rfl) ⟨Nat.zero_le _, Nat.zero_le _⟩ dzU_countAxle_105 (fun g3 H locs hg3 hP hD hS => ?_)
  have hP : va_P G xk_cls (xk_wU ad ac g3) H := hP
  have hD : va_D A (xk_wU ad ac g3) := hD
  exact hret g3 H locs 108 ls hP hS (by unfold relzU_countAxle_1_0_p; exact ⟨g1, eg1, ⟨g2, eg2, ⟨g3, hg3, rfl⟩⟩⟩) dzU_countAxle_108
theorem frzU_countAxle_1_0_p (g0 : xk_St) (gz : xk_St) : relzU_countAxle_1_0_p g0 gz → xk_eqv [0, 1, 2, 3, 4, 9, 10, 11, 12, 13, 14, 15, 16, 17, 18, 19, 20, 21, 23, 24, 25, 26, 28, 29, 30, 31, 32, 33] g0 gz := by
  intro h
  unfold relzU_countAxle_1_0_p at h
  have s0 : xk_eqv [0, 1, 2, 3, 4, 9, 10, 11, 12, 13, 14, 15, 16, 17, 18, 19, 20, 21, 23, 24, 25, 26, 28, 29, 30, 31, 32, 33] g0 g0 := xk_eqv_rf
  obtain ⟨g1, u1, v2⟩ := h
  have s3 : xk_eqv [0, 1, 2, 3, 4, 9, 10, 11, 12, 13, 14, 15, 16, 17, 18, 19, 20, 21, 23, 24, 25, 26, 28, 29, 30, 31, 32, 33] g0 g1 := by rw [u1]; repeat (first | exact s0 | refine xk_eqv_up (by decide) ?_)
  obtain ⟨g2, u4, v5⟩ := v2
  have s6 : xk_eqv [0, 1, 2, 3, 4, 9, 10, 11, 12, 13, 14, 15, 16, 17, 18, 19, 20, 21, 23, 24, 25, 26, 28, 29, 30, 31, 32, 33] g0 g2 := by rw [u4]; repeat (first | exact s3 | refine xk_eqv_up (by decide) ?_)
  obtain ⟨g3, u7, v8⟩ := v5
  have s9 : xk_eqv [0, 1, 2, 3, 4, 9, 10, 11, 12, 13, 14, 15, 16, 17, 18, 19, 20, 21, 23, 24, 25, 26, 28, 29, 30, 31, 32, 33] g0 g3 := xk_eqv_tr s6 (xk_eqv_sub (frzU_disturbIfMiscounted_3 _ _ u7) (by decide))
  rw [v8]; exact s9

def relzU_countAxle_1_0_m (g0 : xk_St) (gz : xk_St) : Prop := ∃ (g1 : xk_St), g1 = va_up g0 22 (upd (upd (upd (g0 22) 1 (qzS_countOut_a1 (g0 22 1))) 6 (qzS_countOut_a6 (g0 22 6) (-1))) 8 (qzS_countOut_a8 (g0 22 8) (-1))) ∧ (∃ (g2 : xk_St), relzU_disturbIfMiscounted_3 g1 g2 ∧ (gz = g2))
set_option maxHeartbeats 4000000 in
set_option maxRecDepth 100000 in
theorem kzU_countAxle_1_0_m (l : Launch) (G : va_G) (ac : Nat → ClassId) (ad : Nat → Nat) (g0 : xk_St) (k2 : Int32) (hd : k2 = (-1)) : xk_CV l yzU_countAxle czU_countAxle 6 xk_WS xk_r3 G xk_cls (xk_tys ac) [.ref (ad 0), .ref (ad 10), .int 0, .int k2] (xk_wU ad ac g0) (fun (gz : xk_St) => relzU_countAxle_1_0_m g0 gz) (fun gz => xk_wU ad ac gz) := by
  subst hd
  refine xk_ofV (by decide) (Nat.le_of_ble_eq_true rfl) ?_
  intro p e s m args below meth c A Q H locs ls C0 hret hP hD hS hl
  obtain ⟨hx, hb, hml, hts, hown, hK, hA⟩ := C0
  have hl : lv_has ls 6 [(0, .ref (ad 0)), (1, .ref (ad 10)), (2, .int 0), (3, .int (-1))] := hl
  refine lv_iload_n (pc := 0) hx hb dzU_countAxle_0 rfl (lv_at hl 3 rfl) ?_
  refine lv_iconst (v := 1) (pc := 1) hx hb dzU_countAxle_1 (by decide) ?_
  refine lv_icmp_ne (pc := 2) (tgt := 11) hx hb dzU_countAxle_2 (by decide) (fun _ => ?_) (fun hq9 => absurd hq9 (by decide))
  refine lv_iload_n (pc := 11) hx hb dzU_countAxle_11 rfl (lv_at hl 2 rfl) ?_
  refine lv_istore (lv' := [(4, .int 0), (0, .ref (ad 0)), (1, .ref (ad 10)), (2, .int 0), (3, .int (-1))]) (pc := 12) hx hb dzU_countAxle_12 hl (by decide) rfl (fun ls hl => ?_)
  refine lv_iload (pc := 14) hx hb dzU_countAxle_14 (lv_at hl 0 rfl) ?_
  refine lv_iload_n (pc := 16) hx hb dzU_countAxle_16 rfl (lv_at hl 4 rfl) ?_
  refine lv_iadd (pc := 17) hx hb dzU_countAxle_17 ?_
  refine xk_is (y := (-1)) (by decide) ?_
  refine lv_istore (lv' := [(5, .int (-1)), (4, .int 0), (0, .ref (ad 0)), (1, .ref (ad 10)), (2, .int 0), (3, .int (-1))]) (pc := 18) hx hb dzU_countAxle_18 hl (by decide) rfl (fun ls hl => ?_)
  refine lv_iload (pc := 20) hx hb dzU_countAxle_20 (lv_at hl 1 rfl) ?_
  refine lv_if_lt (pc := 22) (tgt := 56) hx hb dzU_countAxle_22 (by decide) (fun hq9 => absurd hq9 (by decide)) (fun _ => ?_)
  refine lv_iload (pc := 25) hx hb dzU_countAxle_25 (lv_at hl 1 rfl) ?_
  refine lv_iconst (v := 3) (pc := 27) hx hb dzU_countAxle_27 (by decide) ?_
  refine lv_icmp_ge (pc := 28) (tgt := 56) hx hb dzU_countAxle_28 (by decide) (fun hq9 => absurd hq9 (by decide)) (fun _ => ?_)
  refine lv_aload_n (pc := 31) hx hb dzU_countAxle_31 rfl (lv_at hl 3 rfl) ?_
  refine xk_get (pc := 32) hx hb hts hown hK hP ffzU_158 10 rfl rfl dzU_countAxle_32 ?_
  refine lv_iload (pc := 35) hx hb dzU_countAxle_35 (lv_at hl 1 rfl) ?_
  refine xk_aald (q0 := 12) (t0 := 3) (j := 0) (b := (ad 22)) (pc := 37) hx hb hK hP rfl rfl (pk_in 0 3 (by decide)) (pk_cl 0) rfl dzU_countAxle_37 ?_
  refine lv_iload_n (pc := 38) hx hb dzU_countAxle_38 rfl (lv_at hl 5 rfl) ?_
  refine xk_callVV (As := [.int (-1)]) (rest := []) (H0 := s.heap) (pc := 39) hx hb hml hts hown hK hA hP hD hS (kzS_countOut l G ac (ad 22) (g0 22 0) (g0 22 1) (g0 22 2) (g0 22 3) (g0 22 4) (g0 22 5) (g0 22 6) (g0 22 7) (g0 22 8) (-1)) vfzU_289 [22] (by decide) rfl (fun _ => rfl) 22 rfl rfl ⟨rfl, rfl⟩ ⟨Nat.le_of_ble_eq_true rfl, Nat.le_of_ble_eq_true rfl⟩ rfl hl.1 rfl (Nat.le_of_ble_eq_true rfl) ⟨Nat.zero_le _, Nat.zero_le _⟩ dzU_countAxle_39 (fun u9 H locs e9 hP hD hS => ?_)
  obtain ⟨g1, eg1⟩ : ∃ z : xk_St, z = va_up g0 22 (upd (upd (upd (g0 22) 1 (qzS_countOut_a1 (g0 22 1))) 6 (qzS_countOut_a6 (g0 22 6) (-1))) 8 (qzS_countOut_a8 (g0 22 8) (-1))) := ⟨_, rfl⟩
  have hP : va_P G xk_cls (xk_wU ad ac g1) H := by rw [eg1]; exact hP
  have hD : va_D A (xk_wU ad ac g1) := by rw [eg1]; exact hD
  refine lv_aload_n (pc := 42) hx hb dzU_countAxle_42 rfl (lv_at hl 2 rfl) ?_
  refine lv_aload_n (pc := 43) hx hb dzU_countAxle_43 rfl (lv_at hl 3 rfl) ?_
  refine xk_get (pc := 44) hx hb hts hown hK hP ffzU_158 10 rfl rfl dzU_countAxle_44 ?_
  refine lv_iload (pc := 47) hx hb dzU_countAxle_47 (lv_at hl 1 rfl) ?_
  refine xk_aald (q0 := 12) (t0 := 3) (j := 0) (b := (ad 22)) (pc := 49) hx hb hK hP rfl rfl (pk_in 0 3 (by decide)) (pk_cl 0) rfl dzU_countAxle_49 ?_
  refine xk_allVV (As := [.ref (ad 22)]) (rest := []) (H0 := s.heap) (pc := 50) hx hb hml hts hown hK hA hP hD hS (kzU_disturbIfMiscounted_3 l G ac ad g1) vfzU_292 (fun _ => rfl) 0 rfl rfl ⟨rfl, rfl⟩ ⟨Nat.le_of_ble_eq_true rfl, Nat.le_of_ble_eq_true rfl⟩ rfl hl.1 rfl (Nat.le_of_ble_eq_true rfl) ⟨Nat.zero_le _, Nat.zero_le _⟩ dzU_countAxle_50 (fun g2 H locs hg2 hP hD hS => ?_)
  have hP : va_P G xk_cls (xk_wU ad ac g2) H := hP
  have hD : va_D A (xk_wU ad ac g2) := hD
  refine lv_goto (tgt := 75) (pc := 53) hx hb dzU_countAxle_53 (by decide) ?_
  refine lv_iload (pc := 75) hx hb dzU_countAxle_75 (lv_at hl 0 rfl) ?_
  refine lv_if_lt (pc := 77) (tgt := 108) hx hb dzU_countAxle_77 (by decide) (fun _ => ?_) (fun hq9 => absurd (by decide) hq9)
  exact hret g2 H locs 108 ls hP hS (by unfold relzU_countAxle_1_0_m; exact ⟨g1, eg1, ⟨g2, hg2, rfl⟩⟩) dzU_countAxle_108
theorem frzU_countAxle_1_0_m (g0 : xk_St) (gz : xk_St) : relzU_countAxle_1_0_m g0 gz → xk_eqv [0, 1, 2, 3, 4, 9, 10, 11, 12, 13, 14, 15, 16, 17, 18, 19, 20, 21, 23, 24, 25, 26, 27, 28, 29, 30, 31, 32, 33] g0 gz := by
  intro h
  unfold relzU_countAxle_1_0_m at h
  have s0 : xk_eqv [0, 1, 2, 3, 4, 9, 10, 11, 12, 13, 14, 15, 16, 17, 18, 19, 20, 21, 23, 24, 25, 26, 27, 28, 29, 30, 31, 32, 33] g0 g0 := xk_eqv_rf
  obtain ⟨g1, u1, v2⟩ := h
  have s3 : xk_eqv [0, 1, 2, 3, 4, 9, 10, 11, 12, 13, 14, 15, 16, 17, 18, 19, 20, 21, 23, 24, 25, 26, 27, 28, 29, 30, 31, 32, 33] g0 g1 := by rw [u1]; repeat (first | exact s0 | refine xk_eqv_up (by decide) ?_)
  obtain ⟨g2, u4, v5⟩ := v2
  have s6 : xk_eqv [0, 1, 2, 3, 4, 9, 10, 11, 12, 13, 14, 15, 16, 17, 18, 19, 20, 21, 23, 24, 25, 26, 27, 28, 29, 30, 31, 32, 33] g0 g2 := xk_eqv_tr s3 (xk_eqv_sub (frzU_disturbIfMiscounted_3 _ _ u4) (by decide))
  rw [v5]; exact s6

def relzU_countAxle_1_1_p (g0 : xk_St) (gz : xk_St) : Prop := ∃ (g1 : xk_St), g1 = va_up g0 22 (upd (upd (upd (g0 22) 1 (qzS_countOut_a1 (g0 22 1))) 6 (qzS_countOut_a6 (g0 22 6) 1)) 8 (qzS_countOut_a8 (g0 22 8) 1)) ∧ (∃ (g2 : xk_St), relzU_disturbIfMiscounted_3 g1 g2 ∧ (∃ (g3 : xk_St), g3 = va_up g2 23 (upd (upd (upd (g2 23) 1 (qzS_countIn_a1 (g2 23 1))) 5 (qzS_countIn_a5 (g2 23 5) 1)) 7 (qzS_countIn_a7 (g2 23 7) 1)) ∧ (∃ (g4 : xk_St), relzU_disturbIfMiscounted_4 g3 g4 ∧ (gz = g4))))
set_option maxHeartbeats 4000000 in
set_option maxRecDepth 100000 in
theorem kzU_countAxle_1_1_p (l : Launch) (G : va_G) (ac : Nat → ClassId) (ad : Nat → Nat) (g0 : xk_St) (k2 : Int32) (hd : k2 = 1) : xk_CV l yzU_countAxle czU_countAxle 6 xk_WS xk_r3 G xk_cls (xk_tys ac) [.ref (ad 0), .ref (ad 10), .int 1, .int k2] (xk_wU ad ac g0) (fun (gz : xk_St) => relzU_countAxle_1_1_p g0 gz) (fun gz => xk_wU ad ac gz) := by
  subst hd
  refine xk_ofV (by decide) (Nat.le_of_ble_eq_true rfl) ?_
  intro p e s m args below meth c A Q H locs ls C0 hret hP hD hS hl
  obtain ⟨hx, hb, hml, hts, hown, hK, hA⟩ := C0
  have hl : lv_has ls 6 [(0, .ref (ad 0)), (1, .ref (ad 10)), (2, .int 1), (3, .int 1)] := hl
  refine lv_iload_n (pc := 0) hx hb dzU_countAxle_0 rfl (lv_at hl 3 rfl) ?_
  refine lv_iconst (v := 1) (pc := 1) hx hb dzU_countAxle_1 (by decide) ?_
  refine lv_icmp_ne (pc := 2) (tgt := 11) hx hb dzU_countAxle_2 (by decide) (fun hq9 => absurd (by decide) hq9) (fun _ => ?_)
  refine lv_iload_n (pc := 5) hx hb dzU_countAxle_5 rfl (lv_at hl 2 rfl) ?_
  refine lv_iconst (v := 1) (pc := 6) hx hb dzU_countAxle_6 (by decide) ?_
  refine lv_isub (pc := 7) hx hb dzU_countAxle_7 ?_
  refine xk_is (y := 0) (by decide) ?_
  refine lv_goto (tgt := 12) (pc := 8) hx hb dzU_countAxle_8 (by decide) ?_
  refine lv_istore (lv' := [(4, .int 0), (0, .ref (ad 0)), (1, .ref (ad 10)), (2, .int 1), (3, .int 1)]) (pc := 12) hx hb dzU_countAxle_12 hl (by decide) rfl (fun ls hl => ?_)
  refine lv_iload (pc := 14) hx hb dzU_countAxle_14 (lv_at hl 0 rfl) ?_
  refine lv_iload_n (pc := 16) hx hb dzU_countAxle_16 rfl (lv_at hl 4 rfl) ?_
  refine lv_iadd (pc := 17) hx hb dzU_countAxle_17 ?_
  refine xk_is (y := 1) (by decide) ?_
  refine lv_istore (lv' := [(5, .int 1), (4, .int 0), (0, .ref (ad 0)), (1, .ref (ad 10)), (2, .int 1), (3, .int 1)]) (pc := 18) hx hb dzU_countAxle_18 hl (by decide) rfl (fun ls hl => ?_)
  refine lv_iload (pc := 20) hx hb dzU_countAxle_20 (lv_at hl 1 rfl) ?_
  refine lv_if_lt (pc := 22) (tgt := 56) hx hb dzU_countAxle_22 (by decide) (fun hq9 => absurd hq9 (by decide)) (fun _ => ?_)
  refine lv_iload (pc := 25) hx hb dzU_countAxle_25 (lv_at hl 1 rfl) ?_
  refine lv_iconst (v := 3) (pc := 27) hx hb dzU_countAxle_27 (by decide) ?_
  refine lv_icmp_ge (pc := 28) (tgt := 56) hx hb dzU_countAxle_28 (by decide) (fun hq9 => absurd hq9 (by decide)) (fun _ => ?_)
  refine lv_aload_n (pc := 31) hx hb dzU_countAxle_31 rfl (lv_at hl 3 rfl) ?_
  refine xk_get (pc := 32) hx hb hts hown hK hP ffzU_158 10 rfl rfl dzU_countAxle_32 ?_
  refine lv_iload (pc := 35) hx hb dzU_countAxle_35 (lv_at hl 1 rfl) ?_
  refine xk_aald (q0 := 12) (t0 := 3) (j := 0) (b := (ad 22)) (pc := 37) hx hb hK hP rfl rfl (pk_in 0 3 (by decide)) (pk_cl 0) rfl dzU_countAxle_37 ?_
  refine lv_iload_n (pc := 38) hx hb dzU_countAxle_38 rfl (lv_at hl 5 rfl) ?_
  refine xk_callVV (As := [.int 1]) (rest := []) (H0 := s.heap) (pc := 39) hx hb hml hts hown hK hA hP hD hS (kzS_countOut l G ac (ad 22) (g0 22 0) (g0 22 1) (g0 22 2) (g0 22 3) (g0 22 4) (g0 22 5) (g0 22 6) (g0 22 7) (g0 22 8) 1) vfzU_289 [22] (by decide) rfl (fun _ => rfl) 22 rfl rfl ⟨rfl, rfl⟩ ⟨Nat.le_of_ble_eq_true rfl, Nat.le_of_ble_eq_true rfl⟩ rfl hl.1 rfl (Nat.le_of_ble_eq_true rfl) ⟨Nat.zero_le _, Nat.zero_le _⟩ dzU_countAxle_39 (fun u9 H locs e9 hP hD hS => ?_)
  obtain ⟨g1, eg1⟩ : ∃ z : xk_St, z = va_up g0 22 (upd (upd (upd (g0 22) 1 (qzS_countOut_a1 (g0 22 1))) 6 (qzS_countOut_a6 (g0 22 6) 1)) 8 (qzS_countOut_a8 (g0 22 8) 1)) := ⟨_, rfl⟩
  have hP : va_P G xk_cls (xk_wU ad ac g1) H := by rw [eg1]; exact hP
  have hD : va_D A (xk_wU ad ac g1) := by rw [eg1]; exact hD
  refine lv_aload_n (pc := 42) hx hb dzU_countAxle_42 rfl (lv_at hl 2 rfl) ?_
  refine lv_aload_n (pc := 43) hx hb dzU_countAxle_43 rfl (lv_at hl 3 rfl) ?_
  refine xk_get (pc := 44) hx hb hts hown hK hP ffzU_158 10 rfl rfl dzU_countAxle_44 ?_
  refine lv_iload (pc := 47) hx hb dzU_countAxle_47 (lv_at hl 1 rfl) ?_
  refine xk_aald (q0 := 12) (t0 := 3) (j := 0) (b := (ad 22)) (pc := 49) hx hb hK hP rfl rfl (pk_in 0 3 (by decide)) (pk_cl 0) rfl dzU_countAxle_49 ?_
  refine xk_allVV (As := [.ref (ad 22)]) (rest := []) (H0 := s.heap) (pc := 50) hx hb hml hts hown hK hA hP hD hS (kzU_disturbIfMiscounted_3 l G ac ad g1) vfzU_292 (fun _ => rfl) 0 rfl rfl ⟨rfl, rfl⟩ ⟨Nat.le_of_ble_eq_true rfl, Nat.le_of_ble_eq_true rfl⟩ rfl hl.1 rfl (Nat.le_of_ble_eq_true rfl) ⟨Nat.zero_le _, Nat.zero_le _⟩ dzU_countAxle_50 (fun g2 H locs hg2 hP hD hS => ?_)
  have hP : va_P G xk_cls (xk_wU ad ac g2) H := hP
  have hD : va_D A (xk_wU ad ac g2) := hD
  refine lv_goto (tgt := 75) (pc := 53) hx hb dzU_countAxle_53 (by decide) ?_
  refine lv_iload (pc := 75) hx hb dzU_countAxle_75 (lv_at hl 0 rfl) ?_
  refine lv_if_lt (pc := 77) (tgt := 108) hx hb dzU_countAxle_77 (by decide) (fun hq9 => absurd hq9 (by decide)) (fun _ => ?_)
  refine lv_iload (pc := 80) hx hb dzU_countAxle_80 (lv_at hl 0 rfl) ?_
  refine lv_iconst (v := 3) (pc := 82) hx hb dzU_countAxle_82 (by decide) ?_
  refine lv_icmp_ge (pc := 83) (tgt := 108) hx hb dzU_countAxle_83 (by decide) (fun hq9 => absurd hq9 (by decide)) (fun _ => ?_)
  refine lv_aload_n (pc := 86) hx hb dzU_countAxle_86 rfl (lv_at hl 3 rfl) ?_
  refine xk_get (pc := 87) hx hb hts hown hK hP ffzU_158 10 rfl rfl dzU_countAxle_87 ?_
  refine lv_iload (pc := 90) hx hb dzU_countAxle_90 (lv_at hl 0 rfl) ?_
  refine xk_aald (q0 := 12) (t0 := 3) (j := 1) (b := (ad 23)) (pc := 92) hx hb hK hP rfl rfl (pk_in 1 3 (by decide)) (pk_cl 1) rfl dzU_countAxle_92 ?_
  refine lv_iload_n (pc := 93) hx hb dzU_countAxle_93 rfl (lv_at hl 5 rfl) ?_
  refine xk_callVV (As := [.int 1]) (rest := []) (H0 := s.heap) (pc := 94) hx hb hml hts hown hK hA hP hD hS (kzS_countIn l G ac (ad 23) (g2 23 0) (g2 23 1) (g2 23 2) (g2 23 3) (g2 23 4) (g2 23 5) (g2 23 6) (g2 23 7) (g2 23 8) 1) vfzU_298 [23] (by decide) rfl (fun _ => rfl) 23 rfl rfl ⟨rfl, rfl⟩ ⟨Nat.le_of_ble_eq_true rfl, Nat.le_of_ble_eq_true rfl⟩ rfl hl.1 rfl (Nat.le_of_ble_eq_true rfl) ⟨Nat.zero_le _, Nat.zero_le _⟩ dzU_countAxle_94 (fun u9 H locs e9 hP hD hS => ?_)
  obtain ⟨g3, eg3⟩ : ∃ z : xk_St, z = va_up g2 23 (upd (upd (upd (g2 23) 1 (qzS_countIn_a1 (g2 23 1))) 5 (qzS_countIn_a5 (g2 23 5) 1)) 7 (qzS_countIn_a7 (g2 23 7) 1)) := ⟨_, rfl⟩
  have hP : va_P G xk_cls (xk_wU ad ac g3) H := by rw [eg3]; exact hP
  have hD : va_D A (xk_wU ad ac g3) := by rw [eg3]; exact hD
  refine lv_aload_n (pc := 97) hx hb dzU_countAxle_97 rfl (lv_at hl 2 rfl) ?_
  refine lv_aload_n (pc := 98) hx hb dzU_countAxle_98 rfl (lv_at hl 3 rfl) ?_
  refine xk_get (pc := 99) hx hb hts hown hK hP ffzU_158 10 rfl rfl dzU_countAxle_99 ?_
  refine lv_iload (pc := 102) hx hb dzU_countAxle_102 (lv_at hl 0 rfl) ?_
  refine xk_aald (q0 := 12) (t0 := 3) (j := 1) (b := (ad 23)) (pc := 104) hx hb hK hP rfl rfl (pk_in 1 3 (by decide)) (pk_cl 1) rfl dzU_countAxle_104 ?_
  refine xk_allVV (As := [.ref (ad 23)]) (rest := []) (H0 := s.heap) (pc := 105) hx hb hml hts hown hK hA hP hD hS (kzU_disturbIfMiscounted_4 l G ac ad g3) vfzU_292 (fun _ => rfl) 0 rfl rfl ⟨rfl, rfl⟩ ⟨Nat.le_of_ble_eq_true rfl, Nat.le_of_ble_eq_true rfl⟩ rfl hl.1 rfl (Nat.le_of_ble_eq_true rfl) ⟨Nat.zero_le _, Nat.zero_le _⟩ dzU_countAxle_105 (fun g4 H locs hg4 hP hD hS => ?_)
  have hP : va_P G xk_cls (xk_wU ad ac g4) H := hP
  have hD : va_D A (xk_wU ad ac g4) := hD
  exact hret g4 H locs 108 ls hP hS (by unfold relzU_countAxle_1_1_p; exact ⟨g1, eg1, ⟨g2, hg2, ⟨g3, eg3, ⟨g4, hg4, rfl⟩⟩⟩⟩) dzU_countAxle_108
theorem frzU_countAxle_1_1_p (g0 : xk_St) (gz : xk_St) : relzU_countAxle_1_1_p g0 gz → xk_eqv [0, 1, 2, 3, 4, 9, 10, 11, 12, 13, 14, 15, 16, 17, 18, 19, 20, 21, 24, 25, 26, 27, 28, 29, 30, 31, 32, 33] g0 gz := by
  intro h
  unfold relzU_countAxle_1_1_p at h
  have s0 : xk_eqv [0, 1, 2, 3, 4, 9, 10, 11, 12, 13, 14, 15, 16, 17, 18, 19, 20, 21, 24, 25, 26, 27, 28, 29, 30, 31, 32, 33] g0 g0 := xk_eqv_rf
  obtain ⟨g1, u1, v2⟩ := h
  have s3 : xk_eqv [0, 1, 2, 3, 4, 9, 10, 11, 12, 13, 14, 15, 16, 17, 18, 19, 20, 21, 24, 25, 26, 27, 28, 29, 30, 31, 32, 33] g0 g1 := by rw [u1]; repeat (first | exact s0 | refine xk_eqv_up (by decide) ?_)
  obtain ⟨g2, u4, v5⟩ := v2
  have s6 : xk_eqv [0, 1, 2, 3, 4, 9, 10, 11, 12, 13, 14, 15, 16, 17, 18, 19, 20, 21, 24, 25, 26, 27, 28, 29, 30, 31, 32, 33] g0 g2 := xk_eqv_tr s3 (xk_eqv_sub (frzU_disturbIfMiscounted_3 _ _ u4) (by decide))
  obtain ⟨g3, u7, v8⟩ := v5
  have s9 : xk_eqv [0, 1, 2, 3, 4, 9, 10, 11, 12, 13, 14, 15, 16, 17, 18, 19, 20, 21, 24, 25, 26, 27, 28, 29, 30, 31, 32, 33] g0 g3 := by rw [u7]; repeat (first | exact s6 | refine xk_eqv_up (by decide) ?_)
  obtain ⟨g4, u10, v11⟩ := v8
  have s12 : xk_eqv [0, 1, 2, 3, 4, 9, 10, 11, 12, 13, 14, 15, 16, 17, 18, 19, 20, 21, 24, 25, 26, 27, 28, 29, 30, 31, 32, 33] g0 g4 := xk_eqv_tr s9 (xk_eqv_sub (frzU_disturbIfMiscounted_4 _ _ u10) (by decide))
  rw [v11]; exact s12

def relzU_countAxle_1_1_m (g0 : xk_St) (gz : xk_St) : Prop := ∃ (g1 : xk_St), g1 = va_up g0 23 (upd (upd (upd (g0 23) 1 (qzS_countOut_a1 (g0 23 1))) 6 (qzS_countOut_a6 (g0 23 6) (-1))) 8 (qzS_countOut_a8 (g0 23 8) (-1))) ∧ (∃ (g2 : xk_St), relzU_disturbIfMiscounted_4 g1 g2 ∧ (∃ (g3 : xk_St), g3 = va_up g2 22 (upd (upd (upd (g2 22) 1 (qzS_countIn_a1 (g2 22 1))) 5 (qzS_countIn_a5 (g2 22 5) (-1))) 7 (qzS_countIn_a7 (g2 22 7) (-1))) ∧ (∃ (g4 : xk_St), relzU_disturbIfMiscounted_3 g3 g4 ∧ (gz = g4))))
set_option maxHeartbeats 4000000 in
set_option maxRecDepth 100000 in
theorem kzU_countAxle_1_1_m (l : Launch) (G : va_G) (ac : Nat → ClassId) (ad : Nat → Nat) (g0 : xk_St) (k2 : Int32) (hd : k2 = (-1)) : xk_CV l yzU_countAxle czU_countAxle 6 xk_WS xk_r3 G xk_cls (xk_tys ac) [.ref (ad 0), .ref (ad 10), .int 1, .int k2] (xk_wU ad ac g0) (fun (gz : xk_St) => relzU_countAxle_1_1_m g0 gz) (fun gz => xk_wU ad ac gz) := by
  subst hd
  refine xk_ofV (by decide) (Nat.le_of_ble_eq_true rfl) ?_
  intro p e s m args below meth c A Q H locs ls C0 hret hP hD hS hl
  obtain ⟨hx, hb, hml, hts, hown, hK, hA⟩ := C0
  have hl : lv_has ls 6 [(0, .ref (ad 0)), (1, .ref (ad 10)), (2, .int 1), (3, .int (-1))] := hl
  refine lv_iload_n (pc := 0) hx hb dzU_countAxle_0 rfl (lv_at hl 3 rfl) ?_
  refine lv_iconst (v := 1) (pc := 1) hx hb dzU_countAxle_1 (by decide) ?_
  refine lv_icmp_ne (pc := 2) (tgt := 11) hx hb dzU_countAxle_2 (by decide) (fun _ => ?_) (fun hq9 => absurd hq9 (by decide))
  refine lv_iload_n (pc := 11) hx hb dzU_countAxle_11 rfl (lv_at hl 2 rfl) ?_
  refine lv_istore (lv' := [(4, .int 1), (0, .ref (ad 0)), (1, .ref (ad 10)), (2, .int 1), (3, .int (-1))]) (pc := 12) hx hb dzU_countAxle_12 hl (by decide) rfl (fun ls hl => ?_)
  refine lv_iload (pc := 14) hx hb dzU_countAxle_14 (lv_at hl 0 rfl) ?_
  refine lv_iload_n (pc := 16) hx hb dzU_countAxle_16 rfl (lv_at hl 4 rfl) ?_
  refine lv_iadd (pc := 17) hx hb dzU_countAxle_17 ?_
  refine xk_is (y := 0) (by decide) ?_
  refine lv_istore (lv' := [(5, .int 0), (4, .int 1), (0, .ref (ad 0)), (1, .ref (ad 10)), (2, .int 1), (3, .int (-1))]) (pc := 18) hx hb dzU_countAxle_18 hl (by decide) rfl (fun ls hl => ?_)
  refine lv_iload (pc := 20) hx hb dzU_countAxle_20 (lv_at hl 1 rfl) ?_
  refine lv_if_lt (pc := 22) (tgt := 56) hx hb dzU_countAxle_22 (by decide) (fun hq9 => absurd hq9 (by decide)) (fun _ => ?_)
  refine lv_iload (pc := 25) hx hb dzU_countAxle_25 (lv_at hl 1 rfl) ?_
  refine lv_iconst (v := 3) (pc := 27) hx hb dzU_countAxle_27 (by decide) ?_
  refine lv_icmp_ge (pc := 28) (tgt := 56) hx hb dzU_countAxle_28 (by decide) (fun hq9 => absurd hq9 (by decide)) (fun _ => ?_)
  refine lv_aload_n (pc := 31) hx hb dzU_countAxle_31 rfl (lv_at hl 3 rfl) ?_
  refine xk_get (pc := 32) hx hb hts hown hK hP ffzU_158 10 rfl rfl dzU_countAxle_32 ?_
  refine lv_iload (pc := 35) hx hb dzU_countAxle_35 (lv_at hl 1 rfl) ?_
  refine xk_aald (q0 := 12) (t0 := 3) (j := 1) (b := (ad 23)) (pc := 37) hx hb hK hP rfl rfl (pk_in 1 3 (by decide)) (pk_cl 1) rfl dzU_countAxle_37 ?_
  refine lv_iload_n (pc := 38) hx hb dzU_countAxle_38 rfl (lv_at hl 5 rfl) ?_
  refine xk_callVV (As := [.int (-1)]) (rest := []) (H0 := s.heap) (pc := 39) hx hb hml hts hown hK hA hP hD hS (kzS_countOut l G ac (ad 23) (g0 23 0) (g0 23 1) (g0 23 2) (g0 23 3) (g0 23 4) (g0 23 5) (g0 23 6) (g0 23 7) (g0 23 8) (-1)) vfzU_289 [23] (by decide) rfl (fun _ => rfl) 23 rfl rfl ⟨rfl, rfl⟩ ⟨Nat.le_of_ble_eq_true rfl, Nat.le_of_ble_eq_true rfl⟩ rfl hl.1 rfl (Nat.le_of_ble_eq_true rfl) ⟨Nat.zero_le _, Nat.zero_le _⟩ dzU_countAxle_39 (fun u9 H locs e9 hP hD hS => ?_)
  obtain ⟨g1, eg1⟩ : ∃ z : xk_St, z = va_up g0 23 (upd (upd (upd (g0 23) 1 (qzS_countOut_a1 (g0 23 1))) 6 (qzS_countOut_a6 (g0 23 6) (-1))) 8 (qzS_countOut_a8 (g0 23 8) (-1))) := ⟨_, rfl⟩
  have hP : va_P G xk_cls (xk_wU ad ac g1) H := by rw [eg1]; exact hP
  have hD : va_D A (xk_wU ad ac g1) := by rw [eg1]; exact hD
  refine lv_aload_n (pc := 42) hx hb dzU_countAxle_42 rfl (lv_at hl 2 rfl) ?_
  refine lv_aload_n (pc := 43) hx hb dzU_countAxle_43 rfl (lv_at hl 3 rfl) ?_
  refine xk_get (pc := 44) hx hb hts hown hK hP ffzU_158 10 rfl rfl dzU_countAxle_44 ?_
  refine lv_iload (pc := 47) hx hb dzU_countAxle_47 (lv_at hl 1 rfl) ?_
  refine xk_aald (q0 := 12) (t0 := 3) (j := 1) (b := (ad 23)) (pc := 49) hx hb hK hP rfl rfl (pk_in 1 3 (by decide)) (pk_cl 1) rfl dzU_countAxle_49 ?_
  refine xk_allVV (As := [.ref (ad 23)]) (rest := []) (H0 := s.heap) (pc := 50) hx hb hml hts hown hK hA hP hD hS (kzU_disturbIfMiscounted_4 l G ac ad g1) vfzU_292 (fun _ => rfl) 0 rfl rfl ⟨rfl, rfl⟩ ⟨Nat.le_of_ble_eq_true rfl, Nat.le_of_ble_eq_true rfl⟩ rfl hl.1 rfl (Nat.le_of_ble_eq_true rfl) ⟨Nat.zero_le _, Nat.zero_le _⟩ dzU_countAxle_50 (fun g2 H locs hg2 hP hD hS => ?_)
  have hP : va_P G xk_cls (xk_wU ad ac g2) H := hP
  have hD : va_D A (xk_wU ad ac g2) := hD
  refine lv_goto (tgt := 75) (pc := 53) hx hb dzU_countAxle_53 (by decide) ?_
  refine lv_iload (pc := 75) hx hb dzU_countAxle_75 (lv_at hl 0 rfl) ?_
  refine lv_if_lt (pc := 77) (tgt := 108) hx hb dzU_countAxle_77 (by decide) (fun hq9 => absurd hq9 (by decide)) (fun _ => ?_)
  refine lv_iload (pc := 80) hx hb dzU_countAxle_80 (lv_at hl 0 rfl) ?_
  refine lv_iconst (v := 3) (pc := 82) hx hb dzU_countAxle_82 (by decide) ?_
  refine lv_icmp_ge (pc := 83) (tgt := 108) hx hb dzU_countAxle_83 (by decide) (fun hq9 => absurd hq9 (by decide)) (fun _ => ?_)
  refine lv_aload_n (pc := 86) hx hb dzU_countAxle_86 rfl (lv_at hl 3 rfl) ?_
  refine xk_get (pc := 87) hx hb hts hown hK hP ffzU_158 10 rfl rfl dzU_countAxle_87 ?_
  refine lv_iload (pc := 90) hx hb dzU_countAxle_90 (lv_at hl 0 rfl) ?_
  refine xk_aald (q0 := 12) (t0 := 3) (j := 0) (b := (ad 22)) (pc := 92) hx hb hK hP rfl rfl (pk_in 0 3 (by decide)) (pk_cl 0) rfl dzU_countAxle_92 ?_
  refine lv_iload_n (pc := 93) hx hb dzU_countAxle_93 rfl (lv_at hl 5 rfl) ?_
  refine xk_callVV (As := [.int (-1)]) (rest := []) (H0 := s.heap) (pc := 94) hx hb hml hts hown hK hA hP hD hS (kzS_countIn l G ac (ad 22) (g2 22 0) (g2 22 1) (g2 22 2) (g2 22 3) (g2 22 4) (g2 22 5) (g2 22 6) (g2 22 7) (g2 22 8) (-1)) vfzU_298 [22] (by decide) rfl (fun _ => rfl) 22 rfl rfl ⟨rfl, rfl⟩ ⟨Nat.le_of_ble_eq_true rfl, Nat.le_of_ble_eq_true rfl⟩ rfl hl.1 rfl (Nat.le_of_ble_eq_true rfl) ⟨Nat.zero_le _, Nat.zero_le _⟩ dzU_countAxle_94 (fun u9 H locs e9 hP hD hS => ?_)
  obtain ⟨g3, eg3⟩ : ∃ z : xk_St, z = va_up g2 22 (upd (upd (upd (g2 22) 1 (qzS_countIn_a1 (g2 22 1))) 5 (qzS_countIn_a5 (g2 22 5) (-1))) 7 (qzS_countIn_a7 (g2 22 7) (-1))) := ⟨_, rfl⟩
  have hP : va_P G xk_cls (xk_wU ad ac g3) H := by rw [eg3]; exact hP
  have hD : va_D A (xk_wU ad ac g3) := by rw [eg3]; exact hD
  refine lv_aload_n (pc := 97) hx hb dzU_countAxle_97 rfl (lv_at hl 2 rfl) ?_
  refine lv_aload_n (pc := 98) hx hb dzU_countAxle_98 rfl (lv_at hl 3 rfl) ?_
  refine xk_get (pc := 99) hx hb hts hown hK hP ffzU_158 10 rfl rfl dzU_countAxle_99 ?_
  refine lv_iload (pc := 102) hx hb dzU_countAxle_102 (lv_at hl 0 rfl) ?_
  refine xk_aald (q0 := 12) (t0 := 3) (j := 0) (b := (ad 22)) (pc := 104) hx hb hK hP rfl rfl (pk_in 0 3 (by decide)) (pk_cl 0) rfl dzU_countAxle_104 ?_
  refine xk_allVV (As := [.ref (ad 22)]) (rest := []) (H0 := s.heap) (pc := 105) hx hb hml hts hown hK hA hP hD hS (kzU_disturbIfMiscounted_3 l G ac ad g3) vfzU_292 (fun _ => rfl) 0 rfl rfl ⟨rfl, rfl⟩ ⟨Nat.le_of_ble_eq_true rfl, Nat.le_of_ble_eq_true rfl⟩ rfl hl.1 rfl (Nat.le_of_ble_eq_true rfl) ⟨Nat.zero_le _, Nat.zero_le _⟩ dzU_countAxle_105 (fun g4 H locs hg4 hP hD hS => ?_)
  have hP : va_P G xk_cls (xk_wU ad ac g4) H := hP
  have hD : va_D A (xk_wU ad ac g4) := hD
  exact hret g4 H locs 108 ls hP hS (by unfold relzU_countAxle_1_1_m; exact ⟨g1, eg1, ⟨g2, hg2, ⟨g3, eg3, ⟨g4, hg4, rfl⟩⟩⟩⟩) dzU_countAxle_108
theorem frzU_countAxle_1_1_m (g0 : xk_St) (gz : xk_St) : relzU_countAxle_1_1_m g0 gz → xk_eqv [0, 1, 2, 3, 4, 9, 10, 11, 12, 13, 14, 15, 16, 17, 18, 19, 20, 21, 24, 25, 26, 27, 28, 29, 30, 31, 32, 33] g0 gz := by
  intro h
  unfold relzU_countAxle_1_1_m at h
  have s0 : xk_eqv [0, 1, 2, 3, 4, 9, 10, 11, 12, 13, 14, 15, 16, 17, 18, 19, 20, 21, 24, 25, 26, 27, 28, 29, 30, 31, 32, 33] g0 g0 := xk_eqv_rf
  obtain ⟨g1, u1, v2⟩ := h
  have s3 : xk_eqv [0, 1, 2, 3, 4, 9, 10, 11, 12, 13, 14, 15, 16, 17, 18, 19, 20, 21, 24, 25, 26, 27, 28, 29, 30, 31, 32, 33] g0 g1 := by rw [u1]; repeat (first | exact s0 | refine xk_eqv_up (by decide) ?_)
  obtain ⟨g2, u4, v5⟩ := v2
  have s6 : xk_eqv [0, 1, 2, 3, 4, 9, 10, 11, 12, 13, 14, 15, 16, 17, 18, 19, 20, 21, 24, 25, 26, 27, 28, 29, 30, 31, 32, 33] g0 g2 := xk_eqv_tr s3 (xk_eqv_sub (frzU_disturbIfMiscounted_4 _ _ u4) (by decide))
  obtain ⟨g3, u7, v8⟩ := v5
  have s9 : xk_eqv [0, 1, 2, 3, 4, 9, 10, 11, 12, 13, 14, 15, 16, 17, 18, 19, 20, 21, 24, 25, 26, 27, 28, 29, 30, 31, 32, 33] g0 g3 := by rw [u7]; repeat (first | exact s6 | refine xk_eqv_up (by decide) ?_)
  obtain ⟨g4, u10, v11⟩ := v8
  have s12 : xk_eqv [0, 1, 2, 3, 4, 9, 10, 11, 12, 13, 14, 15, 16, 17, 18, 19, 20, 21, 24, 25, 26, 27, 28, 29, 30, 31, 32, 33] g0 g4 := xk_eqv_tr s9 (xk_eqv_sub (frzU_disturbIfMiscounted_3 _ _ u10) (by decide))
  rw [v11]; exact s12

def relzU_countAxle_1_2_p (g0 : xk_St) (gz : xk_St) : Prop := ∃ (g1 : xk_St), g1 = va_up g0 23 (upd (upd (upd (g0 23) 1 (qzS_countOut_a1 (g0 23 1))) 6 (qzS_countOut_a6 (g0 23 6) 1)) 8 (qzS_countOut_a8 (g0 23 8) 1)) ∧ (∃ (g2 : xk_St), relzU_disturbIfMiscounted_4 g1 g2 ∧ (∃ (g3 : xk_St), g3 = va_up g2 24 (upd (upd (upd (g2 24) 1 (qzS_countIn_a1 (g2 24 1))) 5 (qzS_countIn_a5 (g2 24 5) 1)) 7 (qzS_countIn_a7 (g2 24 7) 1)) ∧ (∃ (g4 : xk_St), relzU_disturbIfMiscounted_5 g3 g4 ∧ (gz = g4))))
set_option maxHeartbeats 4000000 in
set_option maxRecDepth 100000 in
theorem kzU_countAxle_1_2_p (l : Launch) (G : va_G) (ac : Nat → ClassId) (ad : Nat → Nat) (g0 : xk_St) (k2 : Int32) (hd : k2 = 1) : xk_CV l yzU_countAxle czU_countAxle 6 xk_WS xk_r3 G xk_cls (xk_tys ac) [.ref (ad 0), .ref (ad 10), .int 2, .int k2] (xk_wU ad ac g0) (fun (gz : xk_St) => relzU_countAxle_1_2_p g0 gz) (fun gz => xk_wU ad ac gz) := by
  subst hd
  refine xk_ofV (by decide) (Nat.le_of_ble_eq_true rfl) ?_
  intro p e s m args below meth c A Q H locs ls C0 hret hP hD hS hl
  obtain ⟨hx, hb, hml, hts, hown, hK, hA⟩ := C0
  have hl : lv_has ls 6 [(0, .ref (ad 0)), (1, .ref (ad 10)), (2, .int 2), (3, .int 1)] := hl
  refine lv_iload_n (pc := 0) hx hb dzU_countAxle_0 rfl (lv_at hl 3 rfl) ?_
  refine lv_iconst (v := 1) (pc := 1) hx hb dzU_countAxle_1 (by decide) ?_
  refine lv_icmp_ne (pc := 2) (tgt := 11) hx hb dzU_countAxle_2 (by decide) (fun hq9 => absurd (by decide) hq9) (fun _ => ?_)
  refine lv_iload_n (pc := 5) hx hb dzU_countAxle_5 rfl (lv_at hl 2 rfl) ?_
  refine lv_iconst (v := 1) (pc := 6) hx hb dzU_countAxle_6 (by decide) ?_
  refine lv_isub (pc := 7) hx hb dzU_countAxle_7 ?_
  refine xk_is (y := 1) (by decide) ?_
  refine lv_goto (tgt := 12) (pc := 8) hx hb dzU_countAxle_8 (by decide) ?_
  refine lv_istore (lv' := [(4, .int 1), (0, .ref (ad 0)), (1, .ref (ad 10)), (2, .int 2), (3, .int 1)]) (pc := 12) hx hb dzU_countAxle_12 hl (by decide) rfl (fun ls hl => ?_)
  refine lv_iload (pc := 14) hx hb dzU_countAxle_14 (lv_at hl 0 rfl) ?_
  refine lv_iload_n (pc := 16) hx hb dzU_countAxle_16 rfl (lv_at hl 4 rfl) ?_
  refine lv_iadd (pc := 17) hx hb dzU_countAxle_17 ?_
  refine xk_is (y := 2) (by decide) ?_
  refine lv_istore (lv' := [(5, .int 2), (4, .int 1), (0, .ref (ad 0)), (1, .ref (ad 10)), (2, .int 2), (3, .int 1)]) (pc := 18) hx hb dzU_countAxle_18 hl (by decide) rfl (fun ls hl => ?_)
  refine lv_iload (pc := 20) hx hb dzU_countAxle_20 (lv_at hl 1 rfl) ?_
  refine lv_if_lt (pc := 22) (tgt := 56) hx hb dzU_countAxle_22 (by decide) (fun hq9 => absurd hq9 (by decide)) (fun _ => ?_)
  refine lv_iload (pc := 25) hx hb dzU_countAxle_25 (lv_at hl 1 rfl) ?_
  refine lv_iconst (v := 3) (pc := 27) hx hb dzU_countAxle_27 (by decide) ?_
  refine lv_icmp_ge (pc := 28) (tgt := 56) hx hb dzU_countAxle_28 (by decide) (fun hq9 => absurd hq9 (by decide)) (fun _ => ?_)
  refine lv_aload_n (pc := 31) hx hb dzU_countAxle_31 rfl (lv_at hl 3 rfl) ?_
  refine xk_get (pc := 32) hx hb hts hown hK hP ffzU_158 10 rfl rfl dzU_countAxle_32 ?_
  refine lv_iload (pc := 35) hx hb dzU_countAxle_35 (lv_at hl 1 rfl) ?_
  refine xk_aald (q0 := 12) (t0 := 3) (j := 1) (b := (ad 23)) (pc := 37) hx hb hK hP rfl rfl (pk_in 1 3 (by decide)) (pk_cl 1) rfl dzU_countAxle_37 ?_
  refine lv_iload_n (pc := 38) hx hb dzU_countAxle_38 rfl (lv_at hl 5 rfl) ?_
  refine xk_callVV (As := [.int 1]) (rest := []) (H0 := s.heap) (pc := 39) hx hb hml hts hown hK hA hP hD hS (kzS_countOut l G ac (ad 23) (g0 23 0) (g0 23 1) (g0 23 2) (g0 23 3) (g0 23 4) (g0 23 5) (g0 23 6) (g0 23 7) (g0 23 8) 1) vfzU_289 [23] (by decide) rfl (fun _ => rfl) 23 rfl rfl ⟨rfl, rfl⟩ ⟨Nat.le_of_ble_eq_true rfl, Nat.le_of_ble_eq_true rfl⟩ rfl hl.1 rfl (Nat.le_of_ble_eq_true rfl) ⟨Nat.zero_le _, Nat.zero_le _⟩ dzU_countAxle_39 (fun u9 H locs e9 hP hD hS => ?_)
  obtain ⟨g1, eg1⟩ : ∃ z : xk_St, z = va_up g0 23 (upd (upd (upd (g0 23) 1 (qzS_countOut_a1 (g0 23 1))) 6 (qzS_countOut_a6 (g0 23 6) 1)) 8 (qzS_countOut_a8 (g0 23 8) 1)) := ⟨_, rfl⟩
  have hP : va_P G xk_cls (xk_wU ad ac g1) H := by rw [eg1]; exact hP
  have hD : va_D A (xk_wU ad ac g1) := by rw [eg1]; exact hD
  refine lv_aload_n (pc := 42) hx hb dzU_countAxle_42 rfl (lv_at hl 2 rfl) ?_
  refine lv_aload_n (pc := 43) hx hb dzU_countAxle_43 rfl (lv_at hl 3 rfl) ?_
  refine xk_get (pc := 44) hx hb hts hown hK hP ffzU_158 10 rfl rfl dzU_countAxle_44 ?_
  refine lv_iload (pc := 47) hx hb dzU_countAxle_47 (lv_at hl 1 rfl) ?_
  refine xk_aald (q0 := 12) (t0 := 3) (j := 1) (b := (ad 23)) (pc := 49) hx hb hK hP rfl rfl (pk_in 1 3 (by decide)) (pk_cl 1) rfl dzU_countAxle_49 ?_
  refine xk_allVV (As := [.ref (ad 23)]) (rest := []) (H0 := s.heap) (pc := 50) hx hb hml hts hown hK hA hP hD hS (kzU_disturbIfMiscounted_4 l G ac ad g1) vfzU_292 (fun _ => rfl) 0 rfl rfl ⟨rfl, rfl⟩ ⟨Nat.le_of_ble_eq_true rfl, Nat.le_of_ble_eq_true rfl⟩ rfl hl.1 rfl (Nat.le_of_ble_eq_true rfl) ⟨Nat.zero_le _, Nat.zero_le _⟩ dzU_countAxle_50 (fun g2 H locs hg2 hP hD hS => ?_)
  have hP : va_P G xk_cls (xk_wU ad ac g2) H := hP
  have hD : va_D A (xk_wU ad ac g2) := hD
  refine lv_goto (tgt := 75) (pc := 53) hx hb dzU_countAxle_53 (by decide) ?_
  refine lv_iload (pc := 75) hx hb dzU_countAxle_75 (lv_at hl 0 rfl) ?_
  refine lv_if_lt (pc := 77) (tgt := 108) hx hb dzU_countAxle_77 (by decide) (fun hq9 => absurd hq9 (by decide)) (fun _ => ?_)
  refine lv_iload (pc := 80) hx hb dzU_countAxle_80 (lv_at hl 0 rfl) ?_
  refine lv_iconst (v := 3) (pc := 82) hx hb dzU_countAxle_82 (by decide) ?_
  refine lv_icmp_ge (pc := 83) (tgt := 108) hx hb dzU_countAxle_83 (by decide) (fun hq9 => absurd hq9 (by decide)) (fun _ => ?_)
  refine lv_aload_n (pc := 86) hx hb dzU_countAxle_86 rfl (lv_at hl 3 rfl) ?_
  refine xk_get (pc := 87) hx hb hts hown hK hP ffzU_158 10 rfl rfl dzU_countAxle_87 ?_
  refine lv_iload (pc := 90) hx hb dzU_countAxle_90 (lv_at hl 0 rfl) ?_
  refine xk_aald (q0 := 12) (t0 := 3) (j := 2) (b := (ad 24)) (pc := 92) hx hb hK hP rfl rfl (pk_in 2 3 (by decide)) (pk_cl 2) rfl dzU_countAxle_92 ?_
  refine lv_iload_n (pc := 93) hx hb dzU_countAxle_93 rfl (lv_at hl 5 rfl) ?_
  refine xk_callVV (As := [.int 1]) (rest := []) (H0 := s.heap) (pc := 94) hx hb hml hts hown hK hA hP hD hS (kzS_countIn l G ac (ad 24) (g2 24 0) (g2 24 1) (g2 24 2) (g2 24 3) (g2 24 4) (g2 24 5) (g2 24 6) (g2 24 7) (g2 24 8) 1) vfzU_298 [24] (by decide) rfl (fun _ => rfl) 24 rfl rfl ⟨rfl, rfl⟩ ⟨Nat.le_of_ble_eq_true rfl, Nat.le_of_ble_eq_true rfl⟩ rfl hl.1 rfl (Nat.le_of_ble_eq_true rfl) ⟨Nat.zero_le _, Nat.zero_le _⟩ dzU_countAxle_94 (fun u9 H locs e9 hP hD hS => ?_)
  obtain ⟨g3, eg3⟩ : ∃ z : xk_St, z = va_up g2 24 (upd (upd (upd (g2 24) 1 (qzS_countIn_a1 (g2 24 1))) 5 (qzS_countIn_a5 (g2 24 5) 1)) 7 (qzS_countIn_a7 (g2 24 7) 1)) := ⟨_, rfl⟩
  have hP : va_P G xk_cls (xk_wU ad ac g3) H := by rw [eg3]; exact hP
  have hD : va_D A (xk_wU ad ac g3) := by rw [eg3]; exact hD
  refine lv_aload_n (pc := 97) hx hb dzU_countAxle_97 rfl (lv_at hl 2 rfl) ?_
  refine lv_aload_n (pc := 98) hx hb dzU_countAxle_98 rfl (lv_at hl 3 rfl) ?_
  refine xk_get (pc := 99) hx hb hts hown hK hP ffzU_158 10 rfl rfl dzU_countAxle_99 ?_
  refine lv_iload (pc := 102) hx hb dzU_countAxle_102 (lv_at hl 0 rfl) ?_
  refine xk_aald (q0 := 12) (t0 := 3) (j := 2) (b := (ad 24)) (pc := 104) hx hb hK hP rfl rfl (pk_in 2 3 (by decide)) (pk_cl 2) rfl dzU_countAxle_104 ?_
  refine xk_allVV (As := [.ref (ad 24)]) (rest := []) (H0 := s.heap) (pc := 105) hx hb hml hts hown hK hA hP hD hS (kzU_disturbIfMiscounted_5 l G ac ad g3) vfzU_292 (fun _ => rfl) 0 rfl rfl ⟨rfl, rfl⟩ ⟨Nat.le_of_ble_eq_true rfl, Nat.le_of_ble_eq_true rfl⟩ rfl hl.1 rfl (Nat.le_of_ble_eq_true rfl) ⟨Nat.zero_le _, Nat.zero_le _⟩ dzU_countAxle_105 (fun g4 H locs hg4 hP hD hS => ?_)
  have hP : va_P G xk_cls (xk_wU ad ac g4) H := hP
  have hD : va_D A (xk_wU ad ac g4) := hD
  exact hret g4 H locs 108 ls hP hS (by unfold relzU_countAxle_1_2_p; exact ⟨g1, eg1, ⟨g2, hg2, ⟨g3, eg3, ⟨g4, hg4, rfl⟩⟩⟩⟩) dzU_countAxle_108
theorem frzU_countAxle_1_2_p (g0 : xk_St) (gz : xk_St) : relzU_countAxle_1_2_p g0 gz → xk_eqv [0, 1, 2, 3, 4, 9, 10, 11, 12, 13, 14, 15, 16, 17, 18, 19, 20, 21, 22, 25, 26, 27, 28, 29, 30, 31, 32, 33] g0 gz := by
  intro h
  unfold relzU_countAxle_1_2_p at h
  have s0 : xk_eqv [0, 1, 2, 3, 4, 9, 10, 11, 12, 13, 14, 15, 16, 17, 18, 19, 20, 21, 22, 25, 26, 27, 28, 29, 30, 31, 32, 33] g0 g0 := xk_eqv_rf
  obtain ⟨g1, u1, v2⟩ := h
  have s3 : xk_eqv [0, 1, 2, 3, 4, 9, 10, 11, 12, 13, 14, 15, 16, 17, 18, 19, 20, 21, 22, 25, 26, 27, 28, 29, 30, 31, 32, 33] g0 g1 := by rw [u1]; repeat (first | exact s0 | refine xk_eqv_up (by decide) ?_)
  obtain ⟨g2, u4, v5⟩ := v2
  have s6 : xk_eqv [0, 1, 2, 3, 4, 9, 10, 11, 12, 13, 14, 15, 16, 17, 18, 19, 20, 21, 22, 25, 26, 27, 28, 29, 30, 31, 32, 33] g0 g2 := xk_eqv_tr s3 (xk_eqv_sub (frzU_disturbIfMiscounted_4 _ _ u4) (by decide))
  obtain ⟨g3, u7, v8⟩ := v5
  have s9 : xk_eqv [0, 1, 2, 3, 4, 9, 10, 11, 12, 13, 14, 15, 16, 17, 18, 19, 20, 21, 22, 25, 26, 27, 28, 29, 30, 31, 32, 33] g0 g3 := by rw [u7]; repeat (first | exact s6 | refine xk_eqv_up (by decide) ?_)
  obtain ⟨g4, u10, v11⟩ := v8
  have s12 : xk_eqv [0, 1, 2, 3, 4, 9, 10, 11, 12, 13, 14, 15, 16, 17, 18, 19, 20, 21, 22, 25, 26, 27, 28, 29, 30, 31, 32, 33] g0 g4 := xk_eqv_tr s9 (xk_eqv_sub (frzU_disturbIfMiscounted_5 _ _ u10) (by decide))
  rw [v11]; exact s12

def relzU_countAxle_1_2_m (g0 : xk_St) (gz : xk_St) : Prop := ∃ (g1 : xk_St), g1 = va_up g0 24 (upd (upd (upd (g0 24) 1 (qzS_countOut_a1 (g0 24 1))) 6 (qzS_countOut_a6 (g0 24 6) (-1))) 8 (qzS_countOut_a8 (g0 24 8) (-1))) ∧ (∃ (g2 : xk_St), relzU_disturbIfMiscounted_5 g1 g2 ∧ (∃ (g3 : xk_St), g3 = va_up g2 23 (upd (upd (upd (g2 23) 1 (qzS_countIn_a1 (g2 23 1))) 5 (qzS_countIn_a5 (g2 23 5) (-1))) 7 (qzS_countIn_a7 (g2 23 7) (-1))) ∧ (∃ (g4 : xk_St), relzU_disturbIfMiscounted_4 g3 g4 ∧ (gz = g4))))
set_option maxHeartbeats 4000000 in
set_option maxRecDepth 100000 in
theorem kzU_countAxle_1_2_m (l : Launch) (G : va_G) (ac : Nat → ClassId) (ad : Nat → Nat) (g0 : xk_St) (k2 : Int32) (hd : k2 = (-1)) : xk_CV l yzU_countAxle czU_countAxle 6 xk_WS xk_r3 G xk_cls (xk_tys ac) [.ref (ad 0), .ref (ad 10), .int 2, .int k2] (xk_wU ad ac g0) (fun (gz : xk_St) => relzU_countAxle_1_2_m g0 gz) (fun gz => xk_wU ad ac gz) := by
  subst hd
  refine xk_ofV (by decide) (Nat.le_of_ble_eq_true rfl) ?_
  intro p e s m args below meth c A Q H locs ls C0 hret hP hD hS hl
  obtain ⟨hx, hb, hml, hts, hown, hK, hA⟩ := C0
  have hl : lv_has ls 6 [(0, .ref (ad 0)), (1, .ref (ad 10)), (2, .int 2), (3, .int (-1))] := hl
  refine lv_iload_n (pc := 0) hx hb dzU_countAxle_0 rfl (lv_at hl 3 rfl) ?_
  refine lv_iconst (v := 1) (pc := 1) hx hb dzU_countAxle_1 (by decide) ?_
  refine lv_icmp_ne (pc := 2) (tgt := 11) hx hb dzU_countAxle_2 (by decide) (fun _ => ?_) (fun hq9 => absurd hq9 (by decide))
  refine lv_iload_n (pc := 11) hx hb dzU_countAxle_11 rfl (lv_at hl 2 rfl) ?_
  refine lv_istore (lv' := [(4, .int 2), (0, .ref (ad 0)), (1, .ref (ad 10)), (2, .int 2), (3, .int (-1))]) (pc := 12) hx hb dzU_countAxle_12 hl (by decide) rfl (fun ls hl => ?_)
  refine lv_iload (pc := 14) hx hb dzU_countAxle_14 (lv_at hl 0 rfl) ?_
  refine lv_iload_n (pc := 16) hx hb dzU_countAxle_16 rfl (lv_at hl 4 rfl) ?_
  refine lv_iadd (pc := 17) hx hb dzU_countAxle_17 ?_
  refine xk_is (y := 1) (by decide) ?_
  refine lv_istore (lv' := [(5, .int 1), (4, .int 2), (0, .ref (ad 0)), (1, .ref (ad 10)), (2, .int 2), (3, .int (-1))]) (pc := 18) hx hb dzU_countAxle_18 hl (by decide) rfl (fun ls hl => ?_)
  refine lv_iload (pc := 20) hx hb dzU_countAxle_20 (lv_at hl 1 rfl) ?_
  refine lv_if_lt (pc := 22) (tgt := 56) hx hb dzU_countAxle_22 (by decide) (fun hq9 => absurd hq9 (by decide)) (fun _ => ?_)
  refine lv_iload (pc := 25) hx hb dzU_countAxle_25 (lv_at hl 1 rfl) ?_
  refine lv_iconst (v := 3) (pc := 27) hx hb dzU_countAxle_27 (by decide) ?_
  refine lv_icmp_ge (pc := 28) (tgt := 56) hx hb dzU_countAxle_28 (by decide) (fun hq9 => absurd hq9 (by decide)) (fun _ => ?_)
  refine lv_aload_n (pc := 31) hx hb dzU_countAxle_31 rfl (lv_at hl 3 rfl) ?_
  refine xk_get (pc := 32) hx hb hts hown hK hP ffzU_158 10 rfl rfl dzU_countAxle_32 ?_
  refine lv_iload (pc := 35) hx hb dzU_countAxle_35 (lv_at hl 1 rfl) ?_
  refine xk_aald (q0 := 12) (t0 := 3) (j := 2) (b := (ad 24)) (pc := 37) hx hb hK hP rfl rfl (pk_in 2 3 (by decide)) (pk_cl 2) rfl dzU_countAxle_37 ?_
  refine lv_iload_n (pc := 38) hx hb dzU_countAxle_38 rfl (lv_at hl 5 rfl) ?_
  refine xk_callVV (As := [.int (-1)]) (rest := []) (H0 := s.heap) (pc := 39) hx hb hml hts hown hK hA hP hD hS (kzS_countOut l G ac (ad 24) (g0 24 0) (g0 24 1) (g0 24 2) (g0 24 3) (g0 24 4) (g0 24 5) (g0 24 6) (g0 24 7) (g0 24 8) (-1)) vfzU_289 [24] (by decide) rfl (fun _ => rfl) 24 rfl rfl ⟨rfl, rfl⟩ ⟨Nat.le_of_ble_eq_true rfl, Nat.le_of_ble_eq_true rfl⟩ rfl hl.1 rfl (Nat.le_of_ble_eq_true rfl) ⟨Nat.zero_le _, Nat.zero_le _⟩ dzU_countAxle_39 (fun u9 H locs e9 hP hD hS => ?_)
  obtain ⟨g1, eg1⟩ : ∃ z : xk_St, z = va_up g0 24 (upd (upd (upd (g0 24) 1 (qzS_countOut_a1 (g0 24 1))) 6 (qzS_countOut_a6 (g0 24 6) (-1))) 8 (qzS_countOut_a8 (g0 24 8) (-1))) := ⟨_, rfl⟩
  have hP : va_P G xk_cls (xk_wU ad ac g1) H := by rw [eg1]; exact hP
  have hD : va_D A (xk_wU ad ac g1) := by rw [eg1]; exact hD
  refine lv_aload_n (pc := 42) hx hb dzU_countAxle_42 rfl (lv_at hl 2 rfl) ?_
  refine lv_aload_n (pc := 43) hx hb dzU_countAxle_43 rfl (lv_at hl 3 rfl) ?_
  refine xk_get (pc := 44) hx hb hts hown hK hP ffzU_158 10 rfl rfl dzU_countAxle_44 ?_
  refine lv_iload (pc := 47) hx hb dzU_countAxle_47 (lv_at hl 1 rfl) ?_
  refine xk_aald (q0 := 12) (t0 := 3) (j := 2) (b := (ad 24)) (pc := 49) hx hb hK hP rfl rfl (pk_in 2 3 (by decide)) (pk_cl 2) rfl dzU_countAxle_49 ?_
  refine xk_allVV (As := [.ref (ad 24)]) (rest := []) (H0 := s.heap) (pc := 50) hx hb hml hts hown hK hA hP hD hS (kzU_disturbIfMiscounted_5 l G ac ad g1) vfzU_292 (fun _ => rfl) 0 rfl rfl ⟨rfl, rfl⟩ ⟨Nat.le_of_ble_eq_true rfl, Nat.le_of_ble_eq_true rfl⟩ rfl hl.1 rfl (Nat.le_of_ble_eq_true rfl) ⟨Nat.zero_le _, Nat.zero_le _⟩ dzU_countAxle_50 (fun g2 H locs hg2 hP hD hS => ?_)
  have hP : va_P G xk_cls (xk_wU ad ac g2) H := hP
  have hD : va_D A (xk_wU ad ac g2) := hD
  refine lv_goto (tgt := 75) (pc := 53) hx hb dzU_countAxle_53 (by decide) ?_
  refine lv_iload (pc := 75) hx hb dzU_countAxle_75 (lv_at hl 0 rfl) ?_
  refine lv_if_lt (pc := 77) (tgt := 108) hx hb dzU_countAxle_77 (by decide) (fun hq9 => absurd hq9 (by decide)) (fun _ => ?_)
  refine lv_iload (pc := 80) hx hb dzU_countAxle_80 (lv_at hl 0 rfl) ?_
  refine lv_iconst (v := 3) (pc := 82) hx hb dzU_countAxle_82 (by decide) ?_
  refine lv_icmp_ge (pc := 83) (tgt := 108) hx hb dzU_countAxle_83 (by decide) (fun hq9 => absurd hq9 (by decide)) (fun _ => ?_)
  refine lv_aload_n (pc := 86) hx hb dzU_countAxle_86 rfl (lv_at hl 3 rfl) ?_
  refine xk_get (pc := 87) hx hb hts hown hK hP ffzU_158 10 rfl rfl dzU_countAxle_87 ?_
  refine lv_iload (pc := 90) hx hb dzU_countAxle_90 (lv_at hl 0 rfl) ?_
  refine xk_aald (q0 := 12) (t0 := 3) (j := 1) (b := (ad 23)) (pc := 92) hx hb hK hP rfl rfl (pk_in 1 3 (by decide)) (pk_cl 1) rfl dzU_countAxle_92 ?_
  refine lv_iload_n (pc := 93) hx hb dzU_countAxle_93 rfl (lv_at hl 5 rfl) ?_
  refine xk_callVV (As := [.int (-1)]) (rest := []) (H0 := s.heap) (pc := 94) hx hb hml hts hown hK hA hP hD hS (kzS_countIn l G ac (ad 23) (g2 23 0) (g2 23 1) (g2 23 2) (g2 23 3) (g2 23 4) (g2 23 5) (g2 23 6) (g2 23 7) (g2 23 8) (-1)) vfzU_298 [23] (by decide) rfl (fun _ => rfl) 23 rfl rfl ⟨rfl, rfl⟩ ⟨Nat.le_of_ble_eq_true rfl, Nat.le_of_ble_eq_true rfl⟩ rfl hl.1 rfl (Nat.le_of_ble_eq_true rfl) ⟨Nat.zero_le _, Nat.zero_le _⟩ dzU_countAxle_94 (fun u9 H locs e9 hP hD hS => ?_)
  obtain ⟨g3, eg3⟩ : ∃ z : xk_St, z = va_up g2 23 (upd (upd (upd (g2 23) 1 (qzS_countIn_a1 (g2 23 1))) 5 (qzS_countIn_a5 (g2 23 5) (-1))) 7 (qzS_countIn_a7 (g2 23 7) (-1))) := ⟨_, rfl⟩
  have hP : va_P G xk_cls (xk_wU ad ac g3) H := by rw [eg3]; exact hP
  have hD : va_D A (xk_wU ad ac g3) := by rw [eg3]; exact hD
  refine lv_aload_n (pc := 97) hx hb dzU_countAxle_97 rfl (lv_at hl 2 rfl) ?_
  refine lv_aload_n (pc := 98) hx hb dzU_countAxle_98 rfl (lv_at hl 3 rfl) ?_
  refine xk_get (pc := 99) hx hb hts hown hK hP ffzU_158 10 rfl rfl dzU_countAxle_99 ?_
  refine lv_iload (pc := 102) hx hb dzU_countAxle_102 (lv_at hl 0 rfl) ?_
  refine xk_aald (q0 := 12) (t0 := 3) (j := 1) (b := (ad 23)) (pc := 104) hx hb hK hP rfl rfl (pk_in 1 3 (by decide)) (pk_cl 1) rfl dzU_countAxle_104 ?_
  refine xk_allVV (As := [.ref (ad 23)]) (rest := []) (H0 := s.heap) (pc := 105) hx hb hml hts hown hK hA hP hD hS (kzU_disturbIfMiscounted_4 l G ac ad g3) vfzU_292 (fun _ => rfl) 0 rfl rfl ⟨rfl, rfl⟩ ⟨Nat.le_of_ble_eq_true rfl, Nat.le_of_ble_eq_true rfl⟩ rfl hl.1 rfl (Nat.le_of_ble_eq_true rfl) ⟨Nat.zero_le _, Nat.zero_le _⟩ dzU_countAxle_105 (fun g4 H locs hg4 hP hD hS => ?_)
  have hP : va_P G xk_cls (xk_wU ad ac g4) H := hP
  have hD : va_D A (xk_wU ad ac g4) := hD
  exact hret g4 H locs 108 ls hP hS (by unfold relzU_countAxle_1_2_m; exact ⟨g1, eg1, ⟨g2, hg2, ⟨g3, eg3, ⟨g4, hg4, rfl⟩⟩⟩⟩) dzU_countAxle_108
theorem frzU_countAxle_1_2_m (g0 : xk_St) (gz : xk_St) : relzU_countAxle_1_2_m g0 gz → xk_eqv [0, 1, 2, 3, 4, 9, 10, 11, 12, 13, 14, 15, 16, 17, 18, 19, 20, 21, 22, 25, 26, 27, 28, 29, 30, 31, 32, 33] g0 gz := by
  intro h
  unfold relzU_countAxle_1_2_m at h
  have s0 : xk_eqv [0, 1, 2, 3, 4, 9, 10, 11, 12, 13, 14, 15, 16, 17, 18, 19, 20, 21, 22, 25, 26, 27, 28, 29, 30, 31, 32, 33] g0 g0 := xk_eqv_rf
  obtain ⟨g1, u1, v2⟩ := h
  have s3 : xk_eqv [0, 1, 2, 3, 4, 9, 10, 11, 12, 13, 14, 15, 16, 17, 18, 19, 20, 21, 22, 25, 26, 27, 28, 29, 30, 31, 32, 33] g0 g1 := by rw [u1]; repeat (first | exact s0 | refine xk_eqv_up (by decide) ?_)
  obtain ⟨g2, u4, v5⟩ := v2
  have s6 : xk_eqv [0, 1, 2, 3, 4, 9, 10, 11, 12, 13, 14, 15, 16, 17, 18, 19, 20, 21, 22, 25, 26, 27, 28, 29, 30, 31, 32, 33] g0 g2 := xk_eqv_tr s3 (xk_eqv_sub (frzU_disturbIfMiscounted_5 _ _ u4) (by decide))
  obtain ⟨g3, u7, v8⟩ := v5
  have s9 : xk_eqv [0, 1, 2, 3, 4, 9, 10, 11, 12, 13, 14, 15, 16, 17, 18, 19, 20, 21, 22, 25, 26, 27, 28, 29, 30, 31, 32, 33] g0 g3 := by rw [u7]; repeat (first | exact s6 | refine xk_eqv_up (by decide) ?_)
  obtain ⟨g4, u10, v11⟩ := v8
  have s12 : xk_eqv [0, 1, 2, 3, 4, 9, 10, 11, 12, 13, 14, 15, 16, 17, 18, 19, 20, 21, 22, 25, 26, 27, 28, 29, 30, 31, 32, 33] g0 g4 := xk_eqv_tr s9 (xk_eqv_sub (frzU_disturbIfMiscounted_4 _ _ u10) (by decide))
  rw [v11]; exact s12

def relzU_countAxle_1_3_p (g0 : xk_St) (gz : xk_St) : Prop := ∃ (g1 : xk_St), g1 = va_up g0 24 (upd (upd (upd (g0 24) 1 (qzS_countOut_a1 (g0 24 1))) 6 (qzS_countOut_a6 (g0 24 6) 1)) 8 (qzS_countOut_a8 (g0 24 8) 1)) ∧ (∃ (g2 : xk_St), relzU_disturbIfMiscounted_5 g1 g2 ∧ (gz = g2))
set_option maxHeartbeats 4000000 in
set_option maxRecDepth 100000 in
theorem kzU_countAxle_1_3_p (l : Launch) (G : va_G) (ac : Nat → ClassId) (ad : Nat → Nat) (g0 : xk_St) (k2 : Int32) (hd : k2 = 1) : xk_CV l yzU_countAxle czU_countAxle 6 xk_WS xk_r3 G xk_cls (xk_tys ac) [.ref (ad 0), .ref (ad 10), .int 3, .int k2] (xk_wU ad ac g0) (fun (gz : xk_St) => relzU_countAxle_1_3_p g0 gz) (fun gz => xk_wU ad ac gz) := by
  subst hd
  refine xk_ofV (by decide) (Nat.le_of_ble_eq_true rfl) ?_
  intro p e s m args below meth c A Q H locs ls C0 hret hP hD hS hl
  obtain ⟨hx, hb, hml, hts, hown, hK, hA⟩ := C0
  have hl : lv_has ls 6 [(0, .ref (ad 0)), (1, .ref (ad 10)), (2, .int 3), (3, .int 1)] := hl
  refine lv_iload_n (pc := 0) hx hb dzU_countAxle_0 rfl (lv_at hl 3 rfl) ?_
  refine lv_iconst (v := 1) (pc := 1) hx hb dzU_countAxle_1 (by decide) ?_
  refine lv_icmp_ne (pc := 2) (tgt := 11) hx hb dzU_countAxle_2 (by decide) (fun hq9 => absurd (by decide) hq9) (fun _ => ?_)
  refine lv_iload_n (pc := 5) hx hb dzU_countAxle_5 rfl (lv_at hl 2 rfl) ?_
  refine lv_iconst (v := 1) (pc := 6) hx hb dzU_countAxle_6 (by decide) ?_
  refine lv_isub (pc := 7) hx hb dzU_countAxle_7 ?_
  refine xk_is (y := 2) (by decide) ?_
  refine lv_goto (tgt := 12) (pc := 8) hx hb dzU_countAxle_8 (by decide) ?_
  refine lv_istore (lv' := [(4, .int 2), (0, .ref (ad 0)), (1, .ref (ad 10)), (2, .int 3), (3, .int 1)]) (pc := 12) hx hb dzU_countAxle_12 hl (by decide) rfl (fun ls hl => ?_)
  refine lv_iload (pc := 14) hx hb dzU_countAxle_14 (lv_at hl 0 rfl) ?_
  refine lv_iload_n (pc := 16) hx hb dzU_countAxle_16 rfl (lv_at hl 4 rfl) ?_
  refine lv_iadd (pc := 17) hx hb dzU_countAxle_17 ?_
  refine xk_is (y := 3) (by decide) ?_
  refine lv_istore (lv' := [(5, .int 3), (4, .int 2), (0, .ref (ad 0)), (1, .ref (ad 10)), (2, .int 3), (3, .int 1)]) (pc := 18) hx hb dzU_countAxle_18 hl (by decide) rfl (fun ls hl => ?_)
  refine lv_iload (pc := 20) hx hb dzU_countAxle_20 (lv_at hl 1 rfl) ?_
  refine lv_if_lt (pc := 22) (tgt := 56) hx hb dzU_countAxle_22 (by decide) (fun hq9 => absurd hq9 (by decide)) (fun _ => ?_)
  refine lv_iload (pc := 25) hx hb dzU_countAxle_25 (lv_at hl 1 rfl) ?_
  refine lv_iconst (v := 3) (pc := 27) hx hb dzU_countAxle_27 (by decide) ?_
  refine lv_icmp_ge (pc := 28) (tgt := 56) hx hb dzU_countAxle_28 (by decide) (fun hq9 => absurd hq9 (by decide)) (fun _ => ?_)
  refine lv_aload_n (pc := 31) hx hb dzU_countAxle_31 rfl (lv_at hl 3 rfl) ?_
  refine xk_get (pc := 32) hx hb hts hown hK hP ffzU_158 10 rfl rfl dzU_countAxle_32 ?_
  refine lv_iload (pc := 35) hx hb dzU_countAxle_35 (lv_at hl 1 rfl) ?_
  refine xk_aald (q0 := 12) (t0 := 3) (j := 2) (b := (ad 24)) (pc := 37) hx hb hK hP rfl rfl (pk_in 2 3 (by decide)) (pk_cl 2) rfl dzU_countAxle_37 ?_
  refine lv_iload_n (pc := 38) hx hb dzU_countAxle_38 rfl (lv_at hl 5 rfl) ?_
  refine xk_callVV (As := [.int 1]) (rest := []) (H0 := s.heap) (pc := 39) hx hb hml hts hown hK hA hP hD hS (kzS_countOut l G ac (ad 24) (g0 24 0) (g0 24 1) (g0 24 2) (g0 24 3) (g0 24 4) (g0 24 5) (g0 24 6) (g0 24 7) (g0 24 8) 1) vfzU_289 [24] (by decide) rfl (fun _ => rfl) 24 rfl rfl ⟨rfl, rfl⟩ ⟨Nat.le_of_ble_eq_true rfl, Nat.le_of_ble_eq_true rfl⟩ rfl hl.1 rfl (Nat.le_of_ble_eq_true rfl) ⟨Nat.zero_le _, Nat.zero_le _⟩ dzU_countAxle_39 (fun u9 H locs e9 hP hD hS => ?_)
  obtain ⟨g1, eg1⟩ : ∃ z : xk_St, z = va_up g0 24 (upd (upd (upd (g0 24) 1 (qzS_countOut_a1 (g0 24 1))) 6 (qzS_countOut_a6 (g0 24 6) 1)) 8 (qzS_countOut_a8 (g0 24 8) 1)) := ⟨_, rfl⟩
  have hP : va_P G xk_cls (xk_wU ad ac g1) H := by rw [eg1]; exact hP
  have hD : va_D A (xk_wU ad ac g1) := by rw [eg1]; exact hD
  refine lv_aload_n (pc := 42) hx hb dzU_countAxle_42 rfl (lv_at hl 2 rfl) ?_
  refine lv_aload_n (pc := 43) hx hb dzU_countAxle_43 rfl (lv_at hl 3 rfl) ?_
  refine xk_get (pc := 44) hx hb hts hown hK hP ffzU_158 10 rfl rfl dzU_countAxle_44 ?_
  refine lv_iload (pc := 47) hx hb dzU_countAxle_47 (lv_at hl 1 rfl) ?_
  refine xk_aald (q0 := 12) (t0 := 3) (j := 2) (b := (ad 24)) (pc := 49) hx hb hK hP rfl rfl (pk_in 2 3 (by decide)) (pk_cl 2) rfl dzU_countAxle_49 ?_
  refine xk_allVV (As := [.ref (ad 24)]) (rest := []) (H0 := s.heap) (pc := 50) hx hb hml hts hown hK hA hP hD hS (kzU_disturbIfMiscounted_5 l G ac ad g1) vfzU_292 (fun _ => rfl) 0 rfl rfl ⟨rfl, rfl⟩ ⟨Nat.le_of_ble_eq_true rfl, Nat.le_of_ble_eq_true rfl⟩ rfl hl.1 rfl (Nat.le_of_ble_eq_true rfl) ⟨Nat.zero_le _, Nat.zero_le _⟩ dzU_countAxle_50 (fun g2 H locs hg2 hP hD hS => ?_)
  have hP : va_P G xk_cls (xk_wU ad ac g2) H := hP
  have hD : va_D A (xk_wU ad ac g2) := hD
  refine lv_goto (tgt := 75) (pc := 53) hx hb dzU_countAxle_53 (by decide) ?_
  refine lv_iload (pc := 75) hx hb dzU_countAxle_75 (lv_at hl 0 rfl) ?_
  refine lv_if_lt (pc := 77) (tgt := 108) hx hb dzU_countAxle_77 (by decide) (fun hq9 => absurd hq9 (by decide)) (fun _ => ?_)
  refine lv_iload (pc := 80) hx hb dzU_countAxle_80 (lv_at hl 0 rfl) ?_
  refine lv_iconst (v := 3) (pc := 82) hx hb dzU_countAxle_82 (by decide) ?_
  refine lv_icmp_ge (pc := 83) (tgt := 108) hx hb dzU_countAxle_83 (by decide) (fun _ => ?_) (fun hq9 => absurd (by decide) hq9)
  exact hret g2 H locs 108 ls hP hS (by unfold relzU_countAxle_1_3_p; exact ⟨g1, eg1, ⟨g2, hg2, rfl⟩⟩) dzU_countAxle_108
theorem frzU_countAxle_1_3_p (g0 : xk_St) (gz : xk_St) : relzU_countAxle_1_3_p g0 gz → xk_eqv [0, 1, 2, 3, 4, 9, 10, 11, 12, 13, 14, 15, 16, 17, 18, 19, 20, 21, 22, 23, 25, 26, 27, 28, 29, 30, 31, 32, 33] g0 gz := by
  intro h
  unfold relzU_countAxle_1_3_p at h
  have s0 : xk_eqv [0, 1, 2, 3, 4, 9, 10, 11, 12, 13, 14, 15, 16, 17, 18, 19, 20, 21, 22, 23, 25, 26, 27, 28, 29, 30, 31, 32, 33] g0 g0 := xk_eqv_rf
  obtain ⟨g1, u1, v2⟩ := h
  have s3 : xk_eqv [0, 1, 2, 3, 4, 9, 10, 11, 12, 13, 14, 15, 16, 17, 18, 19, 20, 21, 22, 23, 25, 26, 27, 28, 29, 30, 31, 32, 33] g0 g1 := by rw [u1]; repeat (first | exact s0 | refine xk_eqv_up (by decide) ?_)
  obtain ⟨g2, u4, v5⟩ := v2
  have s6 : xk_eqv [0, 1, 2, 3, 4, 9, 10, 11, 12, 13, 14, 15, 16, 17, 18, 19, 20, 21, 22, 23, 25, 26, 27, 28, 29, 30, 31, 32, 33] g0 g2 := xk_eqv_tr s3 (xk_eqv_sub (frzU_disturbIfMiscounted_5 _ _ u4) (by decide))
  rw [v5]; exact s6

def relzU_countAxle_1_3_m (g0 : xk_St) (gz : xk_St) : Prop := ∃ (g1 : xk_St), g1 = va_up g0 28 (upd (g0 28) 2 1) ∧ (∃ (g2 : xk_St), g2 = va_up g1 24 (upd (upd (upd (g1 24) 1 (qzS_countIn_a1 (g1 24 1))) 5 (qzS_countIn_a5 (g1 24 5) (-1))) 7 (qzS_countIn_a7 (g1 24 7) (-1))) ∧ (∃ (g3 : xk_St), relzU_disturbIfMiscounted_5 g2 g3 ∧ (gz = g3)))
set_option maxHeartbeats 4000000 in
set_option maxRecDepth 100000 in
theorem kzU_countAxle_1_3_m (l : Launch) (G : va_G) (ac : Nat → ClassId) (ad : Nat → Nat) (g0 : xk_St) (k2 : Int32) (hd : k2 = (-1)) : xk_CV l yzU_countAxle czU_countAxle 6 xk_WS xk_r3 G xk_cls (xk_tys ac) [.ref (ad 0), .ref (ad 10), .int 3, .int k2] (xk_wU ad ac g0) (fun (gz : xk_St) => relzU_countAxle_1_3_m g0 gz) (fun gz => xk_wU ad ac gz) := by
  subst hd
  refine xk_ofV (by decide) (Nat.le_of_ble_eq_true rfl) ?_
  intro p e s m args below meth c A Q H locs ls C0 hret hP hD hS hl
  obtain ⟨hx, hb, hml, hts, hown, hK, hA⟩ := C0
  have hl : lv_has ls 6 [(0, .ref (ad 0)), (1, .ref (ad 10)), (2, .int 3), (3, .int (-1))] := hl
  refine lv_iload_n (pc := 0) hx hb dzU_countAxle_0 rfl (lv_at hl 3 rfl) ?_
  refine lv_iconst (v := 1) (pc := 1) hx hb dzU_countAxle_1 (by decide) ?_
  refine lv_icmp_ne (pc := 2) (tgt := 11) hx hb dzU_countAxle_2 (by decide) (fun _ => ?_) (fun hq9 => absurd hq9 (by decide))
  refine lv_iload_n (pc := 11) hx hb dzU_countAxle_11 rfl (lv_at hl 2 rfl) ?_
  refine lv_istore (lv' := [(4, .int 3), (0, .ref (ad 0)), (1, .ref (ad 10)), (2, .int 3), (3, .int (-1))]) (pc := 12) hx hb dzU_countAxle_12 hl (by decide) rfl (fun ls hl => ?_)
  refine lv_iload (pc := 14) hx hb dzU_countAxle_14 (lv_at hl 0 rfl) ?_
  refine lv_iload_n (pc := 16) hx hb dzU_countAxle_16 rfl (lv_at hl 4 rfl) ?_
  refine lv_iadd (pc := 17) hx hb dzU_countAxle_17 ?_
  refine xk_is (y := 2) (by decide) ?_
  refine lv_istore (lv' := [(5, .int 2), (4, .int 3), (0, .ref (ad 0)), (1, .ref (ad 10)), (2, .int 3), (3, .int (-1))]) (pc := 18) hx hb dzU_countAxle_18 hl (by decide) rfl (fun ls hl => ?_)
  refine lv_iload (pc := 20) hx hb dzU_countAxle_20 (lv_at hl 1 rfl) ?_
  refine lv_if_lt (pc := 22) (tgt := 56) hx hb dzU_countAxle_22 (by decide) (fun hq9 => absurd hq9 (by decide)) (fun _ => ?_)
  refine lv_iload (pc := 25) hx hb dzU_countAxle_25 (lv_at hl 1 rfl) ?_
  refine lv_iconst (v := 3) (pc := 27) hx hb dzU_countAxle_27 (by decide) ?_
  refine lv_icmp_ge (pc := 28) (tgt := 56) hx hb dzU_countAxle_28 (by decide) (fun _ => ?_) (fun hq9 => absurd (by decide) hq9)
  refine lv_aload_n (pc := 56) hx hb dzU_countAxle_56 rfl (lv_at hl 3 rfl) ?_
  refine xk_get (pc := 57) hx hb hts hown hK hP ffzU_212 10 rfl rfl dzU_countAxle_57 ?_
  refine lv_iload_n (pc := 60) hx hb dzU_countAxle_60 rfl (lv_at hl 5 rfl) ?_
  refine lv_iconst (v := 1) (pc := 61) hx hb dzU_countAxle_61 (by decide) ?_
  refine lv_icmp_ne (pc := 62) (tgt := 69) hx hb dzU_countAxle_62 (by decide) (fun _ => ?_) (fun hq9 => absurd hq9 (by decide))
  refine lv_iconst (v := 1) (pc := 69) hx hb dzU_countAxle_69 (by decide) ?_
  refine xk_aald (q0 := 14) (t0 := 4) (j := 1) (b := (ad 28)) (pc := 70) hx hb hK hP rfl rfl (pk_in 1 2 (by decide)) (pk_cl 1) rfl dzU_countAxle_70 ?_
  refine lv_iconst (v := 1) (pc := 71) hx hb dzU_countAxle_71 (by decide) ?_
  refine xk_putf (pc := 72) hx hb hts hown hK hP hD hS pfzU_295 28 rfl (xk_bn xk_b1) (xk_bf xk_b1) (Nat.le_of_ble_eq_true rfl) dzU_countAxle_72 (fun H locs hP hD hS => ?_)
  obtain ⟨g1, eg1⟩ : ∃ z : xk_St, z = va_up g0 28 (upd (g0 28) 2 1) := ⟨_, rfl⟩
  have hP : va_P G xk_cls (xk_wU ad ac g1) H := by rw [eg1]; exact hP
  have hD : va_D A (xk_wU ad ac g1) := by rw [eg1]; exact hD
  refine lv_iload (pc := 75) hx hb dzU_countAxle_75 (lv_at hl 0 rfl) ?_
  refine lv_if_lt (pc := 77) (tgt := 108) hx hb dzU_countAxle_77 (by decide) (fun hq9 => absurd hq9 (by decide)) (fun _ => ?_)
  refine lv_iload (pc := 80) hx hb dzU_countAxle_80 (lv_at hl 0 rfl) ?_
  refine lv_iconst (v := 3) (pc := 82) hx hb dzU_countAxle_82 (by decide) ?_
  refine lv_icmp_ge (pc := 83) (tgt := 108) hx hb dzU_countAxle_83 (by decide) (fun hq9 => absurd hq9 (by decide)) (fun _ => ?_)
  refine lv_aload_n (pc := 86) hx hb dzU_countAxle_86 rfl (lv_at hl 3 rfl) ?_
  refine xk_get (pc := 87) hx hb hts hown hK hP ffzU_158 10 rfl rfl dzU_countAxle_87 ?_
  refine lv_iload (pc := 90) hx hb dzU_countAxle_90 (lv_at hl 0 rfl) ?_
  refine xk_aald (q0 := 12) (t0 := 3) (j := 2) (b := (ad 24)) (pc := 92) hx hb hK hP rfl rfl (pk_in 2 3 (by decide)) (pk_cl 2) rfl dzU_countAxle_92 ?_
  refine lv_iload_n (pc := 93) hx hb dzU_countAxle_93 rfl (lv_at hl 5 rfl) ?_
  refine xk_callVV (As := [.int (-1)]) (rest := []) (H0 := s.heap) (pc := 94) hx hb hml hts hown hK hA hP hD hS (kzS_countIn l G ac (ad 24) (g1 24 0) (g1 24 1) (g1 24 2) (g1 24 3) (g1 24 4) (g1 24 5) (g1 24 6) (g1 24 7) (g1 24 8) (-1)) vfzU_298 [24] (by decide) rfl (fun _ => rfl) 24 rfl rfl ⟨rfl, rfl⟩ ⟨Nat.le_of_ble_eq_true rfl, Nat.le_of_ble_eq_true rfl⟩ rfl hl.1 rfl (Nat.le_of_ble_eq_true rfl) ⟨Nat.zero_le _, Nat.zero_le _⟩ dzU_countAxle_94 (fun u9 H locs e9 hP hD hS => ?_)
  obtain ⟨g2, eg2⟩ : ∃ z : xk_St, z = va_up g1 24 (upd (upd (upd (g1 24) 1 (qzS_countIn_a1 (g1 24 1))) 5 (qzS_countIn_a5 (g1 24 5) (-1))) 7 (qzS_countIn_a7 (g1 24 7) (-1))) := ⟨_, rfl⟩
  have hP : va_P G xk_cls (xk_wU ad ac g2) H := by rw [eg2]; exact hP
  have hD : va_D A (xk_wU ad ac g2) := by rw [eg2]; exact hD
  refine lv_aload_n (pc := 97) hx hb dzU_countAxle_97 rfl (lv_at hl 2 rfl) ?_
  refine lv_aload_n (pc := 98) hx hb dzU_countAxle_98 rfl (lv_at hl 3 rfl) ?_
  refine xk_get (pc := 99) hx hb hts hown hK hP ffzU_158 10 rfl rfl dzU_countAxle_99 ?_
  refine lv_iload (pc := 102) hx hb dzU_countAxle_102 (lv_at hl 0 rfl) ?_
  refine xk_aald (q0 := 12) (t0 := 3) (j := 2) (b := (ad 24)) (pc := 104) hx hb hK hP rfl rfl (pk_in 2 3 (by decide)) (pk_cl 2) rfl dzU_countAxle_104 ?_
  refine xk_allVV (As := [.ref (ad 24)]) (rest := []) (H0 := s.heap) (pc := 105) hx hb hml hts hown hK hA hP hD hS (kzU_disturbIfMiscounted_5 l G ac ad g2) vfzU_292 (fun _ => rfl) 0 rfl rfl ⟨rfl, rfl⟩ ⟨Nat.le_of_ble_eq_true rfl, Nat.le_of_ble_eq_true rfl⟩ rfl hl.1 rfl (Nat.le_of_ble_eq_true rfl) ⟨Nat.zero_le _, Nat.zero_le _⟩ dzU_countAxle_105 (fun g3 H locs hg3 hP hD hS => ?_)
  have hP : va_P G xk_cls (xk_wU ad ac g3) H := hP
  have hD : va_D A (xk_wU ad ac g3) := hD
  exact hret g3 H locs 108 ls hP hS (by unfold relzU_countAxle_1_3_m; exact ⟨g1, eg1, ⟨g2, eg2, ⟨g3, hg3, rfl⟩⟩⟩) dzU_countAxle_108
theorem frzU_countAxle_1_3_m (g0 : xk_St) (gz : xk_St) : relzU_countAxle_1_3_m g0 gz → xk_eqv [0, 1, 2, 3, 4, 9, 10, 11, 12, 13, 14, 15, 16, 17, 18, 19, 20, 21, 22, 23, 25, 26, 27, 29, 30, 31, 32, 33] g0 gz := by
  intro h
  unfold relzU_countAxle_1_3_m at h
  have s0 : xk_eqv [0, 1, 2, 3, 4, 9, 10, 11, 12, 13, 14, 15, 16, 17, 18, 19, 20, 21, 22, 23, 25, 26, 27, 29, 30, 31, 32, 33] g0 g0 := xk_eqv_rf
  obtain ⟨g1, u1, v2⟩ := h
  have s3 : xk_eqv [0, 1, 2, 3, 4, 9, 10, 11, 12, 13, 14, 15, 16, 17, 18, 19, 20, 21, 22, 23, 25, 26, 27, 29, 30, 31, 32, 33] g0 g1 := by rw [u1]; repeat (first | exact s0 | refine xk_eqv_up (by decide) ?_)
  obtain ⟨g2, u4, v5⟩ := v2
  have s6 : xk_eqv [0, 1, 2, 3, 4, 9, 10, 11, 12, 13, 14, 15, 16, 17, 18, 19, 20, 21, 22, 23, 25, 26, 27, 29, 30, 31, 32, 33] g0 g2 := by rw [u4]; repeat (first | exact s3 | refine xk_eqv_up (by decide) ?_)
  obtain ⟨g3, u7, v8⟩ := v5
  have s9 : xk_eqv [0, 1, 2, 3, 4, 9, 10, 11, 12, 13, 14, 15, 16, 17, 18, 19, 20, 21, 22, 23, 25, 26, 27, 29, 30, 31, 32, 33] g0 g3 := xk_eqv_tr s6 (xk_eqv_sub (frzU_disturbIfMiscounted_5 _ _ u7) (by decide))
  rw [v8]; exact s9

