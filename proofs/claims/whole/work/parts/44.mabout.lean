def relzM_section_bad (g0 : xk_St) (k2 : Int32) (rz : Int32) (gz : xk_St) : Prop := ∃ (x1 : Int32), (if k2 < 0 then (x1 = 0) else (if 3 < k2 then (x1 = 0) else (x1 = 1))) ∧ (∃ (r2 : Int32) (g1 : xk_St), relzM_goes_0 g0 r2 g1 ∧ (rz = 0 ∧ gz = g1))
set_option maxHeartbeats 4000000 in
set_option maxRecDepth 100000 in
theorem kzM_section_bad (l : Launch) (G : va_G) (ac : Nat → ClassId) (ad : Nat → Nat) (g0 : xk_St) (k0 : Int32) (k1 : Int32) (k2 : Int32) (B : Nat) (hq : qzM_isSection k0 k1 = 0) (Ig0 : xk_cnt B g0) (hB : B + 1 < 2147483648) : xk_CI l yzM_section czM_section 5 .int xk_WS xk_r2 G xk_cls (xk_tys ac) [.ref (ad 0), .int k0, .int k1, .int k2] (xk_wM ad ac g0) (fun rz (gz : xk_St) => relzM_section_bad g0 k2 rz gz) (fun gz => xk_wM ad ac gz) := by
  refine xk_ofI (by decide) (Nat.le_of_ble_eq_true rfl) ?_
  intro p e s m args below meth c A Q H locs ls C0 hret hP hD hS hl
  obtain ⟨hx, hb, hml, hts, hown, hK, hA⟩ := C0
  have hl : lv_has ls 5 [(0, .ref (ad 0)), (1, .int k0), (2, .int k1), (3, .int k2)] := hl
  have Ig0 : xk_cnt (B + 0) g0 := Ig0
  refine lv_aload_n (pc := 0) hx hb dzM_section_0 rfl (lv_at hl 0 rfl) ?_
  refine lv_iload_n (pc := 1) hx hb dzM_section_1 rfl (lv_at hl 1 rfl) ?_
  refine lv_iload_n (pc := 2) hx hb dzM_section_2 rfl (lv_at hl 2 rfl) ?_
  refine xk_callSI (As := [.int k0, .int k1]) (rest := [.ref (ad 0)]) (H0 := s.heap) (pc := 3) hx hb hml hts hown hK hA hP hD hS (kzM_isSection l G ac k0 k1) sfzM_132 [] (by decide) rfl (fun _ => rfl) ⟨rfl, rfl⟩ ⟨Nat.le_of_ble_eq_true rfl, Nat.le_of_ble_eq_true rfl⟩ rfl hl.1 rfl (Nat.le_of_ble_eq_true rfl) ⟨Nat.zero_le _, Nat.zero_le _⟩ dzM_section_3 (fun r1 u9 H locs e9 hP hD hS => ?_)
  obtain rfl : r1 = qzM_isSection k0 k1 := e9
  refine xk_is (y := 0) hq ?_
  have hP : va_P G xk_cls (xk_wM ad ac g0) H := hP
  have hD : va_D A (xk_wM ad ac g0) := hD
  refine lv_iload_n (pc := 6) hx hb dzM_section_6 rfl (lv_at hl 3 rfl) ?_
  have K1 : ∀ (x1 : Int32), (if k2 < 0 then (x1 = 0) else (if 3 < k2 then (x1 = 0) else (x1 = 1))) → (xk_b x1) → W p l e xk_r2 s m args below meth c H locs 0 0 Q (F0 m 20 ls [.int x1, .int 0, .ref (ad 0)]) := by
    intro x1 R1 bx1
    refine lv_iconst (v := 1) (pc := 20) hx hb dzM_section_20 (by decide) ?_
    refine xk_allVI (As := [.int 0, .int x1, .int 1]) (rest := []) (H0 := s.heap) (pc := 21) hx hb hml hts hown hK hA hP hD hS (kzM_goes_0 l G ac ad g0 x1 1 (B + 0) Ig0 (by omega)) vfzM_114 (fun _ => rfl) 0 rfl rfl ⟨rfl, rfl⟩ ⟨Nat.le_of_ble_eq_true rfl, Nat.le_of_ble_eq_true rfl⟩ rfl hl.1 rfl (Nat.le_of_ble_eq_true rfl) ⟨Nat.zero_le _, Nat.zero_le _⟩ dzM_section_21 (fun r2 g1 H locs hg1 hP hD hS => ?_)
    have qr2 : r2 = 0 := rczM_goes_0 _ _ _ hg1
    refine xk_is (y := 0) qr2 ?_
    have hP : va_P G xk_cls (xk_wM ad ac g1) H := hP
    have hD : va_D A (xk_wM ad ac g1) := hD
    have Ig1 : xk_cnt (B + 0) g1 := xk_cnt_le (iczM_goes_0 (B + 0) _ _ _ hg1 Ig0) (by omega)
    refine lv_if_ne (pc := 24) (tgt := 29) hx hb dzM_section_24 (by decide) (fun hq9 => absurd (by decide) hq9) (fun _ => ?_)
    refine lv_iconst (v := 0) (pc := 27) hx hb dzM_section_27 (by decide) ?_
    exact hret _ g1 H locs 28 ls hP hS rfl (by unfold relzM_section_bad; exact ⟨x1, R1, ⟨r2, g1, hg1, ⟨rfl, rfl⟩⟩⟩) dzM_section_28
  refine lv_if_lt (pc := 7) (tgt := 19) hx hb dzM_section_7 (by decide) (fun h1 => ?_) (fun h1 => ?_)
  ·
    refine lv_iconst (v := 0) (pc := 19) hx hb dzM_section_19 (by decide) ?_
    exact K1 0 (Eq.mpr (if_pos h1) rfl) xk_b0
  ·
    refine lv_iload_n (pc := 10) hx hb dzM_section_10 rfl (lv_at hl 3 rfl) ?_
    refine lv_iconst (v := 3) (pc := 11) hx hb dzM_section_11 (by decide) ?_
    refine lv_icmp_gt (pc := 12) (tgt := 19) hx hb dzM_section_12 (by decide) (fun h2 => ?_) (fun h2 => ?_)
    ·
      refine lv_iconst (v := 0) (pc := 19) hx hb dzM_section_19 (by decide) ?_
      exact K1 0 (Eq.mpr (if_neg h1) (Eq.mpr (if_pos h2) rfl)) xk_b0
    ·
      refine lv_iconst (v := 1) (pc := 15) hx hb dzM_section_15 (by decide) ?_
      refine lv_goto (tgt := 20) (pc := 16) hx hb dzM_section_16 (by decide) ?_
      exact K1 1 (Eq.mpr (if_neg h1) (Eq.mpr (if_neg h2) rfl)) xk_b1
theorem frzM_section_bad (g0 : xk_St) (k2 : Int32) (rz : Int32) (gz : xk_St) : relzM_section_bad g0 k2 rz gz → xk_eqv [1, 2, 3, 4, 5, 6, 7, 8, 9, 10, 11, 12, 13, 14, 15, 16, 17, 18, 19, 20, 21, 22, 23, 24, 25, 26, 27] g0 gz := by
  intro h
  unfold relzM_section_bad at h
  have s0 : xk_eqv [1, 2, 3, 4, 5, 6, 7, 8, 9, 10, 11, 12, 13, 14, 15, 16, 17, 18, 19, 20, 21, 22, 23, 24, 25, 26, 27] g0 g0 := xk_eqv_rf
  obtain ⟨x1, u1, v2⟩ := h
  obtain ⟨r2, g1, u3, v4⟩ := v2
  have s5 : xk_eqv [1, 2, 3, 4, 5, 6, 7, 8, 9, 10, 11, 12, 13, 14, 15, 16, 17, 18, 19, 20, 21, 22, 23, 24, 25, 26, 27] g0 g1 := xk_eqv_tr s0 (xk_eqv_sub (frzM_goes_0 _ _ _ u3) (by decide))
  rw [v4.2]; exact s5
theorem iczM_section_bad (B : Nat) (g0 : xk_St) (k2 : Int32) (rz : Int32) (gz : xk_St) : relzM_section_bad g0 k2 rz gz → xk_cnt B g0 → xk_cnt (B + 0) gz := by
  intro h Ig0
  unfold relzM_section_bad at h
  have Ig0 : xk_cnt (B + 0) g0 := Ig0
  obtain ⟨x1, u1, v2⟩ := h
  obtain ⟨r2, g1, u3, v4⟩ := v2
  have Ig1 : xk_cnt (B + 0) g1 := xk_cnt_le (iczM_goes_0 (B + 0) _ _ _ u3 Ig0) (by omega)
  rw [v4.2]; exact xk_cnt_le Ig1 (by omega)
theorem rczM_section_bad (g0 : xk_St) (k2 : Int32) (rz : Int32) (gz : xk_St) : relzM_section_bad g0 k2 rz gz → rz = 0 := by
  intro h
  unfold relzM_section_bad at h
  obtain ⟨_, _, v1⟩ := h
  obtain ⟨_, _, _, v2⟩ := v1
  exact v2.1

def relzM_section_0_0 (g0 : xk_St) (k2 : Int32) (rz : Int32) (gz : xk_St) : Prop := ∃ (x1 : Int32), (if k2 < 0 then (x1 = 0) else (if 3 < k2 then (x1 = 0) else (x1 = 1))) ∧ (∃ (r2 : Int32) (g1 : xk_St), relzM_goes g0 1 x1 1 r2 g1 ∧ (if r2 = 0 then (rz = 0 ∧ gz = g1) else (if k2 = 0 then (∃ (x2 : Int32), (if ((g1 5) 0) = 0 then (if ((g1 3) 0) = 0 then (x2 = 0) else (x2 = 1)) else (x2 = 2)) ∧ (rz = x2 ∧ gz = g1)) else (if k2 = 1 then (rz = (g1 3) 0 ∧ gz = g1) else (if k2 = 2 then (∃ (x3 : Int32), (if (qzM_swept_0 g1) = 0 then (x3 = 0) else (x3 = 1)) ∧ (rz = x3 ∧ gz = g1)) else (rz = (g1 6) 0 ∧ gz = g1))))))
set_option maxHeartbeats 4000000 in
set_option maxRecDepth 100000 in
theorem kzM_section_0_0 (l : Launch) (G : va_G) (ac : Nat → ClassId) (ad : Nat → Nat) (g0 : xk_St) (k2 : Int32) (B : Nat) (Ig0 : xk_cnt B g0) (hB : B + 1 < 2147483648) : xk_CI l yzM_section czM_section 5 .int xk_WS xk_r2 G xk_cls (xk_tys ac) [.ref (ad 0), .int 0, .int 0, .int k2] (xk_wM ad ac g0) (fun rz (gz : xk_St) => relzM_section_0_0 g0 k2 rz gz) (fun gz => xk_wM ad ac gz) := by
  refine xk_ofI (by decide) (Nat.le_of_ble_eq_true rfl) ?_
  intro p e s m args below meth c A Q H locs ls C0 hret hP hD hS hl
  obtain ⟨hx, hb, hml, hts, hown, hK, hA⟩ := C0
  have hl : lv_has ls 5 [(0, .ref (ad 0)), (1, .int 0), (2, .int 0), (3, .int k2)] := hl
  have Ig0 : xk_cnt (B + 0) g0 := Ig0
  refine lv_aload_n (pc := 0) hx hb dzM_section_0 rfl (lv_at hl 0 rfl) ?_
  refine lv_iload_n (pc := 1) hx hb dzM_section_1 rfl (lv_at hl 1 rfl) ?_
  refine lv_iload_n (pc := 2) hx hb dzM_section_2 rfl (lv_at hl 2 rfl) ?_
  refine xk_callSI (As := [.int 0, .int 0]) (rest := [.ref (ad 0)]) (H0 := s.heap) (pc := 3) hx hb hml hts hown hK hA hP hD hS (kzM_isSection l G ac 0 0) sfzM_132 [] (by decide) rfl (fun _ => rfl) ⟨rfl, rfl⟩ ⟨Nat.le_of_ble_eq_true rfl, Nat.le_of_ble_eq_true rfl⟩ rfl hl.1 rfl (Nat.le_of_ble_eq_true rfl) ⟨Nat.zero_le _, Nat.zero_le _⟩ dzM_section_3 (fun r1 u9 H locs e9 hP hD hS => ?_)
  obtain rfl : r1 = qzM_isSection 0 0 := e9
  refine xk_is (y := 1) (by decide) ?_
  have hP : va_P G xk_cls (xk_wM ad ac g0) H := hP
  have hD : va_D A (xk_wM ad ac g0) := hD
  refine lv_iload_n (pc := 6) hx hb dzM_section_6 rfl (lv_at hl 3 rfl) ?_
  have K1 : ∀ (x1 : Int32), (if k2 < 0 then (x1 = 0) else (if 3 < k2 then (x1 = 0) else (x1 = 1))) → (xk_b x1) → W p l e xk_r2 s m args below meth c H locs 0 0 Q (F0 m 20 ls [.int x1, .int 1, .ref (ad 0)]) := by
    intro x1 R1 bx1
    refine lv_iconst (v := 1) (pc := 20) hx hb dzM_section_20 (by decide) ?_
    refine xk_allVI (As := [.int 1, .int x1, .int 1]) (rest := []) (H0 := s.heap) (pc := 21) hx hb hml hts hown hK hA hP hD hS (kzM_goes l G ac ad g0 1 x1 1 (B + 0) Ig0 (by omega)) vfzM_114 (fun _ => rfl) 0 rfl rfl ⟨rfl, rfl⟩ ⟨Nat.le_of_ble_eq_true rfl, Nat.le_of_ble_eq_true rfl⟩ rfl hl.1 rfl (Nat.le_of_ble_eq_true rfl) ⟨Nat.zero_le _, Nat.zero_le _⟩ dzM_section_21 (fun r2 g1 H locs hg1 hP hD hS => ?_)
    have hP : va_P G xk_cls (xk_wM ad ac g1) H := hP
    have hD : va_D A (xk_wM ad ac g1) := hD
    have Ig1 : xk_cnt (B + 0) g1 := xk_cnt_le (iczM_goes (B + 0) _ _ _ _ _ _ hg1 Ig0) (by omega)
    refine lv_if_ne (pc := 24) (tgt := 29) hx hb dzM_section_24 (by decide) (fun h3 => ?_) (fun h3 => ?_)
    ·
      refine lv_iconst (v := 3) (pc := 29) hx hb dzM_section_29 (by decide) ?_
      refine lv_iload_n (pc := 30) hx hb dzM_section_30 rfl (lv_at hl 1 rfl) ?_
      refine lv_imul (pc := 31) hx hb dzM_section_31 ?_
      refine xk_is (y := 0) (by decide) ?_
      refine lv_iload_n (pc := 32) hx hb dzM_section_32 rfl (lv_at hl 2 rfl) ?_
      refine lv_iadd (pc := 33) hx hb dzM_section_33 ?_
      refine xk_is (y := 0) (by decide) ?_
      refine lv_istore (lv' := [(4, .int 0), (0, .ref (ad 0)), (1, .int 0), (2, .int 0), (3, .int k2)]) (pc := 34) hx hb dzM_section_34 hl (by decide) rfl (fun ls hl => ?_)
      refine lv_iload_n (pc := 36) hx hb dzM_section_36 rfl (lv_at hl 4 rfl) ?_
      by_cases h4 : k2 = 0
      ·
        refine lv_tableIn (pc := 37) (tgt := 64) hx hb dzM_section_37 (by rw [h4]; decide) (by rw [h4]; decide) (by rw [h4]; rfl) (by decide) ?_
        refine lv_aload_n (pc := 64) hx hb dzM_section_64 rfl (lv_at hl 1 rfl) ?_
        refine xk_get (pc := 65) hx hb hts hown hK hP ffzM_23 0 rfl rfl dzM_section_65 ?_
        refine lv_iload (pc := 68) hx hb dzM_section_68 (lv_at hl 0 rfl) ?_
        refine xk_zald (q0 := 5) (t0 := 1) (j := 0) (pc := 70) hx hb hK hP rfl rfl (pk_in 0 6 (by decide)) (pk_cl 0) dzM_section_70 ?_
        have K2 : ∀ (x2 : Int32), (if ((g1 5) 0) = 0 then (if ((g1 3) 0) = 0 then (x2 = 0) else (x2 = 1)) else (x2 = 2)) → W p l e xk_r2 s m args below meth c H locs 0 0 Q (F0 m 93 ls [.int x2]) := by
          intro x2 R2
          exact hret _ g1 H locs 93 ls hP hS rfl (by unfold relzM_section_0_0; exact ⟨x1, R1, ⟨r2, g1, hg1, (Eq.mpr (if_neg h3) (Eq.mpr (if_pos h4) ⟨x2, R2, ⟨rfl, rfl⟩⟩))⟩⟩) dzM_section_93
        refine lv_if_eq (pc := 71) (tgt := 78) hx hb dzM_section_71 (by decide) (fun h5 => ?_) (fun h5 => ?_)
        ·
          refine lv_aload_n (pc := 78) hx hb dzM_section_78 rfl (lv_at hl 1 rfl) ?_
          refine xk_get (pc := 79) hx hb hts hown hK hP ffzM_17 0 rfl rfl dzM_section_79 ?_
          refine lv_iload (pc := 82) hx hb dzM_section_82 (lv_at hl 0 rfl) ?_
          refine xk_iald (q0 := 3) (t0 := 0) (j := 0) (pc := 84) hx hb hK hP rfl rfl (pk_in 0 6 (by decide)) (pk_cl 0) dzM_section_84 ?_
          refine lv_if_eq (pc := 85) (tgt := 92) hx hb dzM_section_85 (by decide) (fun h6 => ?_) (fun h6 => ?_)
          ·
            refine lv_iconst (v := 0) (pc := 92) hx hb dzM_section_92 (by decide) ?_
            exact K2 0 (Eq.mpr (if_pos h5) (Eq.mpr (if_pos h6) rfl))
          ·
            refine lv_iconst (v := 1) (pc := 88) hx hb dzM_section_88 (by decide) ?_
            refine lv_goto (tgt := 93) (pc := 89) hx hb dzM_section_89 (by decide) ?_
            exact K2 1 (Eq.mpr (if_pos h5) (Eq.mpr (if_neg h6) rfl))
        ·
          refine lv_iconst (v := 2) (pc := 74) hx hb dzM_section_74 (by decide) ?_
          refine lv_goto (tgt := 93) (pc := 75) hx hb dzM_section_75 (by decide) ?_
          exact K2 2 (Eq.mpr (if_neg h5) rfl)
      ·
        by_cases h7 : k2 = 1
        ·
          refine lv_tableIn (pc := 37) (tgt := 94) hx hb dzM_section_37 (by rw [h7]; decide) (by rw [h7]; decide) (by rw [h7]; rfl) (by decide) ?_
          refine lv_aload_n (pc := 94) hx hb dzM_section_94 rfl (lv_at hl 1 rfl) ?_
          refine xk_get (pc := 95) hx hb hts hown hK hP ffzM_17 0 rfl rfl dzM_section_95 ?_
          refine lv_iload (pc := 98) hx hb dzM_section_98 (lv_at hl 0 rfl) ?_
          refine xk_iald (q0 := 3) (t0 := 0) (j := 0) (pc := 100) hx hb hK hP rfl rfl (pk_in 0 6 (by decide)) (pk_cl 0) dzM_section_100 ?_
          exact hret _ g1 H locs 101 ls hP hS rfl (by unfold relzM_section_0_0; exact ⟨x1, R1, ⟨r2, g1, hg1, (Eq.mpr (if_neg h3) (Eq.mpr (if_neg h4) (Eq.mpr (if_pos h7) ⟨rfl, rfl⟩)))⟩⟩) dzM_section_101
        ·
          by_cases h8 : k2 = 2
          ·
            refine lv_tableIn (pc := 37) (tgt := 102) hx hb dzM_section_37 (by rw [h8]; decide) (by rw [h8]; decide) (by rw [h8]; rfl) (by decide) ?_
            refine lv_aload_n (pc := 102) hx hb dzM_section_102 rfl (lv_at hl 1 rfl) ?_
            refine lv_iload (pc := 103) hx hb dzM_section_103 (lv_at hl 0 rfl) ?_
            refine xk_allVI (As := [.int 0]) (rest := []) (H0 := s.heap) (pc := 105) hx hb hml hts hown hK hA hP hD hS (kzM_swept_0 l G ac ad g1) vfzM_135 (fun _ => rfl) 0 rfl rfl ⟨rfl, rfl⟩ ⟨Nat.le_of_ble_eq_true rfl, Nat.le_of_ble_eq_true rfl⟩ rfl hl.1 rfl (Nat.le_of_ble_eq_true rfl) ⟨Nat.zero_le _, Nat.zero_le _⟩ dzM_section_105 (fun r3 u9 H locs e9 hP hD hS => ?_)
            obtain rfl : r3 = qzM_swept_0 g1 := e9
            have hP : va_P G xk_cls (xk_wM ad ac g1) H := hP
            have hD : va_D A (xk_wM ad ac g1) := hD
            have K3 : ∀ (x3 : Int32), (if (qzM_swept_0 g1) = 0 then (x3 = 0) else (x3 = 1)) → (xk_b x3) → W p l e xk_r2 s m args below meth c H locs 0 0 Q (F0 m 116 ls [.int x3]) := by
              intro x3 R3 bx3
              exact hret _ g1 H locs 116 ls hP hS rfl (by unfold relzM_section_0_0; exact ⟨x1, R1, ⟨r2, g1, hg1, (Eq.mpr (if_neg h3) (Eq.mpr (if_neg h4) (Eq.mpr (if_neg h7) (Eq.mpr (if_pos h8) ⟨x3, R3, ⟨rfl, rfl⟩⟩))))⟩⟩) dzM_section_116
            refine lv_if_eq (pc := 108) (tgt := 115) hx hb dzM_section_108 (by decide) (fun h9 => ?_) (fun h9 => ?_)
            ·
              refine lv_iconst (v := 0) (pc := 115) hx hb dzM_section_115 (by decide) ?_
              exact K3 0 (Eq.mpr (if_pos h9) rfl) xk_b0
            ·
              refine lv_iconst (v := 1) (pc := 111) hx hb dzM_section_111 (by decide) ?_
              refine lv_goto (tgt := 116) (pc := 112) hx hb dzM_section_112 (by decide) ?_
              exact K3 1 (Eq.mpr (if_neg h9) rfl) xk_b1
          ·
            refine lv_tableOut (pc := 37) (tgt := 117) hx hb dzM_section_37 (xk_out3 h4 h7 h8) (by decide) ?_
            refine lv_aload_n (pc := 117) hx hb dzM_section_117 rfl (lv_at hl 1 rfl) ?_
            refine xk_get (pc := 118) hx hb hts hown hK hP ffzM_26 0 rfl rfl dzM_section_118 ?_
            refine lv_iload (pc := 121) hx hb dzM_section_121 (lv_at hl 0 rfl) ?_
            refine xk_iald (q0 := 6) (t0 := 0) (j := 0) (pc := 123) hx hb hK hP rfl rfl (pk_in 0 6 (by decide)) (pk_cl 0) dzM_section_123 ?_
            exact hret _ g1 H locs 124 ls hP hS rfl (by unfold relzM_section_0_0; exact ⟨x1, R1, ⟨r2, g1, hg1, (Eq.mpr (if_neg h3) (Eq.mpr (if_neg h4) (Eq.mpr (if_neg h7) (Eq.mpr (if_neg h8) ⟨rfl, rfl⟩))))⟩⟩) dzM_section_124
    ·
      refine lv_iconst (v := 0) (pc := 27) hx hb dzM_section_27 (by decide) ?_
      exact hret _ g1 H locs 28 ls hP hS rfl (by unfold relzM_section_0_0; exact ⟨x1, R1, ⟨r2, g1, hg1, (Eq.mpr (if_pos h3) ⟨rfl, rfl⟩)⟩⟩) dzM_section_28
  refine lv_if_lt (pc := 7) (tgt := 19) hx hb dzM_section_7 (by decide) (fun h1 => ?_) (fun h1 => ?_)
  ·
    refine lv_iconst (v := 0) (pc := 19) hx hb dzM_section_19 (by decide) ?_
    exact K1 0 (Eq.mpr (if_pos h1) rfl) xk_b0
  ·
    refine lv_iload_n (pc := 10) hx hb dzM_section_10 rfl (lv_at hl 3 rfl) ?_
    refine lv_iconst (v := 3) (pc := 11) hx hb dzM_section_11 (by decide) ?_
    refine lv_icmp_gt (pc := 12) (tgt := 19) hx hb dzM_section_12 (by decide) (fun h2 => ?_) (fun h2 => ?_)
    ·
      refine lv_iconst (v := 0) (pc := 19) hx hb dzM_section_19 (by decide) ?_
      exact K1 0 (Eq.mpr (if_neg h1) (Eq.mpr (if_pos h2) rfl)) xk_b0
    ·
      refine lv_iconst (v := 1) (pc := 15) hx hb dzM_section_15 (by decide) ?_
      refine lv_goto (tgt := 20) (pc := 16) hx hb dzM_section_16 (by decide) ?_
      exact K1 1 (Eq.mpr (if_neg h1) (Eq.mpr (if_neg h2) rfl)) xk_b1
theorem frzM_section_0_0 (g0 : xk_St) (k2 : Int32) (rz : Int32) (gz : xk_St) : relzM_section_0_0 g0 k2 rz gz → xk_eqv [1, 2, 3, 4, 5, 6, 7, 8, 9, 10, 11, 12, 13, 14, 15, 16, 17, 18, 19, 20, 21, 22, 23, 24, 25, 26, 27] g0 gz := by
  intro h
  unfold relzM_section_0_0 at h
  have s0 : xk_eqv [1, 2, 3, 4, 5, 6, 7, 8, 9, 10, 11, 12, 13, 14, 15, 16, 17, 18, 19, 20, 21, 22, 23, 24, 25, 26, 27] g0 g0 := xk_eqv_rf
  obtain ⟨x1, u1, v2⟩ := h
  obtain ⟨r2, g1, u3, v4⟩ := v2
  have s5 : xk_eqv [1, 2, 3, 4, 5, 6, 7, 8, 9, 10, 11, 12, 13, 14, 15, 16, 17, 18, 19, 20, 21, 22, 23, 24, 25, 26, 27] g0 g1 := xk_eqv_tr s0 (xk_eqv_sub (frzM_goes _ _ _ _ _ _ u3) (by decide))
  by_cases hc : r2 = 0
  · rw [if_pos hc] at v4
    rw [v4.2]; exact s5
  · rw [if_neg hc] at v4
    by_cases hc : k2 = 0
    · rw [if_pos hc] at v4
      obtain ⟨x2, u6, v7⟩ := v4
      rw [v7.2]; exact s5
    · rw [if_neg hc] at v4
      by_cases hc : k2 = 1
      · rw [if_pos hc] at v4
        rw [v4.2]; exact s5
      · rw [if_neg hc] at v4
        by_cases hc : k2 = 2
        · rw [if_pos hc] at v4
          obtain ⟨x3, u8, v9⟩ := v4
          rw [v9.2]; exact s5
        · rw [if_neg hc] at v4
          rw [v4.2]; exact s5
theorem iczM_section_0_0 (B : Nat) (g0 : xk_St) (k2 : Int32) (rz : Int32) (gz : xk_St) : relzM_section_0_0 g0 k2 rz gz → xk_cnt B g0 → xk_cnt (B + 0) gz := by
  intro h Ig0
  unfold relzM_section_0_0 at h
  have Ig0 : xk_cnt (B + 0) g0 := Ig0
  obtain ⟨x1, u1, v2⟩ := h
  obtain ⟨r2, g1, u3, v4⟩ := v2
  have Ig1 : xk_cnt (B + 0) g1 := xk_cnt_le (iczM_goes (B + 0) _ _ _ _ _ _ u3 Ig0) (by omega)
  by_cases hc : r2 = 0
  · rw [if_pos hc] at v4
    rw [v4.2]; exact xk_cnt_le Ig1 (by omega)
  · rw [if_neg hc] at v4
    by_cases hc : k2 = 0
    · rw [if_pos hc] at v4
      obtain ⟨x2, u5, v6⟩ := v4
      rw [v6.2]; exact xk_cnt_le Ig1 (by omega)
    · rw [if_neg hc] at v4
      by_cases hc : k2 = 1
      · rw [if_pos hc] at v4
        rw [v4.2]; exact xk_cnt_le Ig1 (by omega)
      · rw [if_neg hc] at v4
        by_cases hc : k2 = 2
        · rw [if_pos hc] at v4
          obtain ⟨x3, u7, v8⟩ := v4
          rw [v8.2]; exact xk_cnt_le Ig1 (by omega)
        · rw [if_neg hc] at v4
          rw [v4.2]; exact xk_cnt_le Ig1 (by omega)

def relzM_section_0_1 (g0 : xk_St) (k2 : Int32) (rz : Int32) (gz : xk_St) : Prop := ∃ (x1 : Int32), (if k2 < 0 then (x1 = 0) else (if 3 < k2 then (x1 = 0) else (x1 = 1))) ∧ (∃ (r2 : Int32) (g1 : xk_St), relzM_goes g0 1 x1 1 r2 g1 ∧ (if r2 = 0 then (rz = 0 ∧ gz = g1) else (if k2 = 0 then (∃ (x2 : Int32), (if ((g1 5) 1) = 0 then (if ((g1 3) 1) = 0 then (x2 = 0) else (x2 = 1)) else (x2 = 2)) ∧ (rz = x2 ∧ gz = g1)) else (if k2 = 1 then (rz = (g1 3) 1 ∧ gz = g1) else (if k2 = 2 then (∃ (x3 : Int32), (if (qzM_swept_1 g1) = 0 then (x3 = 0) else (x3 = 1)) ∧ (rz = x3 ∧ gz = g1)) else (rz = (g1 6) 1 ∧ gz = g1))))))
set_option maxHeartbeats 4000000 in
set_option maxRecDepth 100000 in
theorem kzM_section_0_1 (l : Launch) (G : va_G) (ac : Nat → ClassId) (ad : Nat → Nat) (g0 : xk_St) (k2 : Int32) (B : Nat) (Ig0 : xk_cnt B g0) (hB : B + 1 < 2147483648) : xk_CI l yzM_section czM_section 5 .int xk_WS xk_r2 G xk_cls (xk_tys ac) [.ref (ad 0), .int 0, .int 1, .int k2] (xk_wM ad ac g0) (fun rz (gz : xk_St) => relzM_section_0_1 g0 k2 rz gz) (fun gz => xk_wM ad ac gz) := by
  refine xk_ofI (by decide) (Nat.le_of_ble_eq_true rfl) ?_
  intro p e s m args below meth c A Q H locs ls C0 hret hP hD hS hl
  obtain ⟨hx, hb, hml, hts, hown, hK, hA⟩ := C0
  have hl : lv_has ls 5 [(0, .ref (ad 0)), (1, .int 0), (2, .int 1), (3, .int k2)] := hl
  have Ig0 : xk_cnt (B + 0) g0 := Ig0
  refine lv_aload_n (pc := 0) hx hb dzM_section_0 rfl (lv_at hl 0 rfl) ?_
  refine lv_iload_n (pc := 1) hx hb dzM_section_1 rfl (lv_at hl 1 rfl) ?_
  refine lv_iload_n (pc := 2) hx hb dzM_section_2 rfl (lv_at hl 2 rfl) ?_
  refine xk_callSI (As := [.int 0, .int 1]) (rest := [.ref (ad 0)]) (H0 := s.heap) (pc := 3) hx hb hml hts hown hK hA hP hD hS (kzM_isSection l G ac 0 1) sfzM_132 [] (by decide) rfl (fun _ => rfl) ⟨rfl, rfl⟩ ⟨Nat.le_of_ble_eq_true rfl, Nat.le_of_ble_eq_true rfl⟩ rfl hl.1 rfl (Nat.le_of_ble_eq_true rfl) ⟨Nat.zero_le _, Nat.zero_le _⟩ dzM_section_3 (fun r1 u9 H locs e9 hP hD hS => ?_)
  obtain rfl : r1 = qzM_isSection 0 1 := e9
  refine xk_is (y := 1) (by decide) ?_
  have hP : va_P G xk_cls (xk_wM ad ac g0) H := hP
  have hD : va_D A (xk_wM ad ac g0) := hD
  refine lv_iload_n (pc := 6) hx hb dzM_section_6 rfl (lv_at hl 3 rfl) ?_
  have K1 : ∀ (x1 : Int32), (if k2 < 0 then (x1 = 0) else (if 3 < k2 then (x1 = 0) else (x1 = 1))) → (xk_b x1) → W p l e xk_r2 s m args below meth c H locs 0 0 Q (F0 m 20 ls [.int x1, .int 1, .ref (ad 0)]) := by
    intro x1 R1 bx1
    refine lv_iconst (v := 1) (pc := 20) hx hb dzM_section_20 (by decide) ?_
    refine xk_allVI (As := [.int 1, .int x1, .int 1]) (rest := []) (H0 := s.heap) (pc := 21) hx hb hml hts hown hK hA hP hD hS (kzM_goes l G ac ad g0 1 x1 1 (B + 0) Ig0 (by omega)) vfzM_114 (fun _ => rfl) 0 rfl rfl ⟨rfl, rfl⟩ ⟨Nat.le_of_ble_eq_true rfl, Nat.le_of_ble_eq_true rfl⟩ rfl hl.1 rfl (Nat.le_of_ble_eq_true rfl) ⟨Nat.zero_le _, Nat.zero_le _⟩ dzM_section_21 (fun r2 g1 H locs hg1 hP hD hS => ?_)
    have hP : va_P G xk_cls (xk_wM ad ac g1) H := hP
    have hD : va_D A (xk_wM ad ac g1) := hD
    have Ig1 : xk_cnt (B + 0) g1 := xk_cnt_le (iczM_goes (B + 0) _ _ _ _ _ _ hg1 Ig0) (by omega)
    refine lv_if_ne (pc := 24) (tgt := 29) hx hb dzM_section_24 (by decide) (fun h3 => ?_) (fun h3 => ?_)
    ·
      refine lv_iconst (v := 3) (pc := 29) hx hb dzM_section_29 (by decide) ?_
      refine lv_iload_n (pc := 30) hx hb dzM_section_30 rfl (lv_at hl 1 rfl) ?_
      refine lv_imul (pc := 31) hx hb dzM_section_31 ?_
      refine xk_is (y := 0) (by decide) ?_
      refine lv_iload_n (pc := 32) hx hb dzM_section_32 rfl (lv_at hl 2 rfl) ?_
      refine lv_iadd (pc := 33) hx hb dzM_section_33 ?_
      refine xk_is (y := 1) (by decide) ?_
      refine lv_istore (lv' := [(4, .int 1), (0, .ref (ad 0)), (1, .int 0), (2, .int 1), (3, .int k2)]) (pc := 34) hx hb dzM_section_34 hl (by decide) rfl (fun ls hl => ?_)
      refine lv_iload_n (pc := 36) hx hb dzM_section_36 rfl (lv_at hl 4 rfl) ?_
      by_cases h4 : k2 = 0
      ·
        refine lv_tableIn (pc := 37) (tgt := 64) hx hb dzM_section_37 (by rw [h4]; decide) (by rw [h4]; decide) (by rw [h4]; rfl) (by decide) ?_
        refine lv_aload_n (pc := 64) hx hb dzM_section_64 rfl (lv_at hl 1 rfl) ?_
        refine xk_get (pc := 65) hx hb hts hown hK hP ffzM_23 0 rfl rfl dzM_section_65 ?_
        refine lv_iload (pc := 68) hx hb dzM_section_68 (lv_at hl 0 rfl) ?_
        refine xk_zald (q0 := 5) (t0 := 1) (j := 1) (pc := 70) hx hb hK hP rfl rfl (pk_in 1 6 (by decide)) (pk_cl 1) dzM_section_70 ?_
        have K2 : ∀ (x2 : Int32), (if ((g1 5) 1) = 0 then (if ((g1 3) 1) = 0 then (x2 = 0) else (x2 = 1)) else (x2 = 2)) → W p l e xk_r2 s m args below meth c H locs 0 0 Q (F0 m 93 ls [.int x2]) := by
          intro x2 R2
          exact hret _ g1 H locs 93 ls hP hS rfl (by unfold relzM_section_0_1; exact ⟨x1, R1, ⟨r2, g1, hg1, (Eq.mpr (if_neg h3) (Eq.mpr (if_pos h4) ⟨x2, R2, ⟨rfl, rfl⟩⟩))⟩⟩) dzM_section_93
        refine lv_if_eq (pc := 71) (tgt := 78) hx hb dzM_section_71 (by decide) (fun h5 => ?_) (fun h5 => ?_)
        ·
          refine lv_aload_n (pc := 78) hx hb dzM_section_78 rfl (lv_at hl 1 rfl) ?_
          refine xk_get (pc := 79) hx hb hts hown hK hP ffzM_17 0 rfl rfl dzM_section_79 ?_
          refine lv_iload (pc := 82) hx hb dzM_section_82 (lv_at hl 0 rfl) ?_
          refine xk_iald (q0 := 3) (t0 := 0) (j := 1) (pc := 84) hx hb hK hP rfl rfl (pk_in 1 6 (by decide)) (pk_cl 1) dzM_section_84 ?_
          refine lv_if_eq (pc := 85) (tgt := 92) hx hb dzM_section_85 (by decide) (fun h6 => ?_) (fun h6 => ?_)
          ·
            refine lv_iconst (v := 0) (pc := 92) hx hb dzM_section_92 (by decide) ?_
            exact K2 0 (Eq.mpr (if_pos h5) (Eq.mpr (if_pos h6) rfl))
          ·
            refine lv_iconst (v := 1) (pc := 88) hx hb dzM_section_88 (by decide) ?_
            refine lv_goto (tgt := 93) (pc := 89) hx hb dzM_section_89 (by decide) ?_
            exact K2 1 (Eq.mpr (if_pos h5) (Eq.mpr (if_neg h6) rfl))
        ·
          refine lv_iconst (v := 2) (pc := 74) hx hb dzM_section_74 (by decide) ?_
          refine lv_goto (tgt := 93) (pc := 75) hx hb dzM_section_75 (by decide) ?_
          exact K2 2 (Eq.mpr (if_neg h5) rfl)
      ·
        by_cases h7 : k2 = 1
        ·
          refine lv_tableIn (pc := 37) (tgt := 94) hx hb dzM_section_37 (by rw [h7]; decide) (by rw [h7]; decide) (by rw [h7]; rfl) (by decide) ?_
          refine lv_aload_n (pc := 94) hx hb dzM_section_94 rfl (lv_at hl 1 rfl) ?_
          refine xk_get (pc := 95) hx hb hts hown hK hP ffzM_17 0 rfl rfl dzM_section_95 ?_
          refine lv_iload (pc := 98) hx hb dzM_section_98 (lv_at hl 0 rfl) ?_
          refine xk_iald (q0 := 3) (t0 := 0) (j := 1) (pc := 100) hx hb hK hP rfl rfl (pk_in 1 6 (by decide)) (pk_cl 1) dzM_section_100 ?_
          exact hret _ g1 H locs 101 ls hP hS rfl (by unfold relzM_section_0_1; exact ⟨x1, R1, ⟨r2, g1, hg1, (Eq.mpr (if_neg h3) (Eq.mpr (if_neg h4) (Eq.mpr (if_pos h7) ⟨rfl, rfl⟩)))⟩⟩) dzM_section_101
        ·
          by_cases h8 : k2 = 2
          ·
            refine lv_tableIn (pc := 37) (tgt := 102) hx hb dzM_section_37 (by rw [h8]; decide) (by rw [h8]; decide) (by rw [h8]; rfl) (by decide) ?_
            refine lv_aload_n (pc := 102) hx hb dzM_section_102 rfl (lv_at hl 1 rfl) ?_
            refine lv_iload (pc := 103) hx hb dzM_section_103 (lv_at hl 0 rfl) ?_
            refine xk_allVI (As := [.int 1]) (rest := []) (H0 := s.heap) (pc := 105) hx hb hml hts hown hK hA hP hD hS (kzM_swept_1 l G ac ad g1) vfzM_135 (fun _ => rfl) 0 rfl rfl ⟨rfl, rfl⟩ ⟨Nat.le_of_ble_eq_true rfl, Nat.le_of_ble_eq_true rfl⟩ rfl hl.1 rfl (Nat.le_of_ble_eq_true rfl) ⟨Nat.zero_le _, Nat.zero_le _⟩ dzM_section_105 (fun r3 u9 H locs e9 hP hD hS => ?_)
            obtain rfl : r3 = qzM_swept_1 g1 := e9
            have hP : va_P G xk_cls (xk_wM ad ac g1) H := hP
            have hD : va_D A (xk_wM ad ac g1) := hD
            have K3 : ∀ (x3 : Int32), (if (qzM_swept_1 g1) = 0 then (x3 = 0) else (x3 = 1)) → (xk_b x3) → W p l e xk_r2 s m args below meth c H locs 0 0 Q (F0 m 116 ls [.int x3]) := by
              intro x3 R3 bx3
              exact hret _ g1 H locs 116 ls hP hS rfl (by unfold relzM_section_0_1; exact ⟨x1, R1, ⟨r2, g1, hg1, (Eq.mpr (if_neg h3) (Eq.mpr (if_neg h4) (Eq.mpr (if_neg h7) (Eq.mpr (if_pos h8) ⟨x3, R3, ⟨rfl, rfl⟩⟩))))⟩⟩) dzM_section_116
            refine lv_if_eq (pc := 108) (tgt := 115) hx hb dzM_section_108 (by decide) (fun h9 => ?_) (fun h9 => ?_)
            ·
              refine lv_iconst (v := 0) (pc := 115) hx hb dzM_section_115 (by decide) ?_
              exact K3 0 (Eq.mpr (if_pos h9) rfl) xk_b0
            ·
              refine lv_iconst (v := 1) (pc := 111) hx hb dzM_section_111 (by decide) ?_
              refine lv_goto (tgt := 116) (pc := 112) hx hb dzM_section_112 (by decide) ?_
              exact K3 1 (Eq.mpr (if_neg h9) rfl) xk_b1
          ·
            refine lv_tableOut (pc := 37) (tgt := 117) hx hb dzM_section_37 (xk_out3 h4 h7 h8) (by decide) ?_
            refine lv_aload_n (pc := 117) hx hb dzM_section_117 rfl (lv_at hl 1 rfl) ?_
            refine xk_get (pc := 118) hx hb hts hown hK hP ffzM_26 0 rfl rfl dzM_section_118 ?_
            refine lv_iload (pc := 121) hx hb dzM_section_121 (lv_at hl 0 rfl) ?_
            refine xk_iald (q0 := 6) (t0 := 0) (j := 1) (pc := 123) hx hb hK hP rfl rfl (pk_in 1 6 (by decide)) (pk_cl 1) dzM_section_123 ?_
            exact hret _ g1 H locs 124 ls hP hS rfl (by unfold relzM_section_0_1; exact ⟨x1, R1, ⟨r2, g1, hg1, (Eq.mpr (if_neg h3) (Eq.mpr (if_neg h4) (Eq.mpr (if_neg h7) (Eq.mpr (if_neg h8) ⟨rfl, rfl⟩))))⟩⟩) dzM_section_124
    ·
      refine lv_iconst (v := 0) (pc := 27) hx hb dzM_section_27 (by decide) ?_
      exact hret _ g1 H locs 28 ls hP hS rfl (by unfold relzM_section_0_1; exact ⟨x1, R1, ⟨r2, g1, hg1, (Eq.mpr (if_pos h3) ⟨rfl, rfl⟩)⟩⟩) dzM_section_28
  refine lv_if_lt (pc := 7) (tgt := 19) hx hb dzM_section_7 (by decide) (fun h1 => ?_) (fun h1 => ?_)
  ·
    refine lv_iconst (v := 0) (pc := 19) hx hb dzM_section_19 (by decide) ?_
    exact K1 0 (Eq.mpr (if_pos h1) rfl) xk_b0
  ·
    refine lv_iload_n (pc := 10) hx hb dzM_section_10 rfl (lv_at hl 3 rfl) ?_
    refine lv_iconst (v := 3) (pc := 11) hx hb dzM_section_11 (by decide) ?_
    refine lv_icmp_gt (pc := 12) (tgt := 19) hx hb dzM_section_12 (by decide) (fun h2 => ?_) (fun h2 => ?_)
    ·
      refine lv_iconst (v := 0) (pc := 19) hx hb dzM_section_19 (by decide) ?_
      exact K1 0 (Eq.mpr (if_neg h1) (Eq.mpr (if_pos h2) rfl)) xk_b0
    ·
      refine lv_iconst (v := 1) (pc := 15) hx hb dzM_section_15 (by decide) ?_
      refine lv_goto (tgt := 20) (pc := 16) hx hb dzM_section_16 (by decide) ?_
      exact K1 1 (Eq.mpr (if_neg h1) (Eq.mpr (if_neg h2) rfl)) xk_b1
theorem frzM_section_0_1 (g0 : xk_St) (k2 : Int32) (rz : Int32) (gz : xk_St) : relzM_section_0_1 g0 k2 rz gz → xk_eqv [1, 2, 3, 4, 5, 6, 7, 8, 9, 10, 11, 12, 13, 14, 15, 16, 17, 18, 19, 20, 21, 22, 23, 24, 25, 26, 27] g0 gz := by
  intro h
  unfold relzM_section_0_1 at h
  have s0 : xk_eqv [1, 2, 3, 4, 5, 6, 7, 8, 9, 10, 11, 12, 13, 14, 15, 16, 17, 18, 19, 20, 21, 22, 23, 24, 25, 26, 27] g0 g0 := xk_eqv_rf
  obtain ⟨x1, u1, v2⟩ := h
  obtain ⟨r2, g1, u3, v4⟩ := v2
  have s5 : xk_eqv [1, 2, 3, 4, 5, 6, 7, 8, 9, 10, 11, 12, 13, 14, 15, 16, 17, 18, 19, 20, 21, 22, 23, 24, 25, 26, 27] g0 g1 := xk_eqv_tr s0 (xk_eqv_sub (frzM_goes _ _ _ _ _ _ u3) (by decide))
  by_cases hc : r2 = 0
  · rw [if_pos hc] at v4
    rw [v4.2]; exact s5
  · rw [if_neg hc] at v4
    by_cases hc : k2 = 0
    · rw [if_pos hc] at v4
      obtain ⟨x2, u6, v7⟩ := v4
      rw [v7.2]; exact s5
    · rw [if_neg hc] at v4
      by_cases hc : k2 = 1
      · rw [if_pos hc] at v4
        rw [v4.2]; exact s5
      · rw [if_neg hc] at v4
        by_cases hc : k2 = 2
        · rw [if_pos hc] at v4
          obtain ⟨x3, u8, v9⟩ := v4
          rw [v9.2]; exact s5
        · rw [if_neg hc] at v4
          rw [v4.2]; exact s5
theorem iczM_section_0_1 (B : Nat) (g0 : xk_St) (k2 : Int32) (rz : Int32) (gz : xk_St) : relzM_section_0_1 g0 k2 rz gz → xk_cnt B g0 → xk_cnt (B + 0) gz := by
  intro h Ig0
  unfold relzM_section_0_1 at h
  have Ig0 : xk_cnt (B + 0) g0 := Ig0
  obtain ⟨x1, u1, v2⟩ := h
  obtain ⟨r2, g1, u3, v4⟩ := v2
  have Ig1 : xk_cnt (B + 0) g1 := xk_cnt_le (iczM_goes (B + 0) _ _ _ _ _ _ u3 Ig0) (by omega)
  by_cases hc : r2 = 0
  · rw [if_pos hc] at v4
    rw [v4.2]; exact xk_cnt_le Ig1 (by omega)
  · rw [if_neg hc] at v4
    by_cases hc : k2 = 0
    · rw [if_pos hc] at v4
      obtain ⟨x2, u5, v6⟩ := v4
      rw [v6.2]; exact xk_cnt_le Ig1 (by omega)
    · rw [if_neg hc] at v4
      by_cases hc : k2 = 1
      · rw [if_pos hc] at v4
        rw [v4.2]; exact xk_cnt_le Ig1 (by omega)
      · rw [if_neg hc] at v4
        by_cases hc : k2 = 2
        · rw [if_pos hc] at v4
          obtain ⟨x3, u7, v8⟩ := v4
          rw [v8.2]; exact xk_cnt_le Ig1 (by omega)
        · rw [if_neg hc] at v4
          rw [v4.2]; exact xk_cnt_le Ig1 (by omega)

def relzM_section_0_2 (g0 : xk_St) (k2 : Int32) (rz : Int32) (gz : xk_St) : Prop := ∃ (x1 : Int32), (if k2 < 0 then (x1 = 0) else (if 3 < k2 then (x1 = 0) else (x1 = 1))) ∧ (∃ (r2 : Int32) (g1 : xk_St), relzM_goes g0 1 x1 1 r2 g1 ∧ (if r2 = 0 then (rz = 0 ∧ gz = g1) else (if k2 = 0 then (∃ (x2 : Int32), (if ((g1 5) 2) = 0 then (if ((g1 3) 2) = 0 then (x2 = 0) else (x2 = 1)) else (x2 = 2)) ∧ (rz = x2 ∧ gz = g1)) else (if k2 = 1 then (rz = (g1 3) 2 ∧ gz = g1) else (if k2 = 2 then (∃ (x3 : Int32), (if (qzM_swept_2 g1) = 0 then (x3 = 0) else (x3 = 1)) ∧ (rz = x3 ∧ gz = g1)) else (rz = (g1 6) 2 ∧ gz = g1))))))
set_option maxHeartbeats 4000000 in
set_option maxRecDepth 100000 in
theorem kzM_section_0_2 (l : Launch) (G : va_G) (ac : Nat → ClassId) (ad : Nat → Nat) (g0 : xk_St) (k2 : Int32) (B : Nat) (Ig0 : xk_cnt B g0) (hB : B + 1 < 2147483648) : xk_CI l yzM_section czM_section 5 .int xk_WS xk_r2 G xk_cls (xk_tys ac) [.ref (ad 0), .int 0, .int 2, .int k2] (xk_wM ad ac g0) (fun rz (gz : xk_St) => relzM_section_0_2 g0 k2 rz gz) (fun gz => xk_wM ad ac gz) := by
  refine xk_ofI (by decide) (Nat.le_of_ble_eq_true rfl) ?_
  intro p e s m args below meth c A Q H locs ls C0 hret hP hD hS hl
  obtain ⟨hx, hb, hml, hts, hown, hK, hA⟩ := C0
  have hl : lv_has ls 5 [(0, .ref (ad 0)), (1, .int 0), (2, .int 2), (3, .int k2)] := hl
  have Ig0 : xk_cnt (B + 0) g0 := Ig0
  refine lv_aload_n (pc := 0) hx hb dzM_section_0 rfl (lv_at hl 0 rfl) ?_
  refine lv_iload_n (pc := 1) hx hb dzM_section_1 rfl (lv_at hl 1 rfl) ?_
  refine lv_iload_n (pc := 2) hx hb dzM_section_2 rfl (lv_at hl 2 rfl) ?_
  refine xk_callSI (As := [.int 0, .int 2]) (rest := [.ref (ad 0)]) (H0 := s.heap) (pc := 3) hx hb hml hts hown hK hA hP hD hS (kzM_isSection l G ac 0 2) sfzM_132 [] (by decide) rfl (fun _ => rfl) ⟨rfl, rfl⟩ ⟨Nat.le_of_ble_eq_true rfl, Nat.le_of_ble_eq_true rfl⟩ rfl hl.1 rfl (Nat.le_of_ble_eq_true rfl) ⟨Nat.zero_le _, Nat.zero_le _⟩ dzM_section_3 (fun r1 u9 H locs e9 hP hD hS => ?_)
  obtain rfl : r1 = qzM_isSection 0 2 := e9
  refine xk_is (y := 1) (by decide) ?_
  have hP : va_P G xk_cls (xk_wM ad ac g0) H := hP
  have hD : va_D A (xk_wM ad ac g0) := hD
  refine lv_iload_n (pc := 6) hx hb dzM_section_6 rfl (lv_at hl 3 rfl) ?_
  have K1 : ∀ (x1 : Int32), (if k2 < 0 then (x1 = 0) else (if 3 < k2 then (x1 = 0) else (x1 = 1))) → (xk_b x1) → W p l e xk_r2 s m args below meth c H locs 0 0 Q (F0 m 20 ls [.int x1, .int 1, .ref (ad 0)]) := by
    intro x1 R1 bx1
    refine lv_iconst (v := 1) (pc := 20) hx hb dzM_section_20 (by decide) ?_
    refine xk_allVI (As := [.int 1, .int x1, .int 1]) (rest := []) (H0 := s.heap) (pc := 21) hx hb hml hts hown hK hA hP hD hS (kzM_goes l G ac ad g0 1 x1 1 (B + 0) Ig0 (by omega)) vfzM_114 (fun _ => rfl) 0 rfl rfl ⟨rfl, rfl⟩ ⟨Nat.le_of_ble_eq_true rfl, Nat.le_of_ble_eq_true rfl⟩ rfl hl.1 rfl (Nat.le_of_ble_eq_true rfl) ⟨Nat.zero_le _, Nat.zero_le _⟩ dzM_section_21 (fun r2 g1 H locs hg1 hP hD hS => ?_)
    have hP : va_P G xk_cls (xk_wM ad ac g1) H := hP
    have hD : va_D A (xk_wM ad ac g1) := hD
    have Ig1 : xk_cnt (B + 0) g1 := xk_cnt_le (iczM_goes (B + 0) _ _ _ _ _ _ hg1 Ig0) (by omega)
    refine lv_if_ne (pc := 24) (tgt := 29) hx hb dzM_section_24 (by decide) (fun h3 => ?_) (fun h3 => ?_)
    ·
      refine lv_iconst (v := 3) (pc := 29) hx hb dzM_section_29 (by decide) ?_
      refine lv_iload_n (pc := 30) hx hb dzM_section_30 rfl (lv_at hl 1 rfl) ?_
      refine lv_imul (pc := 31) hx hb dzM_section_31 ?_
      refine xk_is (y := 0) (by decide) ?_
      refine lv_iload_n (pc := 32) hx hb dzM_section_32 rfl (lv_at hl 2 rfl) ?_
      refine lv_iadd (pc := 33) hx hb dzM_section_33 ?_
      refine xk_is (y := 2) (by decide) ?_
      refine lv_istore (lv' := [(4, .int 2), (0, .ref (ad 0)), (1, .int 0), (2, .int 2), (3, .int k2)]) (pc := 34) hx hb dzM_section_34 hl (by decide) rfl (fun ls hl => ?_)
      refine lv_iload_n (pc := 36) hx hb dzM_section_36 rfl (lv_at hl 4 rfl) ?_
      by_cases h4 : k2 = 0
      ·
        refine lv_tableIn (pc := 37) (tgt := 64) hx hb dzM_section_37 (by rw [h4]; decide) (by rw [h4]; decide) (by rw [h4]; rfl) (by decide) ?_
        refine lv_aload_n (pc := 64) hx hb dzM_section_64 rfl (lv_at hl 1 rfl) ?_
        refine xk_get (pc := 65) hx hb hts hown hK hP ffzM_23 0 rfl rfl dzM_section_65 ?_
        refine lv_iload (pc := 68) hx hb dzM_section_68 (lv_at hl 0 rfl) ?_
        refine xk_zald (q0 := 5) (t0 := 1) (j := 2) (pc := 70) hx hb hK hP rfl rfl (pk_in 2 6 (by decide)) (pk_cl 2) dzM_section_70 ?_
        have K2 : ∀ (x2 : Int32), (if ((g1 5) 2) = 0 then (if ((g1 3) 2) = 0 then (x2 = 0) else (x2 = 1)) else (x2 = 2)) → W p l e xk_r2 s m args below meth c H locs 0 0 Q (F0 m 93 ls [.int x2]) := by
          intro x2 R2
          exact hret _ g1 H locs 93 ls hP hS rfl (by unfold relzM_section_0_2; exact ⟨x1, R1, ⟨r2, g1, hg1, (Eq.mpr (if_neg h3) (Eq.mpr (if_pos h4) ⟨x2, R2, ⟨rfl, rfl⟩⟩))⟩⟩) dzM_section_93
        refine lv_if_eq (pc := 71) (tgt := 78) hx hb dzM_section_71 (by decide) (fun h5 => ?_) (fun h5 => ?_)
        ·
          refine lv_aload_n (pc := 78) hx hb dzM_section_78 rfl (lv_at hl 1 rfl) ?_
          refine xk_get (pc := 79) hx hb hts hown hK hP ffzM_17 0 rfl rfl dzM_section_79 ?_
          refine lv_iload (pc := 82) hx hb dzM_section_82 (lv_at hl 0 rfl) ?_
          refine xk_iald (q0 := 3) (t0 := 0) (j := 2) (pc := 84) hx hb hK hP rfl rfl (pk_in 2 6 (by decide)) (pk_cl 2) dzM_section_84 ?_
          refine lv_if_eq (pc := 85) (tgt := 92) hx hb dzM_section_85 (by decide) (fun h6 => ?_) (fun h6 => ?_)
          ·
            refine lv_iconst (v := 0) (pc := 92) hx hb dzM_section_92 (by decide) ?_
            exact K2 0 (Eq.mpr (if_pos h5) (Eq.mpr (if_pos h6) rfl))
          ·
            refine lv_iconst (v := 1) (pc := 88) hx hb dzM_section_88 (by decide) ?_
            refine lv_goto (tgt := 93) (pc := 89) hx hb dzM_section_89 (by decide) ?_
            exact K2 1 (Eq.mpr (if_pos h5) (Eq.mpr (if_neg h6) rfl))
        ·
          refine lv_iconst (v := 2) (pc := 74) hx hb dzM_section_74 (by decide) ?_
          refine lv_goto (tgt := 93) (pc := 75) hx hb dzM_section_75 (by decide) ?_
          exact K2 2 (Eq.mpr (if_neg h5) rfl)
      ·
        by_cases h7 : k2 = 1
        ·
          refine lv_tableIn (pc := 37) (tgt := 94) hx hb dzM_section_37 (by rw [h7]; decide) (by rw [h7]; decide) (by rw [h7]; rfl) (by decide) ?_
          refine lv_aload_n (pc := 94) hx hb dzM_section_94 rfl (lv_at hl 1 rfl) ?_
          refine xk_get (pc := 95) hx hb hts hown hK hP ffzM_17 0 rfl rfl dzM_section_95 ?_
          refine lv_iload (pc := 98) hx hb dzM_section_98 (lv_at hl 0 rfl) ?_
          refine xk_iald (q0 := 3) (t0 := 0) (j := 2) (pc := 100) hx hb hK hP rfl rfl (pk_in 2 6 (by decide)) (pk_cl 2) dzM_section_100 ?_
          exact hret _ g1 H locs 101 ls hP hS rfl (by unfold relzM_section_0_2; exact ⟨x1, R1, ⟨r2, g1, hg1, (Eq.mpr (if_neg h3) (Eq.mpr (if_neg h4) (Eq.mpr (if_pos h7) ⟨rfl, rfl⟩)))⟩⟩) dzM_section_101
        ·
          by_cases h8 : k2 = 2
          ·
            refine lv_tableIn (pc := 37) (tgt := 102) hx hb dzM_section_37 (by rw [h8]; decide) (by rw [h8]; decide) (by rw [h8]; rfl) (by decide) ?_
            refine lv_aload_n (pc := 102) hx hb dzM_section_102 rfl (lv_at hl 1 rfl) ?_
            refine lv_iload (pc := 103) hx hb dzM_section_103 (lv_at hl 0 rfl) ?_
            refine xk_allVI (As := [.int 2]) (rest := []) (H0 := s.heap) (pc := 105) hx hb hml hts hown hK hA hP hD hS (kzM_swept_2 l G ac ad g1) vfzM_135 (fun _ => rfl) 0 rfl rfl ⟨rfl, rfl⟩ ⟨Nat.le_of_ble_eq_true rfl, Nat.le_of_ble_eq_true rfl⟩ rfl hl.1 rfl (Nat.le_of_ble_eq_true rfl) ⟨Nat.zero_le _, Nat.zero_le _⟩ dzM_section_105 (fun r3 u9 H locs e9 hP hD hS => ?_)
            obtain rfl : r3 = qzM_swept_2 g1 := e9
            have hP : va_P G xk_cls (xk_wM ad ac g1) H := hP
            have hD : va_D A (xk_wM ad ac g1) := hD
            have K3 : ∀ (x3 : Int32), (if (qzM_swept_2 g1) = 0 then (x3 = 0) else (x3 = 1)) → (xk_b x3) → W p l e xk_r2 s m args below meth c H locs 0 0 Q (F0 m 116 ls [.int x3]) := by
              intro x3 R3 bx3
              exact hret _ g1 H locs 116 ls hP hS rfl (by unfold relzM_section_0_2; exact ⟨x1, R1, ⟨r2, g1, hg1, (Eq.mpr (if_neg h3) (Eq.mpr (if_neg h4) (Eq.mpr (if_neg h7) (Eq.mpr (if_pos h8) ⟨x3, R3, ⟨rfl, rfl⟩⟩))))⟩⟩) dzM_section_116
            refine lv_if_eq (pc := 108) (tgt := 115) hx hb dzM_section_108 (by decide) (fun h9 => ?_) (fun h9 => ?_)
            ·
              refine lv_iconst (v := 0) (pc := 115) hx hb dzM_section_115 (by decide) ?_
              exact K3 0 (Eq.mpr (if_pos h9) rfl) xk_b0
            ·
              refine lv_iconst (v := 1) (pc := 111) hx hb dzM_section_111 (by decide) ?_
              refine lv_goto (tgt := 116) (pc := 112) hx hb dzM_section_112 (by decide) ?_
              exact K3 1 (Eq.mpr (if_neg h9) rfl) xk_b1
          ·
            refine lv_tableOut (pc := 37) (tgt := 117) hx hb dzM_section_37 (xk_out3 h4 h7 h8) (by decide) ?_
            refine lv_aload_n (pc := 117) hx hb dzM_section_117 rfl (lv_at hl 1 rfl) ?_
            refine xk_get (pc := 118) hx hb hts hown hK hP ffzM_26 0 rfl rfl dzM_section_118 ?_
            refine lv_iload (pc := 121) hx hb dzM_section_121 (lv_at hl 0 rfl) ?_
            refine xk_iald (q0 := 6) (t0 := 0) (j := 2) (pc := 123) hx hb hK hP rfl rfl (pk_in 2 6 (by decide)) (pk_cl 2) dzM_section_123 ?_
            exact hret _ g1 H locs 124 ls hP hS rfl (by unfold relzM_section_0_2; exact ⟨x1, R1, ⟨r2, g1, hg1, (Eq.mpr (if_neg h3) (Eq.mpr (if_neg h4) (Eq.mpr (if_neg h7) (Eq.mpr (if_neg h8) ⟨rfl, rfl⟩))))⟩⟩) dzM_section_124
    ·
      refine lv_iconst (v := 0) (pc := 27) hx hb dzM_section_27 (by decide) ?_
      exact hret _ g1 H locs 28 ls hP hS rfl (by unfold relzM_section_0_2; exact ⟨x1, R1, ⟨r2, g1, hg1, (Eq.mpr (if_pos h3) ⟨rfl, rfl⟩)⟩⟩) dzM_section_28
  refine lv_if_lt (pc := 7) (tgt := 19) hx hb dzM_section_7 (by decide) (fun h1 => ?_) (fun h1 => ?_)
  ·
    refine lv_iconst (v := 0) (pc := 19) hx hb dzM_section_19 (by decide) ?_
    exact K1 0 (Eq.mpr (if_pos h1) rfl) xk_b0
  ·
    refine lv_iload_n (pc := 10) hx hb dzM_section_10 rfl (lv_at hl 3 rfl) ?_
    refine lv_iconst (v := 3) (pc := 11) hx hb dzM_section_11 (by decide) ?_
    refine lv_icmp_gt (pc := 12) (tgt := 19) hx hb dzM_section_12 (by decide) (fun h2 => ?_) (fun h2 => ?_)
    ·
      refine lv_iconst (v := 0) (pc := 19) hx hb dzM_section_19 (by decide) ?_
      exact K1 0 (Eq.mpr (if_neg h1) (Eq.mpr (if_pos h2) rfl)) xk_b0
    ·
      refine lv_iconst (v := 1) (pc := 15) hx hb dzM_section_15 (by decide) ?_
      refine lv_goto (tgt := 20) (pc := 16) hx hb dzM_section_16 (by decide) ?_
      exact K1 1 (Eq.mpr (if_neg h1) (Eq.mpr (if_neg h2) rfl)) xk_b1
theorem frzM_section_0_2 (g0 : xk_St) (k2 : Int32) (rz : Int32) (gz : xk_St) : relzM_section_0_2 g0 k2 rz gz → xk_eqv [1, 2, 3, 4, 5, 6, 7, 8, 9, 10, 11, 12, 13, 14, 15, 16, 17, 18, 19, 20, 21, 22, 23, 24, 25, 26, 27] g0 gz := by
  intro h
  unfold relzM_section_0_2 at h
  have s0 : xk_eqv [1, 2, 3, 4, 5, 6, 7, 8, 9, 10, 11, 12, 13, 14, 15, 16, 17, 18, 19, 20, 21, 22, 23, 24, 25, 26, 27] g0 g0 := xk_eqv_rf
  obtain ⟨x1, u1, v2⟩ := h
  obtain ⟨r2, g1, u3, v4⟩ := v2
  have s5 : xk_eqv [1, 2, 3, 4, 5, 6, 7, 8, 9, 10, 11, 12, 13, 14, 15, 16, 17, 18, 19, 20, 21, 22, 23, 24, 25, 26, 27] g0 g1 := xk_eqv_tr s0 (xk_eqv_sub (frzM_goes _ _ _ _ _ _ u3) (by decide))
  by_cases hc : r2 = 0
  · rw [if_pos hc] at v4
    rw [v4.2]; exact s5
  · rw [if_neg hc] at v4
    by_cases hc : k2 = 0
    · rw [if_pos hc] at v4
      obtain ⟨x2, u6, v7⟩ := v4
      rw [v7.2]; exact s5
    · rw [if_neg hc] at v4
      by_cases hc : k2 = 1
      · rw [if_pos hc] at v4
        rw [v4.2]; exact s5
      · rw [if_neg hc] at v4
        by_cases hc : k2 = 2
        · rw [if_pos hc] at v4
          obtain ⟨x3, u8, v9⟩ := v4
          rw [v9.2]; exact s5
        · rw [if_neg hc] at v4
          rw [v4.2]; exact s5
theorem iczM_section_0_2 (B : Nat) (g0 : xk_St) (k2 : Int32) (rz : Int32) (gz : xk_St) : relzM_section_0_2 g0 k2 rz gz → xk_cnt B g0 → xk_cnt (B + 0) gz := by
  intro h Ig0
  unfold relzM_section_0_2 at h
  have Ig0 : xk_cnt (B + 0) g0 := Ig0
  obtain ⟨x1, u1, v2⟩ := h
  obtain ⟨r2, g1, u3, v4⟩ := v2
  have Ig1 : xk_cnt (B + 0) g1 := xk_cnt_le (iczM_goes (B + 0) _ _ _ _ _ _ u3 Ig0) (by omega)
  by_cases hc : r2 = 0
  · rw [if_pos hc] at v4
    rw [v4.2]; exact xk_cnt_le Ig1 (by omega)
  · rw [if_neg hc] at v4
    by_cases hc : k2 = 0
    · rw [if_pos hc] at v4
      obtain ⟨x2, u5, v6⟩ := v4
      rw [v6.2]; exact xk_cnt_le Ig1 (by omega)
    · rw [if_neg hc] at v4
      by_cases hc : k2 = 1
      · rw [if_pos hc] at v4
        rw [v4.2]; exact xk_cnt_le Ig1 (by omega)
      · rw [if_neg hc] at v4
        by_cases hc : k2 = 2
        · rw [if_pos hc] at v4
          obtain ⟨x3, u7, v8⟩ := v4
          rw [v8.2]; exact xk_cnt_le Ig1 (by omega)
        · rw [if_neg hc] at v4
          rw [v4.2]; exact xk_cnt_le Ig1 (by omega)

def relzM_section_1_0 (g0 : xk_St) (k2 : Int32) (rz : Int32) (gz : xk_St) : Prop := ∃ (x1 : Int32), (if k2 < 0 then (x1 = 0) else (if 3 < k2 then (x1 = 0) else (x1 = 1))) ∧ (∃ (r2 : Int32) (g1 : xk_St), relzM_goes g0 1 x1 1 r2 g1 ∧ (if r2 = 0 then (rz = 0 ∧ gz = g1) else (if k2 = 0 then (∃ (x2 : Int32), (if ((g1 5) 3) = 0 then (if ((g1 3) 3) = 0 then (x2 = 0) else (x2 = 1)) else (x2 = 2)) ∧ (rz = x2 ∧ gz = g1)) else (if k2 = 1 then (rz = (g1 3) 3 ∧ gz = g1) else (if k2 = 2 then (∃ (x3 : Int32), (if (qzM_swept_3 g1) = 0 then (x3 = 0) else (x3 = 1)) ∧ (rz = x3 ∧ gz = g1)) else (rz = (g1 6) 3 ∧ gz = g1))))))
set_option maxHeartbeats 4000000 in
set_option maxRecDepth 100000 in
theorem kzM_section_1_0 (l : Launch) (G : va_G) (ac : Nat → ClassId) (ad : Nat → Nat) (g0 : xk_St) (k2 : Int32) (B : Nat) (Ig0 : xk_cnt B g0) (hB : B + 1 < 2147483648) : xk_CI l yzM_section czM_section 5 .int xk_WS xk_r2 G xk_cls (xk_tys ac) [.ref (ad 0), .int 1, .int 0, .int k2] (xk_wM ad ac g0) (fun rz (gz : xk_St) => relzM_section_1_0 g0 k2 rz gz) (fun gz => xk_wM ad ac gz) := by
  refine xk_ofI (by decide) (Nat.le_of_ble_eq_true rfl) ?_
  intro p e s m args below meth c A Q H locs ls C0 hret hP hD hS hl
  obtain ⟨hx, hb, hml, hts, hown, hK, hA⟩ := C0
  have hl : lv_has ls 5 [(0, .ref (ad 0)), (1, .int 1), (2, .int 0), (3, .int k2)] := hl
  have Ig0 : xk_cnt (B + 0) g0 := Ig0
  refine lv_aload_n (pc := 0) hx hb dzM_section_0 rfl (lv_at hl 0 rfl) ?_
  refine lv_iload_n (pc := 1) hx hb dzM_section_1 rfl (lv_at hl 1 rfl) ?_
  refine lv_iload_n (pc := 2) hx hb dzM_section_2 rfl (lv_at hl 2 rfl) ?_
  refine xk_callSI (As := [.int 1, .int 0]) (rest := [.ref (ad 0)]) (H0 := s.heap) (pc := 3) hx hb hml hts hown hK hA hP hD hS (kzM_isSection l G ac 1 0) sfzM_132 [] (by decide) rfl (fun _ => rfl) ⟨rfl, rfl⟩ ⟨Nat.le_of_ble_eq_true rfl, Nat.le_of_ble_eq_true rfl⟩ rfl hl.1 rfl (Nat.le_of_ble_eq_true rfl) ⟨Nat.zero_le _, Nat.zero_le _⟩ dzM_section_3 (fun r1 u9 H locs e9 hP hD hS => ?_)
  obtain rfl : r1 = qzM_isSection 1 0 := e9
  refine xk_is (y := 1) (by decide) ?_
  have hP : va_P G xk_cls (xk_wM ad ac g0) H := hP
  have hD : va_D A (xk_wM ad ac g0) := hD
  refine lv_iload_n (pc := 6) hx hb dzM_section_6 rfl (lv_at hl 3 rfl) ?_
  have K1 : ∀ (x1 : Int32), (if k2 < 0 then (x1 = 0) else (if 3 < k2 then (x1 = 0) else (x1 = 1))) → (xk_b x1) → W p l e xk_r2 s m args below meth c H locs 0 0 Q (F0 m 20 ls [.int x1, .int 1, .ref (ad 0)]) := by
    intro x1 R1 bx1
    refine lv_iconst (v := 1) (pc := 20) hx hb dzM_section_20 (by decide) ?_
    refine xk_allVI (As := [.int 1, .int x1, .int 1]) (rest := []) (H0 := s.heap) (pc := 21) hx hb hml hts hown hK hA hP hD hS (kzM_goes l G ac ad g0 1 x1 1 (B + 0) Ig0 (by omega)) vfzM_114 (fun _ => rfl) 0 rfl rfl ⟨rfl, rfl⟩ ⟨Nat.le_of_ble_eq_true rfl, Nat.le_of_ble_eq_true rfl⟩ rfl hl.1 rfl (Nat.le_of_ble_eq_true rfl) ⟨Nat.zero_le _, Nat.zero_le _⟩ dzM_section_21 (fun r2 g1 H locs hg1 hP hD hS => ?_)
    have hP : va_P G xk_cls (xk_wM ad ac g1) H := hP
    have hD : va_D A (xk_wM ad ac g1) := hD
    have Ig1 : xk_cnt (B + 0) g1 := xk_cnt_le (iczM_goes (B + 0) _ _ _ _ _ _ hg1 Ig0) (by omega)
    refine lv_if_ne (pc := 24) (tgt := 29) hx hb dzM_section_24 (by decide) (fun h3 => ?_) (fun h3 => ?_)
    ·
      refine lv_iconst (v := 3) (pc := 29) hx hb dzM_section_29 (by decide) ?_
      refine lv_iload_n (pc := 30) hx hb dzM_section_30 rfl (lv_at hl 1 rfl) ?_
      refine lv_imul (pc := 31) hx hb dzM_section_31 ?_
      refine xk_is (y := 3) (by decide) ?_
      refine lv_iload_n (pc := 32) hx hb dzM_section_32 rfl (lv_at hl 2 rfl) ?_
      refine lv_iadd (pc := 33) hx hb dzM_section_33 ?_
      refine xk_is (y := 3) (by decide) ?_
      refine lv_istore (lv' := [(4, .int 3), (0, .ref (ad 0)), (1, .int 1), (2, .int 0), (3, .int k2)]) (pc := 34) hx hb dzM_section_34 hl (by decide) rfl (fun ls hl => ?_)
      refine lv_iload_n (pc := 36) hx hb dzM_section_36 rfl (lv_at hl 4 rfl) ?_
      by_cases h4 : k2 = 0
      ·
        refine lv_tableIn (pc := 37) (tgt := 64) hx hb dzM_section_37 (by rw [h4]; decide) (by rw [h4]; decide) (by rw [h4]; rfl) (by decide) ?_
        refine lv_aload_n (pc := 64) hx hb dzM_section_64 rfl (lv_at hl 1 rfl) ?_
        refine xk_get (pc := 65) hx hb hts hown hK hP ffzM_23 0 rfl rfl dzM_section_65 ?_
        refine lv_iload (pc := 68) hx hb dzM_section_68 (lv_at hl 0 rfl) ?_
        refine xk_zald (q0 := 5) (t0 := 1) (j := 3) (pc := 70) hx hb hK hP rfl rfl (pk_in 3 6 (by decide)) (pk_cl 3) dzM_section_70 ?_
        have K2 : ∀ (x2 : Int32), (if ((g1 5) 3) = 0 then (if ((g1 3) 3) = 0 then (x2 = 0) else (x2 = 1)) else (x2 = 2)) → W p l e xk_r2 s m args below meth c H locs 0 0 Q (F0 m 93 ls [.int x2]) := by
          intro x2 R2
          exact hret _ g1 H locs 93 ls hP hS rfl (by unfold relzM_section_1_0; exact ⟨x1, R1, ⟨r2, g1, hg1, (Eq.mpr (if_neg h3) (Eq.mpr (if_pos h4) ⟨x2, R2, ⟨rfl, rfl⟩⟩))⟩⟩) dzM_section_93
        refine lv_if_eq (pc := 71) (tgt := 78) hx hb dzM_section_71 (by decide) (fun h5 => ?_) (fun h5 => ?_)
        ·
          refine lv_aload_n (pc := 78) hx hb dzM_section_78 rfl (lv_at hl 1 rfl) ?_
          refine xk_get (pc := 79) hx hb hts hown hK hP ffzM_17 0 rfl rfl dzM_section_79 ?_
          refine lv_iload (pc := 82) hx hb dzM_section_82 (lv_at hl 0 rfl) ?_
          refine xk_iald (q0 := 3) (t0 := 0) (j := 3) (pc := 84) hx hb hK hP rfl rfl (pk_in 3 6 (by decide)) (pk_cl 3) dzM_section_84 ?_
          refine lv_if_eq (pc := 85) (tgt := 92) hx hb dzM_section_85 (by decide) (fun h6 => ?_) (fun h6 => ?_)
          ·
            refine lv_iconst (v := 0) (pc := 92) hx hb dzM_section_92 (by decide) ?_
            exact K2 0 (Eq.mpr (if_pos h5) (Eq.mpr (if_pos h6) rfl))
          ·
            refine lv_iconst (v := 1) (pc := 88) hx hb dzM_section_88 (by decide) ?_
            refine lv_goto (tgt := 93) (pc := 89) hx hb dzM_section_89 (by decide) ?_
            exact K2 1 (Eq.mpr (if_pos h5) (Eq.mpr (if_neg h6) rfl))
        ·
          refine lv_iconst (v := 2) (pc := 74) hx hb dzM_section_74 (by decide) ?_
          refine lv_goto (tgt := 93) (pc := 75) hx hb dzM_section_75 (by decide) ?_
          exact K2 2 (Eq.mpr (if_neg h5) rfl)
      ·
        by_cases h7 : k2 = 1
        ·
          refine lv_tableIn (pc := 37) (tgt := 94) hx hb dzM_section_37 (by rw [h7]; decide) (by rw [h7]; decide) (by rw [h7]; rfl) (by decide) ?_
          refine lv_aload_n (pc := 94) hx hb dzM_section_94 rfl (lv_at hl 1 rfl) ?_
          refine xk_get (pc := 95) hx hb hts hown hK hP ffzM_17 0 rfl rfl dzM_section_95 ?_
          refine lv_iload (pc := 98) hx hb dzM_section_98 (lv_at hl 0 rfl) ?_
          refine xk_iald (q0 := 3) (t0 := 0) (j := 3) (pc := 100) hx hb hK hP rfl rfl (pk_in 3 6 (by decide)) (pk_cl 3) dzM_section_100 ?_
          exact hret _ g1 H locs 101 ls hP hS rfl (by unfold relzM_section_1_0; exact ⟨x1, R1, ⟨r2, g1, hg1, (Eq.mpr (if_neg h3) (Eq.mpr (if_neg h4) (Eq.mpr (if_pos h7) ⟨rfl, rfl⟩)))⟩⟩) dzM_section_101
        ·
          by_cases h8 : k2 = 2
          ·
            refine lv_tableIn (pc := 37) (tgt := 102) hx hb dzM_section_37 (by rw [h8]; decide) (by rw [h8]; decide) (by rw [h8]; rfl) (by decide) ?_
            refine lv_aload_n (pc := 102) hx hb dzM_section_102 rfl (lv_at hl 1 rfl) ?_
            refine lv_iload (pc := 103) hx hb dzM_section_103 (lv_at hl 0 rfl) ?_
            refine xk_allVI (As := [.int 3]) (rest := []) (H0 := s.heap) (pc := 105) hx hb hml hts hown hK hA hP hD hS (kzM_swept_3 l G ac ad g1) vfzM_135 (fun _ => rfl) 0 rfl rfl ⟨rfl, rfl⟩ ⟨Nat.le_of_ble_eq_true rfl, Nat.le_of_ble_eq_true rfl⟩ rfl hl.1 rfl (Nat.le_of_ble_eq_true rfl) ⟨Nat.zero_le _, Nat.zero_le _⟩ dzM_section_105 (fun r3 u9 H locs e9 hP hD hS => ?_)
            obtain rfl : r3 = qzM_swept_3 g1 := e9
            have hP : va_P G xk_cls (xk_wM ad ac g1) H := hP
            have hD : va_D A (xk_wM ad ac g1) := hD
            have K3 : ∀ (x3 : Int32), (if (qzM_swept_3 g1) = 0 then (x3 = 0) else (x3 = 1)) → (xk_b x3) → W p l e xk_r2 s m args below meth c H locs 0 0 Q (F0 m 116 ls [.int x3]) := by
              intro x3 R3 bx3
              exact hret _ g1 H locs 116 ls hP hS rfl (by unfold relzM_section_1_0; exact ⟨x1, R1, ⟨r2, g1, hg1, (Eq.mpr (if_neg h3) (Eq.mpr (if_neg h4) (Eq.mpr (if_neg h7) (Eq.mpr (if_pos h8) ⟨x3, R3, ⟨rfl, rfl⟩⟩))))⟩⟩) dzM_section_116
            refine lv_if_eq (pc := 108) (tgt := 115) hx hb dzM_section_108 (by decide) (fun h9 => ?_) (fun h9 => ?_)
            ·
              refine lv_iconst (v := 0) (pc := 115) hx hb dzM_section_115 (by decide) ?_
              exact K3 0 (Eq.mpr (if_pos h9) rfl) xk_b0
            ·
              refine lv_iconst (v := 1) (pc := 111) hx hb dzM_section_111 (by decide) ?_
              refine lv_goto (tgt := 116) (pc := 112) hx hb dzM_section_112 (by decide) ?_
              exact K3 1 (Eq.mpr (if_neg h9) rfl) xk_b1
          ·
            refine lv_tableOut (pc := 37) (tgt := 117) hx hb dzM_section_37 (xk_out3 h4 h7 h8) (by decide) ?_
            refine lv_aload_n (pc := 117) hx hb dzM_section_117 rfl (lv_at hl 1 rfl) ?_
            refine xk_get (pc := 118) hx hb hts hown hK hP ffzM_26 0 rfl rfl dzM_section_118 ?_
            refine lv_iload (pc := 121) hx hb dzM_section_121 (lv_at hl 0 rfl) ?_
            refine xk_iald (q0 := 6) (t0 := 0) (j := 3) (pc := 123) hx hb hK hP rfl rfl (pk_in 3 6 (by decide)) (pk_cl 3) dzM_section_123 ?_
            exact hret _ g1 H locs 124 ls hP hS rfl (by unfold relzM_section_1_0; exact ⟨x1, R1, ⟨r2, g1, hg1, (Eq.mpr (if_neg h3) (Eq.mpr (if_neg h4) (Eq.mpr (if_neg h7) (Eq.mpr (if_neg h8) ⟨rfl, rfl⟩))))⟩⟩) dzM_section_124
    ·
      refine lv_iconst (v := 0) (pc := 27) hx hb dzM_section_27 (by decide) ?_
      exact hret _ g1 H locs 28 ls hP hS rfl (by unfold relzM_section_1_0; exact ⟨x1, R1, ⟨r2, g1, hg1, (Eq.mpr (if_pos h3) ⟨rfl, rfl⟩)⟩⟩) dzM_section_28
  refine lv_if_lt (pc := 7) (tgt := 19) hx hb dzM_section_7 (by decide) (fun h1 => ?_) (fun h1 => ?_)
  ·
    refine lv_iconst (v := 0) (pc := 19) hx hb dzM_section_19 (by decide) ?_
    exact K1 0 (Eq.mpr (if_pos h1) rfl) xk_b0
  ·
    refine lv_iload_n (pc := 10) hx hb dzM_section_10 rfl (lv_at hl 3 rfl) ?_
    refine lv_iconst (v := 3) (pc := 11) hx hb dzM_section_11 (by decide) ?_
    refine lv_icmp_gt (pc := 12) (tgt := 19) hx hb dzM_section_12 (by decide) (fun h2 => ?_) (fun h2 => ?_)
    ·
      refine lv_iconst (v := 0) (pc := 19) hx hb dzM_section_19 (by decide) ?_
      exact K1 0 (Eq.mpr (if_neg h1) (Eq.mpr (if_pos h2) rfl)) xk_b0
    ·
      refine lv_iconst (v := 1) (pc := 15) hx hb dzM_section_15 (by decide) ?_
      refine lv_goto (tgt := 20) (pc := 16) hx hb dzM_section_16 (by decide) ?_
      exact K1 1 (Eq.mpr (if_neg h1) (Eq.mpr (if_neg h2) rfl)) xk_b1
theorem frzM_section_1_0 (g0 : xk_St) (k2 : Int32) (rz : Int32) (gz : xk_St) : relzM_section_1_0 g0 k2 rz gz → xk_eqv [1, 2, 3, 4, 5, 6, 7, 8, 9, 10, 11, 12, 13, 14, 15, 16, 17, 18, 19, 20, 21, 22, 23, 24, 25, 26, 27] g0 gz := by
  intro h
  unfold relzM_section_1_0 at h
  have s0 : xk_eqv [1, 2, 3, 4, 5, 6, 7, 8, 9, 10, 11, 12, 13, 14, 15, 16, 17, 18, 19, 20, 21, 22, 23, 24, 25, 26, 27] g0 g0 := xk_eqv_rf
  obtain ⟨x1, u1, v2⟩ := h
  obtain ⟨r2, g1, u3, v4⟩ := v2
  have s5 : xk_eqv [1, 2, 3, 4, 5, 6, 7, 8, 9, 10, 11, 12, 13, 14, 15, 16, 17, 18, 19, 20, 21, 22, 23, 24, 25, 26, 27] g0 g1 := xk_eqv_tr s0 (xk_eqv_sub (frzM_goes _ _ _ _ _ _ u3) (by decide))
  by_cases hc : r2 = 0
  · rw [if_pos hc] at v4
    rw [v4.2]; exact s5
  · rw [if_neg hc] at v4
    by_cases hc : k2 = 0
    · rw [if_pos hc] at v4
      obtain ⟨x2, u6, v7⟩ := v4
      rw [v7.2]; exact s5
    · rw [if_neg hc] at v4
      by_cases hc : k2 = 1
      · rw [if_pos hc] at v4
        rw [v4.2]; exact s5
      · rw [if_neg hc] at v4
        by_cases hc : k2 = 2
        · rw [if_pos hc] at v4
          obtain ⟨x3, u8, v9⟩ := v4
          rw [v9.2]; exact s5
        · rw [if_neg hc] at v4
          rw [v4.2]; exact s5
theorem iczM_section_1_0 (B : Nat) (g0 : xk_St) (k2 : Int32) (rz : Int32) (gz : xk_St) : relzM_section_1_0 g0 k2 rz gz → xk_cnt B g0 → xk_cnt (B + 0) gz := by
  intro h Ig0
  unfold relzM_section_1_0 at h
  have Ig0 : xk_cnt (B + 0) g0 := Ig0
  obtain ⟨x1, u1, v2⟩ := h
  obtain ⟨r2, g1, u3, v4⟩ := v2
  have Ig1 : xk_cnt (B + 0) g1 := xk_cnt_le (iczM_goes (B + 0) _ _ _ _ _ _ u3 Ig0) (by omega)
  by_cases hc : r2 = 0
  · rw [if_pos hc] at v4
    rw [v4.2]; exact xk_cnt_le Ig1 (by omega)
  · rw [if_neg hc] at v4
    by_cases hc : k2 = 0
    · rw [if_pos hc] at v4
      obtain ⟨x2, u5, v6⟩ := v4
      rw [v6.2]; exact xk_cnt_le Ig1 (by omega)
    · rw [if_neg hc] at v4
      by_cases hc : k2 = 1
      · rw [if_pos hc] at v4
        rw [v4.2]; exact xk_cnt_le Ig1 (by omega)
      · rw [if_neg hc] at v4
        by_cases hc : k2 = 2
        · rw [if_pos hc] at v4
          obtain ⟨x3, u7, v8⟩ := v4
          rw [v8.2]; exact xk_cnt_le Ig1 (by omega)
        · rw [if_neg hc] at v4
          rw [v4.2]; exact xk_cnt_le Ig1 (by omega)

def relzM_section_1_1 (g0 : xk_St) (k2 : Int32) (rz : Int32) (gz : xk_St) : Prop := ∃ (x1 : Int32), (if k2 < 0 then (x1 = 0) else (if 3 < k2 then (x1 = 0) else (x1 = 1))) ∧ (∃ (r2 : Int32) (g1 : xk_St), relzM_goes g0 1 x1 1 r2 g1 ∧ (if r2 = 0 then (rz = 0 ∧ gz = g1) else (if k2 = 0 then (∃ (x2 : Int32), (if ((g1 5) 4) = 0 then (if ((g1 3) 4) = 0 then (x2 = 0) else (x2 = 1)) else (x2 = 2)) ∧ (rz = x2 ∧ gz = g1)) else (if k2 = 1 then (rz = (g1 3) 4 ∧ gz = g1) else (if k2 = 2 then (∃ (x3 : Int32), (if (qzM_swept_4 g1) = 0 then (x3 = 0) else (x3 = 1)) ∧ (rz = x3 ∧ gz = g1)) else (rz = (g1 6) 4 ∧ gz = g1))))))
set_option maxHeartbeats 4000000 in
set_option maxRecDepth 100000 in
theorem kzM_section_1_1 (l : Launch) (G : va_G) (ac : Nat → ClassId) (ad : Nat → Nat) (g0 : xk_St) (k2 : Int32) (B : Nat) (Ig0 : xk_cnt B g0) (hB : B + 1 < 2147483648) : xk_CI l yzM_section czM_section 5 .int xk_WS xk_r2 G xk_cls (xk_tys ac) [.ref (ad 0), .int 1, .int 1, .int k2] (xk_wM ad ac g0) (fun rz (gz : xk_St) => relzM_section_1_1 g0 k2 rz gz) (fun gz => xk_wM ad ac gz) := by
  refine xk_ofI (by decide) (Nat.le_of_ble_eq_true rfl) ?_
  intro p e s m args below meth c A Q H locs ls C0 hret hP hD hS hl
  obtain ⟨hx, hb, hml, hts, hown, hK, hA⟩ := C0
  have hl : lv_has ls 5 [(0, .ref (ad 0)), (1, .int 1), (2, .int 1), (3, .int k2)] := hl
  have Ig0 : xk_cnt (B + 0) g0 := Ig0
  refine lv_aload_n (pc := 0) hx hb dzM_section_0 rfl (lv_at hl 0 rfl) ?_
  refine lv_iload_n (pc := 1) hx hb dzM_section_1 rfl (lv_at hl 1 rfl) ?_
  refine lv_iload_n (pc := 2) hx hb dzM_section_2 rfl (lv_at hl 2 rfl) ?_
  refine xk_callSI (As := [.int 1, .int 1]) (rest := [.ref (ad 0)]) (H0 := s.heap) (pc := 3) hx hb hml hts hown hK hA hP hD hS (kzM_isSection l G ac 1 1) sfzM_132 [] (by decide) rfl (fun _ => rfl) ⟨rfl, rfl⟩ ⟨Nat.le_of_ble_eq_true rfl, Nat.le_of_ble_eq_true rfl⟩ rfl hl.1 rfl (Nat.le_of_ble_eq_true rfl) ⟨Nat.zero_le _, Nat.zero_le _⟩ dzM_section_3 (fun r1 u9 H locs e9 hP hD hS => ?_)
  obtain rfl : r1 = qzM_isSection 1 1 := e9
  refine xk_is (y := 1) (by decide) ?_
  have hP : va_P G xk_cls (xk_wM ad ac g0) H := hP
  have hD : va_D A (xk_wM ad ac g0) := hD
  refine lv_iload_n (pc := 6) hx hb dzM_section_6 rfl (lv_at hl 3 rfl) ?_
  have K1 : ∀ (x1 : Int32), (if k2 < 0 then (x1 = 0) else (if 3 < k2 then (x1 = 0) else (x1 = 1))) → (xk_b x1) → W p l e xk_r2 s m args below meth c H locs 0 0 Q (F0 m 20 ls [.int x1, .int 1, .ref (ad 0)]) := by
    intro x1 R1 bx1
    refine lv_iconst (v := 1) (pc := 20) hx hb dzM_section_20 (by decide) ?_
    refine xk_allVI (As := [.int 1, .int x1, .int 1]) (rest := []) (H0 := s.heap) (pc := 21) hx hb hml hts hown hK hA hP hD hS (kzM_goes l G ac ad g0 1 x1 1 (B + 0) Ig0 (by omega)) vfzM_114 (fun _ => rfl) 0 rfl rfl ⟨rfl, rfl⟩ ⟨Nat.le_of_ble_eq_true rfl, Nat.le_of_ble_eq_true rfl⟩ rfl hl.1 rfl (Nat.le_of_ble_eq_true rfl) ⟨Nat.zero_le _, Nat.zero_le _⟩ dzM_section_21 (fun r2 g1 H locs hg1 hP hD hS => ?_)
    have hP : va_P G xk_cls (xk_wM ad ac g1) H := hP
    have hD : va_D A (xk_wM ad ac g1) := hD
    have Ig1 : xk_cnt (B + 0) g1 := xk_cnt_le (iczM_goes (B + 0) _ _ _ _ _ _ hg1 Ig0) (by omega)
    refine lv_if_ne (pc := 24) (tgt := 29) hx hb dzM_section_24 (by decide) (fun h3 => ?_) (fun h3 => ?_)
    ·
      refine lv_iconst (v := 3) (pc := 29) hx hb dzM_section_29 (by decide) ?_
      refine lv_iload_n (pc := 30) hx hb dzM_section_30 rfl (lv_at hl 1 rfl) ?_
      refine lv_imul (pc := 31) hx hb dzM_section_31 ?_
      refine xk_is (y := 3) (by decide) ?_
      refine lv_iload_n (pc := 32) hx hb dzM_section_32 rfl (lv_at hl 2 rfl) ?_
      refine lv_iadd (pc := 33) hx hb dzM_section_33 ?_
      refine xk_is (y := 4) (by decide) ?_
      refine lv_istore (lv' := [(4, .int 4), (0, .ref (ad 0)), (1, .int 1), (2, .int 1), (3, .int k2)]) (pc := 34) hx hb dzM_section_34 hl (by decide) rfl (fun ls hl => ?_)
      refine lv_iload_n (pc := 36) hx hb dzM_section_36 rfl (lv_at hl 4 rfl) ?_
      by_cases h4 : k2 = 0
      ·
        refine lv_tableIn (pc := 37) (tgt := 64) hx hb dzM_section_37 (by rw [h4]; decide) (by rw [h4]; decide) (by rw [h4]; rfl) (by decide) ?_
        refine lv_aload_n (pc := 64) hx hb dzM_section_64 rfl (lv_at hl 1 rfl) ?_
        refine xk_get (pc := 65) hx hb hts hown hK hP ffzM_23 0 rfl rfl dzM_section_65 ?_
        refine lv_iload (pc := 68) hx hb dzM_section_68 (lv_at hl 0 rfl) ?_
        refine xk_zald (q0 := 5) (t0 := 1) (j := 4) (pc := 70) hx hb hK hP rfl rfl (pk_in 4 6 (by decide)) (pk_cl 4) dzM_section_70 ?_
        have K2 : ∀ (x2 : Int32), (if ((g1 5) 4) = 0 then (if ((g1 3) 4) = 0 then (x2 = 0) else (x2 = 1)) else (x2 = 2)) → W p l e xk_r2 s m args below meth c H locs 0 0 Q (F0 m 93 ls [.int x2]) := by
          intro x2 R2
          exact hret _ g1 H locs 93 ls hP hS rfl (by unfold relzM_section_1_1; exact ⟨x1, R1, ⟨r2, g1, hg1, (Eq.mpr (if_neg h3) (Eq.mpr (if_pos h4) ⟨x2, R2, ⟨rfl, rfl⟩⟩))⟩⟩) dzM_section_93
        refine lv_if_eq (pc := 71) (tgt := 78) hx hb dzM_section_71 (by decide) (fun h5 => ?_) (fun h5 => ?_)
        ·
          refine lv_aload_n (pc := 78) hx hb dzM_section_78 rfl (lv_at hl 1 rfl) ?_
          refine xk_get (pc := 79) hx hb hts hown hK hP ffzM_17 0 rfl rfl dzM_section_79 ?_
          refine lv_iload (pc := 82) hx hb dzM_section_82 (lv_at hl 0 rfl) ?_
          refine xk_iald (q0 := 3) (t0 := 0) (j := 4) (pc := 84) hx hb hK hP rfl rfl (pk_in 4 6 (by decide)) (pk_cl 4) dzM_section_84 ?_
          refine lv_if_eq (pc := 85) (tgt := 92) hx hb dzM_section_85 (by decide) (fun h6 => ?_) (fun h6 => ?_)
          ·
            refine lv_iconst (v := 0) (pc := 92) hx hb dzM_section_92 (by decide) ?_
            exact K2 0 (Eq.mpr (if_pos h5) (Eq.mpr (if_pos h6) rfl))
          ·
            refine lv_iconst (v := 1) (pc := 88) hx hb dzM_section_88 (by decide) ?_
            refine lv_goto (tgt := 93) (pc := 89) hx hb dzM_section_89 (by decide) ?_
            exact K2 1 (Eq.mpr (if_pos h5) (Eq.mpr (if_neg h6) rfl))
        ·
          refine lv_iconst (v := 2) (pc := 74) hx hb dzM_section_74 (by decide) ?_
          refine lv_goto (tgt := 93) (pc := 75) hx hb dzM_section_75 (by decide) ?_
          exact K2 2 (Eq.mpr (if_neg h5) rfl)
      ·
        by_cases h7 : k2 = 1
        ·
          refine lv_tableIn (pc := 37) (tgt := 94) hx hb dzM_section_37 (by rw [h7]; decide) (by rw [h7]; decide) (by rw [h7]; rfl) (by decide) ?_
          refine lv_aload_n (pc := 94) hx hb dzM_section_94 rfl (lv_at hl 1 rfl) ?_
          refine xk_get (pc := 95) hx hb hts hown hK hP ffzM_17 0 rfl rfl dzM_section_95 ?_
          refine lv_iload (pc := 98) hx hb dzM_section_98 (lv_at hl 0 rfl) ?_
          refine xk_iald (q0 := 3) (t0 := 0) (j := 4) (pc := 100) hx hb hK hP rfl rfl (pk_in 4 6 (by decide)) (pk_cl 4) dzM_section_100 ?_
          exact hret _ g1 H locs 101 ls hP hS rfl (by unfold relzM_section_1_1; exact ⟨x1, R1, ⟨r2, g1, hg1, (Eq.mpr (if_neg h3) (Eq.mpr (if_neg h4) (Eq.mpr (if_pos h7) ⟨rfl, rfl⟩)))⟩⟩) dzM_section_101
        ·
          by_cases h8 : k2 = 2
          ·
            refine lv_tableIn (pc := 37) (tgt := 102) hx hb dzM_section_37 (by rw [h8]; decide) (by rw [h8]; decide) (by rw [h8]; rfl) (by decide) ?_
            refine lv_aload_n (pc := 102) hx hb dzM_section_102 rfl (lv_at hl 1 rfl) ?_
            refine lv_iload (pc := 103) hx hb dzM_section_103 (lv_at hl 0 rfl) ?_
            refine xk_allVI (As := [.int 4]) (rest := []) (H0 := s.heap) (pc := 105) hx hb hml hts hown hK hA hP hD hS (kzM_swept_4 l G ac ad g1) vfzM_135 (fun _ => rfl) 0 rfl rfl ⟨rfl, rfl⟩ ⟨Nat.le_of_ble_eq_true rfl, Nat.le_of_ble_eq_true rfl⟩ rfl hl.1 rfl (Nat.le_of_ble_eq_true rfl) ⟨Nat.zero_le _, Nat.zero_le _⟩ dzM_section_105 (fun r3 u9 H locs e9 hP hD hS => ?_)
            obtain rfl : r3 = qzM_swept_4 g1 := e9
            have hP : va_P G xk_cls (xk_wM ad ac g1) H := hP
            have hD : va_D A (xk_wM ad ac g1) := hD
            have K3 : ∀ (x3 : Int32), (if (qzM_swept_4 g1) = 0 then (x3 = 0) else (x3 = 1)) → (xk_b x3) → W p l e xk_r2 s m args below meth c H locs 0 0 Q (F0 m 116 ls [.int x3]) := by
              intro x3 R3 bx3
              exact hret _ g1 H locs 116 ls hP hS rfl (by unfold relzM_section_1_1; exact ⟨x1, R1, ⟨r2, g1, hg1, (Eq.mpr (if_neg h3) (Eq.mpr (if_neg h4) (Eq.mpr (if_neg h7) (Eq.mpr (if_pos h8) ⟨x3, R3, ⟨rfl, rfl⟩⟩))))⟩⟩) dzM_section_116
            refine lv_if_eq (pc := 108) (tgt := 115) hx hb dzM_section_108 (by decide) (fun h9 => ?_) (fun h9 => ?_)
            ·
              refine lv_iconst (v := 0) (pc := 115) hx hb dzM_section_115 (by decide) ?_
              exact K3 0 (Eq.mpr (if_pos h9) rfl) xk_b0
            ·
              refine lv_iconst (v := 1) (pc := 111) hx hb dzM_section_111 (by decide) ?_
              refine lv_goto (tgt := 116) (pc := 112) hx hb dzM_section_112 (by decide) ?_
              exact K3 1 (Eq.mpr (if_neg h9) rfl) xk_b1
          ·
            refine lv_tableOut (pc := 37) (tgt := 117) hx hb dzM_section_37 (xk_out3 h4 h7 h8) (by decide) ?_
            refine lv_aload_n (pc := 117) hx hb dzM_section_117 rfl (lv_at hl 1 rfl) ?_
            refine xk_get (pc := 118) hx hb hts hown hK hP ffzM_26 0 rfl rfl dzM_section_118 ?_
            refine lv_iload (pc := 121) hx hb dzM_section_121 (lv_at hl 0 rfl) ?_
            refine xk_iald (q0 := 6) (t0 := 0) (j := 4) (pc := 123) hx hb hK hP rfl rfl (pk_in 4 6 (by decide)) (pk_cl 4) dzM_section_123 ?_
            exact hret _ g1 H locs 124 ls hP hS rfl (by unfold relzM_section_1_1; exact ⟨x1, R1, ⟨r2, g1, hg1, (Eq.mpr (if_neg h3) (Eq.mpr (if_neg h4) (Eq.mpr (if_neg h7) (Eq.mpr (if_neg h8) ⟨rfl, rfl⟩))))⟩⟩) dzM_section_124
    ·
      refine lv_iconst (v := 0) (pc := 27) hx hb dzM_section_27 (by decide) ?_
      exact hret _ g1 H locs 28 ls hP hS rfl (by unfold relzM_section_1_1; exact ⟨x1, R1, ⟨r2, g1, hg1, (Eq.mpr (if_pos h3) ⟨rfl, rfl⟩)⟩⟩) dzM_section_28
  refine lv_if_lt (pc := 7) (tgt := 19) hx hb dzM_section_7 (by decide) (fun h1 => ?_) (fun h1 => ?_)
  ·
    refine lv_iconst (v := 0) (pc := 19) hx hb dzM_section_19 (by decide) ?_
    exact K1 0 (Eq.mpr (if_pos h1) rfl) xk_b0
  ·
    refine lv_iload_n (pc := 10) hx hb dzM_section_10 rfl (lv_at hl 3 rfl) ?_
    refine lv_iconst (v := 3) (pc := 11) hx hb dzM_section_11 (by decide) ?_
    refine lv_icmp_gt (pc := 12) (tgt := 19) hx hb dzM_section_12 (by decide) (fun h2 => ?_) (fun h2 => ?_)
    ·
      refine lv_iconst (v := 0) (pc := 19) hx hb dzM_section_19 (by decide) ?_
      exact K1 0 (Eq.mpr (if_neg h1) (Eq.mpr (if_pos h2) rfl)) xk_b0
    ·
      refine lv_iconst (v := 1) (pc := 15) hx hb dzM_section_15 (by decide) ?_
      refine lv_goto (tgt := 20) (pc := 16) hx hb dzM_section_16 (by decide) ?_
      exact K1 1 (Eq.mpr (if_neg h1) (Eq.mpr (if_neg h2) rfl)) xk_b1
theorem frzM_section_1_1 (g0 : xk_St) (k2 : Int32) (rz : Int32) (gz : xk_St) : relzM_section_1_1 g0 k2 rz gz → xk_eqv [1, 2, 3, 4, 5, 6, 7, 8, 9, 10, 11, 12, 13, 14, 15, 16, 17, 18, 19, 20, 21, 22, 23, 24, 25, 26, 27] g0 gz := by
  intro h
  unfold relzM_section_1_1 at h
  have s0 : xk_eqv [1, 2, 3, 4, 5, 6, 7, 8, 9, 10, 11, 12, 13, 14, 15, 16, 17, 18, 19, 20, 21, 22, 23, 24, 25, 26, 27] g0 g0 := xk_eqv_rf
  obtain ⟨x1, u1, v2⟩ := h
  obtain ⟨r2, g1, u3, v4⟩ := v2
  have s5 : xk_eqv [1, 2, 3, 4, 5, 6, 7, 8, 9, 10, 11, 12, 13, 14, 15, 16, 17, 18, 19, 20, 21, 22, 23, 24, 25, 26, 27] g0 g1 := xk_eqv_tr s0 (xk_eqv_sub (frzM_goes _ _ _ _ _ _ u3) (by decide))
  by_cases hc : r2 = 0
  · rw [if_pos hc] at v4
    rw [v4.2]; exact s5
  · rw [if_neg hc] at v4
    by_cases hc : k2 = 0
    · rw [if_pos hc] at v4
      obtain ⟨x2, u6, v7⟩ := v4
      rw [v7.2]; exact s5
    · rw [if_neg hc] at v4
      by_cases hc : k2 = 1
      · rw [if_pos hc] at v4
        rw [v4.2]; exact s5
      · rw [if_neg hc] at v4
        by_cases hc : k2 = 2
        · rw [if_pos hc] at v4
          obtain ⟨x3, u8, v9⟩ := v4
          rw [v9.2]; exact s5
        · rw [if_neg hc] at v4
          rw [v4.2]; exact s5
theorem iczM_section_1_1 (B : Nat) (g0 : xk_St) (k2 : Int32) (rz : Int32) (gz : xk_St) : relzM_section_1_1 g0 k2 rz gz → xk_cnt B g0 → xk_cnt (B + 0) gz := by
  intro h Ig0
  unfold relzM_section_1_1 at h
  have Ig0 : xk_cnt (B + 0) g0 := Ig0
  obtain ⟨x1, u1, v2⟩ := h
  obtain ⟨r2, g1, u3, v4⟩ := v2
  have Ig1 : xk_cnt (B + 0) g1 := xk_cnt_le (iczM_goes (B + 0) _ _ _ _ _ _ u3 Ig0) (by omega)
  by_cases hc : r2 = 0
  · rw [if_pos hc] at v4
    rw [v4.2]; exact xk_cnt_le Ig1 (by omega)
  · rw [if_neg hc] at v4
    by_cases hc : k2 = 0
    · rw [if_pos hc] at v4
      obtain ⟨x2, u5, v6⟩ := v4
      rw [v6.2]; exact xk_cnt_le Ig1 (by omega)
    · rw [if_neg hc] at v4
      by_cases hc : k2 = 1
      · rw [if_pos hc] at v4
        rw [v4.2]; exact xk_cnt_le Ig1 (by omega)
      · rw [if_neg hc] at v4
        by_cases hc : k2 = 2
        · rw [if_pos hc] at v4
          obtain ⟨x3, u7, v8⟩ := v4
          rw [v8.2]; exact xk_cnt_le Ig1 (by omega)
        · rw [if_neg hc] at v4
          rw [v4.2]; exact xk_cnt_le Ig1 (by omega)

def relzM_section_1_2 (g0 : xk_St) (k2 : Int32) (rz : Int32) (gz : xk_St) : Prop := ∃ (x1 : Int32), (if k2 < 0 then (x1 = 0) else (if 3 < k2 then (x1 = 0) else (x1 = 1))) ∧ (∃ (r2 : Int32) (g1 : xk_St), relzM_goes g0 1 x1 1 r2 g1 ∧ (if r2 = 0 then (rz = 0 ∧ gz = g1) else (if k2 = 0 then (∃ (x2 : Int32), (if ((g1 5) 5) = 0 then (if ((g1 3) 5) = 0 then (x2 = 0) else (x2 = 1)) else (x2 = 2)) ∧ (rz = x2 ∧ gz = g1)) else (if k2 = 1 then (rz = (g1 3) 5 ∧ gz = g1) else (if k2 = 2 then (∃ (x3 : Int32), (if (qzM_swept_5 g1) = 0 then (x3 = 0) else (x3 = 1)) ∧ (rz = x3 ∧ gz = g1)) else (rz = (g1 6) 5 ∧ gz = g1))))))
set_option maxHeartbeats 4000000 in
set_option maxRecDepth 100000 in
theorem kzM_section_1_2 (l : Launch) (G : va_G) (ac : Nat → ClassId) (ad : Nat → Nat) (g0 : xk_St) (k2 : Int32) (B : Nat) (Ig0 : xk_cnt B g0) (hB : B + 1 < 2147483648) : xk_CI l yzM_section czM_section 5 .int xk_WS xk_r2 G xk_cls (xk_tys ac) [.ref (ad 0), .int 1, .int 2, .int k2] (xk_wM ad ac g0) (fun rz (gz : xk_St) => relzM_section_1_2 g0 k2 rz gz) (fun gz => xk_wM ad ac gz) := by
  refine xk_ofI (by decide) (Nat.le_of_ble_eq_true rfl) ?_
  intro p e s m args below meth c A Q H locs ls C0 hret hP hD hS hl
  obtain ⟨hx, hb, hml, hts, hown, hK, hA⟩ := C0
  have hl : lv_has ls 5 [(0, .ref (ad 0)), (1, .int 1), (2, .int 2), (3, .int k2)] := hl
  have Ig0 : xk_cnt (B + 0) g0 := Ig0
  refine lv_aload_n (pc := 0) hx hb dzM_section_0 rfl (lv_at hl 0 rfl) ?_
  refine lv_iload_n (pc := 1) hx hb dzM_section_1 rfl (lv_at hl 1 rfl) ?_
  refine lv_iload_n (pc := 2) hx hb dzM_section_2 rfl (lv_at hl 2 rfl) ?_
  refine xk_callSI (As := [.int 1, .int 2]) (rest := [.ref (ad 0)]) (H0 := s.heap) (pc := 3) hx hb hml hts hown hK hA hP hD hS (kzM_isSection l G ac 1 2) sfzM_132 [] (by decide) rfl (fun _ => rfl) ⟨rfl, rfl⟩ ⟨Nat.le_of_ble_eq_true rfl, Nat.le_of_ble_eq_true rfl⟩ rfl hl.1 rfl (Nat.le_of_ble_eq_true rfl) ⟨Nat.zero_le _, Nat.zero_le _⟩ dzM_section_3 (fun r1 u9 H locs e9 hP hD hS => ?_)
  obtain rfl : r1 = qzM_isSection 1 2 := e9
  refine xk_is (y := 1) (by decide) ?_
  have hP : va_P G xk_cls (xk_wM ad ac g0) H := hP
  have hD : va_D A (xk_wM ad ac g0) := hD
  refine lv_iload_n (pc := 6) hx hb dzM_section_6 rfl (lv_at hl 3 rfl) ?_
  have K1 : ∀ (x1 : Int32), (if k2 < 0 then (x1 = 0) else (if 3 < k2 then (x1 = 0) else (x1 = 1))) → (xk_b x1) → W p l e xk_r2 s m args below meth c H locs 0 0 Q (F0 m 20 ls [.int x1, .int 1, .ref (ad 0)]) := by
    intro x1 R1 bx1
    refine lv_iconst (v := 1) (pc := 20) hx hb dzM_section_20 (by decide) ?_
    refine xk_allVI (As := [.int 1, .int x1, .int 1]) (rest := []) (H0 := s.heap) (pc := 21) hx hb hml hts hown hK hA hP hD hS (kzM_goes l G ac ad g0 1 x1 1 (B + 0) Ig0 (by omega)) vfzM_114 (fun _ => rfl) 0 rfl rfl ⟨rfl, rfl⟩ ⟨Nat.le_of_ble_eq_true rfl, Nat.le_of_ble_eq_true rfl⟩ rfl hl.1 rfl (Nat.le_of_ble_eq_true rfl) ⟨Nat.zero_le _, Nat.zero_le _⟩ dzM_section_21 (fun r2 g1 H locs hg1 hP hD hS => ?_)
    have hP : va_P G xk_cls (xk_wM ad ac g1) H := hP
    have hD : va_D A (xk_wM ad ac g1) := hD
    have Ig1 : xk_cnt (B + 0) g1 := xk_cnt_le (iczM_goes (B + 0) _ _ _ _ _ _ hg1 Ig0) (by omega)
    refine lv_if_ne (pc := 24) (tgt := 29) hx hb dzM_section_24 (by decide) (fun h3 => ?_) (fun h3 => ?_)
    ·
      refine lv_iconst (v := 3) (pc := 29) hx hb dzM_section_29 (by decide) ?_
      refine lv_iload_n (pc := 30) hx hb dzM_section_30 rfl (lv_at hl 1 rfl) ?_
      refine lv_imul (pc := 31) hx hb dzM_section_31 ?_
      refine xk_is (y := 3) (by decide) ?_
      refine lv_iload_n (pc := 32) hx hb dzM_section_32 rfl (lv_at hl 2 rfl) ?_
      refine lv_iadd (pc := 33) hx hb dzM_section_33 ?_
      refine xk_is (y := 5) (by decide) ?_
      refine lv_istore (lv' := [(4, .int 5), (0, .ref (ad 0)), (1, .int 1), (2, .int 2), (3, .int k2)]) (pc := 34) hx hb dzM_section_34 hl (by decide) rfl (fun ls hl => ?_)
      refine lv_iload_n (pc := 36) hx hb dzM_section_36 rfl (lv_at hl 4 rfl) ?_
      by_cases h4 : k2 = 0
      ·
        refine lv_tableIn (pc := 37) (tgt := 64) hx hb dzM_section_37 (by rw [h4]; decide) (by rw [h4]; decide) (by rw [h4]; rfl) (by decide) ?_
        refine lv_aload_n (pc := 64) hx hb dzM_section_64 rfl (lv_at hl 1 rfl) ?_
        refine xk_get (pc := 65) hx hb hts hown hK hP ffzM_23 0 rfl rfl dzM_section_65 ?_
        refine lv_iload (pc := 68) hx hb dzM_section_68 (lv_at hl 0 rfl) ?_
        refine xk_zald (q0 := 5) (t0 := 1) (j := 5) (pc := 70) hx hb hK hP rfl rfl (pk_in 5 6 (by decide)) (pk_cl 5) dzM_section_70 ?_
        have K2 : ∀ (x2 : Int32), (if ((g1 5) 5) = 0 then (if ((g1 3) 5) = 0 then (x2 = 0) else (x2 = 1)) else (x2 = 2)) → W p l e xk_r2 s m args below meth c H locs 0 0 Q (F0 m 93 ls [.int x2]) := by
          intro x2 R2
          exact hret _ g1 H locs 93 ls hP hS rfl (by unfold relzM_section_1_2; exact ⟨x1, R1, ⟨r2, g1, hg1, (Eq.mpr (if_neg h3) (Eq.mpr (if_pos h4) ⟨x2, R2, ⟨rfl, rfl⟩⟩))⟩⟩) dzM_section_93
        refine lv_if_eq (pc := 71) (tgt := 78) hx hb dzM_section_71 (by decide) (fun h5 => ?_) (fun h5 => ?_)
        ·
          refine lv_aload_n (pc := 78) hx hb dzM_section_78 rfl (lv_at hl 1 rfl) ?_
          refine xk_get (pc := 79) hx hb hts hown hK hP ffzM_17 0 rfl rfl dzM_section_79 ?_
          refine lv_iload (pc := 82) hx hb dzM_section_82 (lv_at hl 0 rfl) ?_
          refine xk_iald (q0 := 3) (t0 := 0) (j := 5) (pc := 84) hx hb hK hP rfl rfl (pk_in 5 6 (by decide)) (pk_cl 5) dzM_section_84 ?_
          refine lv_if_eq (pc := 85) (tgt := 92) hx hb dzM_section_85 (by decide) (fun h6 => ?_) (fun h6 => ?_)
          ·
            refine lv_iconst (v := 0) (pc := 92) hx hb dzM_section_92 (by decide) ?_
            exact K2 0 (Eq.mpr (if_pos h5) (Eq.mpr (if_pos h6) rfl))
          ·
            refine lv_iconst (v := 1) (pc := 88) hx hb dzM_section_88 (by decide) ?_
            refine lv_goto (tgt := 93) (pc := 89) hx hb dzM_section_89 (by decide) ?_
            exact K2 1 (Eq.mpr (if_pos h5) (Eq.mpr (if_neg h6) rfl))
        ·
          refine lv_iconst (v := 2) (pc := 74) hx hb dzM_section_74 (by decide) ?_
          refine lv_goto (tgt := 93) (pc := 75) hx hb dzM_section_75 (by decide) ?_
          exact K2 2 (Eq.mpr (if_neg h5) rfl)
      ·
        by_cases h7 : k2 = 1
        ·
          refine lv_tableIn (pc := 37) (tgt := 94) hx hb dzM_section_37 (by rw [h7]; decide) (by rw [h7]; decide) (by rw [h7]; rfl) (by decide) ?_
          refine lv_aload_n (pc := 94) hx hb dzM_section_94 rfl (lv_at hl 1 rfl) ?_
          refine xk_get (pc := 95) hx hb hts hown hK hP ffzM_17 0 rfl rfl dzM_section_95 ?_
          refine lv_iload (pc := 98) hx hb dzM_section_98 (lv_at hl 0 rfl) ?_
          refine xk_iald (q0 := 3) (t0 := 0) (j := 5) (pc := 100) hx hb hK hP rfl rfl (pk_in 5 6 (by decide)) (pk_cl 5) dzM_section_100 ?_
          exact hret _ g1 H locs 101 ls hP hS rfl (by unfold relzM_section_1_2; exact ⟨x1, R1, ⟨r2, g1, hg1, (Eq.mpr (if_neg h3) (Eq.mpr (if_neg h4) (Eq.mpr (if_pos h7) ⟨rfl, rfl⟩)))⟩⟩) dzM_section_101
        ·
          by_cases h8 : k2 = 2
          ·
            refine lv_tableIn (pc := 37) (tgt := 102) hx hb dzM_section_37 (by rw [h8]; decide) (by rw [h8]; decide) (by rw [h8]; rfl) (by decide) ?_
            refine lv_aload_n (pc := 102) hx hb dzM_section_102 rfl (lv_at hl 1 rfl) ?_
            refine lv_iload (pc := 103) hx hb dzM_section_103 (lv_at hl 0 rfl) ?_
            refine xk_allVI (As := [.int 5]) (rest := []) (H0 := s.heap) (pc := 105) hx hb hml hts hown hK hA hP hD hS (kzM_swept_5 l G ac ad g1) vfzM_135 (fun _ => rfl) 0 rfl rfl ⟨rfl, rfl⟩ ⟨Nat.le_of_ble_eq_true rfl, Nat.le_of_ble_eq_true rfl⟩ rfl hl.1 rfl (Nat.le_of_ble_eq_true rfl) ⟨Nat.zero_le _, Nat.zero_le _⟩ dzM_section_105 (fun r3 u9 H locs e9 hP hD hS => ?_)
            obtain rfl : r3 = qzM_swept_5 g1 := e9
            have hP : va_P G xk_cls (xk_wM ad ac g1) H := hP
            have hD : va_D A (xk_wM ad ac g1) := hD
            have K3 : ∀ (x3 : Int32), (if (qzM_swept_5 g1) = 0 then (x3 = 0) else (x3 = 1)) → (xk_b x3) → W p l e xk_r2 s m args below meth c H locs 0 0 Q (F0 m 116 ls [.int x3]) := by
              intro x3 R3 bx3
              exact hret _ g1 H locs 116 ls hP hS rfl (by unfold relzM_section_1_2; exact ⟨x1, R1, ⟨r2, g1, hg1, (Eq.mpr (if_neg h3) (Eq.mpr (if_neg h4) (Eq.mpr (if_neg h7) (Eq.mpr (if_pos h8) ⟨x3, R3, ⟨rfl, rfl⟩⟩))))⟩⟩) dzM_section_116
            refine lv_if_eq (pc := 108) (tgt := 115) hx hb dzM_section_108 (by decide) (fun h9 => ?_) (fun h9 => ?_)
            ·
              refine lv_iconst (v := 0) (pc := 115) hx hb dzM_section_115 (by decide) ?_
              exact K3 0 (Eq.mpr (if_pos h9) rfl) xk_b0
            ·
              refine lv_iconst (v := 1) (pc := 111) hx hb dzM_section_111 (by decide) ?_
              refine lv_goto (tgt := 116) (pc := 112) hx hb dzM_section_112 (by decide) ?_
              exact K3 1 (Eq.mpr (if_neg h9) rfl) xk_b1
          ·
            refine lv_tableOut (pc := 37) (tgt := 117) hx hb dzM_section_37 (xk_out3 h4 h7 h8) (by decide) ?_
            refine lv_aload_n (pc := 117) hx hb dzM_section_117 rfl (lv_at hl 1 rfl) ?_
            refine xk_get (pc := 118) hx hb hts hown hK hP ffzM_26 0 rfl rfl dzM_section_118 ?_
            refine lv_iload (pc := 121) hx hb dzM_section_121 (lv_at hl 0 rfl) ?_
            refine xk_iald (q0 := 6) (t0 := 0) (j := 5) (pc := 123) hx hb hK hP rfl rfl (pk_in 5 6 (by decide)) (pk_cl 5) dzM_section_123 ?_
            exact hret _ g1 H locs 124 ls hP hS rfl (by unfold relzM_section_1_2; exact ⟨x1, R1, ⟨r2, g1, hg1, (Eq.mpr (if_neg h3) (Eq.mpr (if_neg h4) (Eq.mpr (if_neg h7) (Eq.mpr (if_neg h8) ⟨rfl, rfl⟩))))⟩⟩) dzM_section_124
    ·
      refine lv_iconst (v := 0) (pc := 27) hx hb dzM_section_27 (by decide) ?_
      exact hret _ g1 H locs 28 ls hP hS rfl (by unfold relzM_section_1_2; exact ⟨x1, R1, ⟨r2, g1, hg1, (Eq.mpr (if_pos h3) ⟨rfl, rfl⟩)⟩⟩) dzM_section_28
  refine lv_if_lt (pc := 7) (tgt := 19) hx hb dzM_section_7 (by decide) (fun h1 => ?_) (fun h1 => ?_)
  ·
    refine lv_iconst (v := 0) (pc := 19) hx hb dzM_section_19 (by decide) ?_
    exact K1 0 (Eq.mpr (if_pos h1) rfl) xk_b0
  ·
    refine lv_iload_n (pc := 10) hx hb dzM_section_10 rfl (lv_at hl 3 rfl) ?_
    refine lv_iconst (v := 3) (pc := 11) hx hb dzM_section_11 (by decide) ?_
    refine lv_icmp_gt (pc := 12) (tgt := 19) hx hb dzM_section_12 (by decide) (fun h2 => ?_) (fun h2 => ?_)
    ·
      refine lv_iconst (v := 0) (pc := 19) hx hb dzM_section_19 (by decide) ?_
      exact K1 0 (Eq.mpr (if_neg h1) (Eq.mpr (if_pos h2) rfl)) xk_b0
    ·
      refine lv_iconst (v := 1) (pc := 15) hx hb dzM_section_15 (by decide) ?_
      refine lv_goto (tgt := 20) (pc := 16) hx hb dzM_section_16 (by decide) ?_
      exact K1 1 (Eq.mpr (if_neg h1) (Eq.mpr (if_neg h2) rfl)) xk_b1
theorem frzM_section_1_2 (g0 : xk_St) (k2 : Int32) (rz : Int32) (gz : xk_St) : relzM_section_1_2 g0 k2 rz gz → xk_eqv [1, 2, 3, 4, 5, 6, 7, 8, 9, 10, 11, 12, 13, 14, 15, 16, 17, 18, 19, 20, 21, 22, 23, 24, 25, 26, 27] g0 gz := by
  intro h
  unfold relzM_section_1_2 at h
  have s0 : xk_eqv [1, 2, 3, 4, 5, 6, 7, 8, 9, 10, 11, 12, 13, 14, 15, 16, 17, 18, 19, 20, 21, 22, 23, 24, 25, 26, 27] g0 g0 := xk_eqv_rf
  obtain ⟨x1, u1, v2⟩ := h
  obtain ⟨r2, g1, u3, v4⟩ := v2
  have s5 : xk_eqv [1, 2, 3, 4, 5, 6, 7, 8, 9, 10, 11, 12, 13, 14, 15, 16, 17, 18, 19, 20, 21, 22, 23, 24, 25, 26, 27] g0 g1 := xk_eqv_tr s0 (xk_eqv_sub (frzM_goes _ _ _ _ _ _ u3) (by decide))
  by_cases hc : r2 = 0
  · rw [if_pos hc] at v4
    rw [v4.2]; exact s5
  · rw [if_neg hc] at v4
    by_cases hc : k2 = 0
    · rw [if_pos hc] at v4
      obtain ⟨x2, u6, v7⟩ := v4
      rw [v7.2]; exact s5
    · rw [if_neg hc] at v4
      by_cases hc : k2 = 1
      · rw [if_pos hc] at v4
        rw [v4.2]; exact s5
      · rw [if_neg hc] at v4
        by_cases hc : k2 = 2
        · rw [if_pos hc] at v4
          obtain ⟨x3, u8, v9⟩ := v4
          rw [v9.2]; exact s5
        · rw [if_neg hc] at v4
          rw [v4.2]; exact s5
theorem iczM_section_1_2 (B : Nat) (g0 : xk_St) (k2 : Int32) (rz : Int32) (gz : xk_St) : relzM_section_1_2 g0 k2 rz gz → xk_cnt B g0 → xk_cnt (B + 0) gz := by
  intro h Ig0
  unfold relzM_section_1_2 at h
  have Ig0 : xk_cnt (B + 0) g0 := Ig0
  obtain ⟨x1, u1, v2⟩ := h
  obtain ⟨r2, g1, u3, v4⟩ := v2
  have Ig1 : xk_cnt (B + 0) g1 := xk_cnt_le (iczM_goes (B + 0) _ _ _ _ _ _ u3 Ig0) (by omega)
  by_cases hc : r2 = 0
  · rw [if_pos hc] at v4
    rw [v4.2]; exact xk_cnt_le Ig1 (by omega)
  · rw [if_neg hc] at v4
    by_cases hc : k2 = 0
    · rw [if_pos hc] at v4
      obtain ⟨x2, u5, v6⟩ := v4
      rw [v6.2]; exact xk_cnt_le Ig1 (by omega)
    · rw [if_neg hc] at v4
      by_cases hc : k2 = 1
      · rw [if_pos hc] at v4
        rw [v4.2]; exact xk_cnt_le Ig1 (by omega)
      · rw [if_neg hc] at v4
        by_cases hc : k2 = 2
        · rw [if_pos hc] at v4
          obtain ⟨x3, u7, v8⟩ := v4
          rw [v8.2]; exact xk_cnt_le Ig1 (by omega)
        · rw [if_neg hc] at v4
          rw [v4.2]; exact xk_cnt_le Ig1 (by omega)

def relzM_earliest_bad (g0 : xk_St) (rz : Int32) (gz : xk_St) : Prop := ∃ (r2 : Int32) (g1 : xk_St), relzM_goes_0 g0 r2 g1 ∧ (rz = 0 ∧ gz = g1)
set_option maxHeartbeats 4000000 in
set_option maxRecDepth 100000 in
theorem kzM_earliest_bad (l : Launch) (G : va_G) (ac : Nat → ClassId) (ad : Nat → Nat) (g0 : xk_St) (k0 : Int32) (B : Nat) (hq : qzM_isTrack k0 = 0) (Ig0 : xk_cnt B g0) (hB : B + 1 < 2147483648) : xk_CI l yzM_earliest czM_earliest 4 .int xk_WS xk_r2 G xk_cls (xk_tys ac) [.ref (ad 0), .int k0] (xk_wM ad ac g0) (fun rz (gz : xk_St) => relzM_earliest_bad g0 rz gz) (fun gz => xk_wM ad ac gz) := by
  refine xk_ofI (by decide) (Nat.le_of_ble_eq_true rfl) ?_
  intro p e s m args below meth c A Q H locs ls C0 hret hP hD hS hl
  obtain ⟨hx, hb, hml, hts, hown, hK, hA⟩ := C0
  have hl : lv_has ls 4 [(0, .ref (ad 0)), (1, .int k0)] := hl
  have Ig0 : xk_cnt (B + 0) g0 := Ig0
  refine lv_aload_n (pc := 0) hx hb dzM_earliest_0 rfl (lv_at hl 0 rfl) ?_
  refine lv_iload_n (pc := 1) hx hb dzM_earliest_1 rfl (lv_at hl 1 rfl) ?_
  refine xk_callSI (As := [.int k0]) (rest := [.ref (ad 0)]) (H0 := s.heap) (pc := 2) hx hb hml hts hown hK hA hP hD hS (kzM_isTrack l G ac k0) sfzM_96 [] (by decide) rfl (fun _ => rfl) ⟨rfl, rfl⟩ ⟨Nat.le_of_ble_eq_true rfl, Nat.le_of_ble_eq_true rfl⟩ rfl hl.1 rfl (Nat.le_of_ble_eq_true rfl) ⟨Nat.zero_le _, Nat.zero_le _⟩ dzM_earliest_2 (fun r1 u9 H locs e9 hP hD hS => ?_)
  obtain rfl : r1 = qzM_isTrack k0 := e9
  refine xk_is (y := 0) hq ?_
  have hP : va_P G xk_cls (xk_wM ad ac g0) H := hP
  have hD : va_D A (xk_wM ad ac g0) := hD
  refine lv_iconst (v := 1) (pc := 5) hx hb dzM_earliest_5 (by decide) ?_
  refine lv_iconst (v := 1) (pc := 6) hx hb dzM_earliest_6 (by decide) ?_
  refine xk_allVI (As := [.int 0, .int 1, .int 1]) (rest := []) (H0 := s.heap) (pc := 7) hx hb hml hts hown hK hA hP hD hS (kzM_goes_0 l G ac ad g0 1 1 (B + 0) Ig0 (by omega)) vfzM_114 (fun _ => rfl) 0 rfl rfl ⟨rfl, rfl⟩ ⟨Nat.le_of_ble_eq_true rfl, Nat.le_of_ble_eq_true rfl⟩ rfl hl.1 rfl (Nat.le_of_ble_eq_true rfl) ⟨Nat.zero_le _, Nat.zero_le _⟩ dzM_earliest_7 (fun r2 g1 H locs hg1 hP hD hS => ?_)
  have qr2 : r2 = 0 := rczM_goes_0 _ _ _ hg1
  refine xk_is (y := 0) qr2 ?_
  have hP : va_P G xk_cls (xk_wM ad ac g1) H := hP
  have hD : va_D A (xk_wM ad ac g1) := hD
  have Ig1 : xk_cnt (B + 0) g1 := xk_cnt_le (iczM_goes_0 (B + 0) _ _ _ hg1 Ig0) (by omega)
  refine lv_if_ne (pc := 10) (tgt := 15) hx hb dzM_earliest_10 (by decide) (fun hq9 => absurd (by decide) hq9) (fun _ => ?_)
  refine lv_iconst (v := 0) (pc := 13) hx hb dzM_earliest_13 (by decide) ?_
  exact hret _ g1 H locs 14 ls hP hS rfl (by unfold relzM_earliest_bad; exact ⟨r2, g1, hg1, ⟨rfl, rfl⟩⟩) dzM_earliest_14
theorem frzM_earliest_bad (g0 : xk_St) (rz : Int32) (gz : xk_St) : relzM_earliest_bad g0 rz gz → xk_eqv [1, 2, 3, 4, 5, 6, 7, 8, 9, 10, 11, 12, 13, 14, 15, 16, 17, 18, 19, 20, 21, 22, 23, 24, 25, 26, 27] g0 gz := by
  intro h
  unfold relzM_earliest_bad at h
  have s0 : xk_eqv [1, 2, 3, 4, 5, 6, 7, 8, 9, 10, 11, 12, 13, 14, 15, 16, 17, 18, 19, 20, 21, 22, 23, 24, 25, 26, 27] g0 g0 := xk_eqv_rf
  obtain ⟨r2, g1, u1, v2⟩ := h
  have s3 : xk_eqv [1, 2, 3, 4, 5, 6, 7, 8, 9, 10, 11, 12, 13, 14, 15, 16, 17, 18, 19, 20, 21, 22, 23, 24, 25, 26, 27] g0 g1 := xk_eqv_tr s0 (xk_eqv_sub (frzM_goes_0 _ _ _ u1) (by decide))
  rw [v2.2]; exact s3
theorem iczM_earliest_bad (B : Nat) (g0 : xk_St) (rz : Int32) (gz : xk_St) : relzM_earliest_bad g0 rz gz → xk_cnt B g0 → xk_cnt (B + 0) gz := by
  intro h Ig0
  unfold relzM_earliest_bad at h
  have Ig0 : xk_cnt (B + 0) g0 := Ig0
  obtain ⟨r2, g1, u1, v2⟩ := h
  have Ig1 : xk_cnt (B + 0) g1 := xk_cnt_le (iczM_goes_0 (B + 0) _ _ _ u1 Ig0) (by omega)
  rw [v2.2]; exact xk_cnt_le Ig1 (by omega)
theorem rczM_earliest_bad (g0 : xk_St) (rz : Int32) (gz : xk_St) : relzM_earliest_bad g0 rz gz → rz = 0 := by
  intro h
  unfold relzM_earliest_bad at h
  obtain ⟨_, _, _, v1⟩ := h
  exact v1.1

def relzM_earliest_0 (g0 : xk_St) (rz : Int32) (gz : xk_St) : Prop := ∃ (r2 : Int32) (g1 : xk_St), relzM_goes_111 g0 r2 g1 ∧ (∃ (x1 : Int32), (if ((g1 11) 0) = (-1) then (x1 = (g1 11) 1) else (if ((g1 11) 1) = (-1) then (x1 = (g1 11) 0) else (if ((g1 11) 1) ≤ ((g1 11) 0) then (x1 = (g1 11) 1) else (x1 = (g1 11) 0)))) ∧ (rz = x1 ∧ gz = g1))
set_option maxHeartbeats 4000000 in
set_option maxRecDepth 100000 in
theorem kzM_earliest_0 (l : Launch) (G : va_G) (ac : Nat → ClassId) (ad : Nat → Nat) (g0 : xk_St) (B : Nat) (Ig0 : xk_cnt B g0) (hB : B + 1 < 2147483648) : xk_CI l yzM_earliest czM_earliest 4 .int xk_WS xk_r2 G xk_cls (xk_tys ac) [.ref (ad 0), .int 0] (xk_wM ad ac g0) (fun rz (gz : xk_St) => relzM_earliest_0 g0 rz gz) (fun gz => xk_wM ad ac gz) := by
  refine xk_ofI (by decide) (Nat.le_of_ble_eq_true rfl) ?_
  intro p e s m args below meth c A Q H locs ls C0 hret hP hD hS hl
  obtain ⟨hx, hb, hml, hts, hown, hK, hA⟩ := C0
  have hl : lv_has ls 4 [(0, .ref (ad 0)), (1, .int 0)] := hl
  have Ig0 : xk_cnt (B + 0) g0 := Ig0
  refine lv_aload_n (pc := 0) hx hb dzM_earliest_0 rfl (lv_at hl 0 rfl) ?_
  refine lv_iload_n (pc := 1) hx hb dzM_earliest_1 rfl (lv_at hl 1 rfl) ?_
  refine xk_callSI (As := [.int 0]) (rest := [.ref (ad 0)]) (H0 := s.heap) (pc := 2) hx hb hml hts hown hK hA hP hD hS (kzM_isTrack l G ac 0) sfzM_96 [] (by decide) rfl (fun _ => rfl) ⟨rfl, rfl⟩ ⟨Nat.le_of_ble_eq_true rfl, Nat.le_of_ble_eq_true rfl⟩ rfl hl.1 rfl (Nat.le_of_ble_eq_true rfl) ⟨Nat.zero_le _, Nat.zero_le _⟩ dzM_earliest_2 (fun r1 u9 H locs e9 hP hD hS => ?_)
  obtain rfl : r1 = qzM_isTrack 0 := e9
  refine xk_is (y := 1) (by decide) ?_
  have hP : va_P G xk_cls (xk_wM ad ac g0) H := hP
  have hD : va_D A (xk_wM ad ac g0) := hD
  refine lv_iconst (v := 1) (pc := 5) hx hb dzM_earliest_5 (by decide) ?_
  refine lv_iconst (v := 1) (pc := 6) hx hb dzM_earliest_6 (by decide) ?_
  refine xk_allVI (As := [.int 1, .int 1, .int 1]) (rest := []) (H0 := s.heap) (pc := 7) hx hb hml hts hown hK hA hP hD hS (kzM_goes_111 l G ac ad g0 (B + 0) Ig0 (by omega)) vfzM_114 (fun _ => rfl) 0 rfl rfl ⟨rfl, rfl⟩ ⟨Nat.le_of_ble_eq_true rfl, Nat.le_of_ble_eq_true rfl⟩ rfl hl.1 rfl (Nat.le_of_ble_eq_true rfl) ⟨Nat.zero_le _, Nat.zero_le _⟩ dzM_earliest_7 (fun r2 g1 H locs hg1 hP hD hS => ?_)
  have qr2 : r2 = 1 := rczM_goes_111 _ _ _ hg1
  refine xk_is (y := 1) qr2 ?_
  have hP : va_P G xk_cls (xk_wM ad ac g1) H := hP
  have hD : va_D A (xk_wM ad ac g1) := hD
  have Ig1 : xk_cnt (B + 0) g1 := xk_cnt_le (iczM_goes_111 (B + 0) _ _ _ hg1 Ig0) (by omega)
  refine lv_if_ne (pc := 10) (tgt := 15) hx hb dzM_earliest_10 (by decide) (fun _ => ?_) (fun hq9 => absurd hq9 (by decide))
  refine lv_aload_n (pc := 15) hx hb dzM_earliest_15 rfl (lv_at hl 0 rfl) ?_
  refine xk_get (pc := 16) hx hb hts hown hK hP ffzM_41 0 rfl rfl dzM_earliest_16 ?_
  refine lv_iconst (v := 2) (pc := 19) hx hb dzM_earliest_19 (by decide) ?_
  refine lv_iload_n (pc := 20) hx hb dzM_earliest_20 rfl (lv_at hl 1 rfl) ?_
  refine lv_imul (pc := 21) hx hb dzM_earliest_21 ?_
  refine xk_is (y := 0) (by decide) ?_
  refine xk_iald (q0 := 11) (t0 := 0) (j := 0) (pc := 22) hx hb hK hP rfl rfl (pk_in 0 4 (by decide)) (pk_cl 0) dzM_earliest_22 ?_
  refine lv_istore_n (lv' := [(2, .int ((g1 11) 0)), (0, .ref (ad 0)), (1, .int 0)]) (pc := 23) hx hb dzM_earliest_23 rfl hl (by decide) rfl (fun ls hl => ?_)
  refine lv_aload_n (pc := 24) hx hb dzM_earliest_24 rfl (lv_at hl 1 rfl) ?_
  refine xk_get (pc := 25) hx hb hts hown hK hP ffzM_41 0 rfl rfl dzM_earliest_25 ?_
  refine lv_iconst (v := 2) (pc := 28) hx hb dzM_earliest_28 (by decide) ?_
  refine lv_iload_n (pc := 29) hx hb dzM_earliest_29 rfl (lv_at hl 2 rfl) ?_
  refine lv_imul (pc := 30) hx hb dzM_earliest_30 ?_
  refine xk_is (y := 0) (by decide) ?_
  refine lv_iconst (v := 1) (pc := 31) hx hb dzM_earliest_31 (by decide) ?_
  refine lv_iadd (pc := 32) hx hb dzM_earliest_32 ?_
  refine xk_is (y := 1) (by decide) ?_
  refine xk_iald (q0 := 11) (t0 := 0) (j := 1) (pc := 33) hx hb hK hP rfl rfl (pk_in 1 4 (by decide)) (pk_cl 1) dzM_earliest_33 ?_
  refine lv_istore_n (lv' := [(3, .int ((g1 11) 1)), (2, .int ((g1 11) 0)), (0, .ref (ad 0)), (1, .int 0)]) (pc := 34) hx hb dzM_earliest_34 rfl hl (by decide) rfl (fun ls hl => ?_)
  refine lv_iload_n (pc := 35) hx hb dzM_earliest_35 rfl (lv_at hl 1 rfl) ?_
  refine lv_iconst (v := (-1)) (pc := 36) hx hb dzM_earliest_36 (by decide) ?_
  have K1 : ∀ (x1 : Int32), (if ((g1 11) 0) = (-1) then (x1 = (g1 11) 1) else (if ((g1 11) 1) = (-1) then (x1 = (g1 11) 0) else (if ((g1 11) 1) ≤ ((g1 11) 0) then (x1 = (g1 11) 1) else (x1 = (g1 11) 0)))) → W p l e xk_r2 s m args below meth c H locs 0 0 Q (F0 m 59 ls [.int x1]) := by
    intro x1 R1
    exact hret _ g1 H locs 59 ls hP hS rfl (by unfold relzM_earliest_0; exact ⟨r2, g1, hg1, ⟨x1, R1, ⟨rfl, rfl⟩⟩⟩) dzM_earliest_59
  refine lv_icmp_ne (pc := 37) (tgt := 44) hx hb dzM_earliest_37 (by decide) (fun h1 => ?_) (fun h1 => ?_)
  ·
    refine lv_iload_n (pc := 44) hx hb dzM_earliest_44 rfl (lv_at hl 0 rfl) ?_
    refine lv_iconst (v := (-1)) (pc := 45) hx hb dzM_earliest_45 (by decide) ?_
    refine lv_icmp_eq (pc := 46) (tgt := 54) hx hb dzM_earliest_46 (by decide) (fun h2 => ?_) (fun h2 => ?_)
    ·
      refine lv_iload_n (pc := 54) hx hb dzM_earliest_54 rfl (lv_at hl 1 rfl) ?_
      refine lv_goto (tgt := 59) (pc := 55) hx hb dzM_earliest_55 (by decide) ?_
      exact K1 ((g1 11) 0) (Eq.mpr (if_neg h1) (Eq.mpr (if_pos h2) rfl))
    ·
      refine lv_iload_n (pc := 49) hx hb dzM_earliest_49 rfl (lv_at hl 1 rfl) ?_
      refine lv_iload_n (pc := 50) hx hb dzM_earliest_50 rfl (lv_at hl 0 rfl) ?_
      refine lv_icmp_ge (pc := 51) (tgt := 58) hx hb dzM_earliest_51 (by decide) (fun h3 => ?_) (fun h3 => ?_)
      ·
        refine lv_iload_n (pc := 58) hx hb dzM_earliest_58 rfl (lv_at hl 0 rfl) ?_
        exact K1 ((g1 11) 1) (Eq.mpr (if_neg h1) (Eq.mpr (if_neg h2) (Eq.mpr (if_pos h3) rfl)))
      ·
        refine lv_iload_n (pc := 54) hx hb dzM_earliest_54 rfl (lv_at hl 1 rfl) ?_
        refine lv_goto (tgt := 59) (pc := 55) hx hb dzM_earliest_55 (by decide) ?_
        exact K1 ((g1 11) 0) (Eq.mpr (if_neg h1) (Eq.mpr (if_neg h2) (Eq.mpr (if_neg h3) rfl)))
  ·
    refine lv_iload_n (pc := 40) hx hb dzM_earliest_40 rfl (lv_at hl 0 rfl) ?_
    refine lv_goto (tgt := 59) (pc := 41) hx hb dzM_earliest_41 (by decide) ?_
    exact K1 ((g1 11) 1) (Eq.mpr (if_pos h1) rfl)
theorem frzM_earliest_0 (g0 : xk_St) (rz : Int32) (gz : xk_St) : relzM_earliest_0 g0 rz gz → xk_eqv [1, 2, 3, 4, 5, 6, 7, 8, 9, 10, 11, 12, 13, 14, 15, 16, 17, 18, 19, 20, 21, 22, 23, 24, 25, 26, 27] g0 gz := by
  intro h
  unfold relzM_earliest_0 at h
  have s0 : xk_eqv [1, 2, 3, 4, 5, 6, 7, 8, 9, 10, 11, 12, 13, 14, 15, 16, 17, 18, 19, 20, 21, 22, 23, 24, 25, 26, 27] g0 g0 := xk_eqv_rf
  obtain ⟨r2, g1, u1, v2⟩ := h
  have s3 : xk_eqv [1, 2, 3, 4, 5, 6, 7, 8, 9, 10, 11, 12, 13, 14, 15, 16, 17, 18, 19, 20, 21, 22, 23, 24, 25, 26, 27] g0 g1 := xk_eqv_tr s0 (xk_eqv_sub (frzM_goes_111 _ _ _ u1) (by decide))
  obtain ⟨x1, u4, v5⟩ := v2
  rw [v5.2]; exact s3
theorem iczM_earliest_0 (B : Nat) (g0 : xk_St) (rz : Int32) (gz : xk_St) : relzM_earliest_0 g0 rz gz → xk_cnt B g0 → xk_cnt (B + 0) gz := by
  intro h Ig0
  unfold relzM_earliest_0 at h
  have Ig0 : xk_cnt (B + 0) g0 := Ig0
  obtain ⟨r2, g1, u1, v2⟩ := h
  have Ig1 : xk_cnt (B + 0) g1 := xk_cnt_le (iczM_goes_111 (B + 0) _ _ _ u1 Ig0) (by omega)
  obtain ⟨x1, u3, v4⟩ := v2
  rw [v4.2]; exact xk_cnt_le Ig1 (by omega)

def relzM_earliest_1 (g0 : xk_St) (rz : Int32) (gz : xk_St) : Prop := ∃ (r2 : Int32) (g1 : xk_St), relzM_goes_111 g0 r2 g1 ∧ (∃ (x1 : Int32), (if ((g1 11) 2) = (-1) then (x1 = (g1 11) 3) else (if ((g1 11) 3) = (-1) then (x1 = (g1 11) 2) else (if ((g1 11) 3) ≤ ((g1 11) 2) then (x1 = (g1 11) 3) else (x1 = (g1 11) 2)))) ∧ (rz = x1 ∧ gz = g1))
set_option maxHeartbeats 4000000 in
set_option maxRecDepth 100000 in
theorem kzM_earliest_1 (l : Launch) (G : va_G) (ac : Nat → ClassId) (ad : Nat → Nat) (g0 : xk_St) (B : Nat) (Ig0 : xk_cnt B g0) (hB : B + 1 < 2147483648) : xk_CI l yzM_earliest czM_earliest 4 .int xk_WS xk_r2 G xk_cls (xk_tys ac) [.ref (ad 0), .int 1] (xk_wM ad ac g0) (fun rz (gz : xk_St) => relzM_earliest_1 g0 rz gz) (fun gz => xk_wM ad ac gz) := by
  refine xk_ofI (by decide) (Nat.le_of_ble_eq_true rfl) ?_
  intro p e s m args below meth c A Q H locs ls C0 hret hP hD hS hl
  obtain ⟨hx, hb, hml, hts, hown, hK, hA⟩ := C0
  have hl : lv_has ls 4 [(0, .ref (ad 0)), (1, .int 1)] := hl
  have Ig0 : xk_cnt (B + 0) g0 := Ig0
  refine lv_aload_n (pc := 0) hx hb dzM_earliest_0 rfl (lv_at hl 0 rfl) ?_
  refine lv_iload_n (pc := 1) hx hb dzM_earliest_1 rfl (lv_at hl 1 rfl) ?_
  refine xk_callSI (As := [.int 1]) (rest := [.ref (ad 0)]) (H0 := s.heap) (pc := 2) hx hb hml hts hown hK hA hP hD hS (kzM_isTrack l G ac 1) sfzM_96 [] (by decide) rfl (fun _ => rfl) ⟨rfl, rfl⟩ ⟨Nat.le_of_ble_eq_true rfl, Nat.le_of_ble_eq_true rfl⟩ rfl hl.1 rfl (Nat.le_of_ble_eq_true rfl) ⟨Nat.zero_le _, Nat.zero_le _⟩ dzM_earliest_2 (fun r1 u9 H locs e9 hP hD hS => ?_)
  obtain rfl : r1 = qzM_isTrack 1 := e9
  refine xk_is (y := 1) (by decide) ?_
  have hP : va_P G xk_cls (xk_wM ad ac g0) H := hP
  have hD : va_D A (xk_wM ad ac g0) := hD
  refine lv_iconst (v := 1) (pc := 5) hx hb dzM_earliest_5 (by decide) ?_
  refine lv_iconst (v := 1) (pc := 6) hx hb dzM_earliest_6 (by decide) ?_
  refine xk_allVI (As := [.int 1, .int 1, .int 1]) (rest := []) (H0 := s.heap) (pc := 7) hx hb hml hts hown hK hA hP hD hS (kzM_goes_111 l G ac ad g0 (B + 0) Ig0 (by omega)) vfzM_114 (fun _ => rfl) 0 rfl rfl ⟨rfl, rfl⟩ ⟨Nat.le_of_ble_eq_true rfl, Nat.le_of_ble_eq_true rfl⟩ rfl hl.1 rfl (Nat.le_of_ble_eq_true rfl) ⟨Nat.zero_le _, Nat.zero_le _⟩ dzM_earliest_7 (fun r2 g1 H locs hg1 hP hD hS => ?_)
  have qr2 : r2 = 1 := rczM_goes_111 _ _ _ hg1
  refine xk_is (y := 1) qr2 ?_
  have hP : va_P G xk_cls (xk_wM ad ac g1) H := hP
  have hD : va_D A (xk_wM ad ac g1) := hD
  have Ig1 : xk_cnt (B + 0) g1 := xk_cnt_le (iczM_goes_111 (B + 0) _ _ _ hg1 Ig0) (by omega)
  refine lv_if_ne (pc := 10) (tgt := 15) hx hb dzM_earliest_10 (by decide) (fun _ => ?_) (fun hq9 => absurd hq9 (by decide))
  refine lv_aload_n (pc := 15) hx hb dzM_earliest_15 rfl (lv_at hl 0 rfl) ?_
  refine xk_get (pc := 16) hx hb hts hown hK hP ffzM_41 0 rfl rfl dzM_earliest_16 ?_
  refine lv_iconst (v := 2) (pc := 19) hx hb dzM_earliest_19 (by decide) ?_
  refine lv_iload_n (pc := 20) hx hb dzM_earliest_20 rfl (lv_at hl 1 rfl) ?_
  refine lv_imul (pc := 21) hx hb dzM_earliest_21 ?_
  refine xk_is (y := 2) (by decide) ?_
  refine xk_iald (q0 := 11) (t0 := 0) (j := 2) (pc := 22) hx hb hK hP rfl rfl (pk_in 2 4 (by decide)) (pk_cl 2) dzM_earliest_22 ?_
  refine lv_istore_n (lv' := [(2, .int ((g1 11) 2)), (0, .ref (ad 0)), (1, .int 1)]) (pc := 23) hx hb dzM_earliest_23 rfl hl (by decide) rfl (fun ls hl => ?_)
  refine lv_aload_n (pc := 24) hx hb dzM_earliest_24 rfl (lv_at hl 1 rfl) ?_
  refine xk_get (pc := 25) hx hb hts hown hK hP ffzM_41 0 rfl rfl dzM_earliest_25 ?_
  refine lv_iconst (v := 2) (pc := 28) hx hb dzM_earliest_28 (by decide) ?_
  refine lv_iload_n (pc := 29) hx hb dzM_earliest_29 rfl (lv_at hl 2 rfl) ?_
  refine lv_imul (pc := 30) hx hb dzM_earliest_30 ?_
  refine xk_is (y := 2) (by decide) ?_
  refine lv_iconst (v := 1) (pc := 31) hx hb dzM_earliest_31 (by decide) ?_
  refine lv_iadd (pc := 32) hx hb dzM_earliest_32 ?_
  refine xk_is (y := 3) (by decide) ?_
  refine xk_iald (q0 := 11) (t0 := 0) (j := 3) (pc := 33) hx hb hK hP rfl rfl (pk_in 3 4 (by decide)) (pk_cl 3) dzM_earliest_33 ?_
  refine lv_istore_n (lv' := [(3, .int ((g1 11) 3)), (2, .int ((g1 11) 2)), (0, .ref (ad 0)), (1, .int 1)]) (pc := 34) hx hb dzM_earliest_34 rfl hl (by decide) rfl (fun ls hl => ?_)
  refine lv_iload_n (pc := 35) hx hb dzM_earliest_35 rfl (lv_at hl 1 rfl) ?_
  refine lv_iconst (v := (-1)) (pc := 36) hx hb dzM_earliest_36 (by decide) ?_
  have K1 : ∀ (x1 : Int32), (if ((g1 11) 2) = (-1) then (x1 = (g1 11) 3) else (if ((g1 11) 3) = (-1) then (x1 = (g1 11) 2) else (if ((g1 11) 3) ≤ ((g1 11) 2) then (x1 = (g1 11) 3) else (x1 = (g1 11) 2)))) → W p l e xk_r2 s m args below meth c H locs 0 0 Q (F0 m 59 ls [.int x1]) := by
    intro x1 R1
    exact hret _ g1 H locs 59 ls hP hS rfl (by unfold relzM_earliest_1; exact ⟨r2, g1, hg1, ⟨x1, R1, ⟨rfl, rfl⟩⟩⟩) dzM_earliest_59
  refine lv_icmp_ne (pc := 37) (tgt := 44) hx hb dzM_earliest_37 (by decide) (fun h1 => ?_) (fun h1 => ?_)
  ·
    refine lv_iload_n (pc := 44) hx hb dzM_earliest_44 rfl (lv_at hl 0 rfl) ?_
    refine lv_iconst (v := (-1)) (pc := 45) hx hb dzM_earliest_45 (by decide) ?_
    refine lv_icmp_eq (pc := 46) (tgt := 54) hx hb dzM_earliest_46 (by decide) (fun h2 => ?_) (fun h2 => ?_)
    ·
      refine lv_iload_n (pc := 54) hx hb dzM_earliest_54 rfl (lv_at hl 1 rfl) ?_
      refine lv_goto (tgt := 59) (pc := 55) hx hb dzM_earliest_55 (by decide) ?_
      exact K1 ((g1 11) 2) (Eq.mpr (if_neg h1) (Eq.mpr (if_pos h2) rfl))
    ·
      refine lv_iload_n (pc := 49) hx hb dzM_earliest_49 rfl (lv_at hl 1 rfl) ?_
      refine lv_iload_n (pc := 50) hx hb dzM_earliest_50 rfl (lv_at hl 0 rfl) ?_
      refine lv_icmp_ge (pc := 51) (tgt := 58) hx hb dzM_earliest_51 (by decide) (fun h3 => ?_) (fun h3 => ?_)
      ·
        refine lv_iload_n (pc := 58) hx hb dzM_earliest_58 rfl (lv_at hl 0 rfl) ?_
        exact K1 ((g1 11) 3) (Eq.mpr (if_neg h1) (Eq.mpr (if_neg h2) (Eq.mpr (if_pos h3) rfl)))
      ·
        refine lv_iload_n (pc := 54) hx hb dzM_earliest_54 rfl (lv_at hl 1 rfl) ?_
        refine lv_goto (tgt := 59) (pc := 55) hx hb dzM_earliest_55 (by decide) ?_
        exact K1 ((g1 11) 2) (Eq.mpr (if_neg h1) (Eq.mpr (if_neg h2) (Eq.mpr (if_neg h3) rfl)))
  ·
    refine lv_iload_n (pc := 40) hx hb dzM_earliest_40 rfl (lv_at hl 0 rfl) ?_
    refine lv_goto (tgt := 59) (pc := 41) hx hb dzM_earliest_41 (by decide) ?_
    exact K1 ((g1 11) 3) (Eq.mpr (if_pos h1) rfl)
theorem frzM_earliest_1 (g0 : xk_St) (rz : Int32) (gz : xk_St) : relzM_earliest_1 g0 rz gz → xk_eqv [1, 2, 3, 4, 5, 6, 7, 8, 9, 10, 11, 12, 13, 14, 15, 16, 17, 18, 19, 20, 21, 22, 23, 24, 25, 26, 27] g0 gz := by
  intro h
  unfold relzM_earliest_1 at h
  have s0 : xk_eqv [1, 2, 3, 4, 5, 6, 7, 8, 9, 10, 11, 12, 13, 14, 15, 16, 17, 18, 19, 20, 21, 22, 23, 24, 25, 26, 27] g0 g0 := xk_eqv_rf
  obtain ⟨r2, g1, u1, v2⟩ := h
  have s3 : xk_eqv [1, 2, 3, 4, 5, 6, 7, 8, 9, 10, 11, 12, 13, 14, 15, 16, 17, 18, 19, 20, 21, 22, 23, 24, 25, 26, 27] g0 g1 := xk_eqv_tr s0 (xk_eqv_sub (frzM_goes_111 _ _ _ u1) (by decide))
  obtain ⟨x1, u4, v5⟩ := v2
  rw [v5.2]; exact s3
theorem iczM_earliest_1 (B : Nat) (g0 : xk_St) (rz : Int32) (gz : xk_St) : relzM_earliest_1 g0 rz gz → xk_cnt B g0 → xk_cnt (B + 0) gz := by
  intro h Ig0
  unfold relzM_earliest_1 at h
  have Ig0 : xk_cnt (B + 0) g0 := Ig0
  obtain ⟨r2, g1, u1, v2⟩ := h
  have Ig1 : xk_cnt (B + 0) g1 := xk_cnt_le (iczM_goes_111 (B + 0) _ _ _ u1 Ig0) (by omega)
  obtain ⟨x1, u3, v4⟩ := v2
  rw [v4.2]; exact xk_cnt_le Ig1 (by omega)

def relzM_about (g0 : xk_St) (k0 : Int32) (rz : Int32) (gz : xk_St) : Prop := ∃ (x1 : Int32), (if k0 < 0 then (x1 = 0) else (if 10 < k0 then (x1 = 0) else (x1 = 1))) ∧ (∃ (r1 : Int32) (g1 : xk_St), relzM_goes g0 x1 1 1 r1 g1 ∧ (if r1 = 0 then (rz = 0 ∧ gz = g1) else (if k0 = 0 then (rz = g1 0 28 ∧ gz = g1) else (if k0 = 1 then (rz = g1 0 29 ∧ gz = g1) else (if k0 = 2 then (rz = g1 0 30 ∧ gz = g1) else (if k0 = 3 then (∃ (x2 : Int32), (if (qzM_isProved g1) = 0 then (x2 = 0) else (x2 = 1)) ∧ (rz = x2 ∧ gz = g1)) else (if k0 = 4 then (∃ (r3 : Int32), relzM_output g1 r3 ∧ (rz = r3 ∧ gz = g1)) else (if k0 = 5 then (rz = g1 0 27 ∧ gz = g1) else (if k0 = 6 then (rz = (g1 18) 0 ∧ gz = g1) else (if k0 = 7 then (rz = (g1 18) 1 ∧ gz = g1) else (if k0 = 8 then (∃ (x3 : Int32), (if ((g1 23) 0) = 0 then (x3 = 0) else (x3 = 1)) ∧ (∃ (x4 : Int32), (if ((g1 23) 1) = 0 then (x4 = 0) else (x4 = 2)) ∧ (∃ (x5 : Int32), (if ((g1 23) 2) = 0 then (x5 = 0) else (x5 = 4)) ∧ (rz = (x3 + x4) + x5 ∧ gz = g1)))) else (if k0 = 9 then (∃ (x6 : Int32), (if ((g1 13) 0) = 0 then (x6 = 0) else (x6 = 1)) ∧ (∃ (x7 : Int32), (if ((g1 13) 1) = 0 then (x7 = 0) else (x7 = 2)) ∧ (rz = x6 + x7 ∧ gz = g1))) else (rz = g1 0 31 ∧ gz = g1)))))))))))))
set_option maxHeartbeats 4000000 in
set_option maxRecDepth 100000 in
theorem kzM_about (l : Launch) (G : va_G) (ac : Nat → ClassId) (ad : Nat → Nat) (g0 : xk_St) (k0 : Int32) (B : Nat) (Ig0 : xk_cnt B g0) (hB : B + 1 < 2147483648) : xk_CI l yzM_about czM_about 2 .int xk_WS xk_r2 G xk_cls (xk_tys ac) [.ref (ad 0), .int k0] (xk_wM ad ac g0) (fun rz (gz : xk_St) => relzM_about g0 k0 rz gz) (fun gz => xk_wM ad ac gz) := by
  refine xk_ofI (by decide) (Nat.le_of_ble_eq_true rfl) ?_
  intro p e s m args below meth c A Q H locs ls C0 hret hP hD hS hl
  obtain ⟨hx, hb, hml, hts, hown, hK, hA⟩ := C0
  have hl : lv_has ls 2 [(0, .ref (ad 0)), (1, .int k0)] := hl
  have Ig0 : xk_cnt (B + 0) g0 := Ig0
  refine lv_aload_n (pc := 0) hx hb dzM_about_0 rfl (lv_at hl 0 rfl) ?_
  refine lv_iload_n (pc := 1) hx hb dzM_about_1 rfl (lv_at hl 1 rfl) ?_
  have K1 : ∀ (x1 : Int32), (if k0 < 0 then (x1 = 0) else (if 10 < k0 then (x1 = 0) else (x1 = 1))) → (xk_b x1) → W p l e xk_r2 s m args below meth c H locs 0 0 Q (F0 m 16 ls [.int x1, .ref (ad 0)]) := by
    intro x1 R1 bx1
    refine lv_iconst (v := 1) (pc := 16) hx hb dzM_about_16 (by decide) ?_
    refine lv_iconst (v := 1) (pc := 17) hx hb dzM_about_17 (by decide) ?_
    refine xk_allVI (As := [.int x1, .int 1, .int 1]) (rest := []) (H0 := s.heap) (pc := 18) hx hb hml hts hown hK hA hP hD hS (kzM_goes l G ac ad g0 x1 1 1 (B + 0) Ig0 (by omega)) vfzM_114 (fun _ => rfl) 0 rfl rfl ⟨rfl, rfl⟩ ⟨Nat.le_of_ble_eq_true rfl, Nat.le_of_ble_eq_true rfl⟩ rfl hl.1 rfl (Nat.le_of_ble_eq_true rfl) ⟨Nat.zero_le _, Nat.zero_le _⟩ dzM_about_18 (fun r1 g1 H locs hg1 hP hD hS => ?_)
    have hP : va_P G xk_cls (xk_wM ad ac g1) H := hP
    have hD : va_D A (xk_wM ad ac g1) := hD
    have Ig1 : xk_cnt (B + 0) g1 := xk_cnt_le (iczM_goes (B + 0) _ _ _ _ _ _ hg1 Ig0) (by omega)
    refine lv_if_ne (pc := 21) (tgt := 26) hx hb dzM_about_21 (by decide) (fun h3 => ?_) (fun h3 => ?_)
    ·
      refine lv_iload_n (pc := 26) hx hb dzM_about_26 rfl (lv_at hl 1 rfl) ?_
      by_cases h4 : k0 = 0
      ·
        refine lv_tableIn (pc := 27) (tgt := 80) hx hb dzM_about_27 (by rw [h4]; decide) (by rw [h4]; decide) (by rw [h4]; rfl) (by decide) ?_
        refine lv_aload_n (pc := 80) hx hb dzM_about_80 rfl (lv_at hl 0 rfl) ?_
        refine xk_get (pc := 81) hx hb hts hown hK hP ffzM_152 0 rfl rfl dzM_about_81 ?_
        exact hret _ g1 H locs 84 ls hP hS rfl (by unfold relzM_about; exact ⟨x1, R1, ⟨r1, g1, hg1, (Eq.mpr (if_neg h3) (Eq.mpr (if_pos h4) ⟨rfl, rfl⟩))⟩⟩) dzM_about_84
      ·
        by_cases h5 : k0 = 1
        ·
          refine lv_tableIn (pc := 27) (tgt := 85) hx hb dzM_about_27 (by rw [h5]; decide) (by rw [h5]; decide) (by rw [h5]; rfl) (by decide) ?_
          refine lv_aload_n (pc := 85) hx hb dzM_about_85 rfl (lv_at hl 0 rfl) ?_
          refine xk_get (pc := 86) hx hb hts hown hK hP ffzM_149 0 rfl rfl dzM_about_86 ?_
          exact hret _ g1 H locs 89 ls hP hS rfl (by unfold relzM_about; exact ⟨x1, R1, ⟨r1, g1, hg1, (Eq.mpr (if_neg h3) (Eq.mpr (if_neg h4) (Eq.mpr (if_pos h5) ⟨rfl, rfl⟩)))⟩⟩) dzM_about_89
        ·
          by_cases h6 : k0 = 2
          ·
            refine lv_tableIn (pc := 27) (tgt := 90) hx hb dzM_about_27 (by rw [h6]; decide) (by rw [h6]; decide) (by rw [h6]; rfl) (by decide) ?_
            refine lv_aload_n (pc := 90) hx hb dzM_about_90 rfl (lv_at hl 0 rfl) ?_
            refine xk_get (pc := 91) hx hb hts hown hK hP ffzM_155 0 rfl rfl dzM_about_91 ?_
            exact hret _ g1 H locs 94 ls hP hS rfl (by unfold relzM_about; exact ⟨x1, R1, ⟨r1, g1, hg1, (Eq.mpr (if_neg h3) (Eq.mpr (if_neg h4) (Eq.mpr (if_neg h5) (Eq.mpr (if_pos h6) ⟨rfl, rfl⟩))))⟩⟩) dzM_about_94
          ·
            by_cases h7 : k0 = 3
            ·
              refine lv_tableIn (pc := 27) (tgt := 95) hx hb dzM_about_27 (by rw [h7]; decide) (by rw [h7]; decide) (by rw [h7]; rfl) (by decide) ?_
              refine lv_aload_n (pc := 95) hx hb dzM_about_95 rfl (lv_at hl 0 rfl) ?_
              refine xk_allVI (As := []) (rest := []) (H0 := s.heap) (pc := 96) hx hb hml hts hown hK hA hP hD hS (kzM_isProved l G ac ad g1) vfzM_158 (fun _ => rfl) 0 rfl rfl ⟨rfl, rfl⟩ ⟨Nat.le_of_ble_eq_true rfl, Nat.le_of_ble_eq_true rfl⟩ rfl hl.1 rfl (Nat.le_of_ble_eq_true rfl) ⟨Nat.zero_le _, Nat.zero_le _⟩ dzM_about_96 (fun r2 u9 H locs e9 hP hD hS => ?_)
              obtain rfl : r2 = qzM_isProved g1 := e9
              have hP : va_P G xk_cls (xk_wM ad ac g1) H := hP
              have hD : va_D A (xk_wM ad ac g1) := hD
              have K2 : ∀ (x2 : Int32), (if (qzM_isProved g1) = 0 then (x2 = 0) else (x2 = 1)) → (xk_b x2) → W p l e xk_r2 s m args below meth c H locs 0 0 Q (F0 m 107 ls [.int x2]) := by
                intro x2 R2 bx2
                exact hret _ g1 H locs 107 ls hP hS rfl (by unfold relzM_about; exact ⟨x1, R1, ⟨r1, g1, hg1, (Eq.mpr (if_neg h3) (Eq.mpr (if_neg h4) (Eq.mpr (if_neg h5) (Eq.mpr (if_neg h6) (Eq.mpr (if_pos h7) ⟨x2, R2, ⟨rfl, rfl⟩⟩)))))⟩⟩) dzM_about_107
              refine lv_if_eq (pc := 99) (tgt := 106) hx hb dzM_about_99 (by decide) (fun h8 => ?_) (fun h8 => ?_)
              ·
                refine lv_iconst (v := 0) (pc := 106) hx hb dzM_about_106 (by decide) ?_
                exact K2 0 (Eq.mpr (if_pos h8) rfl) xk_b0
              ·
                refine lv_iconst (v := 1) (pc := 102) hx hb dzM_about_102 (by decide) ?_
                refine lv_goto (tgt := 107) (pc := 103) hx hb dzM_about_103 (by decide) ?_
                exact K2 1 (Eq.mpr (if_neg h8) rfl) xk_b1
            ·
              by_cases h9 : k0 = 4
              ·
                refine lv_tableIn (pc := 27) (tgt := 108) hx hb dzM_about_27 (by rw [h9]; decide) (by rw [h9]; decide) (by rw [h9]; rfl) (by decide) ?_
                refine lv_aload_n (pc := 108) hx hb dzM_about_108 rfl (lv_at hl 0 rfl) ?_
                refine xk_allVI (As := []) (rest := []) (H0 := s.heap) (pc := 109) hx hb hml hts hown hK hA hP hD hS (kzM_output l G ac ad g1) vfzM_191 (fun _ => rfl) 0 rfl rfl ⟨rfl, rfl⟩ ⟨Nat.le_of_ble_eq_true rfl, Nat.le_of_ble_eq_true rfl⟩ rfl hl.1 rfl (Nat.le_of_ble_eq_true rfl) ⟨Nat.zero_le _, Nat.zero_le _⟩ dzM_about_109 (fun r3 u9 H locs hr3 hP hD hS => ?_)
                exact hret _ g1 H locs 112 ls hP hS rfl (by unfold relzM_about; exact ⟨x1, R1, ⟨r1, g1, hg1, (Eq.mpr (if_neg h3) (Eq.mpr (if_neg h4) (Eq.mpr (if_neg h5) (Eq.mpr (if_neg h6) (Eq.mpr (if_neg h7) (Eq.mpr (if_pos h9) ⟨r3, hr3, ⟨rfl, rfl⟩⟩))))))⟩⟩) dzM_about_112
              ·
                by_cases h10 : k0 = 5
                ·
                  refine lv_tableIn (pc := 27) (tgt := 113) hx hb dzM_about_27 (by rw [h10]; decide) (by rw [h10]; decide) (by rw [h10]; rfl) (by decide) ?_
                  refine lv_aload_n (pc := 113) hx hb dzM_about_113 rfl (lv_at hl 0 rfl) ?_
                  refine xk_get (pc := 114) hx hb hts hown hK hP ffzM_103 0 rfl rfl dzM_about_114 ?_
                  exact hret _ g1 H locs 117 ls hP hS rfl (by unfold relzM_about; exact ⟨x1, R1, ⟨r1, g1, hg1, (Eq.mpr (if_neg h3) (Eq.mpr (if_neg h4) (Eq.mpr (if_neg h5) (Eq.mpr (if_neg h6) (Eq.mpr (if_neg h7) (Eq.mpr (if_neg h9) (Eq.mpr (if_pos h10) ⟨rfl, rfl⟩)))))))⟩⟩) dzM_about_117
                ·
                  by_cases h11 : k0 = 6
                  ·
                    refine lv_tableIn (pc := 27) (tgt := 118) hx hb dzM_about_27 (by rw [h11]; decide) (by rw [h11]; decide) (by rw [h11]; rfl) (by decide) ?_
                    refine lv_aload_n (pc := 118) hx hb dzM_about_118 rfl (lv_at hl 0 rfl) ?_
                    refine xk_get (pc := 119) hx hb hts hown hK hP ffzM_62 0 rfl rfl dzM_about_119 ?_
                    refine lv_iconst (v := 0) (pc := 122) hx hb dzM_about_122 (by decide) ?_
                    refine xk_iald (q0 := 18) (t0 := 0) (j := 0) (pc := 123) hx hb hK hP rfl rfl (pk_in 0 2 (by decide)) (pk_cl 0) dzM_about_123 ?_
                    exact hret _ g1 H locs 124 ls hP hS rfl (by unfold relzM_about; exact ⟨x1, R1, ⟨r1, g1, hg1, (Eq.mpr (if_neg h3) (Eq.mpr (if_neg h4) (Eq.mpr (if_neg h5) (Eq.mpr (if_neg h6) (Eq.mpr (if_neg h7) (Eq.mpr (if_neg h9) (Eq.mpr (if_neg h10) (Eq.mpr (if_pos h11) ⟨rfl, rfl⟩))))))))⟩⟩) dzM_about_124
                  ·
                    by_cases h12 : k0 = 7
                    ·
                      refine lv_tableIn (pc := 27) (tgt := 125) hx hb dzM_about_27 (by rw [h12]; decide) (by rw [h12]; decide) (by rw [h12]; rfl) (by decide) ?_
                      refine lv_aload_n (pc := 125) hx hb dzM_about_125 rfl (lv_at hl 0 rfl) ?_
                      refine xk_get (pc := 126) hx hb hts hown hK hP ffzM_62 0 rfl rfl dzM_about_126 ?_
                      refine lv_iconst (v := 1) (pc := 129) hx hb dzM_about_129 (by decide) ?_
                      refine xk_iald (q0 := 18) (t0 := 0) (j := 1) (pc := 130) hx hb hK hP rfl rfl (pk_in 1 2 (by decide)) (pk_cl 1) dzM_about_130 ?_
                      exact hret _ g1 H locs 131 ls hP hS rfl (by unfold relzM_about; exact ⟨x1, R1, ⟨r1, g1, hg1, (Eq.mpr (if_neg h3) (Eq.mpr (if_neg h4) (Eq.mpr (if_neg h5) (Eq.mpr (if_neg h6) (Eq.mpr (if_neg h7) (Eq.mpr (if_neg h9) (Eq.mpr (if_neg h10) (Eq.mpr (if_neg h11) (Eq.mpr (if_pos h12) ⟨rfl, rfl⟩)))))))))⟩⟩) dzM_about_131
                    ·
                      by_cases h13 : k0 = 8
                      ·
                        refine lv_tableIn (pc := 27) (tgt := 132) hx hb dzM_about_27 (by rw [h13]; decide) (by rw [h13]; decide) (by rw [h13]; rfl) (by decide) ?_
                        refine lv_aload_n (pc := 132) hx hb dzM_about_132 rfl (lv_at hl 0 rfl) ?_
                        refine xk_get (pc := 133) hx hb hts hown hK hP ffzM_77 0 rfl rfl dzM_about_133 ?_
                        refine lv_iconst (v := 0) (pc := 136) hx hb dzM_about_136 (by decide) ?_
                        refine xk_zald (q0 := 23) (t0 := 1) (j := 0) (pc := 137) hx hb hK hP rfl rfl (pk_in 0 3 (by decide)) (pk_cl 0) dzM_about_137 ?_
                        have K3 : ∀ (x3 : Int32), (if ((g1 23) 0) = 0 then (x3 = 0) else (x3 = 1)) → (xk_b x3) → W p l e xk_r2 s m args below meth c H locs 0 0 Q (F0 m 146 ls [.int x3]) := by
                          intro x3 R3 bx3
                          refine lv_aload_n (pc := 146) hx hb dzM_about_146 rfl (lv_at hl 0 rfl) ?_
                          refine xk_get (pc := 147) hx hb hts hown hK hP ffzM_77 0 rfl rfl dzM_about_147 ?_
                          refine lv_iconst (v := 1) (pc := 150) hx hb dzM_about_150 (by decide) ?_
                          refine xk_zald (q0 := 23) (t0 := 1) (j := 1) (pc := 151) hx hb hK hP rfl rfl (pk_in 1 3 (by decide)) (pk_cl 1) dzM_about_151 ?_
                          have K4 : ∀ (x4 : Int32), (if ((g1 23) 1) = 0 then (x4 = 0) else (x4 = 2)) → W p l e xk_r2 s m args below meth c H locs 0 0 Q (F0 m 160 ls [.int x4, .int x3]) := by
                            intro x4 R4
                            refine lv_iadd (pc := 160) hx hb dzM_about_160 ?_
                            refine lv_aload_n (pc := 161) hx hb dzM_about_161 rfl (lv_at hl 0 rfl) ?_
                            refine xk_get (pc := 162) hx hb hts hown hK hP ffzM_77 0 rfl rfl dzM_about_162 ?_
                            refine lv_iconst (v := 2) (pc := 165) hx hb dzM_about_165 (by decide) ?_
                            refine xk_zald (q0 := 23) (t0 := 1) (j := 2) (pc := 166) hx hb hK hP rfl rfl (pk_in 2 3 (by decide)) (pk_cl 2) dzM_about_166 ?_
                            have K5 : ∀ (x5 : Int32), (if ((g1 23) 2) = 0 then (x5 = 0) else (x5 = 4)) → W p l e xk_r2 s m args below meth c H locs 0 0 Q (F0 m 175 ls [.int x5, .int (x3 + x4)]) := by
                              intro x5 R5
                              refine lv_iadd (pc := 175) hx hb dzM_about_175 ?_
                              exact hret _ g1 H locs 176 ls hP hS rfl (by unfold relzM_about; exact ⟨x1, R1, ⟨r1, g1, hg1, (Eq.mpr (if_neg h3) (Eq.mpr (if_neg h4) (Eq.mpr (if_neg h5) (Eq.mpr (if_neg h6) (Eq.mpr (if_neg h7) (Eq.mpr (if_neg h9) (Eq.mpr (if_neg h10) (Eq.mpr (if_neg h11) (Eq.mpr (if_neg h12) (Eq.mpr (if_pos h13) ⟨x3, R3, ⟨x4, R4, ⟨x5, R5, ⟨rfl, rfl⟩⟩⟩⟩))))))))))⟩⟩) dzM_about_176
                            refine lv_if_eq (pc := 167) (tgt := 174) hx hb dzM_about_167 (by decide) (fun h16 => ?_) (fun h16 => ?_)
                            ·
                              refine lv_iconst (v := 0) (pc := 174) hx hb dzM_about_174 (by decide) ?_
                              exact K5 0 (Eq.mpr (if_pos h16) rfl)
                            ·
                              refine lv_iconst (v := 4) (pc := 170) hx hb dzM_about_170 (by decide) ?_
                              refine lv_goto (tgt := 175) (pc := 171) hx hb dzM_about_171 (by decide) ?_
                              exact K5 4 (Eq.mpr (if_neg h16) rfl)
                          refine lv_if_eq (pc := 152) (tgt := 159) hx hb dzM_about_152 (by decide) (fun h15 => ?_) (fun h15 => ?_)
                          ·
                            refine lv_iconst (v := 0) (pc := 159) hx hb dzM_about_159 (by decide) ?_
                            exact K4 0 (Eq.mpr (if_pos h15) rfl)
                          ·
                            refine lv_iconst (v := 2) (pc := 155) hx hb dzM_about_155 (by decide) ?_
                            refine lv_goto (tgt := 160) (pc := 156) hx hb dzM_about_156 (by decide) ?_
                            exact K4 2 (Eq.mpr (if_neg h15) rfl)
                        refine lv_if_eq (pc := 138) (tgt := 145) hx hb dzM_about_138 (by decide) (fun h14 => ?_) (fun h14 => ?_)
                        ·
                          refine lv_iconst (v := 0) (pc := 145) hx hb dzM_about_145 (by decide) ?_
                          exact K3 0 (Eq.mpr (if_pos h14) rfl) xk_b0
                        ·
                          refine lv_iconst (v := 1) (pc := 141) hx hb dzM_about_141 (by decide) ?_
                          refine lv_goto (tgt := 146) (pc := 142) hx hb dzM_about_142 (by decide) ?_
                          exact K3 1 (Eq.mpr (if_neg h14) rfl) xk_b1
                      ·
                        by_cases h17 : k0 = 9
                        ·
                          refine lv_tableIn (pc := 27) (tgt := 177) hx hb dzM_about_27 (by rw [h17]; decide) (by rw [h17]; decide) (by rw [h17]; rfl) (by decide) ?_
                          refine lv_aload_n (pc := 177) hx hb dzM_about_177 rfl (lv_at hl 0 rfl) ?_
                          refine xk_get (pc := 178) hx hb hts hown hK hP ffzM_47 0 rfl rfl dzM_about_178 ?_
                          refine lv_iconst (v := 0) (pc := 181) hx hb dzM_about_181 (by decide) ?_
                          refine xk_zald (q0 := 13) (t0 := 1) (j := 0) (pc := 182) hx hb hK hP rfl rfl (pk_in 0 2 (by decide)) (pk_cl 0) dzM_about_182 ?_
                          have K6 : ∀ (x6 : Int32), (if ((g1 13) 0) = 0 then (x6 = 0) else (x6 = 1)) → (xk_b x6) → W p l e xk_r2 s m args below meth c H locs 0 0 Q (F0 m 191 ls [.int x6]) := by
                            intro x6 R6 bx6
                            refine lv_aload_n (pc := 191) hx hb dzM_about_191 rfl (lv_at hl 0 rfl) ?_
                            refine xk_get (pc := 192) hx hb hts hown hK hP ffzM_47 0 rfl rfl dzM_about_192 ?_
                            refine lv_iconst (v := 1) (pc := 195) hx hb dzM_about_195 (by decide) ?_
                            refine xk_zald (q0 := 13) (t0 := 1) (j := 1) (pc := 196) hx hb hK hP rfl rfl (pk_in 1 2 (by decide)) (pk_cl 1) dzM_about_196 ?_
                            have K7 : ∀ (x7 : Int32), (if ((g1 13) 1) = 0 then (x7 = 0) else (x7 = 2)) → W p l e xk_r2 s m args below meth c H locs 0 0 Q (F0 m 205 ls [.int x7, .int x6]) := by
                              intro x7 R7
                              refine lv_iadd (pc := 205) hx hb dzM_about_205 ?_
                              exact hret _ g1 H locs 206 ls hP hS rfl (by unfold relzM_about; exact ⟨x1, R1, ⟨r1, g1, hg1, (Eq.mpr (if_neg h3) (Eq.mpr (if_neg h4) (Eq.mpr (if_neg h5) (Eq.mpr (if_neg h6) (Eq.mpr (if_neg h7) (Eq.mpr (if_neg h9) (Eq.mpr (if_neg h10) (Eq.mpr (if_neg h11) (Eq.mpr (if_neg h12) (Eq.mpr (if_neg h13) (Eq.mpr (if_pos h17) ⟨x6, R6, ⟨x7, R7, ⟨rfl, rfl⟩⟩⟩)))))))))))⟩⟩) dzM_about_206
                            refine lv_if_eq (pc := 197) (tgt := 204) hx hb dzM_about_197 (by decide) (fun h19 => ?_) (fun h19 => ?_)
                            ·
                              refine lv_iconst (v := 0) (pc := 204) hx hb dzM_about_204 (by decide) ?_
                              exact K7 0 (Eq.mpr (if_pos h19) rfl)
                            ·
                              refine lv_iconst (v := 2) (pc := 200) hx hb dzM_about_200 (by decide) ?_
                              refine lv_goto (tgt := 205) (pc := 201) hx hb dzM_about_201 (by decide) ?_
                              exact K7 2 (Eq.mpr (if_neg h19) rfl)
                          refine lv_if_eq (pc := 183) (tgt := 190) hx hb dzM_about_183 (by decide) (fun h18 => ?_) (fun h18 => ?_)
                          ·
                            refine lv_iconst (v := 0) (pc := 190) hx hb dzM_about_190 (by decide) ?_
                            exact K6 0 (Eq.mpr (if_pos h18) rfl) xk_b0
                          ·
                            refine lv_iconst (v := 1) (pc := 186) hx hb dzM_about_186 (by decide) ?_
                            refine lv_goto (tgt := 191) (pc := 187) hx hb dzM_about_187 (by decide) ?_
                            exact K6 1 (Eq.mpr (if_neg h18) rfl) xk_b1
                        ·
                          refine lv_tableOut (pc := 27) (tgt := 207) hx hb dzM_about_27 (xk_out10 h4 h5 h6 h7 h9 h10 h11 h12 h13 h17) (by decide) ?_
                          refine lv_aload_n (pc := 207) hx hb dzM_about_207 rfl (lv_at hl 0 rfl) ?_
                          refine xk_get (pc := 208) hx hb hts hown hK hP ffzM_100 0 rfl rfl dzM_about_208 ?_
                          exact hret _ g1 H locs 211 ls hP hS rfl (by unfold relzM_about; exact ⟨x1, R1, ⟨r1, g1, hg1, (Eq.mpr (if_neg h3) (Eq.mpr (if_neg h4) (Eq.mpr (if_neg h5) (Eq.mpr (if_neg h6) (Eq.mpr (if_neg h7) (Eq.mpr (if_neg h9) (Eq.mpr (if_neg h10) (Eq.mpr (if_neg h11) (Eq.mpr (if_neg h12) (Eq.mpr (if_neg h13) (Eq.mpr (if_neg h17) ⟨rfl, rfl⟩)))))))))))⟩⟩) dzM_about_211
    ·
      refine lv_iconst (v := 0) (pc := 24) hx hb dzM_about_24 (by decide) ?_
      exact hret _ g1 H locs 25 ls hP hS rfl (by unfold relzM_about; exact ⟨x1, R1, ⟨r1, g1, hg1, (Eq.mpr (if_pos h3) ⟨rfl, rfl⟩)⟩⟩) dzM_about_25
  refine lv_if_lt (pc := 2) (tgt := 15) hx hb dzM_about_2 (by decide) (fun h1 => ?_) (fun h1 => ?_)
  ·
    refine lv_iconst (v := 0) (pc := 15) hx hb dzM_about_15 (by decide) ?_
    exact K1 0 (Eq.mpr (if_pos h1) rfl) xk_b0
  ·
    refine lv_iload_n (pc := 5) hx hb dzM_about_5 rfl (lv_at hl 1 rfl) ?_
    refine lv_bipush (v := 10) (pc := 6) hx hb dzM_about_6 (by decide) ?_
    refine lv_icmp_gt (pc := 8) (tgt := 15) hx hb dzM_about_8 (by decide) (fun h2 => ?_) (fun h2 => ?_)
    ·
      refine lv_iconst (v := 0) (pc := 15) hx hb dzM_about_15 (by decide) ?_
      exact K1 0 (Eq.mpr (if_neg h1) (Eq.mpr (if_pos h2) rfl)) xk_b0
    ·
      refine lv_iconst (v := 1) (pc := 11) hx hb dzM_about_11 (by decide) ?_
      refine lv_goto (tgt := 16) (pc := 12) hx hb dzM_about_12 (by decide) ?_
      exact K1 1 (Eq.mpr (if_neg h1) (Eq.mpr (if_neg h2) rfl)) xk_b1
theorem frzM_about (g0 : xk_St) (k0 : Int32) (rz : Int32) (gz : xk_St) : relzM_about g0 k0 rz gz → xk_eqv [1, 2, 3, 4, 5, 6, 7, 8, 9, 10, 11, 12, 13, 14, 15, 16, 17, 18, 19, 20, 21, 22, 23, 24, 25, 26, 27] g0 gz := by
  intro h
  unfold relzM_about at h
  have s0 : xk_eqv [1, 2, 3, 4, 5, 6, 7, 8, 9, 10, 11, 12, 13, 14, 15, 16, 17, 18, 19, 20, 21, 22, 23, 24, 25, 26, 27] g0 g0 := xk_eqv_rf
  obtain ⟨x1, u1, v2⟩ := h
  obtain ⟨r1, g1, u3, v4⟩ := v2
  have s5 : xk_eqv [1, 2, 3, 4, 5, 6, 7, 8, 9, 10, 11, 12, 13, 14, 15, 16, 17, 18, 19, 20, 21, 22, 23, 24, 25, 26, 27] g0 g1 := xk_eqv_tr s0 (xk_eqv_sub (frzM_goes _ _ _ _ _ _ u3) (by decide))
  by_cases hc : r1 = 0
  · rw [if_pos hc] at v4
    rw [v4.2]; exact s5
  · rw [if_neg hc] at v4
    by_cases hc : k0 = 0
    · rw [if_pos hc] at v4
      rw [v4.2]; exact s5
    · rw [if_neg hc] at v4
      by_cases hc : k0 = 1
      · rw [if_pos hc] at v4
        rw [v4.2]; exact s5
      · rw [if_neg hc] at v4
        by_cases hc : k0 = 2
        · rw [if_pos hc] at v4
          rw [v4.2]; exact s5
        · rw [if_neg hc] at v4
          by_cases hc : k0 = 3
          · rw [if_pos hc] at v4
            obtain ⟨x2, u6, v7⟩ := v4
            rw [v7.2]; exact s5
          · rw [if_neg hc] at v4
            by_cases hc : k0 = 4
            · rw [if_pos hc] at v4
              obtain ⟨r3, u8, v9⟩ := v4
              rw [v9.2]; exact s5
            · rw [if_neg hc] at v4
              by_cases hc : k0 = 5
              · rw [if_pos hc] at v4
                rw [v4.2]; exact s5
              · rw [if_neg hc] at v4
                by_cases hc : k0 = 6
                · rw [if_pos hc] at v4
                  rw [v4.2]; exact s5
                · rw [if_neg hc] at v4
                  by_cases hc : k0 = 7
                  · rw [if_pos hc] at v4
                    rw [v4.2]; exact s5
                  · rw [if_neg hc] at v4
                    by_cases hc : k0 = 8
                    · rw [if_pos hc] at v4
                      obtain ⟨x3, u10, v11⟩ := v4
                      obtain ⟨x4, u12, v13⟩ := v11
                      obtain ⟨x5, u14, v15⟩ := v13
                      rw [v15.2]; exact s5
                    · rw [if_neg hc] at v4
                      by_cases hc : k0 = 9
                      · rw [if_pos hc] at v4
                        obtain ⟨x6, u16, v17⟩ := v4
                        obtain ⟨x7, u18, v19⟩ := v17
                        rw [v19.2]; exact s5
                      · rw [if_neg hc] at v4
                        rw [v4.2]; exact s5
theorem iczM_about (B : Nat) (g0 : xk_St) (k0 : Int32) (rz : Int32) (gz : xk_St) : relzM_about g0 k0 rz gz → xk_cnt B g0 → xk_cnt (B + 0) gz := by
  intro h Ig0
  unfold relzM_about at h
  have Ig0 : xk_cnt (B + 0) g0 := Ig0
  obtain ⟨x1, u1, v2⟩ := h
  obtain ⟨r1, g1, u3, v4⟩ := v2
  have Ig1 : xk_cnt (B + 0) g1 := xk_cnt_le (iczM_goes (B + 0) _ _ _ _ _ _ u3 Ig0) (by omega)
  by_cases hc : r1 = 0
  · rw [if_pos hc] at v4
    rw [v4.2]; exact xk_cnt_le Ig1 (by omega)
  · rw [if_neg hc] at v4
    by_cases hc : k0 = 0
    · rw [if_pos hc] at v4
      rw [v4.2]; exact xk_cnt_le Ig1 (by omega)
    · rw [if_neg hc] at v4
      by_cases hc : k0 = 1
      · rw [if_pos hc] at v4
        rw [v4.2]; exact xk_cnt_le Ig1 (by omega)
      · rw [if_neg hc] at v4
        by_cases hc : k0 = 2
        · rw [if_pos hc] at v4
          rw [v4.2]; exact xk_cnt_le Ig1 (by omega)
        · rw [if_neg hc] at v4
          by_cases hc : k0 = 3
          · rw [if_pos hc] at v4
            obtain ⟨x2, u5, v6⟩ := v4
            rw [v6.2]; exact xk_cnt_le Ig1 (by omega)
          · rw [if_neg hc] at v4
            by_cases hc : k0 = 4
            · rw [if_pos hc] at v4
              obtain ⟨r3, u7, v8⟩ := v4
              rw [v8.2]; exact xk_cnt_le Ig1 (by omega)
            · rw [if_neg hc] at v4
              by_cases hc : k0 = 5
              · rw [if_pos hc] at v4
                rw [v4.2]; exact xk_cnt_le Ig1 (by omega)
              · rw [if_neg hc] at v4
                by_cases hc : k0 = 6
                · rw [if_pos hc] at v4
                  rw [v4.2]; exact xk_cnt_le Ig1 (by omega)
                · rw [if_neg hc] at v4
                  by_cases hc : k0 = 7
                  · rw [if_pos hc] at v4
                    rw [v4.2]; exact xk_cnt_le Ig1 (by omega)
                  · rw [if_neg hc] at v4
                    by_cases hc : k0 = 8
                    · rw [if_pos hc] at v4
                      obtain ⟨x3, u9, v10⟩ := v4
                      obtain ⟨x4, u11, v12⟩ := v10
                      obtain ⟨x5, u13, v14⟩ := v12
                      rw [v14.2]; exact xk_cnt_le Ig1 (by omega)
                    · rw [if_neg hc] at v4
                      by_cases hc : k0 = 9
                      · rw [if_pos hc] at v4
                        obtain ⟨x6, u15, v16⟩ := v4
                        obtain ⟨x7, u17, v18⟩ := v16
                        rw [v18.2]; exact xk_cnt_le Ig1 (by omega)
                      · rw [if_neg hc] at v4
                        rw [v4.2]; exact xk_cnt_le Ig1 (by omega)

def relzM_event_neg (g0 : xk_St) (k1 : Int32) (rz : Int32) (gz : xk_St) : Prop := ∃ (x1 : Int32), (if k1 < 0 then (x1 = 0) else (if 2 < k1 then (x1 = 0) else (x1 = 1))) ∧ (∃ (r1 : Int32) (g1 : xk_St), relzM_goes_0 g0 r1 g1 ∧ (rz = 0 ∧ gz = g1))
set_option maxHeartbeats 4000000 in
set_option maxRecDepth 100000 in
theorem kzM_event_neg (l : Launch) (G : va_G) (ac : Nat → ClassId) (ad : Nat → Nat) (g0 : xk_St) (k0 : Int32) (k1 : Int32) (B : Nat) (h01 : k0 < 0) (Ig0 : xk_cnt B g0) (hB : B + 1 < 2147483648) : xk_CI l yzM_event czM_event 3 .int xk_WS xk_r2 G xk_cls (xk_tys ac) [.ref (ad 0), .int k0, .int k1] (xk_wM ad ac g0) (fun rz (gz : xk_St) => relzM_event_neg g0 k1 rz gz) (fun gz => xk_wM ad ac gz) := by
  refine xk_ofI (by decide) (Nat.le_of_ble_eq_true rfl) ?_
  intro p e s m args below meth c A Q H locs ls C0 hret hP hD hS hl
  obtain ⟨hx, hb, hml, hts, hown, hK, hA⟩ := C0
  have hl : lv_has ls 3 [(0, .ref (ad 0)), (1, .int k0), (2, .int k1)] := hl
  have Ig0 : xk_cnt (B + 0) g0 := Ig0
  refine lv_aload_n (pc := 0) hx hb dzM_event_0 rfl (lv_at hl 0 rfl) ?_
  refine lv_iload_n (pc := 1) hx hb dzM_event_1 rfl (lv_at hl 1 rfl) ?_
  refine lv_if_lt (pc := 2) (tgt := 28) hx hb dzM_event_2 (by decide) (fun _ => ?_) (fun hq9 => absurd h01 hq9)
  refine lv_iconst (v := 0) (pc := 28) hx hb dzM_event_28 (by decide) ?_
  refine lv_iload_n (pc := 29) hx hb dzM_event_29 rfl (lv_at hl 2 rfl) ?_
  have K1 : ∀ (x1 : Int32), (if k1 < 0 then (x1 = 0) else (if 2 < k1 then (x1 = 0) else (x1 = 1))) → (xk_b x1) → W p l e xk_r2 s m args below meth c H locs 0 0 Q (F0 m 43 ls [.int x1, .int 0, .ref (ad 0)]) := by
    intro x1 R1 bx1
    refine lv_iconst (v := 1) (pc := 43) hx hb dzM_event_43 (by decide) ?_
    refine xk_allVI (As := [.int 0, .int x1, .int 1]) (rest := []) (H0 := s.heap) (pc := 44) hx hb hml hts hown hK hA hP hD hS (kzM_goes_0 l G ac ad g0 x1 1 (B + 0) Ig0 (by omega)) vfzM_114 (fun _ => rfl) 0 rfl rfl ⟨rfl, rfl⟩ ⟨Nat.le_of_ble_eq_true rfl, Nat.le_of_ble_eq_true rfl⟩ rfl hl.1 rfl (Nat.le_of_ble_eq_true rfl) ⟨Nat.zero_le _, Nat.zero_le _⟩ dzM_event_44 (fun r1 g1 H locs hg1 hP hD hS => ?_)
    have qr1 : r1 = 0 := rczM_goes_0 _ _ _ hg1
    refine xk_is (y := 0) qr1 ?_
    have hP : va_P G xk_cls (xk_wM ad ac g1) H := hP
    have hD : va_D A (xk_wM ad ac g1) := hD
    have Ig1 : xk_cnt (B + 0) g1 := xk_cnt_le (iczM_goes_0 (B + 0) _ _ _ hg1 Ig0) (by omega)
    refine lv_if_ne (pc := 47) (tgt := 52) hx hb dzM_event_47 (by decide) (fun hq9 => absurd (by decide) hq9) (fun _ => ?_)
    refine lv_iconst (v := 0) (pc := 50) hx hb dzM_event_50 (by decide) ?_
    exact hret _ g1 H locs 51 ls hP hS rfl (by unfold relzM_event_neg; exact ⟨x1, R1, ⟨r1, g1, hg1, ⟨rfl, rfl⟩⟩⟩) dzM_event_51
  refine lv_if_lt (pc := 30) (tgt := 42) hx hb dzM_event_30 (by decide) (fun h1 => ?_) (fun h1 => ?_)
  ·
    refine lv_iconst (v := 0) (pc := 42) hx hb dzM_event_42 (by decide) ?_
    exact K1 0 (Eq.mpr (if_pos h1) rfl) xk_b0
  ·
    refine lv_iload_n (pc := 33) hx hb dzM_event_33 rfl (lv_at hl 2 rfl) ?_
    refine lv_iconst (v := 2) (pc := 34) hx hb dzM_event_34 (by decide) ?_
    refine lv_icmp_gt (pc := 35) (tgt := 42) hx hb dzM_event_35 (by decide) (fun h2 => ?_) (fun h2 => ?_)
    ·
      refine lv_iconst (v := 0) (pc := 42) hx hb dzM_event_42 (by decide) ?_
      exact K1 0 (Eq.mpr (if_neg h1) (Eq.mpr (if_pos h2) rfl)) xk_b0
    ·
      refine lv_iconst (v := 1) (pc := 38) hx hb dzM_event_38 (by decide) ?_
      refine lv_goto (tgt := 43) (pc := 39) hx hb dzM_event_39 (by decide) ?_
      exact K1 1 (Eq.mpr (if_neg h1) (Eq.mpr (if_neg h2) rfl)) xk_b1
theorem frzM_event_neg (g0 : xk_St) (k1 : Int32) (rz : Int32) (gz : xk_St) : relzM_event_neg g0 k1 rz gz → xk_eqv [1, 2, 3, 4, 5, 6, 7, 8, 9, 10, 11, 12, 13, 14, 15, 16, 17, 18, 19, 20, 21, 22, 23, 24, 25, 26, 27] g0 gz := by
  intro h
  unfold relzM_event_neg at h
  have s0 : xk_eqv [1, 2, 3, 4, 5, 6, 7, 8, 9, 10, 11, 12, 13, 14, 15, 16, 17, 18, 19, 20, 21, 22, 23, 24, 25, 26, 27] g0 g0 := xk_eqv_rf
  obtain ⟨x1, u1, v2⟩ := h
  obtain ⟨r1, g1, u3, v4⟩ := v2
  have s5 : xk_eqv [1, 2, 3, 4, 5, 6, 7, 8, 9, 10, 11, 12, 13, 14, 15, 16, 17, 18, 19, 20, 21, 22, 23, 24, 25, 26, 27] g0 g1 := xk_eqv_tr s0 (xk_eqv_sub (frzM_goes_0 _ _ _ u3) (by decide))
  rw [v4.2]; exact s5
theorem iczM_event_neg (B : Nat) (g0 : xk_St) (k1 : Int32) (rz : Int32) (gz : xk_St) : relzM_event_neg g0 k1 rz gz → xk_cnt B g0 → xk_cnt (B + 0) gz := by
  intro h Ig0
  unfold relzM_event_neg at h
  have Ig0 : xk_cnt (B + 0) g0 := Ig0
  obtain ⟨x1, u1, v2⟩ := h
  obtain ⟨r1, g1, u3, v4⟩ := v2
  have Ig1 : xk_cnt (B + 0) g1 := xk_cnt_le (iczM_goes_0 (B + 0) _ _ _ u3 Ig0) (by omega)
  rw [v4.2]; exact xk_cnt_le Ig1 (by omega)
theorem rczM_event_neg (g0 : xk_St) (k1 : Int32) (rz : Int32) (gz : xk_St) : relzM_event_neg g0 k1 rz gz → rz = 0 := by
  intro h
  unfold relzM_event_neg at h
  obtain ⟨_, _, v1⟩ := h
  obtain ⟨_, _, _, v2⟩ := v1
  exact v2.1

def relzM_event_late (g0 : xk_St) (k1 : Int32) (rz : Int32) (gz : xk_St) : Prop := ∃ (x1 : Int32), (if k1 < 0 then (x1 = 0) else (if 2 < k1 then (x1 = 0) else (x1 = 1))) ∧ (∃ (r1 : Int32) (g1 : xk_St), relzM_goes_0 g0 r1 g1 ∧ (rz = 0 ∧ gz = g1))
set_option maxHeartbeats 4000000 in
set_option maxRecDepth 100000 in
theorem kzM_event_late (l : Launch) (G : va_G) (ac : Nat → ClassId) (ad : Nat → Nat) (g0 : xk_St) (k0 : Int32) (k1 : Int32) (B : Nat) (h01 : ¬ k0 < 0) (h02 : (g0 0 31) ≤ k0) (Ig0 : xk_cnt B g0) (hB : B + 1 < 2147483648) : xk_CI l yzM_event czM_event 3 .int xk_WS xk_r2 G xk_cls (xk_tys ac) [.ref (ad 0), .int k0, .int k1] (xk_wM ad ac g0) (fun rz (gz : xk_St) => relzM_event_late g0 k1 rz gz) (fun gz => xk_wM ad ac gz) := by
  refine xk_ofI (by decide) (Nat.le_of_ble_eq_true rfl) ?_
  intro p e s m args below meth c A Q H locs ls C0 hret hP hD hS hl
  obtain ⟨hx, hb, hml, hts, hown, hK, hA⟩ := C0
  have hl : lv_has ls 3 [(0, .ref (ad 0)), (1, .int k0), (2, .int k1)] := hl
  have Ig0 : xk_cnt (B + 0) g0 := Ig0
  refine lv_aload_n (pc := 0) hx hb dzM_event_0 rfl (lv_at hl 0 rfl) ?_
  refine lv_iload_n (pc := 1) hx hb dzM_event_1 rfl (lv_at hl 1 rfl) ?_
  refine lv_if_lt (pc := 2) (tgt := 28) hx hb dzM_event_2 (by decide) (fun hq9 => absurd hq9 h01) (fun _ => ?_)
  refine lv_iload_n (pc := 5) hx hb dzM_event_5 rfl (lv_at hl 1 rfl) ?_
  refine lv_aload_n (pc := 6) hx hb dzM_event_6 rfl (lv_at hl 0 rfl) ?_
  refine xk_get (pc := 7) hx hb hts hown hK hP ffzM_100 0 rfl rfl dzM_event_7 ?_
  refine lv_icmp_ge (pc := 10) (tgt := 28) hx hb dzM_event_10 (by decide) (fun _ => ?_) (fun hq9 => absurd h02 hq9)
  refine lv_iconst (v := 0) (pc := 28) hx hb dzM_event_28 (by decide) ?_
  refine lv_iload_n (pc := 29) hx hb dzM_event_29 rfl (lv_at hl 2 rfl) ?_
  have K1 : ∀ (x1 : Int32), (if k1 < 0 then (x1 = 0) else (if 2 < k1 then (x1 = 0) else (x1 = 1))) → (xk_b x1) → W p l e xk_r2 s m args below meth c H locs 0 0 Q (F0 m 43 ls [.int x1, .int 0, .ref (ad 0)]) := by
    intro x1 R1 bx1
    refine lv_iconst (v := 1) (pc := 43) hx hb dzM_event_43 (by decide) ?_
    refine xk_allVI (As := [.int 0, .int x1, .int 1]) (rest := []) (H0 := s.heap) (pc := 44) hx hb hml hts hown hK hA hP hD hS (kzM_goes_0 l G ac ad g0 x1 1 (B + 0) Ig0 (by omega)) vfzM_114 (fun _ => rfl) 0 rfl rfl ⟨rfl, rfl⟩ ⟨Nat.le_of_ble_eq_true rfl, Nat.le_of_ble_eq_true rfl⟩ rfl hl.1 rfl (Nat.le_of_ble_eq_true rfl) ⟨Nat.zero_le _, Nat.zero_le _⟩ dzM_event_44 (fun r1 g1 H locs hg1 hP hD hS => ?_)
    have qr1 : r1 = 0 := rczM_goes_0 _ _ _ hg1
    refine xk_is (y := 0) qr1 ?_
    have hP : va_P G xk_cls (xk_wM ad ac g1) H := hP
    have hD : va_D A (xk_wM ad ac g1) := hD
    have Ig1 : xk_cnt (B + 0) g1 := xk_cnt_le (iczM_goes_0 (B + 0) _ _ _ hg1 Ig0) (by omega)
    refine lv_if_ne (pc := 47) (tgt := 52) hx hb dzM_event_47 (by decide) (fun hq9 => absurd (by decide) hq9) (fun _ => ?_)
    refine lv_iconst (v := 0) (pc := 50) hx hb dzM_event_50 (by decide) ?_
    exact hret _ g1 H locs 51 ls hP hS rfl (by unfold relzM_event_late; exact ⟨x1, R1, ⟨r1, g1, hg1, ⟨rfl, rfl⟩⟩⟩) dzM_event_51
  refine lv_if_lt (pc := 30) (tgt := 42) hx hb dzM_event_30 (by decide) (fun h1 => ?_) (fun h1 => ?_)
  ·
    refine lv_iconst (v := 0) (pc := 42) hx hb dzM_event_42 (by decide) ?_
    exact K1 0 (Eq.mpr (if_pos h1) rfl) xk_b0
  ·
    refine lv_iload_n (pc := 33) hx hb dzM_event_33 rfl (lv_at hl 2 rfl) ?_
    refine lv_iconst (v := 2) (pc := 34) hx hb dzM_event_34 (by decide) ?_
    refine lv_icmp_gt (pc := 35) (tgt := 42) hx hb dzM_event_35 (by decide) (fun h2 => ?_) (fun h2 => ?_)
    ·
      refine lv_iconst (v := 0) (pc := 42) hx hb dzM_event_42 (by decide) ?_
      exact K1 0 (Eq.mpr (if_neg h1) (Eq.mpr (if_pos h2) rfl)) xk_b0
    ·
      refine lv_iconst (v := 1) (pc := 38) hx hb dzM_event_38 (by decide) ?_
      refine lv_goto (tgt := 43) (pc := 39) hx hb dzM_event_39 (by decide) ?_
      exact K1 1 (Eq.mpr (if_neg h1) (Eq.mpr (if_neg h2) rfl)) xk_b1
theorem frzM_event_late (g0 : xk_St) (k1 : Int32) (rz : Int32) (gz : xk_St) : relzM_event_late g0 k1 rz gz → xk_eqv [1, 2, 3, 4, 5, 6, 7, 8, 9, 10, 11, 12, 13, 14, 15, 16, 17, 18, 19, 20, 21, 22, 23, 24, 25, 26, 27] g0 gz := by
  intro h
  unfold relzM_event_late at h
  have s0 : xk_eqv [1, 2, 3, 4, 5, 6, 7, 8, 9, 10, 11, 12, 13, 14, 15, 16, 17, 18, 19, 20, 21, 22, 23, 24, 25, 26, 27] g0 g0 := xk_eqv_rf
  obtain ⟨x1, u1, v2⟩ := h
  obtain ⟨r1, g1, u3, v4⟩ := v2
  have s5 : xk_eqv [1, 2, 3, 4, 5, 6, 7, 8, 9, 10, 11, 12, 13, 14, 15, 16, 17, 18, 19, 20, 21, 22, 23, 24, 25, 26, 27] g0 g1 := xk_eqv_tr s0 (xk_eqv_sub (frzM_goes_0 _ _ _ u3) (by decide))
  rw [v4.2]; exact s5
theorem iczM_event_late (B : Nat) (g0 : xk_St) (k1 : Int32) (rz : Int32) (gz : xk_St) : relzM_event_late g0 k1 rz gz → xk_cnt B g0 → xk_cnt (B + 0) gz := by
  intro h Ig0
  unfold relzM_event_late at h
  have Ig0 : xk_cnt (B + 0) g0 := Ig0
  obtain ⟨x1, u1, v2⟩ := h
  obtain ⟨r1, g1, u3, v4⟩ := v2
  have Ig1 : xk_cnt (B + 0) g1 := xk_cnt_le (iczM_goes_0 (B + 0) _ _ _ u3 Ig0) (by omega)
  rw [v4.2]; exact xk_cnt_le Ig1 (by omega)
theorem rczM_event_late (g0 : xk_St) (k1 : Int32) (rz : Int32) (gz : xk_St) : relzM_event_late g0 k1 rz gz → rz = 0 := by
  intro h
  unfold relzM_event_late at h
  obtain ⟨_, _, v1⟩ := h
  obtain ⟨_, _, _, v2⟩ := v1
  exact v2.1

def relzM_event_old (g0 : xk_St) (k1 : Int32) (rz : Int32) (gz : xk_St) : Prop := ∃ (x1 : Int32), (if k1 < 0 then (x1 = 0) else (if 2 < k1 then (x1 = 0) else (x1 = 1))) ∧ (∃ (r1 : Int32) (g1 : xk_St), relzM_goes_0 g0 r1 g1 ∧ (rz = 0 ∧ gz = g1))
set_option maxHeartbeats 4000000 in
set_option maxRecDepth 100000 in
theorem kzM_event_old (l : Launch) (G : va_G) (ac : Nat → ClassId) (ad : Nat → Nat) (g0 : xk_St) (k0 : Int32) (k1 : Int32) (B : Nat) (h01 : ¬ k0 < 0) (h02 : ¬ (g0 0 31) ≤ k0) (h03 : k0 < ((g0 0 31) - 64)) (Ig0 : xk_cnt B g0) (hB : B + 1 < 2147483648) : xk_CI l yzM_event czM_event 3 .int xk_WS xk_r2 G xk_cls (xk_tys ac) [.ref (ad 0), .int k0, .int k1] (xk_wM ad ac g0) (fun rz (gz : xk_St) => relzM_event_old g0 k1 rz gz) (fun gz => xk_wM ad ac gz) := by
  refine xk_ofI (by decide) (Nat.le_of_ble_eq_true rfl) ?_
  intro p e s m args below meth c A Q H locs ls C0 hret hP hD hS hl
  obtain ⟨hx, hb, hml, hts, hown, hK, hA⟩ := C0
  have hl : lv_has ls 3 [(0, .ref (ad 0)), (1, .int k0), (2, .int k1)] := hl
  have Ig0 : xk_cnt (B + 0) g0 := Ig0
  refine lv_aload_n (pc := 0) hx hb dzM_event_0 rfl (lv_at hl 0 rfl) ?_
  refine lv_iload_n (pc := 1) hx hb dzM_event_1 rfl (lv_at hl 1 rfl) ?_
  refine lv_if_lt (pc := 2) (tgt := 28) hx hb dzM_event_2 (by decide) (fun hq9 => absurd hq9 h01) (fun _ => ?_)
  refine lv_iload_n (pc := 5) hx hb dzM_event_5 rfl (lv_at hl 1 rfl) ?_
  refine lv_aload_n (pc := 6) hx hb dzM_event_6 rfl (lv_at hl 0 rfl) ?_
  refine xk_get (pc := 7) hx hb hts hown hK hP ffzM_100 0 rfl rfl dzM_event_7 ?_
  refine lv_icmp_ge (pc := 10) (tgt := 28) hx hb dzM_event_10 (by decide) (fun hq9 => absurd hq9 h02) (fun _ => ?_)
  refine lv_iload_n (pc := 13) hx hb dzM_event_13 rfl (lv_at hl 1 rfl) ?_
  refine lv_aload_n (pc := 14) hx hb dzM_event_14 rfl (lv_at hl 0 rfl) ?_
  refine xk_get (pc := 15) hx hb hts hown hK hP ffzM_100 0 rfl rfl dzM_event_15 ?_
  refine lv_bipush (v := 64) (pc := 18) hx hb dzM_event_18 (by decide) ?_
  refine lv_isub (pc := 20) hx hb dzM_event_20 ?_
  refine lv_icmp_lt (pc := 21) (tgt := 28) hx hb dzM_event_21 (by decide) (fun _ => ?_) (fun hq9 => absurd h03 hq9)
  refine lv_iconst (v := 0) (pc := 28) hx hb dzM_event_28 (by decide) ?_
  refine lv_iload_n (pc := 29) hx hb dzM_event_29 rfl (lv_at hl 2 rfl) ?_
  have K1 : ∀ (x1 : Int32), (if k1 < 0 then (x1 = 0) else (if 2 < k1 then (x1 = 0) else (x1 = 1))) → (xk_b x1) → W p l e xk_r2 s m args below meth c H locs 0 0 Q (F0 m 43 ls [.int x1, .int 0, .ref (ad 0)]) := by
    intro x1 R1 bx1
    refine lv_iconst (v := 1) (pc := 43) hx hb dzM_event_43 (by decide) ?_
    refine xk_allVI (As := [.int 0, .int x1, .int 1]) (rest := []) (H0 := s.heap) (pc := 44) hx hb hml hts hown hK hA hP hD hS (kzM_goes_0 l G ac ad g0 x1 1 (B + 0) Ig0 (by omega)) vfzM_114 (fun _ => rfl) 0 rfl rfl ⟨rfl, rfl⟩ ⟨Nat.le_of_ble_eq_true rfl, Nat.le_of_ble_eq_true rfl⟩ rfl hl.1 rfl (Nat.le_of_ble_eq_true rfl) ⟨Nat.zero_le _, Nat.zero_le _⟩ dzM_event_44 (fun r1 g1 H locs hg1 hP hD hS => ?_)
    have qr1 : r1 = 0 := rczM_goes_0 _ _ _ hg1
    refine xk_is (y := 0) qr1 ?_
    have hP : va_P G xk_cls (xk_wM ad ac g1) H := hP
    have hD : va_D A (xk_wM ad ac g1) := hD
    have Ig1 : xk_cnt (B + 0) g1 := xk_cnt_le (iczM_goes_0 (B + 0) _ _ _ hg1 Ig0) (by omega)
    refine lv_if_ne (pc := 47) (tgt := 52) hx hb dzM_event_47 (by decide) (fun hq9 => absurd (by decide) hq9) (fun _ => ?_)
    refine lv_iconst (v := 0) (pc := 50) hx hb dzM_event_50 (by decide) ?_
    exact hret _ g1 H locs 51 ls hP hS rfl (by unfold relzM_event_old; exact ⟨x1, R1, ⟨r1, g1, hg1, ⟨rfl, rfl⟩⟩⟩) dzM_event_51
  refine lv_if_lt (pc := 30) (tgt := 42) hx hb dzM_event_30 (by decide) (fun h1 => ?_) (fun h1 => ?_)
  ·
    refine lv_iconst (v := 0) (pc := 42) hx hb dzM_event_42 (by decide) ?_
    exact K1 0 (Eq.mpr (if_pos h1) rfl) xk_b0
  ·
    refine lv_iload_n (pc := 33) hx hb dzM_event_33 rfl (lv_at hl 2 rfl) ?_
    refine lv_iconst (v := 2) (pc := 34) hx hb dzM_event_34 (by decide) ?_
    refine lv_icmp_gt (pc := 35) (tgt := 42) hx hb dzM_event_35 (by decide) (fun h2 => ?_) (fun h2 => ?_)
    ·
      refine lv_iconst (v := 0) (pc := 42) hx hb dzM_event_42 (by decide) ?_
      exact K1 0 (Eq.mpr (if_neg h1) (Eq.mpr (if_pos h2) rfl)) xk_b0
    ·
      refine lv_iconst (v := 1) (pc := 38) hx hb dzM_event_38 (by decide) ?_
      refine lv_goto (tgt := 43) (pc := 39) hx hb dzM_event_39 (by decide) ?_
      exact K1 1 (Eq.mpr (if_neg h1) (Eq.mpr (if_neg h2) rfl)) xk_b1
theorem frzM_event_old (g0 : xk_St) (k1 : Int32) (rz : Int32) (gz : xk_St) : relzM_event_old g0 k1 rz gz → xk_eqv [1, 2, 3, 4, 5, 6, 7, 8, 9, 10, 11, 12, 13, 14, 15, 16, 17, 18, 19, 20, 21, 22, 23, 24, 25, 26, 27] g0 gz := by
  intro h
  unfold relzM_event_old at h
  have s0 : xk_eqv [1, 2, 3, 4, 5, 6, 7, 8, 9, 10, 11, 12, 13, 14, 15, 16, 17, 18, 19, 20, 21, 22, 23, 24, 25, 26, 27] g0 g0 := xk_eqv_rf
  obtain ⟨x1, u1, v2⟩ := h
  obtain ⟨r1, g1, u3, v4⟩ := v2
  have s5 : xk_eqv [1, 2, 3, 4, 5, 6, 7, 8, 9, 10, 11, 12, 13, 14, 15, 16, 17, 18, 19, 20, 21, 22, 23, 24, 25, 26, 27] g0 g1 := xk_eqv_tr s0 (xk_eqv_sub (frzM_goes_0 _ _ _ u3) (by decide))
  rw [v4.2]; exact s5
theorem iczM_event_old (B : Nat) (g0 : xk_St) (k1 : Int32) (rz : Int32) (gz : xk_St) : relzM_event_old g0 k1 rz gz → xk_cnt B g0 → xk_cnt (B + 0) gz := by
  intro h Ig0
  unfold relzM_event_old at h
  have Ig0 : xk_cnt (B + 0) g0 := Ig0
  obtain ⟨x1, u1, v2⟩ := h
  obtain ⟨r1, g1, u3, v4⟩ := v2
  have Ig1 : xk_cnt (B + 0) g1 := xk_cnt_le (iczM_goes_0 (B + 0) _ _ _ u3 Ig0) (by omega)
  rw [v4.2]; exact xk_cnt_le Ig1 (by omega)
theorem rczM_event_old (g0 : xk_St) (k1 : Int32) (rz : Int32) (gz : xk_St) : relzM_event_old g0 k1 rz gz → rz = 0 := by
  intro h
  unfold relzM_event_old at h
  obtain ⟨_, _, v1⟩ := h
  obtain ⟨_, _, _, v2⟩ := v1
  exact v2.1

def relzM_event_ok (g0 : xk_St) (k0 : Int32) (k1 : Int32) (rz : Int32) (gz : xk_St) : Prop := ∃ (x1 : Int32), (if k1 < 0 then (x1 = 0) else (if 2 < k1 then (x1 = 0) else (x1 = 1))) ∧ (∃ (r1 : Int32) (g1 : xk_St), relzM_goes g0 1 x1 1 r1 g1 ∧ (if r1 = 0 then (rz = 0 ∧ gz = g1) else (∃ (x2 : Int32), (if k1 = 0 then (x2 = (g1 25) ((k0 - k0 / 64 * 64).toNatClampNeg)) else (if k1 = 1 then (x2 = (g1 26) ((k0 - k0 / 64 * 64).toNatClampNeg)) else (x2 = (g1 27) ((k0 - k0 / 64 * 64).toNatClampNeg)))) ∧ (rz = x2 ∧ gz = g1))))
set_option maxHeartbeats 4000000 in
set_option maxRecDepth 100000 in
theorem kzM_event_ok (l : Launch) (G : va_G) (ac : Nat → ClassId) (ad : Nat → Nat) (g0 : xk_St) (k0 : Int32) (k1 : Int32) (B : Nat) (h01 : ¬ k0 < 0) (h02 : ¬ (g0 0 31) ≤ k0) (h03 : ¬ k0 < ((g0 0 31) - 64)) (Ig0 : xk_cnt B g0) (hB : B + 1 < 2147483648) : xk_CI l yzM_event czM_event 3 .int xk_WS xk_r2 G xk_cls (xk_tys ac) [.ref (ad 0), .int k0, .int k1] (xk_wM ad ac g0) (fun rz (gz : xk_St) => relzM_event_ok g0 k0 k1 rz gz) (fun gz => xk_wM ad ac gz) := by
  refine xk_ofI (by decide) (Nat.le_of_ble_eq_true rfl) ?_
  intro p e s m args below meth c A Q H locs ls C0 hret hP hD hS hl
  obtain ⟨hx, hb, hml, hts, hown, hK, hA⟩ := C0
  have hl : lv_has ls 3 [(0, .ref (ad 0)), (1, .int k0), (2, .int k1)] := hl
  have Ig0 : xk_cnt (B + 0) g0 := Ig0
  refine lv_aload_n (pc := 0) hx hb dzM_event_0 rfl (lv_at hl 0 rfl) ?_
  refine lv_iload_n (pc := 1) hx hb dzM_event_1 rfl (lv_at hl 1 rfl) ?_
  refine lv_if_lt (pc := 2) (tgt := 28) hx hb dzM_event_2 (by decide) (fun hq9 => absurd hq9 h01) (fun _ => ?_)
  refine lv_iload_n (pc := 5) hx hb dzM_event_5 rfl (lv_at hl 1 rfl) ?_
  refine lv_aload_n (pc := 6) hx hb dzM_event_6 rfl (lv_at hl 0 rfl) ?_
  refine xk_get (pc := 7) hx hb hts hown hK hP ffzM_100 0 rfl rfl dzM_event_7 ?_
  refine lv_icmp_ge (pc := 10) (tgt := 28) hx hb dzM_event_10 (by decide) (fun hq9 => absurd hq9 h02) (fun _ => ?_)
  refine lv_iload_n (pc := 13) hx hb dzM_event_13 rfl (lv_at hl 1 rfl) ?_
  refine lv_aload_n (pc := 14) hx hb dzM_event_14 rfl (lv_at hl 0 rfl) ?_
  refine xk_get (pc := 15) hx hb hts hown hK hP ffzM_100 0 rfl rfl dzM_event_15 ?_
  refine lv_bipush (v := 64) (pc := 18) hx hb dzM_event_18 (by decide) ?_
  refine lv_isub (pc := 20) hx hb dzM_event_20 ?_
  refine lv_icmp_lt (pc := 21) (tgt := 28) hx hb dzM_event_21 (by decide) (fun hq9 => absurd hq9 h03) (fun _ => ?_)
  refine lv_iconst (v := 1) (pc := 24) hx hb dzM_event_24 (by decide) ?_
  refine lv_goto (tgt := 29) (pc := 25) hx hb dzM_event_25 (by decide) ?_
  refine lv_iload_n (pc := 29) hx hb dzM_event_29 rfl (lv_at hl 2 rfl) ?_
  have K1 : ∀ (x1 : Int32), (if k1 < 0 then (x1 = 0) else (if 2 < k1 then (x1 = 0) else (x1 = 1))) → (xk_b x1) → W p l e xk_r2 s m args below meth c H locs 0 0 Q (F0 m 43 ls [.int x1, .int 1, .ref (ad 0)]) := by
    intro x1 R1 bx1
    refine lv_iconst (v := 1) (pc := 43) hx hb dzM_event_43 (by decide) ?_
    refine xk_allVI (As := [.int 1, .int x1, .int 1]) (rest := []) (H0 := s.heap) (pc := 44) hx hb hml hts hown hK hA hP hD hS (kzM_goes l G ac ad g0 1 x1 1 (B + 0) Ig0 (by omega)) vfzM_114 (fun _ => rfl) 0 rfl rfl ⟨rfl, rfl⟩ ⟨Nat.le_of_ble_eq_true rfl, Nat.le_of_ble_eq_true rfl⟩ rfl hl.1 rfl (Nat.le_of_ble_eq_true rfl) ⟨Nat.zero_le _, Nat.zero_le _⟩ dzM_event_44 (fun r1 g1 H locs hg1 hP hD hS => ?_)
    have hP : va_P G xk_cls (xk_wM ad ac g1) H := hP
    have hD : va_D A (xk_wM ad ac g1) := hD
    have Ig1 : xk_cnt (B + 0) g1 := xk_cnt_le (iczM_goes (B + 0) _ _ _ _ _ _ hg1 Ig0) (by omega)
    refine lv_if_ne (pc := 47) (tgt := 52) hx hb dzM_event_47 (by decide) (fun h3 => ?_) (fun h3 => ?_)
    ·
      refine lv_iload_n (pc := 52) hx hb dzM_event_52 rfl (lv_at hl 2 rfl) ?_
      have K2 : ∀ (x2 : Int32), (if k1 = 0 then (x2 = (g1 25) ((k0 - k0 / 64 * 64).toNatClampNeg)) else (if k1 = 1 then (x2 = (g1 26) ((k0 - k0 / 64 * 64).toNatClampNeg)) else (x2 = (g1 27) ((k0 - k0 / 64 * 64).toNatClampNeg)))) → W p l e xk_r2 s m args below meth c H locs 0 0 Q (F0 m 94 ls [.int x2]) := by
        intro x2 R2
        exact hret _ g1 H locs 94 ls hP hS rfl (by unfold relzM_event_ok; exact ⟨x1, R1, ⟨r1, g1, hg1, (Eq.mpr (if_neg h3) ⟨x2, R2, ⟨rfl, rfl⟩⟩)⟩⟩) dzM_event_94
      refine lv_if_ne (pc := 53) (tgt := 68) hx hb dzM_event_53 (by decide) (fun h4 => ?_) (fun h4 => ?_)
      ·
        refine lv_iload_n (pc := 68) hx hb dzM_event_68 rfl (lv_at hl 2 rfl) ?_
        refine lv_iconst (v := 1) (pc := 69) hx hb dzM_event_69 (by decide) ?_
        refine lv_icmp_ne (pc := 70) (tgt := 85) hx hb dzM_event_70 (by decide) (fun h5 => ?_) (fun h5 => ?_)
        ·
          refine lv_aload_n (pc := 85) hx hb dzM_event_85 rfl (lv_at hl 0 rfl) ?_
          refine xk_get (pc := 86) hx hb hts hown hK hP ffzM_89 0 rfl rfl dzM_event_86 ?_
          refine lv_iload_n (pc := 89) hx hb dzM_event_89 rfl (lv_at hl 1 rfl) ?_
          refine lv_bipush (v := 64) (pc := 90) hx hb dzM_event_90 (by decide) ?_
          refine lv_irem (pc := 92) hx hb dzM_event_92 (by decide) ?_
          refine xk_iald (q0 := 27) (t0 := 0) (j := (k0 - k0 / 64 * 64).toNatClampNeg) (pc := 93) hx hb hK hP rfl rfl (xk_rem64 (xk_nn h01)) rfl dzM_event_93 ?_
          exact K2 ((g1 27) ((k0 - k0 / 64 * 64).toNatClampNeg)) (Eq.mpr (if_neg h4) (Eq.mpr (if_neg h5) rfl))
        ·
          refine lv_aload_n (pc := 73) hx hb dzM_event_73 rfl (lv_at hl 0 rfl) ?_
          refine xk_get (pc := 74) hx hb hts hown hK hP ffzM_86 0 rfl rfl dzM_event_74 ?_
          refine lv_iload_n (pc := 77) hx hb dzM_event_77 rfl (lv_at hl 1 rfl) ?_
          refine lv_bipush (v := 64) (pc := 78) hx hb dzM_event_78 (by decide) ?_
          refine lv_irem (pc := 80) hx hb dzM_event_80 (by decide) ?_
          refine xk_iald (q0 := 26) (t0 := 0) (j := (k0 - k0 / 64 * 64).toNatClampNeg) (pc := 81) hx hb hK hP rfl rfl (xk_rem64 (xk_nn h01)) rfl dzM_event_81 ?_
          refine lv_goto (tgt := 94) (pc := 82) hx hb dzM_event_82 (by decide) ?_
          exact K2 ((g1 26) ((k0 - k0 / 64 * 64).toNatClampNeg)) (Eq.mpr (if_neg h4) (Eq.mpr (if_pos h5) rfl))
      ·
        refine lv_aload_n (pc := 56) hx hb dzM_event_56 rfl (lv_at hl 0 rfl) ?_
        refine xk_get (pc := 57) hx hb hts hown hK hP ffzM_83 0 rfl rfl dzM_event_57 ?_
        refine lv_iload_n (pc := 60) hx hb dzM_event_60 rfl (lv_at hl 1 rfl) ?_
        refine lv_bipush (v := 64) (pc := 61) hx hb dzM_event_61 (by decide) ?_
        refine lv_irem (pc := 63) hx hb dzM_event_63 (by decide) ?_
        refine xk_iald (q0 := 25) (t0 := 0) (j := (k0 - k0 / 64 * 64).toNatClampNeg) (pc := 64) hx hb hK hP rfl rfl (xk_rem64 (xk_nn h01)) rfl dzM_event_64 ?_
        refine lv_goto (tgt := 94) (pc := 65) hx hb dzM_event_65 (by decide) ?_
        exact K2 ((g1 25) ((k0 - k0 / 64 * 64).toNatClampNeg)) (Eq.mpr (if_pos h4) rfl)
    ·
      refine lv_iconst (v := 0) (pc := 50) hx hb dzM_event_50 (by decide) ?_
      exact hret _ g1 H locs 51 ls hP hS rfl (by unfold relzM_event_ok; exact ⟨x1, R1, ⟨r1, g1, hg1, (Eq.mpr (if_pos h3) ⟨rfl, rfl⟩)⟩⟩) dzM_event_51
  refine lv_if_lt (pc := 30) (tgt := 42) hx hb dzM_event_30 (by decide) (fun h1 => ?_) (fun h1 => ?_)
  ·
    refine lv_iconst (v := 0) (pc := 42) hx hb dzM_event_42 (by decide) ?_
    exact K1 0 (Eq.mpr (if_pos h1) rfl) xk_b0
  ·
    refine lv_iload_n (pc := 33) hx hb dzM_event_33 rfl (lv_at hl 2 rfl) ?_
    refine lv_iconst (v := 2) (pc := 34) hx hb dzM_event_34 (by decide) ?_
    refine lv_icmp_gt (pc := 35) (tgt := 42) hx hb dzM_event_35 (by decide) (fun h2 => ?_) (fun h2 => ?_)
    ·
      refine lv_iconst (v := 0) (pc := 42) hx hb dzM_event_42 (by decide) ?_
      exact K1 0 (Eq.mpr (if_neg h1) (Eq.mpr (if_pos h2) rfl)) xk_b0
    ·
      refine lv_iconst (v := 1) (pc := 38) hx hb dzM_event_38 (by decide) ?_
      refine lv_goto (tgt := 43) (pc := 39) hx hb dzM_event_39 (by decide) ?_
      exact K1 1 (Eq.mpr (if_neg h1) (Eq.mpr (if_neg h2) rfl)) xk_b1
theorem frzM_event_ok (g0 : xk_St) (k0 : Int32) (k1 : Int32) (rz : Int32) (gz : xk_St) : relzM_event_ok g0 k0 k1 rz gz → xk_eqv [1, 2, 3, 4, 5, 6, 7, 8, 9, 10, 11, 12, 13, 14, 15, 16, 17, 18, 19, 20, 21, 22, 23, 24, 25, 26, 27] g0 gz := by
  intro h
  unfold relzM_event_ok at h
  have s0 : xk_eqv [1, 2, 3, 4, 5, 6, 7, 8, 9, 10, 11, 12, 13, 14, 15, 16, 17, 18, 19, 20, 21, 22, 23, 24, 25, 26, 27] g0 g0 := xk_eqv_rf
  obtain ⟨x1, u1, v2⟩ := h
  obtain ⟨r1, g1, u3, v4⟩ := v2
  have s5 : xk_eqv [1, 2, 3, 4, 5, 6, 7, 8, 9, 10, 11, 12, 13, 14, 15, 16, 17, 18, 19, 20, 21, 22, 23, 24, 25, 26, 27] g0 g1 := xk_eqv_tr s0 (xk_eqv_sub (frzM_goes _ _ _ _ _ _ u3) (by decide))
  by_cases hc : r1 = 0
  · rw [if_pos hc] at v4
    rw [v4.2]; exact s5
  · rw [if_neg hc] at v4
    obtain ⟨x2, u6, v7⟩ := v4
    rw [v7.2]; exact s5
theorem iczM_event_ok (B : Nat) (g0 : xk_St) (k0 : Int32) (k1 : Int32) (rz : Int32) (gz : xk_St) : relzM_event_ok g0 k0 k1 rz gz → xk_cnt B g0 → xk_cnt (B + 0) gz := by
  intro h Ig0
  unfold relzM_event_ok at h
  have Ig0 : xk_cnt (B + 0) g0 := Ig0
  obtain ⟨x1, u1, v2⟩ := h
  obtain ⟨r1, g1, u3, v4⟩ := v2
  have Ig1 : xk_cnt (B + 0) g1 := xk_cnt_le (iczM_goes (B + 0) _ _ _ _ _ _ u3 Ig0) (by omega)
  by_cases hc : r1 = 0
  · rw [if_pos hc] at v4
    rw [v4.2]; exact xk_cnt_le Ig1 (by omega)
  · rw [if_neg hc] at v4
    obtain ⟨x2, u5, v6⟩ := v4
    rw [v6.2]; exact xk_cnt_le Ig1 (by omega)

