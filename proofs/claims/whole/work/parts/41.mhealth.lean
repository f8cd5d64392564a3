def relzM_health_bad (g0 : xk_St) (rz : Int32) (gz : xk_St) : Prop := ∃ (r2 : Int32) (g1 : xk_St), relzM_goes_0 g0 r2 g1 ∧ (rz = 0 ∧ xk_b rz ∧ gz = g1)
set_option maxHeartbeats 4000000 in
set_option maxRecDepth 100000 in
theorem kzM_health_bad (l : Launch) (G : va_G) (ac : Nat → ClassId) (ad : Nat → Nat) (g0 : xk_St) (k0 : Int32) (k1 : Int32) (k2 : Int32) (B : Nat) (hq : qzM_isHead k0 k1 = 0) (hb2 : xk_b k2) (Ig0 : xk_cnt B g0) (hB : B + 1 < 2147483648) : xk_CI l yzM_health czM_health 7 .boolean xk_WS xk_r2 G xk_cls (xk_tys ac) [.ref (ad 0), .int k0, .int k1, .int k2] (xk_wM ad ac g0) (fun rz (gz : xk_St) => relzM_health_bad g0 rz gz) (fun gz => xk_wM ad ac gz) := by
  refine xk_ofI (by decide) (Nat.le_of_ble_eq_true rfl) ?_
  intro p e s m args below meth c A Q H locs ls C0 hret hP hD hS hl
  obtain ⟨hx, hb, hml, hts, hown, hK, hA⟩ := C0
  have hl : lv_has ls 7 [(0, .ref (ad 0)), (1, .int k0), (2, .int k1), (3, .int k2)] := hl
  have Ig0 : xk_cnt (B + 0) g0 := Ig0
  refine lv_aload_n (pc := 0) hx hb dzM_health_0 rfl (lv_at hl 0 rfl) ?_
  refine lv_iload_n (pc := 1) hx hb dzM_health_1 rfl (lv_at hl 1 rfl) ?_
  refine lv_iload_n (pc := 2) hx hb dzM_health_2 rfl (lv_at hl 2 rfl) ?_
  refine xk_callSI (As := [.int k0, .int k1]) (rest := [.ref (ad 0)]) (H0 := s.heap) (pc := 3) hx hb hml hts hown hK hA hP hD hS (kzM_isHead l G ac k0 k1) sfzM_110 [] (by decide) rfl (fun _ => rfl) ⟨rfl, rfl⟩ ⟨Nat.le_of_ble_eq_true rfl, Nat.le_of_ble_eq_true rfl⟩ rfl hl.1 rfl (Nat.le_of_ble_eq_true rfl) ⟨Nat.zero_le _, Nat.zero_le _⟩ dzM_health_3 (fun r1 u9 H locs e9 hP hD hS => ?_)
  obtain rfl : r1 = qzM_isHead k0 k1 := e9
  refine xk_is (y := 0) hq ?_
  have hP : va_P G xk_cls (xk_wM ad ac g0) H := hP
  have hD : va_D A (xk_wM ad ac g0) := hD
  refine lv_iconst (v := 1) (pc := 6) hx hb dzM_health_6 (by decide) ?_
  refine lv_iconst (v := 1) (pc := 7) hx hb dzM_health_7 (by decide) ?_
  refine xk_allVI (As := [.int 0, .int 1, .int 1]) (rest := []) (H0 := s.heap) (pc := 8) hx hb hml hts hown hK hA hP hD hS (kzM_goes_0 l G ac ad g0 1 1 (B + 0) Ig0 (by omega)) vfzM_114 (fun _ => rfl) 0 rfl rfl ⟨rfl, rfl⟩ ⟨Nat.le_of_ble_eq_true rfl, Nat.le_of_ble_eq_true rfl⟩ rfl hl.1 rfl (Nat.le_of_ble_eq_true rfl) ⟨Nat.zero_le _, Nat.zero_le _⟩ dzM_health_8 (fun r2 g1 H locs hg1 hP hD hS => ?_)
  have qr2 : r2 = 0 := rczM_goes_0 _ _ _ hg1
  refine xk_is (y := 0) qr2 ?_
  have hP : va_P G xk_cls (xk_wM ad ac g1) H := hP
  have hD : va_D A (xk_wM ad ac g1) := hD
  have Ig1 : xk_cnt (B + 0) g1 := xk_cnt_le (iczM_goes_0 (B + 0) _ _ _ hg1 Ig0) (by omega)
  refine lv_if_ne (pc := 11) (tgt := 16) hx hb dzM_health_11 (by decide) (fun hq9 => absurd (by decide) hq9) (fun _ => ?_)
  refine lv_iconst (v := 0) (pc := 14) hx hb dzM_health_14 (by decide) ?_
  exact hret _ g1 H locs 15 ls hP hS (xk_bn xk_b0) (by unfold relzM_health_bad; exact ⟨r2, g1, hg1, ⟨rfl, xk_b0, rfl⟩⟩) dzM_health_15
theorem frzM_health_bad (g0 : xk_St) (rz : Int32) (gz : xk_St) : relzM_health_bad g0 rz gz → xk_eqv [1, 2, 3, 4, 5, 6, 7, 8, 9, 10, 11, 12, 13, 14, 15, 16, 17, 18, 19, 20, 21, 22, 23, 24, 25, 26, 27] g0 gz := by
  intro h
  unfold relzM_health_bad at h
  have s0 : xk_eqv [1, 2, 3, 4, 5, 6, 7, 8, 9, 10, 11, 12, 13, 14, 15, 16, 17, 18, 19, 20, 21, 22, 23, 24, 25, 26, 27] g0 g0 := xk_eqv_rf
  obtain ⟨r2, g1, u1, v2⟩ := h
  have s3 : xk_eqv [1, 2, 3, 4, 5, 6, 7, 8, 9, 10, 11, 12, 13, 14, 15, 16, 17, 18, 19, 20, 21, 22, 23, 24, 25, 26, 27] g0 g1 := xk_eqv_tr s0 (xk_eqv_sub (frzM_goes_0 _ _ _ u1) (by decide))
  rw [v2.2.2]; exact s3
theorem iczM_health_bad (B : Nat) (g0 : xk_St) (rz : Int32) (gz : xk_St) : relzM_health_bad g0 rz gz → xk_cnt B g0 → xk_cnt (B + 0) gz := by
  intro h Ig0
  unfold relzM_health_bad at h
  have Ig0 : xk_cnt (B + 0) g0 := Ig0
  obtain ⟨r2, g1, u1, v2⟩ := h
  have Ig1 : xk_cnt (B + 0) g1 := xk_cnt_le (iczM_goes_0 (B + 0) _ _ _ u1 Ig0) (by omega)
  rw [v2.2.2]; exact xk_cnt_le Ig1 (by omega)
theorem rczM_health_bad (g0 : xk_St) (rz : Int32) (gz : xk_St) : relzM_health_bad g0 rz gz → rz = 0 := by
  intro h
  unfold relzM_health_bad at h
  obtain ⟨_, _, _, v1⟩ := h
  exact v1.1

def relzM_health_0_0 (g0 : xk_St) (k2 : Int32) (rz : Int32) (gz : xk_St) : Prop := ∃ (r2 : Int32) (g1 : xk_St), relzM_goes_111 g0 r2 g1 ∧ (∃ (x1 : Int32), (if ((g1 2) 0) = k2 then (x1 = 1) else (x1 = 0)) ∧ (∃ (x2 : Int32), (if k2 = 0 then (x2 = 1) else (x2 = 0)) ∧ (∃ (g2 : xk_St), g2 = va_up g1 2 (upd (g1 2) 0 x2) ∧ (∃ (g4 : xk_St), (if k2 = 0 then (∃ (g3 : xk_St), relzM_disturb_0 g2 g3 ∧ (g4 = g3)) else (g4 = g2)) ∧ (rz = x1 ∧ xk_b rz ∧ gz = g4)))))
set_option maxHeartbeats 4000000 in
set_option maxRecDepth 100000 in
theorem kzM_health_0_0 (l : Launch) (G : va_G) (ac : Nat → ClassId) (ad : Nat → Nat) (g0 : xk_St) (k2 : Int32) (B : Nat) (hb2 : xk_b k2) (Ig0 : xk_cnt B g0) (hB : B + 2 < 2147483648) : xk_CI l yzM_health czM_health 7 .boolean xk_WS xk_r2 G xk_cls (xk_tys ac) [.ref (ad 0), .int 0, .int 0, .int k2] (xk_wM ad ac g0) (fun rz (gz : xk_St) => relzM_health_0_0 g0 k2 rz gz) (fun gz => xk_wM ad ac gz) := by
  refine xk_ofI (by decide) (Nat.le_of_ble_eq_true rfl) ?_
  intro p e s m args below meth c A Q H locs ls C0 hret hP hD hS hl
  obtain ⟨hx, hb, hml, hts, hown, hK, hA⟩ := C0
  have hl : lv_has ls 7 [(0, .ref (ad 0)), (1, .int 0), (2, .int 0), (3, .int k2)] := hl
  have Ig0 : xk_cnt (B + 0) g0 := Ig0
  refine lv_aload_n (pc := 0) hx hb dzM_health_0 rfl (lv_at hl 0 rfl) ?_
  refine lv_iload_n (pc := 1) hx hb dzM_health_1 rfl (lv_at hl 1 rfl) ?_
  refine lv_iload_n (pc := 2) hx hb dzM_health_2 rfl (lv_at hl 2 rfl) ?_
  refine xk_callSI (As := [.int 0, .int 0]) (rest := [.ref (ad 0)]) (H0 := s.heap) (pc := 3) hx hb hml hts hown hK hA hP hD hS (kzM_isHead l G ac 0 0) sfzM_110 [] (by decide) rfl (fun _ => rfl) ⟨rfl, rfl⟩ ⟨Nat.le_of_ble_eq_true rfl, Nat.le_of_ble_eq_true rfl⟩ rfl hl.1 rfl (Nat.le_of_ble_eq_true rfl) ⟨Nat.zero_le _, Nat.zero_le _⟩ dzM_health_3 (fun r1 u9 H locs e9 hP hD hS => ?_)
  obtain rfl : r1 = qzM_isHead 0 0 := e9
  refine xk_is (y := 1) (by decide) ?_
  have hP : va_P G xk_cls (xk_wM ad ac g0) H := hP
  have hD : va_D A (xk_wM ad ac g0) := hD
  refine lv_iconst (v := 1) (pc := 6) hx hb dzM_health_6 (by decide) ?_
  refine lv_iconst (v := 1) (pc := 7) hx hb dzM_health_7 (by decide) ?_
  refine xk_allVI (As := [.int 1, .int 1, .int 1]) (rest := []) (H0 := s.heap) (pc := 8) hx hb hml hts hown hK hA hP hD hS (kzM_goes_111 l G ac ad g0 (B + 0) Ig0 (by omega)) vfzM_114 (fun _ => rfl) 0 rfl rfl ⟨rfl, rfl⟩ ⟨Nat.le_of_ble_eq_true rfl, Nat.le_of_ble_eq_true rfl⟩ rfl hl.1 rfl (Nat.le_of_ble_eq_true rfl) ⟨Nat.zero_le _, Nat.zero_le _⟩ dzM_health_8 (fun r2 g1 H locs hg1 hP hD hS => ?_)
  have qr2 : r2 = 1 := rczM_goes_111 _ _ _ hg1
  refine xk_is (y := 1) qr2 ?_
  have hP : va_P G xk_cls (xk_wM ad ac g1) H := hP
  have hD : va_D A (xk_wM ad ac g1) := hD
  have Ig1 : xk_cnt (B + 0) g1 := xk_cnt_le (iczM_goes_111 (B + 0) _ _ _ hg1 Ig0) (by omega)
  refine lv_if_ne (pc := 11) (tgt := 16) hx hb dzM_health_11 (by decide) (fun _ => ?_) (fun hq9 => absurd hq9 (by decide))
  refine lv_iconst (v := 4) (pc := 16) hx hb dzM_health_16 (by decide) ?_
  refine lv_iload_n (pc := 17) hx hb dzM_health_17 rfl (lv_at hl 1 rfl) ?_
  refine lv_imul (pc := 18) hx hb dzM_health_18 ?_
  refine xk_is (y := 0) (by decide) ?_
  refine lv_iload_n (pc := 19) hx hb dzM_health_19 rfl (lv_at hl 2 rfl) ?_
  refine lv_iadd (pc := 20) hx hb dzM_health_20 ?_
  refine xk_is (y := 0) (by decide) ?_
  refine lv_istore (lv' := [(4, .int 0), (0, .ref (ad 0)), (1, .int 0), (2, .int 0), (3, .int k2)]) (pc := 21) hx hb dzM_health_21 hl (by decide) rfl (fun ls hl => ?_)
  refine lv_aload_n (pc := 23) hx hb dzM_health_23 rfl (lv_at hl 1 rfl) ?_
  refine xk_get (pc := 24) hx hb hts hown hK hP ffzM_13 0 rfl rfl dzM_health_24 ?_
  refine lv_iload (pc := 27) hx hb dzM_health_27 (lv_at hl 0 rfl) ?_
  refine xk_zald (q0 := 2) (t0 := 1) (j := 0) (pc := 29) hx hb hK hP rfl rfl (pk_in 0 8 (by decide)) (pk_cl 0) dzM_health_29 ?_
  refine lv_iload_n (pc := 30) hx hb dzM_health_30 rfl (lv_at hl 4 rfl) ?_
  have K1 : ∀ (x1 : Int32), (if ((g1 2) 0) = k2 then (x1 = 1) else (x1 = 0)) → (xk_b x1) → W p l e xk_r2 s m args below meth c H locs 0 0 Q (F0 m 39 ls [.int x1]) := by
    intro x1 R1 bx1
    refine lv_istore (lv' := [(5, .int x1), (4, .int 0), (0, .ref (ad 0)), (1, .int 0), (2, .int 0), (3, .int k2)]) (pc := 39) hx hb dzM_health_39 hl (by decide) rfl (fun ls hl => ?_)
    refine lv_aload_n (pc := 41) hx hb dzM_health_41 rfl (lv_at hl 2 rfl) ?_
    refine xk_get (pc := 42) hx hb hts hown hK hP ffzM_13 0 rfl rfl dzM_health_42 ?_
    refine lv_iload (pc := 45) hx hb dzM_health_45 (lv_at hl 1 rfl) ?_
    refine lv_iload_n (pc := 47) hx hb dzM_health_47 rfl (lv_at hl 5 rfl) ?_
    have K2 : ∀ (x2 : Int32), (if k2 = 0 then (x2 = 1) else (x2 = 0)) → (xk_b x2) → W p l e xk_r2 s m args below meth c H locs 0 0 Q (F0 m 56 ls [.int x2, .int 0, .ref (ad 2)]) := by
      intro x2 R2 bx2
      refine xk_zast (q0 := 2) (t0 := 1) (j := 0) (pc := 56) hx hb hK hP hD hS rfl rfl (pk_in 0 8 (by decide)) (pk_cl 0) bx2 dzM_health_56 (fun H locs hP hD hS => ?_)
      obtain ⟨g2, eg2⟩ : ∃ z : xk_St, z = va_up g1 2 (upd (g1 2) 0 x2) := ⟨_, rfl⟩
      have hP : va_P G xk_cls (xk_wM ad ac g2) H := by rw [eg2]; exact hP
      have hD : va_D A (xk_wM ad ac g2) := by rw [eg2]; exact hD
      have Ig2 : xk_cnt (B + 0) g2 := by rw [eg2]; repeat (first | exact Ig1 | refine xk_cnt_k (by decide) ?_ | refine xk_cnt_f (by decide) ?_ | refine xk_cnt_s ?_)
      refine lv_iload_n (pc := 57) hx hb dzM_health_57 rfl (lv_at hl 4 rfl) ?_
      refine lv_iconst (v := 1) (pc := 58) hx hb dzM_health_58 (by decide) ?_
      refine lv_isub (pc := 59) hx hb dzM_health_59 ?_
      refine xk_is (y := (-1)) (by decide) ?_
      refine lv_istore (lv' := [(6, .int (-1)), (5, .int x1), (4, .int 0), (0, .ref (ad 0)), (1, .int 0), (2, .int 0), (3, .int k2)]) (pc := 60) hx hb dzM_health_60 hl (by decide) rfl (fun ls hl => ?_)
      refine lv_iload (pc := 62) hx hb dzM_health_62 (lv_at hl 0 rfl) ?_
      refine lv_iload_n (pc := 64) hx hb dzM_health_64 rfl (lv_at hl 5 rfl) ?_
      refine lv_icmp_gt (pc := 65) (tgt := 99) hx hb dzM_health_65 (by decide) (fun hq9 => absurd hq9 (by decide)) (fun _ => ?_)
      refine lv_iload_n (pc := 68) hx hb dzM_health_68 rfl (lv_at hl 6 rfl) ?_
      have K3 : W p l e xk_r2 s m args below meth c H locs 0 0 Q (F0 m 93 ls []) := by
        refine lv_iinc (k := 0) (x := (-1)) (v := 0) (lv' := [(6, .int 0), (5, .int x1), (4, .int 0), (0, .ref (ad 0)), (1, .int 0), (2, .int 0), (3, .int k2)]) (pc := 93) hx hb dzM_health_93 hl rfl (by decide) (by decide) rfl (fun ls hl => ?_)
        refine lv_goto (tgt := 62) (pc := 96) hx hb dzM_health_96 (by decide) ?_
        refine lv_iload (pc := 62) hx hb dzM_health_62 (lv_at hl 0 rfl) ?_
        refine lv_iload_n (pc := 64) hx hb dzM_health_64 rfl (lv_at hl 5 rfl) ?_
        refine lv_icmp_gt (pc := 65) (tgt := 99) hx hb dzM_health_65 (by decide) (fun hq9 => absurd hq9 (by decide)) (fun _ => ?_)
        refine lv_iload_n (pc := 68) hx hb dzM_health_68 rfl (lv_at hl 6 rfl) ?_
        have K4 : ∀ (g4 : xk_St) (H : Heap) (locs : List Loc), (if k2 = 0 then (∃ (g3 : xk_St), relzM_disturb_0 g2 g3 ∧ (g4 = g3)) else (g4 = g2)) → (xk_cnt (B + 1) g4) → (va_P G xk_cls (xk_wM ad ac g4) H) → (va_D A (xk_wM ad ac g4)) → (va_S A s.heap H locs) → W p l e xk_r2 s m args below meth c H locs 0 0 Q (F0 m 93 ls []) := by
          intro g4 H locs R3 Ig4 hP hD hS
          refine lv_iinc (k := 0) (x := 0) (v := 1) (lv' := [(6, .int 1), (5, .int x1), (4, .int 0), (0, .ref (ad 0)), (1, .int 0), (2, .int 0), (3, .int k2)]) (pc := 93) hx hb dzM_health_93 hl rfl (by decide) (by decide) rfl (fun ls hl => ?_)
          refine lv_goto (tgt := 62) (pc := 96) hx hb dzM_health_96 (by decide) ?_
          refine lv_iload (pc := 62) hx hb dzM_health_62 (lv_at hl 0 rfl) ?_
          refine lv_iload_n (pc := 64) hx hb dzM_health_64 rfl (lv_at hl 5 rfl) ?_
          refine lv_icmp_gt (pc := 65) (tgt := 99) hx hb dzM_health_65 (by decide) (fun _ => ?_) (fun hq9 => absurd (by decide) hq9)
          refine lv_iload (pc := 99) hx hb dzM_health_99 (lv_at hl 1 rfl) ?_
          exact hret _ g4 H locs 101 ls hP hS (xk_bn bx1) (by unfold relzM_health_0_0; exact ⟨r2, g1, hg1, ⟨x1, R1, ⟨x2, R2, ⟨g2, eg2, ⟨g4, R3, ⟨rfl, bx1, rfl⟩⟩⟩⟩⟩⟩) dzM_health_101
        refine lv_if_ne (pc := 69) (tgt := 93) hx hb dzM_health_69 (by decide) (fun h4 => ?_) (fun h4 => ?_)
        ·
          exact K4 g2 H locs (Eq.mpr (if_neg h4) rfl) (xk_cnt_le Ig2 (by omega)) hP hD hS
        ·
          refine lv_iload (pc := 72) hx hb dzM_health_72 (lv_at hl 0 rfl) ?_
          refine lv_if_lt (pc := 74) (tgt := 93) hx hb dzM_health_74 (by decide) (fun hq9 => absurd hq9 (by decide)) (fun _ => ?_)
          refine lv_iload (pc := 77) hx hb dzM_health_77 (lv_at hl 0 rfl) ?_
          refine lv_iconst (v := 3) (pc := 79) hx hb dzM_health_79 (by decide) ?_
          refine lv_icmp_ge (pc := 80) (tgt := 93) hx hb dzM_health_80 (by decide) (fun hq9 => absurd hq9 (by decide)) (fun _ => ?_)
          refine lv_aload_n (pc := 83) hx hb dzM_health_83 rfl (lv_at hl 3 rfl) ?_
          refine lv_iconst (v := 3) (pc := 84) hx hb dzM_health_84 (by decide) ?_
          refine lv_iload_n (pc := 85) hx hb dzM_health_85 rfl (lv_at hl 4 rfl) ?_
          refine lv_imul (pc := 86) hx hb dzM_health_86 ?_
          refine xk_is (y := 0) (by decide) ?_
          refine lv_iload (pc := 87) hx hb dzM_health_87 (lv_at hl 0 rfl) ?_
          refine lv_iadd (pc := 89) hx hb dzM_health_89 ?_
          refine xk_is (y := 0) (by decide) ?_
          refine xk_allVV (As := [.int 0]) (rest := []) (H0 := s.heap) (pc := 90) hx hb hml hts hown hK hA hP hD hS (kzM_disturb_0 l G ac ad g2 (B + 0) Ig2 (by omega)) vfzM_118 (fun _ => rfl) 0 rfl rfl ⟨rfl, rfl⟩ ⟨Nat.le_of_ble_eq_true rfl, Nat.le_of_ble_eq_true rfl⟩ rfl hl.1 rfl (Nat.le_of_ble_eq_true rfl) ⟨Nat.zero_le _, Nat.zero_le _⟩ dzM_health_90 (fun g3 H locs hg3 hP hD hS => ?_)
          have hP : va_P G xk_cls (xk_wM ad ac g3) H := hP
          have hD : va_D A (xk_wM ad ac g3) := hD
          have Ig3 : xk_cnt (B + 1) g3 := xk_cnt_le (iczM_disturb_0 (B + 0) _ _ hg3 Ig2) (by omega)
          exact K4 g3 H locs (Eq.mpr (if_pos h4) ⟨g3, hg3, rfl⟩) (xk_cnt_le Ig3 (by omega)) hP hD hS
      refine lv_if_ne (pc := 69) (tgt := 93) hx hb dzM_health_69 (by decide) (fun h3 => ?_) (fun h3 => ?_)
      ·
        exact K3
      ·
        refine lv_iload (pc := 72) hx hb dzM_health_72 (lv_at hl 0 rfl) ?_
        refine lv_if_lt (pc := 74) (tgt := 93) hx hb dzM_health_74 (by decide) (fun _ => ?_) (fun hq9 => absurd (by decide) hq9)
        exact K3
    refine lv_if_ne (pc := 48) (tgt := 55) hx hb dzM_health_48 (by decide) (fun h2 => ?_) (fun h2 => ?_)
    ·
      refine lv_iconst (v := 0) (pc := 55) hx hb dzM_health_55 (by decide) ?_
      exact K2 0 (Eq.mpr (if_neg h2) rfl) xk_b0
    ·
      refine lv_iconst (v := 1) (pc := 51) hx hb dzM_health_51 (by decide) ?_
      refine lv_goto (tgt := 56) (pc := 52) hx hb dzM_health_52 (by decide) ?_
      exact K2 1 (Eq.mpr (if_pos h2) rfl) xk_b1
  refine lv_icmp_ne (pc := 31) (tgt := 38) hx hb dzM_health_31 (by decide) (fun h1 => ?_) (fun h1 => ?_)
  ·
    refine lv_iconst (v := 0) (pc := 38) hx hb dzM_health_38 (by decide) ?_
    exact K1 0 (Eq.mpr (if_neg h1) rfl) xk_b0
  ·
    refine lv_iconst (v := 1) (pc := 34) hx hb dzM_health_34 (by decide) ?_
    refine lv_goto (tgt := 39) (pc := 35) hx hb dzM_health_35 (by decide) ?_
    exact K1 1 (Eq.mpr (if_pos h1) rfl) xk_b1
theorem frzM_health_0_0 (g0 : xk_St) (k2 : Int32) (rz : Int32) (gz : xk_St) : relzM_health_0_0 g0 k2 rz gz → xk_eqv [1, 3, 4, 6, 7, 8, 9, 10, 11, 12, 13, 14, 15, 16, 17, 18, 19, 20, 21, 22, 23, 24] g0 gz := by
  intro h
  unfold relzM_health_0_0 at h
  have s0 : xk_eqv [1, 3, 4, 6, 7, 8, 9, 10, 11, 12, 13, 14, 15, 16, 17, 18, 19, 20, 21, 22, 23, 24] g0 g0 := xk_eqv_rf
  obtain ⟨r2, g1, u1, v2⟩ := h
  have s3 : xk_eqv [1, 3, 4, 6, 7, 8, 9, 10, 11, 12, 13, 14, 15, 16, 17, 18, 19, 20, 21, 22, 23, 24] g0 g1 := xk_eqv_tr s0 (xk_eqv_sub (frzM_goes_111 _ _ _ u1) (by decide))
  obtain ⟨x1, u4, v5⟩ := v2
  obtain ⟨x2, u6, v7⟩ := v5
  obtain ⟨g2, u8, v9⟩ := v7
  have s10 : xk_eqv [1, 3, 4, 6, 7, 8, 9, 10, 11, 12, 13, 14, 15, 16, 17, 18, 19, 20, 21, 22, 23, 24] g0 g2 := by rw [u8]; repeat (first | exact s3 | refine xk_eqv_up (by decide) ?_)
  obtain ⟨g4, u11, v12⟩ := v9
  have s13 : xk_eqv [1, 3, 4, 6, 7, 8, 9, 10, 11, 12, 13, 14, 15, 16, 17, 18, 19, 20, 21, 22, 23, 24] g0 g4 := by
    by_cases hc : k2 = 0
    · rw [if_pos hc] at u11
      obtain ⟨g3, u14, v15⟩ := u11
      have s16 : xk_eqv [1, 3, 4, 6, 7, 8, 9, 10, 11, 12, 13, 14, 15, 16, 17, 18, 19, 20, 21, 22, 23, 24] g0 g3 := xk_eqv_tr s10 (xk_eqv_sub (frzM_disturb_0 _ _ u14) (by decide))
      rw [v15]; exact s16
    · rw [if_neg hc] at u11
      rw [u11]; exact s10
  rw [v12.2.2]; exact s13
theorem iczM_health_0_0 (B : Nat) (g0 : xk_St) (k2 : Int32) (rz : Int32) (gz : xk_St) : relzM_health_0_0 g0 k2 rz gz → xk_cnt B g0 → xk_cnt (B + 1) gz := by
  intro h Ig0
  unfold relzM_health_0_0 at h
  have Ig0 : xk_cnt (B + 0) g0 := Ig0
  obtain ⟨r2, g1, u1, v2⟩ := h
  have Ig1 : xk_cnt (B + 0) g1 := xk_cnt_le (iczM_goes_111 (B + 0) _ _ _ u1 Ig0) (by omega)
  obtain ⟨x1, u3, v4⟩ := v2
  obtain ⟨x2, u5, v6⟩ := v4
  obtain ⟨g2, u7, v8⟩ := v6
  have Ig2 : xk_cnt (B + 0) g2 := by rw [u7]; repeat (first | exact Ig1 | refine xk_cnt_k (by decide) ?_ | refine xk_cnt_f (by decide) ?_ | refine xk_cnt_s ?_)
  obtain ⟨g4, u9, v10⟩ := v8
  have Ig4 : xk_cnt (B + 1) g4 := by
    by_cases hc : k2 = 0
    · rw [if_pos hc] at u9
      obtain ⟨g3, u11, v12⟩ := u9
      have Ig3 : xk_cnt (B + 1) g3 := xk_cnt_le (iczM_disturb_0 (B + 0) _ _ u11 Ig2) (by omega)
      rw [v12]; exact xk_cnt_le Ig3 (by omega)
    · rw [if_neg hc] at u9
      rw [u9]; exact xk_cnt_le Ig2 (by omega)
  rw [v10.2.2]; exact xk_cnt_le Ig4 (by omega)

def relzM_health_0_1 (g0 : xk_St) (k2 : Int32) (rz : Int32) (gz : xk_St) : Prop := ∃ (r2 : Int32) (g1 : xk_St), relzM_goes_111 g0 r2 g1 ∧ (∃ (x1 : Int32), (if ((g1 2) 1) = k2 then (x1 = 1) else (x1 = 0)) ∧ (∃ (x2 : Int32), (if k2 = 0 then (x2 = 1) else (x2 = 0)) ∧ (∃ (g2 : xk_St), g2 = va_up g1 2 (upd (g1 2) 1 x2) ∧ (∃ (g4 : xk_St), (if k2 = 0 then (∃ (g3 : xk_St), relzM_disturb_0 g2 g3 ∧ (g4 = g3)) else (g4 = g2)) ∧ (∃ (g6 : xk_St), (if k2 = 0 then (∃ (g5 : xk_St), relzM_disturb_1 g4 g5 ∧ (g6 = g5)) else (g6 = g4)) ∧ (rz = x1 ∧ xk_b rz ∧ gz = g6))))))
set_option maxHeartbeats 4000000 in
set_option maxRecDepth 100000 in
theorem kzM_health_0_1 (l : Launch) (G : va_G) (ac : Nat → ClassId) (ad : Nat → Nat) (g0 : xk_St) (k2 : Int32) (B : Nat) (hb2 : xk_b k2) (Ig0 : xk_cnt B g0) (hB : B + 3 < 2147483648) : xk_CI l yzM_health czM_health 7 .boolean xk_WS xk_r2 G xk_cls (xk_tys ac) [.ref (ad 0), .int 0, .int 1, .int k2] (xk_wM ad ac g0) (fun rz (gz : xk_St) => relzM_health_0_1 g0 k2 rz gz) (fun gz => xk_wM ad ac gz) := by
  refine xk_ofI (by decide) (Nat.le_of_ble_eq_true rfl) ?_
  intro p e s m args below meth c A Q H locs ls C0 hret hP hD hS hl
  obtain ⟨hx, hb, hml, hts, hown, hK, hA⟩ := C0
  have hl : lv_has ls 7 [(0, .ref (ad 0)), (1, .int 0), (2, .int 1), (3, .int k2)] := hl
  have Ig0 : xk_cnt (B + 0) g0 := Ig0
  refine lv_aload_n (pc := 0) hx hb dzM_health_0 rfl (lv_at hl 0 rfl) ?_
  refine lv_iload_n (pc := 1) hx hb dzM_health_1 rfl (lv_at hl 1 rfl) ?_
  refine lv_iload_n (pc := 2) hx hb dzM_health_2 rfl (lv_at hl 2 rfl) ?_
  refine xk_callSI (As := [.int 0, .int 1]) (rest := [.ref (ad 0)]) (H0 := s.heap) (pc := 3) hx hb hml hts hown hK hA hP hD hS (kzM_isHead l G ac 0 1) sfzM_110 [] (by decide) rfl (fun _ => rfl) ⟨rfl, rfl⟩ ⟨Nat.le_of_ble_eq_true rfl, Nat.le_of_ble_eq_true rfl⟩ rfl hl.1 rfl (Nat.le_of_ble_eq_true rfl) ⟨Nat.zero_le _, Nat.zero_le _⟩ dzM_health_3 (fun r1 u9 H locs e9 hP hD hS => ?_)
  obtain rfl : r1 = qzM_isHead 0 1 := e9
  refine xk_is (y := 1) (by decide) ?_
  have hP : va_P G xk_cls (xk_wM ad ac g0) H := hP
  have hD : va_D A (xk_wM ad ac g0) := hD
  refine lv_iconst (v := 1) (pc := 6) hx hb dzM_health_6 (by decide) ?_
  refine lv_iconst (v := 1) (pc := 7) hx hb dzM_health_7 (by decide) ?_
  refine xk_allVI (As := [.int 1, .int 1, .int 1]) (rest := []) (H0 := s.heap) (pc := 8) hx hb hml hts hown hK hA hP hD hS (kzM_goes_111 l G ac ad g0 (B + 0) Ig0 (by omega)) vfzM_114 (fun _ => rfl) 0 rfl rfl ⟨rfl, rfl⟩ ⟨Nat.le_of_ble_eq_true rfl, Nat.le_of_ble_eq_true rfl⟩ rfl hl.1 rfl (Nat.le_of_ble_eq_true rfl) ⟨Nat.zero_le _, Nat.zero_le _⟩ dzM_health_8 (fun r2 g1 H locs hg1 hP hD hS => ?_)
  have qr2 : r2 = 1 := rczM_goes_111 _ _ _ hg1
  refine xk_is (y := 1) qr2 ?_
  have hP : va_P G xk_cls (xk_wM ad ac g1) H := hP
  have hD : va_D A (xk_wM ad ac g1) := hD
  have Ig1 : xk_cnt (B + 0) g1 := xk_cnt_le (iczM_goes_111 (B + 0) _ _ _ hg1 Ig0) (by omega)
  refine lv_if_ne (pc := 11) (tgt := 16) hx hb dzM_health_11 (by decide) (fun _ => ?_) (fun hq9 => absurd hq9 (by decide))
  refine lv_iconst (v := 4) (pc := 16) hx hb dzM_health_16 (by decide) ?_
  refine lv_iload_n (pc := 17) hx hb dzM_health_17 rfl (lv_at hl 1 rfl) ?_
  refine lv_imul (pc := 18) hx hb dzM_health_18 ?_
  refine xk_is (y := 0) (by decide) ?_
  refine lv_iload_n (pc := 19) hx hb dzM_health_19 rfl (lv_at hl 2 rfl) ?_
  refine lv_iadd (pc := 20) hx hb dzM_health_20 ?_
  refine xk_is (y := 1) (by decide) ?_
  refine lv_istore (lv' := [(4, .int 1), (0, .ref (ad 0)), (1, .int 0), (2, .int 1), (3, .int k2)]) (pc := 21) hx hb dzM_health_21 hl (by decide) rfl (fun ls hl => ?_)
  refine lv_aload_n (pc := 23) hx hb dzM_health_23 rfl (lv_at hl 1 rfl) ?_
  refine xk_get (pc := 24) hx hb hts hown hK hP ffzM_13 0 rfl rfl dzM_health_24 ?_
  refine lv_iload (pc := 27) hx hb dzM_health_27 (lv_at hl 0 rfl) ?_
  refine xk_zald (q0 := 2) (t0 := 1) (j := 1) (pc := 29) hx hb hK hP rfl rfl (pk_in 1 8 (by decide)) (pk_cl 1) dzM_health_29 ?_
  refine lv_iload_n (pc := 30) hx hb dzM_health_30 rfl (lv_at hl 4 rfl) ?_
  have K1 : ∀ (x1 : Int32), (if ((g1 2) 1) = k2 then (x1 = 1) else (x1 = 0)) → (xk_b x1) → W p l e xk_r2 s m args below meth c H locs 0 0 Q (F0 m 39 ls [.int x1]) := by
    intro x1 R1 bx1
    refine lv_istore (lv' := [(5, .int x1), (4, .int 1), (0, .ref (ad 0)), (1, .int 0), (2, .int 1), (3, .int k2)]) (pc := 39) hx hb dzM_health_39 hl (by decide) rfl (fun ls hl => ?_)
    refine lv_aload_n (pc := 41) hx hb dzM_health_41 rfl (lv_at hl 2 rfl) ?_
    refine xk_get (pc := 42) hx hb hts hown hK hP ffzM_13 0 rfl rfl dzM_health_42 ?_
    refine lv_iload (pc := 45) hx hb dzM_health_45 (lv_at hl 1 rfl) ?_
    refine lv_iload_n (pc := 47) hx hb dzM_health_47 rfl (lv_at hl 5 rfl) ?_
    have K2 : ∀ (x2 : Int32), (if k2 = 0 then (x2 = 1) else (x2 = 0)) → (xk_b x2) → W p l e xk_r2 s m args below meth c H locs 0 0 Q (F0 m 56 ls [.int x2, .int 1, .ref (ad 2)]) := by
      intro x2 R2 bx2
      refine xk_zast (q0 := 2) (t0 := 1) (j := 1) (pc := 56) hx hb hK hP hD hS rfl rfl (pk_in 1 8 (by decide)) (pk_cl 1) bx2 dzM_health_56 (fun H locs hP hD hS => ?_)
      obtain ⟨g2, eg2⟩ : ∃ z : xk_St, z = va_up g1 2 (upd (g1 2) 1 x2) := ⟨_, rfl⟩
      have hP : va_P G xk_cls (xk_wM ad ac g2) H := by rw [eg2]; exact hP
      have hD : va_D A (xk_wM ad ac g2) := by rw [eg2]; exact hD
      have Ig2 : xk_cnt (B + 0) g2 := by rw [eg2]; repeat (first | exact Ig1 | refine xk_cnt_k (by decide) ?_ | refine xk_cnt_f (by decide) ?_ | refine xk_cnt_s ?_)
      refine lv_iload_n (pc := 57) hx hb dzM_health_57 rfl (lv_at hl 4 rfl) ?_
      refine lv_iconst (v := 1) (pc := 58) hx hb dzM_health_58 (by decide) ?_
      refine lv_isub (pc := 59) hx hb dzM_health_59 ?_
      refine xk_is (y := 0) (by decide) ?_
      refine lv_istore (lv' := [(6, .int 0), (5, .int x1), (4, .int 1), (0, .ref (ad 0)), (1, .int 0), (2, .int 1), (3, .int k2)]) (pc := 60) hx hb dzM_health_60 hl (by decide) rfl (fun ls hl => ?_)
      refine lv_iload (pc := 62) hx hb dzM_health_62 (lv_at hl 0 rfl) ?_
      refine lv_iload_n (pc := 64) hx hb dzM_health_64 rfl (lv_at hl 5 rfl) ?_
      refine lv_icmp_gt (pc := 65) (tgt := 99) hx hb dzM_health_65 (by decide) (fun hq9 => absurd hq9 (by decide)) (fun _ => ?_)
      refine lv_iload_n (pc := 68) hx hb dzM_health_68 rfl (lv_at hl 6 rfl) ?_
      have K3 : ∀ (g4 : xk_St) (H : Heap) (locs : List Loc), (if k2 = 0 then (∃ (g3 : xk_St), relzM_disturb_0 g2 g3 ∧ (g4 = g3)) else (g4 = g2)) → (xk_cnt (B + 1) g4) → (va_P G xk_cls (xk_wM ad ac g4) H) → (va_D A (xk_wM ad ac g4)) → (va_S A s.heap H locs) → W p l e xk_r2 s m args below meth c H locs 0 0 Q (F0 m 93 ls []) := by
        intro g4 H locs R3 Ig4 hP hD hS
        refine lv_iinc (k := 0) (x := 0) (v := 1) (lv' := [(6, .int 1), (5, .int x1), (4, .int 1), (0, .ref (ad 0)), (1, .int 0), (2, .int 1), (3, .int k2)]) (pc := 93) hx hb dzM_health_93 hl rfl (by decide) (by decide) rfl (fun ls hl => ?_)
        refine lv_goto (tgt := 62) (pc := 96) hx hb dzM_health_96 (by decide) ?_
        refine lv_iload (pc := 62) hx hb dzM_health_62 (lv_at hl 0 rfl) ?_
        refine lv_iload_n (pc := 64) hx hb dzM_health_64 rfl (lv_at hl 5 rfl) ?_
        refine lv_icmp_gt (pc := 65) (tgt := 99) hx hb dzM_health_65 (by decide) (fun hq9 => absurd hq9 (by decide)) (fun _ => ?_)
        refine lv_iload_n (pc := 68) hx hb dzM_health_68 rfl (lv_at hl 6 rfl) ?_
        have K4 : ∀ (g6 : xk_St) (H : Heap) (locs : List Loc), (if k2 = 0 then (∃ (g5 : xk_St), relzM_disturb_1 g4 g5 ∧ (g6 = g5)) else (g6 = g4)) → (xk_cnt (B + 2) g6) → (va_P G xk_cls (xk_wM ad ac g6) H) → (va_D A (xk_wM ad ac g6)) → (va_S A s.heap H locs) → W p l e xk_r2 s m args below meth c H locs 0 0 Q (F0 m 93 ls []) := by
          intro g6 H locs R4 Ig6 hP hD hS
          refine lv_iinc (k := 0) (x := 1) (v := 2) (lv' := [(6, .int 2), (5, .int x1), (4, .int 1), (0, .ref (ad 0)), (1, .int 0), (2, .int 1), (3, .int k2)]) (pc := 93) hx hb dzM_health_93 hl rfl (by decide) (by decide) rfl (fun ls hl => ?_)
          refine lv_goto (tgt := 62) (pc := 96) hx hb dzM_health_96 (by decide) ?_
          refine lv_iload (pc := 62) hx hb dzM_health_62 (lv_at hl 0 rfl) ?_
          refine lv_iload_n (pc := 64) hx hb dzM_health_64 rfl (lv_at hl 5 rfl) ?_
          refine lv_icmp_gt (pc := 65) (tgt := 99) hx hb dzM_health_65 (by decide) (fun _ => ?_) (fun hq9 => absurd (by decide) hq9)
          refine lv_iload (pc := 99) hx hb dzM_health_99 (lv_at hl 1 rfl) ?_
          exact hret _ g6 H locs 101 ls hP hS (xk_bn bx1) (by unfold relzM_health_0_1; exact ⟨r2, g1, hg1, ⟨x1, R1, ⟨x2, R2, ⟨g2, eg2, ⟨g4, R3, ⟨g6, R4, ⟨rfl, bx1, rfl⟩⟩⟩⟩⟩⟩⟩) dzM_health_101
        refine lv_if_ne (pc := 69) (tgt := 93) hx hb dzM_health_69 (by decide) (fun h4 => ?_) (fun h4 => ?_)
        ·
          exact K4 g4 H locs (Eq.mpr (if_neg h4) rfl) (xk_cnt_le Ig4 (by omega)) hP hD hS
        ·
          refine lv_iload (pc := 72) hx hb dzM_health_72 (lv_at hl 0 rfl) ?_
          refine lv_if_lt (pc := 74) (tgt := 93) hx hb dzM_health_74 (by decide) (fun hq9 => absurd hq9 (by decide)) (fun _ => ?_)
          refine lv_iload (pc := 77) hx hb dzM_health_77 (lv_at hl 0 rfl) ?_
          refine lv_iconst (v := 3) (pc := 79) hx hb dzM_health_79 (by decide) ?_
          refine lv_icmp_ge (pc := 80) (tgt := 93) hx hb dzM_health_80 (by decide) (fun hq9 => absurd hq9 (by decide)) (fun _ => ?_)
          refine lv_aload_n (pc := 83) hx hb dzM_health_83 rfl (lv_at hl 3 rfl) ?_
          refine lv_iconst (v := 3) (pc := 84) hx hb dzM_health_84 (by decide) ?_
          refine lv_iload_n (pc := 85) hx hb dzM_health_85 rfl (lv_at hl 4 rfl) ?_
          refine lv_imul (pc := 86) hx hb dzM_health_86 ?_
          refine xk_is (y := 0) (by decide) ?_
          refine lv_iload (pc := 87) hx hb dzM_health_87 (lv_at hl 0 rfl) ?_
          refine lv_iadd (pc := 89) hx hb dzM_health_89 ?_
          refine xk_is (y := 1) (by decide) ?_
          refine xk_allVV (As := [.int 1]) (rest := []) (H0 := s.heap) (pc := 90) hx hb hml hts hown hK hA hP hD hS (kzM_disturb_1 l G ac ad g4 (B + 1) Ig4 (by omega)) vfzM_118 (fun _ => rfl) 0 rfl rfl ⟨rfl, rfl⟩ ⟨Nat.le_of_ble_eq_true rfl, Nat.le_of_ble_eq_true rfl⟩ rfl hl.1 rfl (Nat.le_of_ble_eq_true rfl) ⟨Nat.zero_le _, Nat.zero_le _⟩ dzM_health_90 (fun g5 H locs hg5 hP hD hS => ?_)
          have hP : va_P G xk_cls (xk_wM ad ac g5) H := hP
          have hD : va_D A (xk_wM ad ac g5) := hD
          have Ig5 : xk_cnt (B + 2) g5 := xk_cnt_le (iczM_disturb_1 (B + 1) _ _ hg5 Ig4) (by omega)
          exact K4 g5 H locs (Eq.mpr (if_pos h4) ⟨g5, hg5, rfl⟩) (xk_cnt_le Ig5 (by omega)) hP hD hS
      refine lv_if_ne (pc := 69) (tgt := 93) hx hb dzM_health_69 (by decide) (fun h3 => ?_) (fun h3 => ?_)
      ·
        exact K3 g2 H locs (Eq.mpr (if_neg h3) rfl) (xk_cnt_le Ig2 (by omega)) hP hD hS
      ·
        refine lv_iload (pc := 72) hx hb dzM_health_72 (lv_at hl 0 rfl) ?_
        refine lv_if_lt (pc := 74) (tgt := 93) hx hb dzM_health_74 (by decide) (fun hq9 => absurd hq9 (by decide)) (fun _ => ?_)
        refine lv_iload (pc := 77) hx hb dzM_health_77 (lv_at hl 0 rfl) ?_
        refine lv_iconst (v := 3) (pc := 79) hx hb dzM_health_79 (by decide) ?_
        refine lv_icmp_ge (pc := 80) (tgt := 93) hx hb dzM_health_80 (by decide) (fun hq9 => absurd hq9 (by decide)) (fun _ => ?_)
        refine lv_aload_n (pc := 83) hx hb dzM_health_83 rfl (lv_at hl 3 rfl) ?_
        refine lv_iconst (v := 3) (pc := 84) hx hb dzM_health_84 (by decide) ?_
        refine lv_iload_n (pc := 85) hx hb dzM_health_85 rfl (lv_at hl 4 rfl) ?_
        refine lv_imul (pc := 86) hx hb dzM_health_86 ?_
        refine xk_is (y := 0) (by decide) ?_
        refine lv_iload (pc := 87) hx hb dzM_health_87 (lv_at hl 0 rfl) ?_
        refine lv_iadd (pc := 89) hx hb dzM_health_89 ?_
        refine xk_is (y := 0) (by decide) ?_
        refine xk_allVV (As := [.int 0]) (rest := []) (H0 := s.heap) (pc := 90) hx hb hml hts hown hK hA hP hD hS (kzM_disturb_0 l G ac ad g2 (B + 0) Ig2 (by omega)) vfzM_118 (fun _ => rfl) 0 rfl rfl ⟨rfl, rfl⟩ ⟨Nat.le_of_ble_eq_true rfl, Nat.le_of_ble_eq_true rfl⟩ rfl hl.1 rfl (Nat.le_of_ble_eq_true rfl) ⟨Nat.zero_le _, Nat.zero_le _⟩ dzM_health_90 (fun g3 H locs hg3 hP hD hS => ?_)
        have hP : va_P G xk_cls (xk_wM ad ac g3) H := hP
        have hD : va_D A (xk_wM ad ac g3) := hD
        have Ig3 : xk_cnt (B + 1) g3 := xk_cnt_le (iczM_disturb_0 (B + 0) _ _ hg3 Ig2) (by omega)
        exact K3 g3 H locs (Eq.mpr (if_pos h3) ⟨g3, hg3, rfl⟩) (xk_cnt_le Ig3 (by omega)) hP hD hS
    refine lv_if_ne (pc := 48) (tgt := 55) hx hb dzM_health_48 (by decide) (fun h2 => ?_) (fun h2 => ?_)
    ·
      refine lv_iconst (v := 0) (pc := 55) hx hb dzM_health_55 (by decide) ?_
      exact K2 0 (Eq.mpr (if_neg h2) rfl) xk_b0
    ·
      refine lv_iconst (v := 1) (pc := 51) hx hb dzM_health_51 (by decide) ?_
      refine lv_goto (tgt := 56) (pc := 52) hx hb dzM_health_52 (by decide) ?_
      exact K2 1 (Eq.mpr (if_pos h2) rfl) xk_b1
  refine lv_icmp_ne (pc := 31) (tgt := 38) hx hb dzM_health_31 (by decide) (fun h1 => ?_) (fun h1 => ?_)
  ·
    refine lv_iconst (v := 0) (pc := 38) hx hb dzM_health_38 (by decide) ?_
    exact K1 0 (Eq.mpr (if_neg h1) rfl) xk_b0
  ·
    refine lv_iconst (v := 1) (pc := 34) hx hb dzM_health_34 (by decide) ?_
    refine lv_goto (tgt := 39) (pc := 35) hx hb dzM_health_35 (by decide) ?_
    exact K1 1 (Eq.mpr (if_pos h1) rfl) xk_b1
theorem frzM_health_0_1 (g0 : xk_St) (k2 : Int32) (rz : Int32) (gz : xk_St) : relzM_health_0_1 g0 k2 rz gz → xk_eqv [1, 3, 4, 6, 7, 8, 9, 10, 11, 12, 13, 14, 15, 16, 17, 18, 19, 20, 21, 22, 23, 24] g0 gz := by
  intro h
  unfold relzM_health_0_1 at h
  have s0 : xk_eqv [1, 3, 4, 6, 7, 8, 9, 10, 11, 12, 13, 14, 15, 16, 17, 18, 19, 20, 21, 22, 23, 24] g0 g0 := xk_eqv_rf
  obtain ⟨r2, g1, u1, v2⟩ := h
  have s3 : xk_eqv [1, 3, 4, 6, 7, 8, 9, 10, 11, 12, 13, 14, 15, 16, 17, 18, 19, 20, 21, 22, 23, 24] g0 g1 := xk_eqv_tr s0 (xk_eqv_sub (frzM_goes_111 _ _ _ u1) (by decide))
  obtain ⟨x1, u4, v5⟩ := v2
  obtain ⟨x2, u6, v7⟩ := v5
  obtain ⟨g2, u8, v9⟩ := v7
  have s10 : xk_eqv [1, 3, 4, 6, 7, 8, 9, 10, 11, 12, 13, 14, 15, 16, 17, 18, 19, 20, 21, 22, 23, 24] g0 g2 := by rw [u8]; repeat (first | exact s3 | refine xk_eqv_up (by decide) ?_)
  obtain ⟨g4, u11, v12⟩ := v9
  have s13 : xk_eqv [1, 3, 4, 6, 7, 8, 9, 10, 11, 12, 13, 14, 15, 16, 17, 18, 19, 20, 21, 22, 23, 24] g0 g4 := by
    by_cases hc : k2 = 0
    · rw [if_pos hc] at u11
      obtain ⟨g3, u14, v15⟩ := u11
      have s16 : xk_eqv [1, 3, 4, 6, 7, 8, 9, 10, 11, 12, 13, 14, 15, 16, 17, 18, 19, 20, 21, 22, 23, 24] g0 g3 := xk_eqv_tr s10 (xk_eqv_sub (frzM_disturb_0 _ _ u14) (by decide))
      rw [v15]; exact s16
    · rw [if_neg hc] at u11
      rw [u11]; exact s10
  obtain ⟨g6, u17, v18⟩ := v12
  have s19 : xk_eqv [1, 3, 4, 6, 7, 8, 9, 10, 11, 12, 13, 14, 15, 16, 17, 18, 19, 20, 21, 22, 23, 24] g0 g6 := by
    by_cases hc : k2 = 0
    · rw [if_pos hc] at u17
      obtain ⟨g5, u20, v21⟩ := u17
      have s22 : xk_eqv [1, 3, 4, 6, 7, 8, 9, 10, 11, 12, 13, 14, 15, 16, 17, 18, 19, 20, 21, 22, 23, 24] g0 g5 := xk_eqv_tr s13 (xk_eqv_sub (frzM_disturb_1 _ _ u20) (by decide))
      rw [v21]; exact s22
    · rw [if_neg hc] at u17
      rw [u17]; exact s13
  rw [v18.2.2]; exact s19
theorem iczM_health_0_1 (B : Nat) (g0 : xk_St) (k2 : Int32) (rz : Int32) (gz : xk_St) : relzM_health_0_1 g0 k2 rz gz → xk_cnt B g0 → xk_cnt (B + 2) gz := by
  intro h Ig0
  unfold relzM_health_0_1 at h
  have Ig0 : xk_cnt (B + 0) g0 := Ig0
  obtain ⟨r2, g1, u1, v2⟩ := h
  have Ig1 : xk_cnt (B + 0) g1 := xk_cnt_le (iczM_goes_111 (B + 0) _ _ _ u1 Ig0) (by omega)
  obtain ⟨x1, u3, v4⟩ := v2
  obtain ⟨x2, u5, v6⟩ := v4
  obtain ⟨g2, u7, v8⟩ := v6
  have Ig2 : xk_cnt (B + 0) g2 := by rw [u7]; repeat (first | exact Ig1 | refine xk_cnt_k (by decide) ?_ | refine xk_cnt_f (by decide) ?_ | refine xk_cnt_s ?_)
  obtain ⟨g4, u9, v10⟩ := v8
  have Ig4 : xk_cnt (B + 1) g4 := by
    by_cases hc : k2 = 0
    · rw [if_pos hc] at u9
      obtain ⟨g3, u11, v12⟩ := u9
      have Ig3 : xk_cnt (B + 1) g3 := xk_cnt_le (iczM_disturb_0 (B + 0) _ _ u11 Ig2) (by omega)
      rw [v12]; exact xk_cnt_le Ig3 (by omega)
    · rw [if_neg hc] at u9
      rw [u9]; exact xk_cnt_le Ig2 (by omega)
  obtain ⟨g6, u13, v14⟩ := v10
  have Ig6 : xk_cnt (B + 2) g6 := by
    by_cases hc : k2 = 0
    · rw [if_pos hc] at u13
      obtain ⟨g5, u15, v16⟩ := u13
      have Ig5 : xk_cnt (B + 2) g5 := xk_cnt_le (iczM_disturb_1 (B + 1) _ _ u15 Ig4) (by omega)
      rw [v16]; exact xk_cnt_le Ig5 (by omega)
    · rw [if_neg hc] at u13
      rw [u13]; exact xk_cnt_le Ig4 (by omega)
  rw [v14.2.2]; exact xk_cnt_le Ig6 (by omega)

def relzM_health_0_2 (g0 : xk_St) (k2 : Int32) (rz : Int32) (gz : xk_St) : Prop := ∃ (r2 : Int32) (g1 : xk_St), relzM_goes_111 g0 r2 g1 ∧ (∃ (x1 : Int32), (if ((g1 2) 2) = k2 then (x1 = 1) else (x1 = 0)) ∧ (∃ (x2 : Int32), (if k2 = 0 then (x2 = 1) else (x2 = 0)) ∧ (∃ (g2 : xk_St), g2 = va_up g1 2 (upd (g1 2) 2 x2) ∧ (∃ (g4 : xk_St), (if k2 = 0 then (∃ (g3 : xk_St), relzM_disturb_1 g2 g3 ∧ (g4 = g3)) else (g4 = g2)) ∧ (∃ (g6 : xk_St), (if k2 = 0 then (∃ (g5 : xk_St), relzM_disturb_2 g4 g5 ∧ (g6 = g5)) else (g6 = g4)) ∧ (rz = x1 ∧ xk_b rz ∧ gz = g6))))))
set_option maxHeartbeats 4000000 in
set_option maxRecDepth 100000 in
theorem kzM_health_0_2 (l : Launch) (G : va_G) (ac : Nat → ClassId) (ad : Nat → Nat) (g0 : xk_St) (k2 : Int32) (B : Nat) (hb2 : xk_b k2) (Ig0 : xk_cnt B g0) (hB : B + 3 < 2147483648) : xk_CI l yzM_health czM_health 7 .boolean xk_WS xk_r2 G xk_cls (xk_tys ac) [.ref (ad 0), .int 0, .int 2, .int k2] (xk_wM ad ac g0) (fun rz (gz : xk_St) => relzM_health_0_2 g0 k2 rz gz) (fun gz => xk_wM ad ac gz) := by
  refine xk_ofI (by decide) (Nat.le_of_ble_eq_true rfl) ?_
  intro p e s m args below meth c A Q H locs ls C0 hret hP hD hS hl
  obtain ⟨hx, hb, hml, hts, hown, hK, hA⟩ := C0
  have hl : lv_has ls 7 [(0, .ref (ad 0)), (1, .int 0), (2, .int 2), (3, .int k2)] := hl
  have Ig0 : xk_cnt (B + 0) g0 := Ig0
  refine lv_aload_n (pc := 0) hx hb dzM_health_0 rfl (lv_at hl 0 rfl) ?_
  refine lv_iload_n (pc := 1) hx hb dzM_health_1 rfl (lv_at hl 1 rfl) ?_
  refine lv_iload_n (pc := 2) hx hb dzM_health_2 rfl (lv_at hl 2 rfl) ?_
  refine xk_callSI (As := [.int 0, .int 2]) (rest := [.ref (ad 0)]) (H0 := s.heap) (pc := 3) hx hb hml hts hown hK hA hP hD hS (kzM_isHead l G ac 0 2) sfzM_110 [] (by decide) rfl (fun _ => rfl) ⟨rfl, rfl⟩ ⟨Nat.le_of_ble_eq_true rfl, Nat.le_of_ble_eq_true rfl⟩ rfl hl.1 rfl (Nat.le_of_ble_eq_true rfl) ⟨Nat.zero_le _, Nat.zero_le _⟩ dzM_health_3 (fun r1 u9 H locs e9 hP hD hS => ?_)
  obtain rfl : r1 = qzM_isHead 0 2 := e9
  refine xk_is (y := 1) (by decide) ?_
  have hP : va_P G xk_cls (xk_wM ad ac g0) H := hP
  have hD : va_D A (xk_wM ad ac g0) := hD
  refine lv_iconst (v := 1) (pc := 6) hx hb dzM_health_6 (by decide) ?_
  refine lv_iconst (v := 1) (pc := 7) hx hb dzM_health_7 (by decide) ?_
  refine xk_allVI (As := [.int 1, .int 1, .int 1]) (rest := []) (H0 := s.heap) (pc := 8) hx hb hml hts hown hK hA hP hD hS (kzM_goes_111 l G ac ad g0 (B + 0) Ig0 (by omega)) vfzM_114 (fun _ => rfl) 0 rfl rfl ⟨rfl, rfl⟩ ⟨Nat.le_of_ble_eq_true rfl, Nat.le_of_ble_eq_true rfl⟩ rfl hl.1 rfl (Nat.le_of_ble_eq_true rfl) ⟨Nat.zero_le _, Nat.zero_le _⟩ dzM_health_8 (fun r2 g1 H locs hg1 hP hD hS => ?_)
  have qr2 : r2 = 1 := rczM_goes_111 _ _ _ hg1
  refine xk_is (y := 1) qr2 ?_
  have hP : va_P G xk_cls (xk_wM ad ac g1) H := hP
  have hD : va_D A (xk_wM ad ac g1) := hD
  have Ig1 : xk_cnt (B + 0) g1 := xk_cnt_le (iczM_goes_111 (B + 0) _ _ _ hg1 Ig0) (by omega)
  refine lv_if_ne (pc := 11) (tgt := 16) hx hb dzM_health_11 (by decide) (fun _ => ?_) (fun hq9 => absurd hq9 (by decide))
  refine lv_iconst (v := 4) (pc := 16) hx hb dzM_health_16 (by decide) ?_
  refine lv_iload_n (pc := 17) hx hb dzM_health_17 rfl (lv_at hl 1 rfl) ?_
  refine lv_imul (pc := 18) hx hb dzM_health_18 ?_
  refine xk_is (y := 0) (by decide) ?_
  refine lv_iload_n (pc := 19) hx hb dzM_health_19 rfl (lv_at hl 2 rfl) ?_
  refine lv_iadd (pc := 20) hx hb dzM_health_20 ?_
  refine xk_is (y := 2) (by decide) ?_
  refine lv_istore (lv' := [(4, .int 2), (0, .ref (ad 0)), (1, .int 0), (2, .int 2), (3, .int k2)]) (pc := 21) hx hb dzM_health_21 hl (by decide) rfl (fun ls hl => ?_)
  refine lv_aload_n (pc := 23) hx hb dzM_health_23 rfl (lv_at hl 1 rfl) ?_
  refine xk_get (pc := 24) hx hb hts hown hK hP ffzM_13 0 rfl rfl dzM_health_24 ?_
  refine lv_iload (pc := 27) hx hb dzM_health_27 (lv_at hl 0 rfl) ?_
  refine xk_zald (q0 := 2) (t0 := 1) (j := 2) (pc := 29) hx hb hK hP rfl rfl (pk_in 2 8 (by decide)) (pk_cl 2) dzM_health_29 ?_
  refine lv_iload_n (pc := 30) hx hb dzM_health_30 rfl (lv_at hl 4 rfl) ?_
  have K1 : ∀ (x1 : Int32), (if ((g1 2) 2) = k2 then (x1 = 1) else (x1 = 0)) → (xk_b x1) → W p l e xk_r2 s m args below meth c H locs 0 0 Q (F0 m 39 ls [.int x1]) := by
    intro x1 R1 bx1
    refine lv_istore (lv' := [(5, .int x1), (4, .int 2), (0, .ref (ad 0)), (1, .int 0), (2, .int 2), (3, .int k2)]) (pc := 39) hx hb dzM_health_39 hl (by decide) rfl (fun ls hl => ?_)
    refine lv_aload_n (pc := 41) hx hb dzM_health_41 rfl (lv_at hl 2 rfl) ?_
    refine xk_get (pc := 42) hx hb hts hown hK hP ffzM_13 0 rfl rfl dzM_health_42 ?_
    refine lv_iload (pc := 45) hx hb dzM_health_45 (lv_at hl 1 rfl) ?_
    refine lv_iload_n (pc := 47) hx hb dzM_health_47 rfl (lv_at hl 5 rfl) ?_
    have K2 : ∀ (x2 : Int32), (if k2 = 0 then (x2 = 1) else (x2 = 0)) → (xk_b x2) → W p l e xk_r2 s m args below meth c H locs 0 0 Q (F0 m 56 ls [.int x2, .int 2, .ref (ad 2)]) := by
      intro x2 R2 bx2
      refine xk_zast (q0 := 2) (t0 := 1) (j := 2) (pc := 56) hx hb hK hP hD hS rfl rfl (pk_in 2 8 (by decide)) (pk_cl 2) bx2 dzM_health_56 (fun H locs hP hD hS => ?_)
      obtain ⟨g2, eg2⟩ : ∃ z : xk_St, z = va_up g1 2 (upd (g1 2) 2 x2) := ⟨_, rfl⟩
      have hP : va_P G xk_cls (xk_wM ad ac g2) H := by rw [eg2]; exact hP
      have hD : va_D A (xk_wM ad ac g2) := by rw [eg2]; exact hD
      have Ig2 : xk_cnt (B + 0) g2 := by rw [eg2]; repeat (first | exact Ig1 | refine xk_cnt_k (by decide) ?_ | refine xk_cnt_f (by decide) ?_ | refine xk_cnt_s ?_)
      refine lv_iload_n (pc := 57) hx hb dzM_health_57 rfl (lv_at hl 4 rfl) ?_
      refine lv_iconst (v := 1) (pc := 58) hx hb dzM_health_58 (by decide) ?_
      refine lv_isub (pc := 59) hx hb dzM_health_59 ?_
      refine xk_is (y := 1) (by decide) ?_
      refine lv_istore (lv' := [(6, .int 1), (5, .int x1), (4, .int 2), (0, .ref (ad 0)), (1, .int 0), (2, .int 2), (3, .int k2)]) (pc := 60) hx hb dzM_health_60 hl (by decide) rfl (fun ls hl => ?_)
      refine lv_iload (pc := 62) hx hb dzM_health_62 (lv_at hl 0 rfl) ?_
      refine lv_iload_n (pc := 64) hx hb dzM_health_64 rfl (lv_at hl 5 rfl) ?_
      refine lv_icmp_gt (pc := 65) (tgt := 99) hx hb dzM_health_65 (by decide) (fun hq9 => absurd hq9 (by decide)) (fun _ => ?_)
      refine lv_iload_n (pc := 68) hx hb dzM_health_68 rfl (lv_at hl 6 rfl) ?_
      have K3 : ∀ (g4 : xk_St) (H : Heap) (locs : List Loc), (if k2 = 0 then (∃ (g3 : xk_St), relzM_disturb_1 g2 g3 ∧ (g4 = g3)) else (g4 = g2)) → (xk_cnt (B + 1) g4) → (va_P G xk_cls (xk_wM ad ac g4) H) → (va_D A (xk_wM ad ac g4)) → (va_S A s.heap H locs) → W p l e xk_r2 s m args below meth c H locs 0 0 Q (F0 m 93 ls []) := by
        intro g4 H locs R3 Ig4 hP hD hS
        refine lv_iinc (k := 0) (x := 1) (v := 2) (lv' := [(6, .int 2), (5, .int x1), (4, .int 2), (0, .ref (ad 0)), (1, .int 0), (2, .int 2), (3, .int k2)]) (pc := 93) hx hb dzM_health_93 hl rfl (by decide) (by decide) rfl (fun ls hl => ?_)
        refine lv_goto (tgt := 62) (pc := 96) hx hb dzM_health_96 (by decide) ?_
        refine lv_iload (pc := 62) hx hb dzM_health_62 (lv_at hl 0 rfl) ?_
        refine lv_iload_n (pc := 64) hx hb dzM_health_64 rfl (lv_at hl 5 rfl) ?_
        refine lv_icmp_gt (pc := 65) (tgt := 99) hx hb dzM_health_65 (by decide) (fun hq9 => absurd hq9 (by decide)) (fun _ => ?_)
        refine lv_iload_n (pc := 68) hx hb dzM_health_68 rfl (lv_at hl 6 rfl) ?_
        have K4 : ∀ (g6 : xk_St) (H : Heap) (locs : List Loc), (if k2 = 0 then (∃ (g5 : xk_St), relzM_disturb_2 g4 g5 ∧ (g6 = g5)) else (g6 = g4)) → (xk_cnt (B + 2) g6) → (va_P G xk_cls (xk_wM ad ac g6) H) → (va_D A (xk_wM ad ac g6)) → (va_S A s.heap H locs) → W p l e xk_r2 s m args below meth c H locs 0 0 Q (F0 m 93 ls []) := by
          intro g6 H locs R4 Ig6 hP hD hS
          refine lv_iinc (k := 0) (x := 2) (v := 3) (lv' := [(6, .int 3), (5, .int x1), (4, .int 2), (0, .ref (ad 0)), (1, .int 0), (2, .int 2), (3, .int k2)]) (pc := 93) hx hb dzM_health_93 hl rfl (by decide) (by decide) rfl (fun ls hl => ?_)
          refine lv_goto (tgt := 62) (pc := 96) hx hb dzM_health_96 (by decide) ?_
          refine lv_iload (pc := 62) hx hb dzM_health_62 (lv_at hl 0 rfl) ?_
          refine lv_iload_n (pc := 64) hx hb dzM_health_64 rfl (lv_at hl 5 rfl) ?_
          refine lv_icmp_gt (pc := 65) (tgt := 99) hx hb dzM_health_65 (by decide) (fun _ => ?_) (fun hq9 => absurd (by decide) hq9)
          refine lv_iload (pc := 99) hx hb dzM_health_99 (lv_at hl 1 rfl) ?_
          exact hret _ g6 H locs 101 ls hP hS (xk_bn bx1) (by unfold relzM_health_0_2; exact ⟨r2, g1, hg1, ⟨x1, R1, ⟨x2, R2, ⟨g2, eg2, ⟨g4, R3, ⟨g6, R4, ⟨rfl, bx1, rfl⟩⟩⟩⟩⟩⟩⟩) dzM_health_101
        refine lv_if_ne (pc := 69) (tgt := 93) hx hb dzM_health_69 (by decide) (fun h4 => ?_) (fun h4 => ?_)
        ·
          exact K4 g4 H locs (Eq.mpr (if_neg h4) rfl) (xk_cnt_le Ig4 (by omega)) hP hD hS
        ·
          refine lv_iload (pc := 72) hx hb dzM_health_72 (lv_at hl 0 rfl) ?_
          refine lv_if_lt (pc := 74) (tgt := 93) hx hb dzM_health_74 (by decide) (fun hq9 => absurd hq9 (by decide)) (fun _ => ?_)
          refine lv_iload (pc := 77) hx hb dzM_health_77 (lv_at hl 0 rfl) ?_
          refine lv_iconst (v := 3) (pc := 79) hx hb dzM_health_79 (by decide) ?_
          refine lv_icmp_ge (pc := 80) (tgt := 93) hx hb dzM_health_80 (by decide) (fun hq9 => absurd hq9 (by decide)) (fun _ => ?_)
          refine lv_aload_n (pc := 83) hx hb dzM_health_83 rfl (lv_at hl 3 rfl) ?_
          refine lv_iconst (v := 3) (pc := 84) hx hb dzM_health_84 (by decide) ?_
          refine lv_iload_n (pc := 85) hx hb dzM_health_85 rfl (lv_at hl 4 rfl) ?_
          refine lv_imul (pc := 86) hx hb dzM_health_86 ?_
          refine xk_is (y := 0) (by decide) ?_
          refine lv_iload (pc := 87) hx hb dzM_health_87 (lv_at hl 0 rfl) ?_
          refine lv_iadd (pc := 89) hx hb dzM_health_89 ?_
          refine xk_is (y := 2) (by decide) ?_
          refine xk_allVV (As := [.int 2]) (rest := []) (H0 := s.heap) (pc := 90) hx hb hml hts hown hK hA hP hD hS (kzM_disturb_2 l G ac ad g4 (B + 1) Ig4 (by omega)) vfzM_118 (fun _ => rfl) 0 rfl rfl ⟨rfl, rfl⟩ ⟨Nat.le_of_ble_eq_true rfl, Nat.le_of_ble_eq_true rfl⟩ rfl hl.1 rfl (Nat.le_of_ble_eq_true rfl) ⟨Nat.zero_le _, Nat.zero_le _⟩ dzM_health_90 (fun g5 H locs hg5 hP hD hS => ?_)
          have hP : va_P G xk_cls (xk_wM ad ac g5) H := hP
          have hD : va_D A (xk_wM ad ac g5) := hD
          have Ig5 : xk_cnt (B + 2) g5 := xk_cnt_le (iczM_disturb_2 (B + 1) _ _ hg5 Ig4) (by omega)
          exact K4 g5 H locs (Eq.mpr (if_pos h4) ⟨g5, hg5, rfl⟩) (xk_cnt_le Ig5 (by omega)) hP hD hS
      refine lv_if_ne (pc := 69) (tgt := 93) hx hb dzM_health_69 (by decide) (fun h3 => ?_) (fun h3 => ?_)
      ·
        exact K3 g2 H locs (Eq.mpr (if_neg h3) rfl) (xk_cnt_le Ig2 (by omega)) hP hD hS
      ·
        refine lv_iload (pc := 72) hx hb dzM_health_72 (lv_at hl 0 rfl) ?_
        refine lv_if_lt (pc := 74) (tgt := 93) hx hb dzM_health_74 (by decide) (fun hq9 => absurd hq9 (by decide)) (fun _ => ?_)
        refine lv_iload (pc := 77) hx hb dzM_health_77 (lv_at hl 0 rfl) ?_
        refine lv_iconst (v := 3) (pc := 79) hx hb dzM_health_79 (by decide) ?_
        refine lv_icmp_ge (pc := 80) (tgt := 93) hx hb dzM_health_80 (by decide) (fun hq9 => absurd hq9 (by decide)) (fun _ => ?_)
        refine lv_aload_n (pc := 83) hx hb dzM_health_83 rfl (lv_at hl 3 rfl) ?_
        refine lv_iconst (v := 3) (pc := 84) hx hb dzM_health_84 (by decide) ?_
        refine lv_iload_n (pc := 85) hx hb dzM_health_85 rfl (lv_at hl 4 rfl) ?_
        refine lv_imul (pc := 86) hx hb dzM_health_86 ?_
        refine xk_is (y := 0) (by decide) ?_
        refine lv_iload (pc := 87) hx hb dzM_health_87 (lv_at hl 0 rfl) ?_
        refine lv_iadd (pc := 89) hx hb dzM_health_89 ?_
        refine xk_is (y := 1) (by decide) ?_
        refine xk_allVV (As := [.int 1]) (rest := []) (H0 := s.heap) (pc := 90) hx hb hml hts hown hK hA hP hD hS (kzM_disturb_1 l G ac ad g2 (B + 0) Ig2 (by omega)) vfzM_118 (fun _ => rfl) 0 rfl rfl ⟨rfl, rfl⟩ ⟨Nat.le_of_ble_eq_true rfl, Nat.le_of_ble_eq_true rfl⟩ rfl hl.1 rfl (Nat.le_of_ble_eq_true rfl) ⟨Nat.zero_le _, Nat.zero_le _⟩ dzM_health_90 (fun g3 H locs hg3 hP hD hS => ?_)
        have hP : va_P G xk_cls (xk_wM ad ac g3) H := hP
        have hD : va_D A (xk_wM ad ac g3) := hD
        have Ig3 : xk_cnt (B + 1) g3 := xk_cnt_le (iczM_disturb_1 (B + 0) _ _ hg3 Ig2) (by omega)
        exact K3 g3 H locs (Eq.mpr (if_pos h3) ⟨g3, hg3, rfl⟩) (xk_cnt_le Ig3 (by omega)) hP hD hS
    refine lv_if_ne (pc := 48) (tgt := 55) hx hb dzM_health_48 (by decide) (fun h2 => ?_) (fun h2 => ?_)
    ·
      refine lv_iconst (v := 0) (pc := 55) hx hb dzM_health_55 (by decide) ?_
      exact K2 0 (Eq.mpr (if_neg h2) rfl) xk_b0
    ·
      refine lv_iconst (v := 1) (pc := 51) hx hb dzM_health_51 (by decide) ?_
      refine lv_goto (tgt := 56) (pc := 52) hx hb dzM_health_52 (by decide) ?_
      exact K2 1 (Eq.mpr (if_pos h2) rfl) xk_b1
  refine lv_icmp_ne (pc := 31) (tgt := 38) hx hb dzM_health_31 (by decide) (fun h1 => ?_) (fun h1 => ?_)
  ·
    refine lv_iconst (v := 0) (pc := 38) hx hb dzM_health_38 (by decide) ?_
    exact K1 0 (Eq.mpr (if_neg h1) rfl) xk_b0
  ·
    refine lv_iconst (v := 1) (pc := 34) hx hb dzM_health_34 (by decide) ?_
    refine lv_goto (tgt := 39) (pc := 35) hx hb dzM_health_35 (by decide) ?_
    exact K1 1 (Eq.mpr (if_pos h1) rfl) xk_b1
theorem frzM_health_0_2 (g0 : xk_St) (k2 : Int32) (rz : Int32) (gz : xk_St) : relzM_health_0_2 g0 k2 rz gz → xk_eqv [1, 3, 4, 6, 7, 8, 9, 10, 11, 12, 13, 14, 15, 16, 17, 18, 19, 20, 21, 22, 23, 24] g0 gz := by
  intro h
  unfold relzM_health_0_2 at h
  have s0 : xk_eqv [1, 3, 4, 6, 7, 8, 9, 10, 11, 12, 13, 14, 15, 16, 17, 18, 19, 20, 21, 22, 23, 24] g0 g0 := xk_eqv_rf
  obtain ⟨r2, g1, u1, v2⟩ := h
  have s3 : xk_eqv [1, 3, 4, 6, 7, 8, 9, 10, 11, 12, 13, 14, 15, 16, 17, 18, 19, 20, 21, 22, 23, 24] g0 g1 := xk_eqv_tr s0 (xk_eqv_sub (frzM_goes_111 _ _ _ u1) (by decide))
  obtain ⟨x1, u4, v5⟩ := v2
  obtain ⟨x2, u6, v7⟩ := v5
  obtain ⟨g2, u8, v9⟩ := v7
  have s10 : xk_eqv [1, 3, 4, 6, 7, 8, 9, 10, 11, 12, 13, 14, 15, 16, 17, 18, 19, 20, 21, 22, 23, 24] g0 g2 := by rw [u8]; repeat (first | exact s3 | refine xk_eqv_up (by decide) ?_)
  obtain ⟨g4, u11, v12⟩ := v9
  have s13 : xk_eqv [1, 3, 4, 6, 7, 8, 9, 10, 11, 12, 13, 14, 15, 16, 17, 18, 19, 20, 21, 22, 23, 24] g0 g4 := by
    by_cases hc : k2 = 0
    · rw [if_pos hc] at u11
      obtain ⟨g3, u14, v15⟩ := u11
      have s16 : xk_eqv [1, 3, 4, 6, 7, 8, 9, 10, 11, 12, 13, 14, 15, 16, 17, 18, 19, 20, 21, 22, 23, 24] g0 g3 := xk_eqv_tr s10 (xk_eqv_sub (frzM_disturb_1 _ _ u14) (by decide))
      rw [v15]; exact s16
    · rw [if_neg hc] at u11
      rw [u11]; exact s10
  obtain ⟨g6, u17, v18⟩ := v12
  have s19 : xk_eqv [1, 3, 4, 6, 7, 8, 9, 10, 11, 12, 13, 14, 15, 16, 17, 18, 19, 20, 21, 22, 23, 24] g0 g6 := by
    by_cases hc : k2 = 0
    · rw [if_pos hc] at u17
      obtain ⟨g5, u20, v21⟩ := u17
      have s22 : xk_eqv [1, 3, 4, 6, 7, 8, 9, 10, 11, 12, 13, 14, 15, 16, 17, 18, 19, 20, 21, 22, 23, 24] g0 g5 := xk_eqv_tr s13 (xk_eqv_sub (frzM_disturb_2 _ _ u20) (by decide))
      rw [v21]; exact s22
    · rw [if_neg hc] at u17
      rw [u17]; exact s13
  rw [v18.2.2]; exact s19
theorem iczM_health_0_2 (B : Nat) (g0 : xk_St) (k2 : Int32) (rz : Int32) (gz : xk_St) : relzM_health_0_2 g0 k2 rz gz → xk_cnt B g0 → xk_cnt (B + 2) gz := by
  intro h Ig0
  unfold relzM_health_0_2 at h
  have Ig0 : xk_cnt (B + 0) g0 := Ig0
  obtain ⟨r2, g1, u1, v2⟩ := h
  have Ig1 : xk_cnt (B + 0) g1 := xk_cnt_le (iczM_goes_111 (B + 0) _ _ _ u1 Ig0) (by omega)
  obtain ⟨x1, u3, v4⟩ := v2
  obtain ⟨x2, u5, v6⟩ := v4
  obtain ⟨g2, u7, v8⟩ := v6
  have Ig2 : xk_cnt (B + 0) g2 := by rw [u7]; repeat (first | exact Ig1 | refine xk_cnt_k (by decide) ?_ | refine xk_cnt_f (by decide) ?_ | refine xk_cnt_s ?_)
  obtain ⟨g4, u9, v10⟩ := v8
  have Ig4 : xk_cnt (B + 1) g4 := by
    by_cases hc : k2 = 0
    · rw [if_pos hc] at u9
      obtain ⟨g3, u11, v12⟩ := u9
      have Ig3 : xk_cnt (B + 1) g3 := xk_cnt_le (iczM_disturb_1 (B + 0) _ _ u11 Ig2) (by omega)
      rw [v12]; exact xk_cnt_le Ig3 (by omega)
    · rw [if_neg hc] at u9
      rw [u9]; exact xk_cnt_le Ig2 (by omega)
  obtain ⟨g6, u13, v14⟩ := v10
  have Ig6 : xk_cnt (B + 2) g6 := by
    by_cases hc : k2 = 0
    · rw [if_pos hc] at u13
      obtain ⟨g5, u15, v16⟩ := u13
      have Ig5 : xk_cnt (B + 2) g5 := xk_cnt_le (iczM_disturb_2 (B + 1) _ _ u15 Ig4) (by omega)
      rw [v16]; exact xk_cnt_le Ig5 (by omega)
    · rw [if_neg hc] at u13
      rw [u13]; exact xk_cnt_le Ig4 (by omega)
  rw [v14.2.2]; exact xk_cnt_le Ig6 (by omega)

def relzM_health_0_3 (g0 : xk_St) (k2 : Int32) (rz : Int32) (gz : xk_St) : Prop := ∃ (r2 : Int32) (g1 : xk_St), relzM_goes_111 g0 r2 g1 ∧ (∃ (x1 : Int32), (if ((g1 2) 3) = k2 then (x1 = 1) else (x1 = 0)) ∧ (∃ (x2 : Int32), (if k2 = 0 then (x2 = 1) else (x2 = 0)) ∧ (∃ (g2 : xk_St), g2 = va_up g1 2 (upd (g1 2) 3 x2) ∧ (∃ (g4 : xk_St), (if k2 = 0 then (∃ (g3 : xk_St), relzM_disturb_2 g2 g3 ∧ (g4 = g3)) else (g4 = g2)) ∧ (rz = x1 ∧ xk_b rz ∧ gz = g4)))))
set_option maxHeartbeats 4000000 in
set_option maxRecDepth 100000 in
theorem kzM_health_0_3 (l : Launch) (G : va_G) (ac : Nat → ClassId) (ad : Nat → Nat) (g0 : xk_St) (k2 : Int32) (B : Nat) (hb2 : xk_b k2) (Ig0 : xk_cnt B g0) (hB : B + 2 < 2147483648) : xk_CI l yzM_health czM_health 7 .boolean xk_WS xk_r2 G xk_cls (xk_tys ac) [.ref (ad 0), .int 0, .int 3, .int k2] (xk_wM ad ac g0) (fun rz (gz : xk_St) => relzM_health_0_3 g0 k2 rz gz) (fun gz => xk_wM ad ac gz) := by
  refine xk_ofI (by decide) (Nat.le_of_ble_eq_true rfl) ?_
  intro p e s m args below meth c A Q H locs ls C0 hret hP hD hS hl
  obtain ⟨hx, hb, hml, hts, hown, hK, hA⟩ := C0
  have hl : lv_has ls 7 [(0, .ref (ad 0)), (1, .int 0), (2, .int 3), (3, .int k2)] := hl
  have Ig0 : xk_cnt (B + 0) g0 := Ig0
  refine lv_aload_n (pc := 0) hx hb dzM_health_0 rfl (lv_at hl 0 rfl) ?_
  refine lv_iload_n (pc := 1) hx hb dzM_health_1 rfl (lv_at hl 1 rfl) ?_
  refine lv_iload_n (pc := 2) hx hb dzM_health_2 rfl (lv_at hl 2 rfl) ?_
  refine xk_callSI (As := [.int 0, .int 3]) (rest := [.ref (ad 0)]) (H0 := s.heap) (pc := 3) hx hb hml hts hown hK hA hP hD hS (kzM_isHead l G ac 0 3) sfzM_110 [] (by decide) rfl (fun _ => rfl) ⟨rfl, rfl⟩ ⟨Nat.le_of_ble_eq_true rfl, Nat.le_of_ble_eq_true rfl⟩ rfl hl.1 rfl (Nat.le_of_ble_eq_true rfl) ⟨Nat.zero_le _, Nat.zero_le _⟩ dzM_health_3 (fun r1 u9 H locs e9 hP hD hS => ?_)
  obtain rfl : r1 = qzM_isHead 0 3 := e9
  refine xk_is (y := 1) (by decide) ?_
  have hP : va_P G xk_cls (xk_wM ad ac g0) H := hP
  have hD : va_D A (xk_wM ad ac g0) := hD
  refine lv_iconst (v := 1) (pc := 6) hx hb dzM_health_6 (by decide) ?_
  refine lv_iconst (v := 1) (pc := 7) hx hb dzM_health_7 (by decide) ?_
  refine xk_allVI (As := [.int 1, .int 1, .int 1]) (rest := []) (H0 := s.heap) (pc := 8) hx hb hml hts hown hK hA hP hD hS (kzM_goes_111 l G ac ad g0 (B + 0) Ig0 (by omega)) vfzM_114 (fun _ => rfl) 0 rfl rfl ⟨rfl, rfl⟩ ⟨Nat.le_of_ble_eq_true rfl, Nat.le_of_ble_eq_true rfl⟩ rfl hl.1 rfl (Nat.le_of_ble_eq_true rfl) ⟨Nat.zero_le _, Nat.zero_le _⟩ dzM_health_8 (fun r2 g1 H locs hg1 hP hD hS => ?_)
  have qr2 : r2 = 1 := rczM_goes_111 _ _ _ hg1
  refine xk_is (y := 1) qr2 ?_
  have hP : va_P G xk_cls (xk_wM ad ac g1) H := hP
  have hD : va_D A (xk_wM ad ac g1) := hD
  have Ig1 : xk_cnt (B + 0) g1 := xk_cnt_le (iczM_goes_111 (B + 0) _ _ _ hg1 Ig0) (by omega)
  refine lv_if_ne (pc := 11) (tgt := 16) hx hb dzM_health_11 (by decide) (fun _ => ?_) (fun hq9 => absurd hq9 (by decide))
  refine lv_iconst (v := 4) (pc := 16) hx hb dzM_health_16 (by decide) ?_
  refine lv_iload_n (pc := 17) hx hb dzM_health_17 rfl (lv_at hl 1 rfl) ?_
  refine lv_imul (pc := 18) hx hb dzM_health_18 ?_
  refine xk_is (y := 0) (by decide) ?_
  refine lv_iload_n (pc := 19) hx hb dzM_health_19 rfl (lv_at hl 2 rfl) ?_
  refine lv_iadd (pc := 20) hx hb dzM_health_20 ?_
  refine xk_is (y := 3) (by decide) ?_
  refine lv_istore (lv' := [(4, .int 3), (0, .ref (ad 0)), (1, .int 0), (2, .int 3), (3, .int k2)]) (pc := 21) hx hb dzM_health_21 hl (by decide) rfl (fun ls hl => ?_)
  refine lv_aload_n (pc := 23) hx hb dzM_health_23 rfl (lv_at hl 1 rfl) ?_
  refine xk_get (pc := 24) hx hb hts hown hK hP ffzM_13 0 rfl rfl dzM_health_24 ?_
  refine lv_iload (pc := 27) hx hb dzM_health_27 (lv_at hl 0 rfl) ?_
  refine xk_zald (q0 := 2) (t0 := 1) (j := 3) (pc := 29) hx hb hK hP rfl rfl (pk_in 3 8 (by decide)) (pk_cl 3) dzM_health_29 ?_
  refine lv_iload_n (pc := 30) hx hb dzM_health_30 rfl (lv_at hl 4 rfl) ?_
  have K1 : ∀ (x1 : Int32), (if ((g1 2) 3) = k2 then (x1 = 1) else (x1 = 0)) → (xk_b x1) → W p l e xk_r2 s m args below meth c H locs 0 0 Q (F0 m 39 ls [.int x1]) := by
    intro x1 R1 bx1
    refine lv_istore (lv' := [(5, .int x1), (4, .int 3), (0, .ref (ad 0)), (1, .int 0), (2, .int 3), (3, .int k2)]) (pc := 39) hx hb dzM_health_39 hl (by decide) rfl (fun ls hl => ?_)
    refine lv_aload_n (pc := 41) hx hb dzM_health_41 rfl (lv_at hl 2 rfl) ?_
    refine xk_get (pc := 42) hx hb hts hown hK hP ffzM_13 0 rfl rfl dzM_health_42 ?_
    refine lv_iload (pc := 45) hx hb dzM_health_45 (lv_at hl 1 rfl) ?_
    refine lv_iload_n (pc := 47) hx hb dzM_health_47 rfl (lv_at hl 5 rfl) ?_
    have K2 : ∀ (x2 : Int32), (if k2 = 0 then (x2 = 1) else (x2 = 0)) → (xk_b x2) → W p l e xk_r2 s m args below meth c H locs 0 0 Q (F0 m 56 ls [.int x2, .int 3, .ref (ad 2)]) := by
      intro x2 R2 bx2
      refine xk_zast (q0 := 2) (t0 := 1) (j := 3) (pc := 56) hx hb hK hP hD hS rfl rfl (pk_in 3 8 (by decide)) (pk_cl 3) bx2 dzM_health_56 (fun H locs hP hD hS => ?_)
      obtain ⟨g2, eg2⟩ : ∃ z : xk_St, z = va_up g1 2 (upd (g1 2) 3 x2) := ⟨_, rfl⟩
      have hP : va_P G xk_cls (xk_wM ad ac g2) H := by rw [eg2]; exact hP
      have hD : va_D A (xk_wM ad ac g2) := by rw [eg2]; exact hD
      have Ig2 : xk_cnt (B + 0) g2 := by rw [eg2]; repeat (first | exact Ig1 | refine xk_cnt_k (by decide) ?_ | refine xk_cnt_f (by decide) ?_ | refine xk_cnt_s ?_)
      refine lv_iload_n (pc := 57) hx hb dzM_health_57 rfl (lv_at hl 4 rfl) ?_
      refine lv_iconst (v := 1) (pc := 58) hx hb dzM_health_58 (by decide) ?_
      refine lv_isub (pc := 59) hx hb dzM_health_59 ?_
      refine xk_is (y := 2) (by decide) ?_
      refine lv_istore (lv' := [(6, .int 2), (5, .int x1), (4, .int 3), (0, .ref (ad 0)), (1, .int 0), (2, .int 3), (3, .int k2)]) (pc := 60) hx hb dzM_health_60 hl (by decide) rfl (fun ls hl => ?_)
      refine lv_iload (pc := 62) hx hb dzM_health_62 (lv_at hl 0 rfl) ?_
      refine lv_iload_n (pc := 64) hx hb dzM_health_64 rfl (lv_at hl 5 rfl) ?_
      refine lv_icmp_gt (pc := 65) (tgt := 99) hx hb dzM_health_65 (by decide) (fun hq9 => absurd hq9 (by decide)) (fun _ => ?_)
      refine lv_iload_n (pc := 68) hx hb dzM_health_68 rfl (lv_at hl 6 rfl) ?_
      have K3 : ∀ (g4 : xk_St) (H : Heap) (locs : List Loc), (if k2 = 0 then (∃ (g3 : xk_St), relzM_disturb_2 g2 g3 ∧ (g4 = g3)) else (g4 = g2)) → (xk_cnt (B + 1) g4) → (va_P G xk_cls (xk_wM ad ac g4) H) → (va_D A (xk_wM ad ac g4)) → (va_S A s.heap H locs) → W p l e xk_r2 s m args below meth c H locs 0 0 Q (F0 m 93 ls []) := by
        intro g4 H locs R3 Ig4 hP hD hS
        refine lv_iinc (k := 0) (x := 2) (v := 3) (lv' := [(6, .int 3), (5, .int x1), (4, .int 3), (0, .ref (ad 0)), (1, .int 0), (2, .int 3), (3, .int k2)]) (pc := 93) hx hb dzM_health_93 hl rfl (by decide) (by decide) rfl (fun ls hl => ?_)
        refine lv_goto (tgt := 62) (pc := 96) hx hb dzM_health_96 (by decide) ?_
        refine lv_iload (pc := 62) hx hb dzM_health_62 (lv_at hl 0 rfl) ?_
        refine lv_iload_n (pc := 64) hx hb dzM_health_64 rfl (lv_at hl 5 rfl) ?_
        refine lv_icmp_gt (pc := 65) (tgt := 99) hx hb dzM_health_65 (by decide) (fun hq9 => absurd hq9 (by decide)) (fun _ => ?_)
        refine lv_iload_n (pc := 68) hx hb dzM_health_68 rfl (lv_at hl 6 rfl) ?_
        have K4 : W p l e xk_r2 s m args below meth c H locs 0 0 Q (F0 m 93 ls []) := by
          refine lv_iinc (k := 0) (x := 3) (v := 4) (lv' := [(6, .int 4), (5, .int x1), (4, .int 3), (0, .ref (ad 0)), (1, .int 0), (2, .int 3), (3, .int k2)]) (pc := 93) hx hb dzM_health_93 hl rfl (by decide) (by decide) rfl (fun ls hl => ?_)
          refine lv_goto (tgt := 62) (pc := 96) hx hb dzM_health_96 (by decide) ?_
          refine lv_iload (pc := 62) hx hb dzM_health_62 (lv_at hl 0 rfl) ?_
          refine lv_iload_n (pc := 64) hx hb dzM_health_64 rfl (lv_at hl 5 rfl) ?_
          refine lv_icmp_gt (pc := 65) (tgt := 99) hx hb dzM_health_65 (by decide) (fun _ => ?_) (fun hq9 => absurd (by decide) hq9)
          refine lv_iload (pc := 99) hx hb dzM_health_99 (lv_at hl 1 rfl) ?_
          exact hret _ g4 H locs 101 ls hP hS (xk_bn bx1) (by unfold relzM_health_0_3; exact ⟨r2, g1, hg1, ⟨x1, R1, ⟨x2, R2, ⟨g2, eg2, ⟨g4, R3, ⟨rfl, bx1, rfl⟩⟩⟩⟩⟩⟩) dzM_health_101
        refine lv_if_ne (pc := 69) (tgt := 93) hx hb dzM_health_69 (by decide) (fun h4 => ?_) (fun h4 => ?_)
        ·
          exact K4
        ·
          refine lv_iload (pc := 72) hx hb dzM_health_72 (lv_at hl 0 rfl) ?_
          refine lv_if_lt (pc := 74) (tgt := 93) hx hb dzM_health_74 (by decide) (fun hq9 => absurd hq9 (by decide)) (fun _ => ?_)
          refine lv_iload (pc := 77) hx hb dzM_health_77 (lv_at hl 0 rfl) ?_
          refine lv_iconst (v := 3) (pc := 79) hx hb dzM_health_79 (by decide) ?_
          refine lv_icmp_ge (pc := 80) (tgt := 93) hx hb dzM_health_80 (by decide) (fun _ => ?_) (fun hq9 => absurd (by decide) hq9)
          exact K4
      refine lv_if_ne (pc := 69) (tgt := 93) hx hb dzM_health_69 (by decide) (fun h3 => ?_) (fun h3 => ?_)
      ·
        exact K3 g2 H locs (Eq.mpr (if_neg h3) rfl) (xk_cnt_le Ig2 (by omega)) hP hD hS
      ·
        refine lv_iload (pc := 72) hx hb dzM_health_72 (lv_at hl 0 rfl) ?_
        refine lv_if_lt (pc := 74) (tgt := 93) hx hb dzM_health_74 (by decide) (fun hq9 => absurd hq9 (by decide)) (fun _ => ?_)
        refine lv_iload (pc := 77) hx hb dzM_health_77 (lv_at hl 0 rfl) ?_
        refine lv_iconst (v := 3) (pc := 79) hx hb dzM_health_79 (by decide) ?_
        refine lv_icmp_ge (pc := 80) (tgt := 93) hx hb dzM_health_80 (by decide) (fun hq9 => absurd hq9 (by decide)) (fun _ => ?_)
        refine lv_aload_n (pc := 83) hx hb dzM_health_83 rfl (lv_at hl 3 rfl) ?_
        refine lv_iconst (v := 3) (pc := 84) hx hb dzM_health_84 (by decide) ?_
        refine lv_iload_n (pc := 85) hx hb dzM_health_85 rfl (lv_at hl 4 rfl) ?_
        refine lv_imul (pc := 86) hx hb dzM_health_86 ?_
        refine xk_is (y := 0) (by decide) ?_
        refine lv_iload (pc := 87) hx hb dzM_health_87 (lv_at hl 0 rfl) ?_
        refine lv_iadd (pc := 89) hx hb dzM_health_89 ?_
        refine xk_is (y := 2) (by decide) ?_
        refine xk_allVV (As := [.int 2]) (rest := []) (H0 := s.heap) (pc := 90) hx hb hml hts hown hK hA hP hD hS (kzM_disturb_2 l G ac ad g2 (B + 0) Ig2 (by omega)) vfzM_118 (fun _ => rfl) 0 rfl rfl ⟨rfl, rfl⟩ ⟨Nat.le_of_ble_eq_true rfl, Nat.le_of_ble_eq_true rfl⟩ rfl hl.1 rfl (Nat.le_of_ble_eq_true rfl) ⟨Nat.zero_le _, Nat.zero_le _⟩ dzM_health_90 (fun g3 H locs hg3 hP hD hS => ?_)
        have hP : va_P G xk_cls (xk_wM ad ac g3) H := hP
        have hD : va_D A (xk_wM ad ac g3) := hD
        have Ig3 : xk_cnt (B + 1) g3 := xk_cnt_le (iczM_disturb_2 (B + 0) _ _ hg3 Ig2) (by omega)
        exact K3 g3 H locs (Eq.mpr (if_pos h3) ⟨g3, hg3, rfl⟩) (xk_cnt_le Ig3 (by omega)) hP hD hS
    refine lv_if_ne (pc := 48) (tgt := 55) hx hb dzM_health_48 (by decide) (fun h2 => ?_) (fun h2 => ?_)
    ·
      refine lv_iconst (v := 0) (pc := 55) hx hb dzM_health_55 (by decide) ?_
      exact K2 0 (Eq.mpr (if_neg h2) rfl) xk_b0
    ·
      refine lv_iconst (v := 1) (pc := 51) hx hb dzM_health_51 (by decide) ?_
      refine lv_goto (tgt := 56) (pc := 52) hx hb dzM_health_52 (by decide) ?_
      exact K2 1 (Eq.mpr (if_pos h2) rfl) xk_b1
  refine lv_icmp_ne (pc := 31) (tgt := 38) hx hb dzM_health_31 (by decide) (fun h1 => ?_) (fun h1 => ?_)
  ·
    refine lv_iconst (v := 0) (pc := 38) hx hb dzM_health_38 (by decide) ?_
    exact K1 0 (Eq.mpr (if_neg h1) rfl) xk_b0
  ·
    refine lv_iconst (v := 1) (pc := 34) hx hb dzM_health_34 (by decide) ?_
    refine lv_goto (tgt := 39) (pc := 35) hx hb dzM_health_35 (by decide) ?_
    exact K1 1 (Eq.mpr (if_pos h1) rfl) xk_b1
theorem frzM_health_0_3 (g0 : xk_St) (k2 : Int32) (rz : Int32) (gz : xk_St) : relzM_health_0_3 g0 k2 rz gz → xk_eqv [1, 3, 4, 6, 7, 8, 9, 10, 11, 12, 13, 14, 15, 16, 17, 18, 19, 20, 21, 22, 23, 24] g0 gz := by
  intro h
  unfold relzM_health_0_3 at h
  have s0 : xk_eqv [1, 3, 4, 6, 7, 8, 9, 10, 11, 12, 13, 14, 15, 16, 17, 18, 19, 20, 21, 22, 23, 24] g0 g0 := xk_eqv_rf
  obtain ⟨r2, g1, u1, v2⟩ := h
  have s3 : xk_eqv [1, 3, 4, 6, 7, 8, 9, 10, 11, 12, 13, 14, 15, 16, 17, 18, 19, 20, 21, 22, 23, 24] g0 g1 := xk_eqv_tr s0 (xk_eqv_sub (frzM_goes_111 _ _ _ u1) (by decide))
  obtain ⟨x1, u4, v5⟩ := v2
  obtain ⟨x2, u6, v7⟩ := v5
  obtain ⟨g2, u8, v9⟩ := v7
  have s10 : xk_eqv [1, 3, 4, 6, 7, 8, 9, 10, 11, 12, 13, 14, 15, 16, 17, 18, 19, 20, 21, 22, 23, 24] g0 g2 := by rw [u8]; repeat (first | exact s3 | refine xk_eqv_up (by decide) ?_)
  obtain ⟨g4, u11, v12⟩ := v9
  have s13 : xk_eqv [1, 3, 4, 6, 7, 8, 9, 10, 11, 12, 13, 14, 15, 16, 17, 18, 19, 20, 21, 22, 23, 24] g0 g4 := by
    by_cases hc : k2 = 0
    · rw [if_pos hc] at u11
      obtain ⟨g3, u14, v15⟩ := u11
      have s16 : xk_eqv [1, 3, 4, 6, 7, 8, 9, 10, 11, 12, 13, 14, 15, 16, 17, 18, 19, 20, 21, 22, 23, 24] g0 g3 := xk_eqv_tr s10 (xk_eqv_sub (frzM_disturb_2 _ _ u14) (by decide))
      rw [v15]; exact s16
    · rw [if_neg hc] at u11
      rw [u11]; exact s10
  rw [v12.2.2]; exact s13
theorem iczM_health_0_3 (B : Nat) (g0 : xk_St) (k2 : Int32) (rz : Int32) (gz : xk_St) : relzM_health_0_3 g0 k2 rz gz → xk_cnt B g0 → xk_cnt (B + 1) gz := by
  intro h Ig0
  unfold relzM_health_0_3 at h
  have Ig0 : xk_cnt (B + 0) g0 := Ig0
  obtain ⟨r2, g1, u1, v2⟩ := h
  have Ig1 : xk_cnt (B + 0) g1 := xk_cnt_le (iczM_goes_111 (B + 0) _ _ _ u1 Ig0) (by omega)
  obtain ⟨x1, u3, v4⟩ := v2
  obtain ⟨x2, u5, v6⟩ := v4
  obtain ⟨g2, u7, v8⟩ := v6
  have Ig2 : xk_cnt (B + 0) g2 := by rw [u7]; repeat (first | exact Ig1 | refine xk_cnt_k (by decide) ?_ | refine xk_cnt_f (by decide) ?_ | refine xk_cnt_s ?_)
  obtain ⟨g4, u9, v10⟩ := v8
  have Ig4 : xk_cnt (B + 1) g4 := by
    by_cases hc : k2 = 0
    · rw [if_pos hc] at u9
      obtain ⟨g3, u11, v12⟩ := u9
      have Ig3 : xk_cnt (B + 1) g3 := xk_cnt_le (iczM_disturb_2 (B + 0) _ _ u11 Ig2) (by omega)
      rw [v12]; exact xk_cnt_le Ig3 (by omega)
    · rw [if_neg hc] at u9
      rw [u9]; exact xk_cnt_le Ig2 (by omega)
  rw [v10.2.2]; exact xk_cnt_le Ig4 (by omega)

def relzM_health_1_0 (g0 : xk_St) (k2 : Int32) (rz : Int32) (gz : xk_St) : Prop := ∃ (r2 : Int32) (g1 : xk_St), relzM_goes_111 g0 r2 g1 ∧ (∃ (x1 : Int32), (if ((g1 2) 4) = k2 then (x1 = 1) else (x1 = 0)) ∧ (∃ (x2 : Int32), (if k2 = 0 then (x2 = 1) else (x2 = 0)) ∧ (∃ (g2 : xk_St), g2 = va_up g1 2 (upd (g1 2) 4 x2) ∧ (∃ (g4 : xk_St), (if k2 = 0 then (∃ (g3 : xk_St), relzM_disturb_3 g2 g3 ∧ (g4 = g3)) else (g4 = g2)) ∧ (rz = x1 ∧ xk_b rz ∧ gz = g4)))))
set_option maxHeartbeats 4000000 in
set_option maxRecDepth 100000 in
theorem kzM_health_1_0 (l : Launch) (G : va_G) (ac : Nat → ClassId) (ad : Nat → Nat) (g0 : xk_St) (k2 : Int32) (B : Nat) (hb2 : xk_b k2) (Ig0 : xk_cnt B g0) (hB : B + 2 < 2147483648) : xk_CI l yzM_health czM_health 7 .boolean xk_WS xk_r2 G xk_cls (xk_tys ac) [.ref (ad 0), .int 1, .int 0, .int k2] (xk_wM ad ac g0) (fun rz (gz : xk_St) => relzM_health_1_0 g0 k2 rz gz) (fun gz => xk_wM ad ac gz) := by
  refine xk_ofI (by decide) (Nat.le_of_ble_eq_true rfl) ?_
  intro p e s m args below meth c A Q H locs ls C0 hret hP hD hS hl
  obtain ⟨hx, hb, hml, hts, hown, hK, hA⟩ := C0
  have hl : lv_has ls 7 [(0, .ref (ad 0)), (1, .int 1), (2, .int 0), (3, .int k2)] := hl
  have Ig0 : xk_cnt (B + 0) g0 := Ig0
  refine lv_aload_n (pc := 0) hx hb dzM_health_0 rfl (lv_at hl 0 rfl) ?_
  refine lv_iload_n (pc := 1) hx hb dzM_health_1 rfl (lv_at hl 1 rfl) ?_
  refine lv_iload_n (pc := 2) hx hb dzM_health_2 rfl (lv_at hl 2 rfl) ?_
  refine xk_callSI (As := [.int 1, .int 0]) (rest := [.ref (ad 0)]) (H0 := s.heap) (pc := 3) hx hb hml hts hown hK hA hP hD hS (kzM_isHead l G ac 1 0) sfzM_110 [] (by decide) rfl (fun _ => rfl) ⟨rfl, rfl⟩ ⟨Nat.le_of_ble_eq_true rfl, Nat.le_of_ble_eq_true rfl⟩ rfl hl.1 rfl (Nat.le_of_ble_eq_true rfl) ⟨Nat.zero_le _, Nat.zero_le _⟩ dzM_health_3 (fun r1 u9 H locs e9 hP hD hS => ?_)
  obtain rfl : r1 = qzM_isHead 1 0 := e9
  refine xk_is (y := 1) (by decide) ?_
  have hP : va_P G xk_cls (xk_wM ad ac g0) H := hP
  have hD : va_D A (xk_wM ad ac g0) := hD
  refine lv_iconst (v := 1) (pc := 6) hx hb dzM_health_6 (by decide) ?_
  refine lv_iconst (v := 1) (pc := 7) hx hb dzM_health_7 (by decide) ?_
  refine xk_allVI (As := [.int 1, .int 1, .int 1]) (rest := []) (H0 := s.heap) (pc := 8) hx hb hml hts hown hK hA hP hD hS (kzM_goes_111 l G ac ad g0 (B + 0) Ig0 (by omega)) vfzM_114 (fun _ => rfl) 0 rfl rfl ⟨rfl, rfl⟩ ⟨Nat.le_of_ble_eq_true rfl, Nat.le_of_ble_eq_true rfl⟩ rfl hl.1 rfl (Nat.le_of_ble_eq_true rfl) ⟨Nat.zero_le _, Nat.zero_le _⟩ dzM_health_8 (fun r2 g1 H locs hg1 hP hD hS => ?_)
  have qr2 : r2 = 1 := rczM_goes_111 _ _ _ hg1
  refine xk_is (y := 1) qr2 ?_
  have hP : va_P G xk_cls (xk_wM ad ac g1) H := hP
  have hD : va_D A (xk_wM ad ac g1) := hD
  have Ig1 : xk_cnt (B + 0) g1 := xk_cnt_le (iczM_goes_111 (B + 0) _ _ _ hg1 Ig0) (by omega)
  refine lv_if_ne (pc := 11) (tgt := 16) hx hb dzM_health_11 (by decide) (fun _ => ?_) (fun hq9 => absurd hq9 (by decide))
  refine lv_iconst (v := 4) (pc := 16) hx hb dzM_health_16 (by decide) ?_
  refine lv_iload_n (pc := 17) hx hb dzM_health_17 rfl (lv_at hl 1 rfl) ?_
  refine lv_imul (pc := 18) hx hb dzM_health_18 ?_
  refine xk_is (y := 4) (by decide) ?_
  refine lv_iload_n (pc := 19) hx hb dzM_health_19 rfl (lv_at hl 2 rfl) ?_
  refine lv_iadd (pc := 20) hx hb dzM_health_20 ?_
  refine xk_is (y := 4) (by decide) ?_
  refine lv_istore (lv' := [(4, .int 4), (0, .ref (ad 0)), (1, .int 1), (2, .int 0), (3, .int k2)]) (pc := 21) hx hb dzM_health_21 hl (by decide) rfl (fun ls hl => ?_)
  refine lv_aload_n (pc := 23) hx hb dzM_health_23 rfl (lv_at hl 1 rfl) ?_
  refine xk_get (pc := 24) hx hb hts hown hK hP ffzM_13 0 rfl rfl dzM_health_24 ?_
  refine lv_iload (pc := 27) hx hb dzM_health_27 (lv_at hl 0 rfl) ?_
  refine xk_zald (q0 := 2) (t0 := 1) (j := 4) (pc := 29) hx hb hK hP rfl rfl (pk_in 4 8 (by decide)) (pk_cl 4) dzM_health_29 ?_
  refine lv_iload_n (pc := 30) hx hb dzM_health_30 rfl (lv_at hl 4 rfl) ?_
  have K1 : ∀ (x1 : Int32), (if ((g1 2) 4) = k2 then (x1 = 1) else (x1 = 0)) → (xk_b x1) → W p l e xk_r2 s m args below meth c H locs 0 0 Q (F0 m 39 ls [.int x1]) := by
    intro x1 R1 bx1
    refine lv_istore (lv' := [(5, .int x1), (4, .int 4), (0, .ref (ad 0)), (1, .int 1), (2, .int 0), (3, .int k2)]) (pc := 39) hx hb dzM_health_39 hl (by decide) rfl (fun ls hl => ?_)
    refine lv_aload_n (pc := 41) hx hb dzM_health_41 rfl (lv_at hl 2 rfl) ?_
    refine xk_get (pc := 42) hx hb hts hown hK hP ffzM_13 0 rfl rfl dzM_health_42 ?_
    refine lv_iload (pc := 45) hx hb dzM_health_45 (lv_at hl 1 rfl) ?_
    refine lv_iload_n (pc := 47) hx hb dzM_health_47 rfl (lv_at hl 5 rfl) ?_
    have K2 : ∀ (x2 : Int32), (if k2 = 0 then (x2 = 1) else (x2 = 0)) → (xk_b x2) → W p l e xk_r2 s m args below meth c H locs 0 0 Q (F0 m 56 ls [.int x2, .int 4, .ref (ad 2)]) := by
      intro x2 R2 bx2
      refine xk_zast (q0 := 2) (t0 := 1) (j := 4) (pc := 56) hx hb hK hP hD hS rfl rfl (pk_in 4 8 (by decide)) (pk_cl 4) bx2 dzM_health_56 (fun H locs hP hD hS => ?_)
      obtain ⟨g2, eg2⟩ : ∃ z : xk_St, z = va_up g1 2 (upd (g1 2) 4 x2) := ⟨_, rfl⟩
      have hP : va_P G xk_cls (xk_wM ad ac g2) H := by rw [eg2]; exact hP
      have hD : va_D A (xk_wM ad ac g2) := by rw [eg2]; exact hD
      have Ig2 : xk_cnt (B + 0) g2 := by rw [eg2]; repeat (first | exact Ig1 | refine xk_cnt_k (by decide) ?_ | refine xk_cnt_f (by decide) ?_ | refine xk_cnt_s ?_)
      refine lv_iload_n (pc := 57) hx hb dzM_health_57 rfl (lv_at hl 4 rfl) ?_
      refine lv_iconst (v := 1) (pc := 58) hx hb dzM_health_58 (by decide) ?_
      refine lv_isub (pc := 59) hx hb dzM_health_59 ?_
      refine xk_is (y := (-1)) (by decide) ?_
      refine lv_istore (lv' := [(6, .int (-1)), (5, .int x1), (4, .int 4), (0, .ref (ad 0)), (1, .int 1), (2, .int 0), (3, .int k2)]) (pc := 60) hx hb dzM_health_60 hl (by decide) rfl (fun ls hl => ?_)
      refine lv_iload (pc := 62) hx hb dzM_health_62 (lv_at hl 0 rfl) ?_
      refine lv_iload_n (pc := 64) hx hb dzM_health_64 rfl (lv_at hl 5 rfl) ?_
      refine lv_icmp_gt (pc := 65) (tgt := 99) hx hb dzM_health_65 (by decide) (fun hq9 => absurd hq9 (by decide)) (fun _ => ?_)
      refine lv_iload_n (pc := 68) hx hb dzM_health_68 rfl (lv_at hl 6 rfl) ?_
      have K3 : W p l e xk_r2 s m args below meth c H locs 0 0 Q (F0 m 93 ls []) := by
        refine lv_iinc (k := 0) (x := (-1)) (v := 0) (lv' := [(6, .int 0), (5, .int x1), (4, .int 4), (0, .ref (ad 0)), (1, .int 1), (2, .int 0), (3, .int k2)]) (pc := 93) hx hb dzM_health_93 hl rfl (by decide) (by decide) rfl (fun ls hl => ?_)
        refine lv_goto (tgt := 62) (pc := 96) hx hb dzM_health_96 (by decide) ?_
        refine lv_iload (pc := 62) hx hb dzM_health_62 (lv_at hl 0 rfl) ?_
        refine lv_iload_n (pc := 64) hx hb dzM_health_64 rfl (lv_at hl 5 rfl) ?_
        refine lv_icmp_gt (pc := 65) (tgt := 99) hx hb dzM_health_65 (by decide) (fun hq9 => absurd hq9 (by decide)) (fun _ => ?_)
        refine lv_iload_n (pc := 68) hx hb dzM_health_68 rfl (lv_at hl 6 rfl) ?_
        have K4 : ∀ (g4 : xk_St) (H : Heap) (locs : List Loc), (if k2 = 0 then (∃ (g3 : xk_St), relzM_disturb_3 g2 g3 ∧ (g4 = g3)) else (g4 = g2)) → (xk_cnt (B + 1) g4) → (va_P G xk_cls (xk_wM ad ac g4) H) → (va_D A (xk_wM ad ac g4)) → (va_S A s.heap H locs) → W p l e xk_r2 s m args below meth c H locs 0 0 Q (F0 m 93 ls []) := by
          intro g4 H locs R3 Ig4 hP hD hS
          refine lv_iinc (k := 0) (x := 0) (v := 1) (lv' := [(6, .int 1), (5, .int x1), (4, .int 4), (0, .ref (ad 0)), (1, .int 1), (2, .int 0), (3, .int k2)]) (pc := 93) hx hb dzM_health_93 hl rfl (by decide) (by decide) rfl (fun ls hl => ?_)
          refine lv_goto (tgt := 62) (pc := 96) hx hb dzM_health_96 (by decide) ?_
          refine lv_iload (pc := 62) hx hb dzM_health_62 (lv_at hl 0 rfl) ?_
          refine lv_iload_n (pc := 64) hx hb dzM_health_64 rfl (lv_at hl 5 rfl) ?_
          refine lv_icmp_gt (pc := 65) (tgt := 99) hx hb dzM_health_65 (by decide) (fun _ => ?_) (fun hq9 => absurd (by decide) hq9)
          refine lv_iload (pc := 99) hx hb dzM_health_99 (lv_at hl 1 rfl) ?_
          exact hret _ g4 H locs 101 ls hP hS (xk_bn bx1) (by unfold relzM_health_1_0; exact ⟨r2, g1, hg1, ⟨x1, R1, ⟨x2, R2, ⟨g2, eg2, ⟨g4, R3, ⟨rfl, bx1, rfl⟩⟩⟩⟩⟩⟩) dzM_health_101
        refine lv_if_ne (pc := 69) (tgt := 93) hx hb dzM_health_69 (by decide) (fun h4 => ?_) (fun h4 => ?_)
        ·
          exact K4 g2 H locs (Eq.mpr (if_neg h4) rfl) (xk_cnt_le Ig2 (by omega)) hP hD hS
        ·
          refine lv_iload (pc := 72) hx hb dzM_health_72 (lv_at hl 0 rfl) ?_
          refine lv_if_lt (pc := 74) (tgt := 93) hx hb dzM_health_74 (by decide) (fun hq9 => absurd hq9 (by decide)) (fun _ => ?_)
          refine lv_iload (pc := 77) hx hb dzM_health_77 (lv_at hl 0 rfl) ?_
          refine lv_iconst (v := 3) (pc := 79) hx hb dzM_health_79 (by decide) ?_
          refine lv_icmp_ge (pc := 80) (tgt := 93) hx hb dzM_health_80 (by decide) (fun hq9 => absurd hq9 (by decide)) (fun _ => ?_)
          refine lv_aload_n (pc := 83) hx hb dzM_health_83 rfl (lv_at hl 3 rfl) ?_
          refine lv_iconst (v := 3) (pc := 84) hx hb dzM_health_84 (by decide) ?_
          refine lv_iload_n (pc := 85) hx hb dzM_health_85 rfl (lv_at hl 4 rfl) ?_
          refine lv_imul (pc := 86) hx hb dzM_health_86 ?_
          refine xk_is (y := 3) (by decide) ?_
          refine lv_iload (pc := 87) hx hb dzM_health_87 (lv_at hl 0 rfl) ?_
          refine lv_iadd (pc := 89) hx hb dzM_health_89 ?_
          refine xk_is (y := 3) (by decide) ?_
          refine xk_allVV (As := [.int 3]) (rest := []) (H0 := s.heap) (pc := 90) hx hb hml hts hown hK hA hP hD hS (kzM_disturb_3 l G ac ad g2 (B + 0) Ig2 (by omega)) vfzM_118 (fun _ => rfl) 0 rfl rfl ⟨rfl, rfl⟩ ⟨Nat.le_of_ble_eq_true rfl, Nat.le_of_ble_eq_true rfl⟩ rfl hl.1 rfl (Nat.le_of_ble_eq_true rfl) ⟨Nat.zero_le _, Nat.zero_le _⟩ dzM_health_90 (fun g3 H locs hg3 hP hD hS => ?_)
          have hP : va_P G xk_cls (xk_wM ad ac g3) H := hP
          have hD : va_D A (xk_wM ad ac g3) := hD
          have Ig3 : xk_cnt (B + 1) g3 := xk_cnt_le (iczM_disturb_3 (B + 0) _ _ hg3 Ig2) (by omega)
          exact K4 g3 H locs (Eq.mpr (if_pos h4) ⟨g3, hg3, rfl⟩) (xk_cnt_le Ig3 (by omega)) hP hD hS
      refine lv_if_ne (pc := 69) (tgt := 93) hx hb dzM_health_69 (by decide) (fun h3 => ?_) (fun h3 => ?_)
      ·
        exact K3
      ·
        refine lv_iload (pc := 72) hx hb dzM_health_72 (lv_at hl 0 rfl) ?_
        refine lv_if_lt (pc := 74) (tgt := 93) hx hb dzM_health_74 (by decide) (fun _ => ?_) (fun hq9 => absurd (by decide) hq9)
        exact K3
    refine lv_if_ne (pc := 48) (tgt := 55) hx hb dzM_health_48 (by decide) (fun h2 => ?_) (fun h2 => ?_)
    ·
      refine lv_iconst (v := 0) (pc := 55) hx hb dzM_health_55 (by decide) ?_
      exact K2 0 (Eq.mpr (if_neg h2) rfl) xk_b0
    ·
      refine lv_iconst (v := 1) (pc := 51) hx hb dzM_health_51 (by decide) ?_
      refine lv_goto (tgt := 56) (pc := 52) hx hb dzM_health_52 (by decide) ?_
      exact K2 1 (Eq.mpr (if_pos h2) rfl) xk_b1
  refine lv_icmp_ne (pc := 31) (tgt := 38) hx hb dzM_health_31 (by decide) (fun h1 => ?_) (fun h1 => ?_)
  ·
    refine lv_iconst (v := 0) (pc := 38) hx hb dzM_health_38 (by decide) ?_
    exact K1 0 (Eq.mpr (if_neg h1) rfl) xk_b0
  ·
    refine lv_iconst (v := 1) (pc := 34) hx hb dzM_health_34 (by decide) ?_
    refine lv_goto (tgt := 39) (pc := 35) hx hb dzM_health_35 (by decide) ?_
    exact K1 1 (Eq.mpr (if_pos h1) rfl) xk_b1
theorem frzM_health_1_0 (g0 : xk_St) (k2 : Int32) (rz : Int32) (gz : xk_St) : relzM_health_1_0 g0 k2 rz gz → xk_eqv [1, 3, 4, 6, 7, 8, 9, 10, 11, 12, 13, 14, 15, 16, 17, 18, 19, 20, 21, 22, 23, 24] g0 gz := by
  intro h
  unfold relzM_health_1_0 at h
  have s0 : xk_eqv [1, 3, 4, 6, 7, 8, 9, 10, 11, 12, 13, 14, 15, 16, 17, 18, 19, 20, 21, 22, 23, 24] g0 g0 := xk_eqv_rf
  obtain ⟨r2, g1, u1, v2⟩ := h
  have s3 : xk_eqv [1, 3, 4, 6, 7, 8, 9, 10, 11, 12, 13, 14, 15, 16, 17, 18, 19, 20, 21, 22, 23, 24] g0 g1 := xk_eqv_tr s0 (xk_eqv_sub (frzM_goes_111 _ _ _ u1) (by decide))
  obtain ⟨x1, u4, v5⟩ := v2
  obtain ⟨x2, u6, v7⟩ := v5
  obtain ⟨g2, u8, v9⟩ := v7
  have s10 : xk_eqv [1, 3, 4, 6, 7, 8, 9, 10, 11, 12, 13, 14, 15, 16, 17, 18, 19, 20, 21, 22, 23, 24] g0 g2 := by rw [u8]; repeat (first | exact s3 | refine xk_eqv_up (by decide) ?_)
  obtain ⟨g4, u11, v12⟩ := v9
  have s13 : xk_eqv [1, 3, 4, 6, 7, 8, 9, 10, 11, 12, 13, 14, 15, 16, 17, 18, 19, 20, 21, 22, 23, 24] g0 g4 := by
    by_cases hc : k2 = 0
    · rw [if_pos hc] at u11
      obtain ⟨g3, u14, v15⟩ := u11
      have s16 : xk_eqv [1, 3, 4, 6, 7, 8, 9, 10, 11, 12, 13, 14, 15, 16, 17, 18, 19, 20, 21, 22, 23, 24] g0 g3 := xk_eqv_tr s10 (xk_eqv_sub (frzM_disturb_3 _ _ u14) (by decide))
      rw [v15]; exact s16
    · rw [if_neg hc] at u11
      rw [u11]; exact s10
  rw [v12.2.2]; exact s13
theorem iczM_health_1_0 (B : Nat) (g0 : xk_St) (k2 : Int32) (rz : Int32) (gz : xk_St) : relzM_health_1_0 g0 k2 rz gz → xk_cnt B g0 → xk_cnt (B + 1) gz := by
  intro h Ig0
  unfold relzM_health_1_0 at h
  have Ig0 : xk_cnt (B + 0) g0 := Ig0
  obtain ⟨r2, g1, u1, v2⟩ := h
  have Ig1 : xk_cnt (B + 0) g1 := xk_cnt_le (iczM_goes_111 (B + 0) _ _ _ u1 Ig0) (by omega)
  obtain ⟨x1, u3, v4⟩ := v2
  obtain ⟨x2, u5, v6⟩ := v4
  obtain ⟨g2, u7, v8⟩ := v6
  have Ig2 : xk_cnt (B + 0) g2 := by rw [u7]; repeat (first | exact Ig1 | refine xk_cnt_k (by decide) ?_ | refine xk_cnt_f (by decide) ?_ | refine xk_cnt_s ?_)
  obtain ⟨g4, u9, v10⟩ := v8
  have Ig4 : xk_cnt (B + 1) g4 := by
    by_cases hc : k2 = 0
    · rw [if_pos hc] at u9
      obtain ⟨g3, u11, v12⟩ := u9
      have Ig3 : xk_cnt (B + 1) g3 := xk_cnt_le (iczM_disturb_3 (B + 0) _ _ u11 Ig2) (by omega)
      rw [v12]; exact xk_cnt_le Ig3 (by omega)
    · rw [if_neg hc] at u9
      rw [u9]; exact xk_cnt_le Ig2 (by omega)
  rw [v10.2.2]; exact xk_cnt_le Ig4 (by omega)

def relzM_health_1_1 (g0 : xk_St) (k2 : Int32) (rz : Int32) (gz : xk_St) : Prop := ∃ (r2 : Int32) (g1 : xk_St), relzM_goes_111 g0 r2 g1 ∧ (∃ (x1 : Int32), (if ((g1 2) 5) = k2 then (x1 = 1) else (x1 = 0)) ∧ (∃ (x2 : Int32), (if k2 = 0 then (x2 = 1) else (x2 = 0)) ∧ (∃ (g2 : xk_St), g2 = va_up g1 2 (upd (g1 2) 5 x2) ∧ (∃ (g4 : xk_St), (if k2 = 0 then (∃ (g3 : xk_St), relzM_disturb_3 g2 g3 ∧ (g4 = g3)) else (g4 = g2)) ∧ (∃ (g6 : xk_St), (if k2 = 0 then (∃ (g5 : xk_St), relzM_disturb_4 g4 g5 ∧ (g6 = g5)) else (g6 = g4)) ∧ (rz = x1 ∧ xk_b rz ∧ gz = g6))))))
set_option maxHeartbeats 4000000 in
set_option maxRecDepth 100000 in
theorem kzM_health_1_1 (l : Launch) (G : va_G) (ac : Nat → ClassId) (ad : Nat → Nat) (g0 : xk_St) (k2 : Int32) (B : Nat) (hb2 : xk_b k2) (Ig0 : xk_cnt B g0) (hB : B + 3 < 2147483648) : xk_CI l yzM_health czM_health 7 .boolean xk_WS xk_r2 G xk_cls (xk_tys ac) [.ref (ad 0), .int 1, .int 1, .int k2] (xk_wM ad ac g0) (fun rz (gz : xk_St) => relzM_health_1_1 g0 k2 rz gz) (fun gz => xk_wM ad ac gz) := by
  refine xk_ofI (by decide) (Nat.le_of_ble_eq_true rfl) ?_
  intro p e s m args below meth c A Q H locs ls C0 hret hP hD hS hl
  obtain ⟨hx, hb, hml, hts, hown, hK, hA⟩ := C0
  have hl : lv_has ls 7 [(0, .ref (ad 0)), (1, .int 1), (2, .int 1), (3, .int k2)] := hl
  have Ig0 : xk_cnt (B + 0) g0 := Ig0
  refine lv_aload_n (pc := 0) hx hb dzM_health_0 rfl (lv_at hl 0 rfl) ?_
  refine lv_iload_n (pc := 1) hx hb dzM_health_1 rfl (lv_at hl 1 rfl) ?_
  refine lv_iload_n (pc := 2) hx hb dzM_health_2 rfl (lv_at hl 2 rfl) ?_
  refine xk_callSI (As := [.int 1, .int 1]) (rest := [.ref (ad 0)]) (H0 := s.heap) (pc := 3) hx hb hml hts hown hK hA hP hD hS (kzM_isHead l G ac 1 1) sfzM_110 [] (by decide) rfl (fun _ => rfl) ⟨rfl, rfl⟩ ⟨Nat.le_of_ble_eq_true rfl, Nat.le_of_ble_eq_true rfl⟩ rfl hl.1 rfl (Nat.le_of_ble_eq_true rfl) ⟨Nat.zero_le _, Nat.zero_le _⟩ dzM_health_3 (fun r1 u9 H locs e9 hP hD hS => ?_)
  obtain rfl : r1 = qzM_isHead 1 1 := e9
  refine xk_is (y := 1) (by decide) ?_
  have hP : va_P G xk_cls (xk_wM ad ac g0) H := hP
  have hD : va_D A (xk_wM ad ac g0) := hD
  refine lv_iconst (v := 1) (pc := 6) hx hb dzM_health_6 (by decide) ?_
  refine lv_iconst (v := 1) (pc := 7) hx hb dzM_health_7 (by decide) ?_
  refine xk_allVI (As := [.int 1, .int 1, .int 1]) (rest := []) (H0 := s.heap) (pc := 8) hx hb hml hts hown hK hA hP hD hS (kzM_goes_111 l G ac ad g0 (B + 0) Ig0 (by omega)) vfzM_114 (fun _ => rfl) 0 rfl rfl ⟨rfl, rfl⟩ ⟨Nat.le_of_ble_eq_true rfl, Nat.le_of_ble_eq_true rfl⟩ rfl hl.1 rfl (Nat.le_of_ble_eq_true rfl) ⟨Nat.zero_le _, Nat.zero_le _⟩ dzM_health_8 (fun r2 g1 H locs hg1 hP hD hS => ?_)
  have qr2 : r2 = 1 := rczM_goes_111 _ _ _ hg1
  refine xk_is (y := 1) qr2 ?_
  have hP : va_P G xk_cls (xk_wM ad ac g1) H := hP
  have hD : va_D A (xk_wM ad ac g1) := hD
  have Ig1 : xk_cnt (B + 0) g1 := xk_cnt_le (iczM_goes_111 (B + 0) _ _ _ hg1 Ig0) (by omega)
  refine lv_if_ne (pc := 11) (tgt := 16) hx hb dzM_health_11 (by decide) (fun _ => ?_) (fun hq9 => absurd hq9 (by decide))
  refine lv_iconst (v := 4) (pc := 16) hx hb dzM_health_16 (by decide) ?_
  refine lv_iload_n (pc := 17) hx hb dzM_health_17 rfl (lv_at hl 1 rfl) ?_
  refine lv_imul (pc := 18) hx hb dzM_health_18 ?_
  refine xk_is (y := 4) (by decide) ?_
  refine lv_iload_n (pc := 19) hx hb dzM_health_19 rfl (lv_at hl 2 rfl) ?_
  refine lv_iadd (pc := 20) hx hb dzM_health_20 ?_
  refine xk_is (y := 5) (by decide) ?_
  refine lv_istore (lv' := [(4, .int 5), (0, .ref (ad 0)), (1, .int 1), (2, .int 1), (3, .int k2)]) (pc := 21) hx hb dzM_health_21 hl (by decide) rfl (fun ls hl => ?_)
  refine lv_aload_n (pc := 23) hx hb dzM_health_23 rfl (lv_at hl 1 rfl) ?_
  refine xk_get (pc := 24) hx hb hts hown hK hP ffzM_13 0 rfl rfl dzM_health_24 ?_
  refine lv_iload (pc := 27) hx hb dzM_health_27 (lv_at hl 0 rfl) ?_
  refine xk_zald (q0 := 2) (t0 := 1) (j := 5) (pc := 29) hx hb hK hP rfl rfl (pk_in 5 8 (by decide)) (pk_cl 5) dzM_health_29 ?_
  refine lv_iload_n (pc := 30) hx hb dzM_health_30 rfl (lv_at hl 4 rfl) ?_
  have K1 : ∀ (x1 : Int32), (if ((g1 2) 5) = k2 then (x1 = 1) else (x1 = 0)) → (xk_b x1) → W p l e xk_r2 s m args below meth c H locs 0 0 Q (F0 m 39 ls [.int x1]) := by
    intro x1 R1 bx1
    refine lv_istore (lv' := [(5, .int x1), (4, .int 5), (0, .ref (ad 0)), (1, .int 1), (2, .int 1), (3, .int k2)]) (pc := 39) hx hb dzM_health_39 hl (by decide) rfl (fun ls hl => ?_)
    refine lv_aload_n (pc := 41) hx hb dzM_health_41 rfl (lv_at hl 2 rfl) ?_
    refine xk_get (pc := 42) hx hb hts hown hK hP ffzM_13 0 rfl rfl dzM_health_42 ?_
    refine lv_iload (pc := 45) hx hb dzM_health_45 (lv_at hl 1 rfl) ?_
    refine lv_iload_n (pc := 47) hx hb dzM_health_47 rfl (lv_at hl 5 rfl) ?_
    have K2 : ∀ (x2 : Int32), (if k2 = 0 then (x2 = 1) else (x2 = 0)) → (xk_b x2) → W p l e xk_r2 s m args below meth c H locs 0 0 Q (F0 m 56 ls [.int x2, .int 5, .ref (ad 2)]) := by
      intro x2 R2 bx2
      refine xk_zast (q0 := 2) (t0 := 1) (j := 5) (pc := 56) hx hb hK hP hD hS rfl rfl (pk_in 5 8 (by decide)) (pk_cl 5) bx2 dzM_health_56 (fun H locs hP hD hS => ?_)
      obtain ⟨g2, eg2⟩ : ∃ z : xk_St, z = va_up g1 2 (upd (g1 2) 5 x2) := ⟨_, rfl⟩
      have hP : va_P G xk_cls (xk_wM ad ac g2) H := by rw [eg2]; exact hP
      have hD : va_D A (xk_wM ad ac g2) := by rw [eg2]; exact hD
      have Ig2 : xk_cnt (B + 0) g2 := by rw [eg2]; repeat (first | exact Ig1 | refine xk_cnt_k (by decide) ?_ | refine xk_cnt_f (by decide) ?_ | refine xk_cnt_s ?_)
      refine lv_iload_n (pc := 57) hx hb dzM_health_57 rfl (lv_at hl 4 rfl) ?_
      refine lv_iconst (v := 1) (pc := 58) hx hb dzM_health_58 (by decide) ?_
      refine lv_isub (pc := 59) hx hb dzM_health_59 ?_
      refine xk_is (y := 0) (by decide) ?_
      refine lv_istore (lv' := [(6, .int 0), (5, .int x1), (4, .int 5), (0, .ref (ad 0)), (1, .int 1), (2, .int 1), (3, .int k2)]) (pc := 60) hx hb dzM_health_60 hl (by decide) rfl (fun ls hl => ?_)
      refine lv_iload (pc := 62) hx hb dzM_health_62 (lv_at hl 0 rfl) ?_
      refine lv_iload_n (pc := 64) hx hb dzM_health_64 rfl (lv_at hl 5 rfl) ?_
      refine lv_icmp_gt (pc := 65) (tgt := 99) hx hb dzM_health_65 (by decide) (fun hq9 => absurd hq9 (by decide)) (fun _ => ?_)
      refine lv_iload_n (pc := 68) hx hb dzM_health_68 rfl (lv_at hl 6 rfl) ?_
      have K3 : ∀ (g4 : xk_St) (H : Heap) (locs : List Loc), (if k2 = 0 then (∃ (g3 : xk_St), relzM_disturb_3 g2 g3 ∧ (g4 = g3)) else (g4 = g2)) → (xk_cnt (B + 1) g4) → (va_P G xk_cls (xk_wM ad ac g4) H) → (va_D A (xk_wM ad ac g4)) → (va_S A s.heap H locs) → W p l e xk_r2 s m args below meth c H locs 0 0 Q (F0 m 93 ls []) := by
        intro g4 H locs R3 Ig4 hP hD hS
        refine lv_iinc (k := 0) (x := 0) (v := 1) (lv' := [(6, .int 1), (5, .int x1), (4, .int 5), (0, .ref (ad 0)), (1, .int 1), (2, .int 1), (3, .int k2)]) (pc := 93) hx hb dzM_health_93 hl rfl (by decide) (by decide) rfl (fun ls hl => ?_)
        refine lv_goto (tgt := 62) (pc := 96) hx hb dzM_health_96 (by decide) ?_
        refine lv_iload (pc := 62) hx hb dzM_health_62 (lv_at hl 0 rfl) ?_
        refine lv_iload_n (pc := 64) hx hb dzM_health_64 rfl (lv_at hl 5 rfl) ?_
        refine lv_icmp_gt (pc := 65) (tgt := 99) hx hb dzM_health_65 (by decide) (fun hq9 => absurd hq9 (by decide)) (fun _ => ?_)
        refine lv_iload_n (pc := 68) hx hb dzM_health_68 rfl (lv_at hl 6 rfl) ?_
        have K4 : ∀ (g6 : xk_St) (H : Heap) (locs : List Loc), (if k2 = 0 then (∃ (g5 : xk_St), relzM_disturb_4 g4 g5 ∧ (g6 = g5)) else (g6 = g4)) → (xk_cnt (B + 2) g6) → (va_P G xk_cls (xk_wM ad ac g6) H) → (va_D A (xk_wM ad ac g6)) → (va_S A s.heap H locs) → W p l e xk_r2 s m args below meth c H locs 0 0 Q (F0 m 93 ls []) := by
          intro g6 H locs R4 Ig6 hP hD hS
          refine lv_iinc (k := 0) (x := 1) (v := 2) (lv' := [(6, .int 2), (5, .int x1), (4, .int 5), (0, .ref (ad 0)), (1, .int 1), (2, .int 1), (3, .int k2)]) (pc := 93) hx hb dzM_health_93 hl rfl (by decide) (by decide) rfl (fun ls hl => ?_)
          refine lv_goto (tgt := 62) (pc := 96) hx hb dzM_health_96 (by decide) ?_
          refine lv_iload (pc := 62) hx hb dzM_health_62 (lv_at hl 0 rfl) ?_
          refine lv_iload_n (pc := 64) hx hb dzM_health_64 rfl (lv_at hl 5 rfl) ?_
          refine lv_icmp_gt (pc := 65) (tgt := 99) hx hb dzM_health_65 (by decide) (fun _ => ?_) (fun hq9 => absurd (by decide) hq9)
          refine lv_iload (pc := 99) hx hb dzM_health_99 (lv_at hl 1 rfl) ?_
          exact hret _ g6 H locs 101 ls hP hS (xk_bn bx1) (by unfold relzM_health_1_1; exact ⟨r2, g1, hg1, ⟨x1, R1, ⟨x2, R2, ⟨g2, eg2, ⟨g4, R3, ⟨g6, R4, ⟨rfl, bx1, rfl⟩⟩⟩⟩⟩⟩⟩) dzM_health_101
        refine lv_if_ne (pc := 69) (tgt := 93) hx hb dzM_health_69 (by decide) (fun h4 => ?_) (fun h4 => ?_)
        ·
          exact K4 g4 H locs (Eq.mpr (if_neg h4) rfl) (xk_cnt_le Ig4 (by omega)) hP hD hS
        ·
          refine lv_iload (pc := 72) hx hb dzM_health_72 (lv_at hl 0 rfl) ?_
          refine lv_if_lt (pc := 74) (tgt := 93) hx hb dzM_health_74 (by decide) (fun hq9 => absurd hq9 (by decide)) (fun _ => ?_)
          refine lv_iload (pc := 77) hx hb dzM_health_77 (lv_at hl 0 rfl) ?_
          refine lv_iconst (v := 3) (pc := 79) hx hb dzM_health_79 (by decide) ?_
          refine lv_icmp_ge (pc := 80) (tgt := 93) hx hb dzM_health_80 (by decide) (fun hq9 => absurd hq9 (by decide)) (fun _ => ?_)
          refine lv_aload_n (pc := 83) hx hb dzM_health_83 rfl (lv_at hl 3 rfl) ?_
          refine lv_iconst (v := 3) (pc := 84) hx hb dzM_health_84 (by decide) ?_
          refine lv_iload_n (pc := 85) hx hb dzM_health_85 rfl (lv_at hl 4 rfl) ?_
          refine lv_imul (pc := 86) hx hb dzM_health_86 ?_
          refine xk_is (y := 3) (by decide) ?_
          refine lv_iload (pc := 87) hx hb dzM_health_87 (lv_at hl 0 rfl) ?_
          refine lv_iadd (pc := 89) hx hb dzM_health_89 ?_
          refine xk_is (y := 4) (by decide) ?_
          refine xk_allVV (As := [.int 4]) (rest := []) (H0 := s.heap) (pc := 90) hx hb hml hts hown hK hA hP hD hS (kzM_disturb_4 l G ac ad g4 (B + 1) Ig4 (by omega)) vfzM_118 (fun _ => rfl) 0 rfl rfl ⟨rfl, rfl⟩ ⟨Nat.le_of_ble_eq_true rfl, Nat.le_of_ble_eq_true rfl⟩ rfl hl.1 rfl (Nat.le_of_ble_eq_true rfl) ⟨Nat.zero_le _, Nat.zero_le _⟩ dzM_health_90 (fun g5 H locs hg5 hP hD hS => ?_)
          have hP : va_P G xk_cls (xk_wM ad ac g5) H := hP
          have hD : va_D A (xk_wM ad ac g5) := hD
          have Ig5 : xk_cnt (B + 2) g5 := xk_cnt_le (iczM_disturb_4 (B + 1) _ _ hg5 Ig4) (by omega)
          exact K4 g5 H locs (Eq.mpr (if_pos h4) ⟨g5, hg5, rfl⟩) (xk_cnt_le Ig5 (by omega)) hP hD hS
      refine lv_if_ne (pc := 69) (tgt := 93) hx hb dzM_health_69 (by decide) (fun h3 => ?_) (fun h3 => ?_)
      ·
        exact K3 g2 H locs (Eq.mpr (if_neg h3) rfl) (xk_cnt_le Ig2 (by omega)) hP hD hS
      ·
        refine lv_iload (pc := 72) hx hb dzM_health_72 (lv_at hl 0 rfl) ?_
        refine lv_if_lt (pc := 74) (tgt := 93) hx hb dzM_health_74 (by decide) (fun hq9 => absurd hq9 (by decide)) (fun _ => ?_)
        refine lv_iload (pc := 77) hx hb dzM_health_77 (lv_at hl 0 rfl) ?_
        refine lv_iconst (v := 3) (pc := 79) hx hb dzM_health_79 (by decide) ?_
        refine lv_icmp_ge (pc := 80) (tgt := 93) hx hb dzM_health_80 (by decide) (fun hq9 => absurd hq9 (by decide)) (fun _ => ?_)
        refine lv_aload_n (pc := 83) hx hb dzM_health_83 rfl (lv_at hl 3 rfl) ?_
        refine lv_iconst (v := 3) (pc := 84) hx hb dzM_health_84 (by decide) ?_
        refine lv_iload_n (pc := 85) hx hb dzM_health_85 rfl (lv_at hl 4 rfl) ?_
        refine lv_imul (pc := 86) hx hb dzM_health_86 ?_
        refine xk_is (y := 3) (by decide) ?_
        refine lv_iload (pc := 87) hx hb dzM_health_87 (lv_at hl 0 rfl) ?_
        refine lv_iadd (pc := 89) hx hb dzM_health_89 ?_
        refine xk_is (y := 3) (by decide) ?_
        refine xk_allVV (As := [.int 3]) (rest := []) (H0 := s.heap) (pc := 90) hx hb hml hts hown hK hA hP hD hS (kzM_disturb_3 l G ac ad g2 (B + 0) Ig2 (by omega)) vfzM_118 (fun _ => rfl) 0 rfl rfl ⟨rfl, rfl⟩ ⟨Nat.le_of_ble_eq_true rfl, Nat.le_of_ble_eq_true rfl⟩ rfl hl.1 rfl (Nat.le_of_ble_eq_true rfl) ⟨Nat.zero_le _, Nat.zero_le _⟩ dzM_health_90 (fun g3 H locs hg3 hP hD hS => ?_)
        have hP : va_P G xk_cls (xk_wM ad ac g3) H := hP
        have hD : va_D A (xk_wM ad ac g3) := hD
        have Ig3 : xk_cnt (B + 1) g3 := xk_cnt_le (iczM_disturb_3 (B + 0) _ _ hg3 Ig2) (by omega)
        exact K3 g3 H locs (Eq.mpr (if_pos h3) ⟨g3, hg3, rfl⟩) (xk_cnt_le Ig3 (by omega)) hP hD hS
    refine lv_if_ne (pc := 48) (tgt := 55) hx hb dzM_health_48 (by decide) (fun h2 => ?_) (fun h2 => ?_)
    ·
      refine lv_iconst (v := 0) (pc := 55) hx hb dzM_health_55 (by decide) ?_
      exact K2 0 (Eq.mpr (if_neg h2) rfl) xk_b0
    ·
      refine lv_iconst (v := 1) (pc := 51) hx hb dzM_health_51 (by decide) ?_
      refine lv_goto (tgt := 56) (pc := 52) hx hb dzM_health_52 (by decide) ?_
      exact K2 1 (Eq.mpr (if_pos h2) rfl) xk_b1
  refine lv_icmp_ne (pc := 31) (tgt := 38) hx hb dzM_health_31 (by decide) (fun h1 => ?_) (fun h1 => ?_)
  ·
    refine lv_iconst (v := 0) (pc := 38) hx hb dzM_health_38 (by decide) ?_
    exact K1 0 (Eq.mpr (if_neg h1) rfl) xk_b0
  ·
    refine lv_iconst (v := 1) (pc := 34) hx hb dzM_health_34 (by decide) ?_
    refine lv_goto (tgt := 39) (pc := 35) hx hb dzM_health_35 (by decide) ?_
    exact K1 1 (Eq.mpr (if_pos h1) rfl) xk_b1
theorem frzM_health_1_1 (g0 : xk_St) (k2 : Int32) (rz : Int32) (gz : xk_St) : relzM_health_1_1 g0 k2 rz gz → xk_eqv [1, 3, 4, 6, 7, 8, 9, 10, 11, 12, 13, 14, 15, 16, 17, 18, 19, 20, 21, 22, 23, 24] g0 gz := by
  intro h
  unfold relzM_health_1_1 at h
  have s0 : xk_eqv [1, 3, 4, 6, 7, 8, 9, 10, 11, 12, 13, 14, 15, 16, 17, 18, 19, 20, 21, 22, 23, 24] g0 g0 := xk_eqv_rf
  obtain ⟨r2, g1, u1, v2⟩ := h
  have s3 : xk_eqv [1, 3, 4, 6, 7, 8, 9, 10, 11, 12, 13, 14, 15, 16, 17, 18, 19, 20, 21, 22, 23, 24] g0 g1 := xk_eqv_tr s0 (xk_eqv_sub (frzM_goes_111 _ _ _ u1) (by decide))
  obtain ⟨x1, u4, v5⟩ := v2
  obtain ⟨x2, u6, v7⟩ := v5
  obtain ⟨g2, u8, v9⟩ := v7
  have s10 : xk_eqv [1, 3, 4, 6, 7, 8, 9, 10, 11, 12, 13, 14, 15, 16, 17, 18, 19, 20, 21, 22, 23, 24] g0 g2 := by rw [u8]; repeat (first | exact s3 | refine xk_eqv_up (by decide) ?_)
  obtain ⟨g4, u11, v12⟩ := v9
  have s13 : xk_eqv [1, 3, 4, 6, 7, 8, 9, 10, 11, 12, 13, 14, 15, 16, 17, 18, 19, 20, 21, 22, 23, 24] g0 g4 := by
    by_cases hc : k2 = 0
    · rw [if_pos hc] at u11
      obtain ⟨g3, u14, v15⟩ := u11
      have s16 : xk_eqv [1, 3, 4, 6, 7, 8, 9, 10, 11, 12, 13, 14, 15, 16, 17, 18, 19, 20, 21, 22, 23, 24] g0 g3 := xk_eqv_tr s10 (xk_eqv_sub (frzM_disturb_3 _ _ u14) (by decide))
      rw [v15]; exact s16
    · rw [if_neg hc] at u11
      rw [u11]; exact s10
  obtain ⟨g6, u17, v18⟩ := v12
  have s19 : xk_eqv [1, 3, 4, 6, 7, 8, 9, 10, 11, 12, 13, 14, 15, 16, 17, 18, 19, 20, 21, 22, 23, 24] g0 g6 := by
    by_cases hc : k2 = 0
    · rw [if_pos hc] at u17
      obtain ⟨g5, u20, v21⟩ := u17
      have s22 : xk_eqv [1, 3, 4, 6, 7, 8, 9, 10, 11, 12, 13, 14, 15, 16, 17, 18, 19, 20, 21, 22, 23, 24] g0 g5 := xk_eqv_tr s13 (xk_eqv_sub (frzM_disturb_4 _ _ u20) (by decide))
      rw [v21]; exact s22
    · rw [if_neg hc] at u17
      rw [u17]; exact s13
  rw [v18.2.2]; exact s19
theorem iczM_health_1_1 (B : Nat) (g0 : xk_St) (k2 : Int32) (rz : Int32) (gz : xk_St) : relzM_health_1_1 g0 k2 rz gz → xk_cnt B g0 → xk_cnt (B + 2) gz := by
  intro h Ig0
  unfold relzM_health_1_1 at h
  have Ig0 : xk_cnt (B + 0) g0 := Ig0
  obtain ⟨r2, g1, u1, v2⟩ := h
  have Ig1 : xk_cnt (B + 0) g1 := xk_cnt_le (iczM_goes_111 (B + 0) _ _ _ u1 Ig0) (by omega)
  obtain ⟨x1, u3, v4⟩ := v2
  obtain ⟨x2, u5, v6⟩ := v4
  obtain ⟨g2, u7, v8⟩ := v6
  have Ig2 : xk_cnt (B + 0) g2 := by rw [u7]; repeat (first | exact Ig1 | refine xk_cnt_k (by decide) ?_ | refine xk_cnt_f (by decide) ?_ | refine xk_cnt_s ?_)
  obtain ⟨g4, u9, v10⟩ := v8
  have Ig4 : xk_cnt (B + 1) g4 := by
    by_cases hc : k2 = 0
    · rw [if_pos hc] at u9
      obtain ⟨g3, u11, v12⟩ := u9
      have Ig3 : xk_cnt (B + 1) g3 := xk_cnt_le (iczM_disturb_3 (B + 0) _ _ u11 Ig2) (by omega)
      rw [v12]; exact xk_cnt_le Ig3 (by omega)
    · rw [if_neg hc] at u9
      rw [u9]; exact xk_cnt_le Ig2 (by omega)
  obtain ⟨g6, u13, v14⟩ := v10
  have Ig6 : xk_cnt (B + 2) g6 := by
    by_cases hc : k2 = 0
    · rw [if_pos hc] at u13
      obtain ⟨g5, u15, v16⟩ := u13
      have Ig5 : xk_cnt (B + 2) g5 := xk_cnt_le (iczM_disturb_4 (B + 1) _ _ u15 Ig4) (by omega)
      rw [v16]; exact xk_cnt_le Ig5 (by omega)
    · rw [if_neg hc] at u13
      rw [u13]; exact xk_cnt_le Ig4 (by omega)
  rw [v14.2.2]; exact xk_cnt_le Ig6 (by omega)

def relzM_health_1_2 (g0 : xk_St) (k2 : Int32) (rz : Int32) (gz : xk_St) : Prop := ∃ (r2 : Int32) (g1 : xk_St), relzM_goes_111 g0 r2 g1 ∧ (∃ (x1 : Int32), (if ((g1 2) 6) = k2 then (x1 = 1) else (x1 = 0)) ∧ (∃ (x2 : Int32), (if k2 = 0 then (x2 = 1) else (x2 = 0)) ∧ (∃ (g2 : xk_St), g2 = va_up g1 2 (upd (g1 2) 6 x2) ∧ (∃ (g4 : xk_St), (if k2 = 0 then (∃ (g3 : xk_St), relzM_disturb_4 g2 g3 ∧ (g4 = g3)) else (g4 = g2)) ∧ (∃ (g6 : xk_St), (if k2 = 0 then (∃ (g5 : xk_St), relzM_disturb_5 g4 g5 ∧ (g6 = g5)) else (g6 = g4)) ∧ (rz = x1 ∧ xk_b rz ∧ gz = g6))))))
set_option maxHeartbeats 4000000 in
set_option maxRecDepth 100000 in
theorem kzM_health_1_2 (l : Launch) (G : va_G) (ac : Nat → ClassId) (ad : Nat → Nat) (g0 : xk_St) (k2 : Int32) (B : Nat) (hb2 : xk_b k2) (Ig0 : xk_cnt B g0) (hB : B + 3 < 2147483648) : xk_CI l yzM_health czM_health 7 .boolean xk_WS xk_r2 G xk_cls (xk_tys ac) [.ref (ad 0), .int 1, .int 2, .int k2] (xk_wM ad ac g0) (fun rz (gz : xk_St) => relzM_health_1_2 g0 k2 rz gz) (fun gz => xk_wM ad ac gz) := by
  refine xk_ofI (by decide) (Nat.le_of_ble_eq_true rfl) ?_
  intro p e s m args below meth c A Q H locs ls C0 hret hP hD hS hl
  obtain ⟨hx, hb, hml, hts, hown, hK, hA⟩ := C0
  have hl : lv_has ls 7 [(0, .ref (ad 0)), (1, .int 1), (2, .int 2), (3, .int k2)] := hl
  have Ig0 : xk_cnt (B + 0) g0 := Ig0
  refine lv_aload_n (pc := 0) hx hb dzM_health_0 rfl (lv_at hl 0 rfl) ?_
  refine lv_iload_n (pc := 1) hx hb dzM_health_1 rfl (lv_at hl 1 rfl) ?_
  refine lv_iload_n (pc := 2) hx hb dzM_health_2 rfl (lv_at hl 2 rfl) ?_
  refine xk_callSI (As := [.int 1, .int 2]) (rest := [.ref (ad 0)]) (H0 := s.heap) (pc := 3) hx hb hml hts hown hK hA hP hD hS (kzM_isHead l G ac 1 2) sfzM_110 [] (by decide) rfl (fun _ => rfl) ⟨rfl, rfl⟩ ⟨Nat.le_of_ble_eq_true rfl, Nat.le_of_ble_eq_true rfl⟩ rfl hl.1 rfl (Nat.le_of_ble_eq_true rfl) ⟨Nat.zero_le _, Nat.zero_le _⟩ dzM_health_3 (fun r1 u9 H locs e9 hP hD hS => ?_)
  obtain rfl : r1 = qzM_isHead 1 2 := e9
  refine xk_is (y := 1) (by decide) ?_
  have hP : va_P G xk_cls (xk_wM ad ac g0) H := hP
  have hD : va_D A (xk_wM ad ac g0) := hD
  refine lv_iconst (v := 1) (pc := 6) hx hb dzM_health_6 (by decide) ?_
  refine lv_iconst (v := 1) (pc := 7) hx hb dzM_health_7 (by decide) ?_
  refine xk_allVI (As := [.int 1, .int 1, .int 1]) (rest := []) (H0 := s.heap) (pc := 8) hx hb hml hts hown hK hA hP hD hS (kzM_goes_111 l G ac ad g0 (B + 0) Ig0 (by omega)) vfzM_114 (fun _ => rfl) 0 rfl rfl ⟨rfl, rfl⟩ ⟨Nat.le_of_ble_eq_true rfl, Nat.le_of_ble_eq_true rfl⟩ rfl hl.1 rfl (Nat.le_of_ble_eq_true rfl) ⟨Nat.zero_le _, Nat.zero_le _⟩ dzM_health_8 (fun r2 g1 H locs hg1 hP hD hS => ?_)
  have qr2 : r2 = 1 := rczM_goes_111 _ _ _ hg1
  refine xk_is (y := 1) qr2 ?_
  have hP : va_P G xk_cls (xk_wM ad ac g1) H := hP
  have hD : va_D A (xk_wM ad ac g1) := hD
  have Ig1 : xk_cnt (B + 0) g1 := xk_cnt_le (iczM_goes_111 (B + 0) _ _ _ hg1 Ig0) (by omega)
  refine lv_if_ne (pc := 11) (tgt := 16) hx hb dzM_health_11 (by decide) (fun _ => ?_) (fun hq9 => absurd hq9 (by decide))
  refine lv_iconst (v := 4) (pc := 16) hx hb dzM_health_16 (by decide) ?_
  refine lv_iload_n (pc := 17) hx hb dzM_health_17 rfl (lv_at hl 1 rfl) ?_
  refine lv_imul (pc := 18) hx hb dzM_health_18 ?_
  refine xk_is (y := 4) (by decide) ?_
  refine lv_iload_n (pc := 19) hx hb dzM_health_19 rfl (lv_at hl 2 rfl) ?_
  refine lv_iadd (pc := 20) hx hb dzM_health_20 ?_
  refine xk_is (y := 6) (by decide) ?_
  refine lv_istore (lv' := [(4, .int 6), (0, .ref (ad 0)), (1, .int 1), (2, .int 2), (3, .int k2)]) (pc := 21) hx hb dzM_health_21 hl (by decide) rfl (fun ls hl => ?_)
  refine lv_aload_n (pc := 23) hx hb dzM_health_23 rfl (lv_at hl 1 rfl) ?_
  refine xk_get (pc := 24) hx hb hts hown hK hP ffzM_13 0 rfl rfl dzM_health_24 ?_
  refine lv_iload (pc := 27) hx hb dzM_health_27 (lv_at hl 0 rfl) ?_
  refine xk_zald (q0 := 2) (t0 := 1) (j := 6) (pc := 29) hx hb hK hP rfl rfl (pk_in 6 8 (by decide)) (pk_cl 6) dzM_health_29 ?_
  refine lv_iload_n (pc := 30) hx hb dzM_health_30 rfl (lv_at hl 4 rfl) ?_
  have K1 : ∀ (x1 : Int32), (if ((g1 2) 6) = k2 then (x1 = 1) else (x1 = 0)) → (xk_b x1) → W p l e xk_r2 s m args below meth c H locs 0 0 Q (F0 m 39 ls [.int x1]) := by
    intro x1 R1 bx1
    refine lv_istore (lv' := [(5, .int x1), (4, .int 6), (0, .ref (ad 0)), (1, .int 1), (2, .int 2), (3, .int k2)]) (pc := 39) hx hb dzM_health_39 hl (by decide) rfl (fun ls hl => ?_)
    refine lv_aload_n (pc := 41) hx hb dzM_health_41 rfl (lv_at hl 2 rfl) ?_
    refine xk_get (pc := 42) hx hb hts hown hK hP ffzM_13 0 rfl rfl dzM_health_42 ?_
    refine lv_iload (pc := 45) hx hb dzM_health_45 (lv_at hl 1 rfl) ?_
    refine lv_iload_n (pc := 47) hx hb dzM_health_47 rfl (lv_at hl 5 rfl) ?_
    have K2 : ∀ (x2 : Int32), (if k2 = 0 then (x2 = 1) else (x2 = 0)) → (xk_b x2) → W p l e xk_r2 s m args below meth c H locs 0 0 Q (F0 m 56 ls [.int x2, .int 6, .ref (ad 2)]) := by
      intro x2 R2 bx2
      refine xk_zast (q0 := 2) (t0 := 1) (j := 6) (pc := 56) hx hb hK hP hD hS rfl rfl (pk_in 6 8 (by decide)) (pk_cl 6) bx2 dzM_health_56 (fun H locs hP hD hS => ?_)
      obtain ⟨g2, eg2⟩ : ∃ z : xk_St, z = va_up g1 2 (upd (g1 2) 6 x2) := ⟨_, rfl⟩
      have hP : va_P G xk_cls (xk_wM ad ac g2) H := by rw [eg2]; exact hP
      have hD : va_D A (xk_wM ad ac g2) := by rw [eg2]; exact hD
      have Ig2 : xk_cnt (B + 0) g2 := by rw [eg2]; repeat (first | exact Ig1 | refine xk_cnt_k (by decide) ?_ | refine xk_cnt_f (by decide) ?_ | refine xk_cnt_s ?_)
      refine lv_iload_n (pc := 57) hx hb dzM_health_57 rfl (lv_at hl 4 rfl) ?_
      refine lv_iconst (v := 1) (pc := 58) hx hb dzM_health_58 (by decide) ?_
      refine lv_isub (pc := 59) hx hb dzM_health_59 ?_
      refine xk_is (y := 1) (by decide) ?_
      refine lv_istore (lv' := [(6, .int 1), (5, .int x1), (4, .int 6), (0, .ref (ad 0)), (1, .int 1), (2, .int 2), (3, .int k2)]) (pc := 60) hx hb dzM_health_60 hl (by decide) rfl (fun ls hl => ?_)
      refine lv_iload (pc := 62) hx hb dzM_health_62 (lv_at hl 0 rfl) ?_
      refine lv_iload_n (pc := 64) hx hb dzM_health_64 rfl (lv_at hl 5 rfl) ?_
      refine lv_icmp_gt (pc := 65) (tgt := 99) hx hb dzM_health_65 (by decide) (fun hq9 => absurd hq9 (by decide)) (fun _ => ?_)
      refine lv_iload_n (pc := 68) hx hb dzM_health_68 rfl (lv_at hl 6 rfl) ?_
      have K3 : ∀ (g4 : xk_St) (H : Heap) (locs : List Loc), (if k2 = 0 then (∃ (g3 : xk_St), relzM_disturb_4 g2 g3 ∧ (g4 = g3)) else (g4 = g2)) → (xk_cnt (B + 1) g4) → (va_P G xk_cls (xk_wM ad ac g4) H) → (va_D A (xk_wM ad ac g4)) → (va_S A s.heap H locs) → W p l e xk_r2 s m args below meth c H locs 0 0 Q (F0 m 93 ls []) := by
        intro g4 H locs R3 Ig4 hP hD hS
        refine lv_iinc (k := 0) (x := 1) (v := 2) (lv' := [(6, .int 2), (5, .int x1), (4, .int 6), (0, .ref (ad 0)), (1, .int 1), (2, .int 2), (3, .int k2)]) (pc := 93) hx hb dzM_health_93 hl rfl (by decide) (by decide) rfl (fun ls hl => ?_)
        refine lv_goto (tgt := 62) (pc := 96) hx hb dzM_health_96 (by decide) ?_
        refine lv_iload (pc := 62) hx hb dzM_health_62 (lv_at hl 0 rfl) ?_
        refine lv_iload_n (pc := 64) hx hb dzM_health_64 rfl (lv_at hl 5 rfl) ?_
        refine lv_icmp_gt (pc := 65) (tgt := 99) hx hb dzM_health_65 (by decide) (fun hq9 => absurd hq9 (by decide)) (fun _ => ?_)
        refine lv_iload_n (pc := 68) hx hb dzM_health_68 rfl (lv_at hl 6 rfl) ?_
        have K4 : ∀ (g6 : xk_St) (H : Heap) (locs : List Loc), (if k2 = 0 then (∃ (g5 : xk_St), relzM_disturb_5 g4 g5 ∧ (g6 = g5)) else (g6 = g4)) → (xk_cnt (B + 2) g6) → (va_P G xk_cls (xk_wM ad ac g6) H) → (va_D A (xk_wM ad ac g6)) → (va_S A s.heap H locs) → W p l e xk_r2 s m args below meth c H locs 0 0 Q (F0 m 93 ls []) := by
          intro g6 H locs R4 Ig6 hP hD hS
          refine lv_iinc (k := 0) (x := 2) (v := 3) (lv' := [(6, .int 3), (5, .int x1), (4, .int 6), (0, .ref (ad 0)), (1, .int 1), (2, .int 2), (3, .int k2)]) (pc := 93) hx hb dzM_health_93 hl rfl (by decide) (by decide) rfl (fun ls hl => ?_)
          refine lv_goto (tgt := 62) (pc := 96) hx hb dzM_health_96 (by decide) ?_
          refine lv_iload (pc := 62) hx hb dzM_health_62 (lv_at hl 0 rfl) ?_
          refine lv_iload_n (pc := 64) hx hb dzM_health_64 rfl (lv_at hl 5 rfl) ?_
          refine lv_icmp_gt (pc := 65) (tgt := 99) hx hb dzM_health_65 (by decide) (fun _ => ?_) (fun hq9 => absurd (by decide) hq9)
          refine lv_iload (pc := 99) hx hb dzM_health_99 (lv_at hl 1 rfl) ?_
          exact hret _ g6 H locs 101 ls hP hS (xk_bn bx1) (by unfold relzM_health_1_2; exact ⟨r2, g1, hg1, ⟨x1, R1, ⟨x2, R2, ⟨g2, eg2, ⟨g4, R3, ⟨g6, R4, ⟨rfl, bx1, rfl⟩⟩⟩⟩⟩⟩⟩) dzM_health_101
        refine lv_if_ne (pc := 69) (tgt := 93) hx hb dzM_health_69 (by decide) (fun h4 => ?_) (fun h4 => ?_)
        ·
          exact K4 g4 H locs (Eq.mpr (if_neg h4) rfl) (xk_cnt_le Ig4 (by omega)) hP hD hS
        ·
          refine lv_iload (pc := 72) hx hb dzM_health_72 (lv_at hl 0 rfl) ?_
          refine lv_if_lt (pc := 74) (tgt := 93) hx hb dzM_health_74 (by decide) (fun hq9 => absurd hq9 (by decide)) (fun _ => ?_)
          refine lv_iload (pc := 77) hx hb dzM_health_77 (lv_at hl 0 rfl) ?_
          refine lv_iconst (v := 3) (pc := 79) hx hb dzM_health_79 (by decide) ?_
          refine lv_icmp_ge (pc := 80) (tgt := 93) hx hb dzM_health_80 (by decide) (fun hq9 => absurd hq9 (by decide)) (fun _ => ?_)
          refine lv_aload_n (pc := 83) hx hb dzM_health_83 rfl (lv_at hl 3 rfl) ?_
          refine lv_iconst (v := 3) (pc := 84) hx hb dzM_health_84 (by decide) ?_
          refine lv_iload_n (pc := 85) hx hb dzM_health_85 rfl (lv_at hl 4 rfl) ?_
          refine lv_imul (pc := 86) hx hb dzM_health_86 ?_
          refine xk_is (y := 3) (by decide) ?_
          refine lv_iload (pc := 87) hx hb dzM_health_87 (lv_at hl 0 rfl) ?_
          refine lv_iadd (pc := 89) hx hb dzM_health_89 ?_
          refine xk_is (y := 5) (by decide) ?_
          refine xk_allVV (As := [.int 5]) (rest := []) (H0 := s.heap) (pc := 90) hx hb hml hts hown hK hA hP hD hS (kzM_disturb_5 l G ac ad g4 (B + 1) Ig4 (by omega)) vfzM_118 (fun _ => rfl) 0 rfl rfl ⟨rfl, rfl⟩ ⟨Nat.le_of_ble_eq_true rfl, Nat.le_of_ble_eq_true rfl⟩ rfl hl.1 rfl (Nat.le_of_ble_eq_true rfl) ⟨Nat.zero_le _, Nat.zero_le _⟩ dzM_health_90 (fun g5 H locs hg5 hP hD hS => ?_)
          have hP : va_P G xk_cls (xk_wM ad ac g5) H := hP
          have hD : va_D A (xk_wM ad ac g5) := hD
          have Ig5 : xk_cnt (B + 2) g5 := xk_cnt_le (iczM_disturb_5 (B + 1) _ _ hg5 Ig4) (by omega)
          exact K4 g5 H locs (Eq.mpr (if_pos h4) ⟨g5, hg5, rfl⟩) (xk_cnt_le Ig5 (by omega)) hP hD hS
      refine lv_if_ne (pc := 69) (tgt := 93) hx hb dzM_health_69 (by decide) (fun h3 => ?_) (fun h3 => ?_)
      ·
        exact K3 g2 H locs (Eq.mpr (if_neg h3) rfl) (xk_cnt_le Ig2 (by omega)) hP hD hS
      ·
        refine lv_iload (pc := 72) hx hb dzM_health_72 (lv_at hl 0 rfl) ?_
        refine lv_if_lt (pc := 74) (tgt := 93) hx hb dzM_health_74 (by decide) (fun hq9 => absurd hq9 (by decide)) (fun _ => ?_)
        refine lv_iload (pc := 77) hx hb dzM_health_77 (lv_at hl 0 rfl) ?_
        refine lv_iconst (v := 3) (pc := 79) hx hb dzM_health_79 (by decide) ?_
        refine lv_icmp_ge (pc := 80) (tgt := 93) hx hb dzM_health_80 (by decide) (fun hq9 => absurd hq9 (by decide)) (fun _ => ?_)
        refine lv_aload_n (pc := 83) hx hb dzM_health_83 rfl (lv_at hl 3 rfl) ?_
        refine lv_iconst (v := 3) (pc := 84) hx hb dzM_health_84 (by decide) ?_
        refine lv_iload_n (pc := 85) hx hb dzM_health_85 rfl (lv_at hl 4 rfl) ?_
        refine lv_imul (pc := 86) hx hb dzM_health_86 ?_
        refine xk_is (y := 3) (by decide) ?_
        refine lv_iload (pc := 87) hx hb dzM_health_87 (lv_at hl 0 rfl) ?_
        refine lv_iadd (pc := 89) hx hb dzM_health_89 ?_
        refine xk_is (y := 4) (by decide) ?_
        refine xk_allVV (As := [.int 4]) (rest := []) (H0 := s.heap) (pc := 90) hx hb hml hts hown hK hA hP hD hS (kzM_disturb_4 l G ac ad g2 (B + 0) Ig2 (by omega)) vfzM_118 (fun _ => rfl) 0 rfl rfl ⟨rfl, rfl⟩ ⟨Nat.le_of_ble_eq_true rfl, Nat.le_of_ble_eq_true rfl⟩ rfl hl.1 rfl (Nat.le_of_ble_eq_true rfl) ⟨Nat.zero_le _, Nat.zero_le _⟩ dzM_health_90 (fun g3 H locs hg3 hP hD hS => ?_)
        have hP : va_P G xk_cls (xk_wM ad ac g3) H := hP
        have hD : va_D A (xk_wM ad ac g3) := hD
        have Ig3 : xk_cnt (B + 1) g3 := xk_cnt_le (iczM_disturb_4 (B + 0) _ _ hg3 Ig2) (by omega)
        exact K3 g3 H locs (Eq.mpr (if_pos h3) ⟨g3, hg3, rfl⟩) (xk_cnt_le Ig3 (by omega)) hP hD hS
    refine lv_if_ne (pc := 48) (tgt := 55) hx hb dzM_health_48 (by decide) (fun h2 => ?_) (fun h2 => ?_)
    ·
      refine lv_iconst (v := 0) (pc := 55) hx hb dzM_health_55 (by decide) ?_
      exact K2 0 (Eq.mpr (if_neg h2) rfl) xk_b0
    ·
      refine lv_iconst (v := 1) (pc := 51) hx hb dzM_health_51 (by decide) ?_
      refine lv_goto (tgt := 56) (pc := 52) hx hb dzM_health_52 (by decide) ?_
      exact K2 1 (Eq.mpr (if_pos h2) rfl) xk_b1
  refine lv_icmp_ne (pc := 31) (tgt := 38) hx hb dzM_health_31 (by decide) (fun h1 => ?_) (fun h1 => ?_)
  ·
    refine lv_iconst (v := 0) (pc := 38) hx hb dzM_health_38 (by decide) ?_
    exact K1 0 (Eq.mpr (if_neg h1) rfl) xk_b0
  ·
    refine lv_iconst (v := 1) (pc := 34) hx hb dzM_health_34 (by decide) ?_
    refine lv_goto (tgt := 39) (pc := 35) hx hb dzM_health_35 (by decide) ?_
    exact K1 1 (Eq.mpr (if_pos h1) rfl) xk_b1
theorem frzM_health_1_2 (g0 : xk_St) (k2 : Int32) (rz : Int32) (gz : xk_St) : relzM_health_1_2 g0 k2 rz gz → xk_eqv [1, 3, 4, 6, 7, 8, 9, 10, 11, 12, 13, 14, 15, 16, 17, 18, 19, 20, 21, 22, 23, 24] g0 gz := by
  intro h
  unfold relzM_health_1_2 at h
  have s0 : xk_eqv [1, 3, 4, 6, 7, 8, 9, 10, 11, 12, 13, 14, 15, 16, 17, 18, 19, 20, 21, 22, 23, 24] g0 g0 := xk_eqv_rf
  obtain ⟨r2, g1, u1, v2⟩ := h
  have s3 : xk_eqv [1, 3, 4, 6, 7, 8, 9, 10, 11, 12, 13, 14, 15, 16, 17, 18, 19, 20, 21, 22, 23, 24] g0 g1 := xk_eqv_tr s0 (xk_eqv_sub (frzM_goes_111 _ _ _ u1) (by decide))
  obtain ⟨x1, u4, v5⟩ := v2
  obtain ⟨x2, u6, v7⟩ := v5
  obtain ⟨g2, u8, v9⟩ := v7
  have s10 : xk_eqv [1, 3, 4, 6, 7, 8, 9, 10, 11, 12, 13, 14, 15, 16, 17, 18, 19, 20, 21, 22, 23, 24] g0 g2 := by rw [u8]; repeat (first | exact s3 | refine xk_eqv_up (by decide) ?_)
  obtain ⟨g4, u11, v12⟩ := v9
  have s13 : xk_eqv [1, 3, 4, 6, 7, 8, 9, 10, 11, 12, 13, 14, 15, 16, 17, 18, 19, 20, 21, 22, 23, 24] g0 g4 := by
    by_cases hc : k2 = 0
    · rw [if_pos hc] at u11
      obtain ⟨g3, u14, v15⟩ := u11
      have s16 : xk_eqv [1, 3, 4, 6, 7, 8, 9, 10, 11, 12, 13, 14, 15, 16, 17, 18, 19, 20, 21, 22, 23, 24] g0 g3 := xk_eqv_tr s10 (xk_eqv_sub (frzM_disturb_4 _ _ u14) (by decide))
      rw [v15]; exact s16
    · rw [if_neg hc] at u11
      rw [u11]; exact s10
  obtain ⟨g6, u17, v18⟩ := v12
  have s19 : xk_eqv [1, 3, 4, 6, 7, 8, 9, 10, 11, 12, 13, 14, 15, 16, 17, 18, 19, 20, 21, 22, 23, 24] g0 g6 := by
    by_cases hc : k2 = 0
    · rw [if_pos hc] at u17
      obtain ⟨g5, u20, v21⟩ := u17
      have s22 : xk_eqv [1, 3, 4, 6, 7, 8, 9, 10, 11, 12, 13, 14, 15, 16, 17, 18, 19, 20, 21, 22, 23, 24] g0 g5 := xk_eqv_tr s13 (xk_eqv_sub (frzM_disturb_5 _ _ u20) (by decide))
      rw [v21]; exact s22
    · rw [if_neg hc] at u17
      rw [u17]; exact s13
  rw [v18.2.2]; exact s19
theorem iczM_health_1_2 (B : Nat) (g0 : xk_St) (k2 : Int32) (rz : Int32) (gz : xk_St) : relzM_health_1_2 g0 k2 rz gz → xk_cnt B g0 → xk_cnt (B + 2) gz := by
  intro h Ig0
  unfold relzM_health_1_2 at h
  have Ig0 : xk_cnt (B + 0) g0 := Ig0
  obtain ⟨r2, g1, u1, v2⟩ := h
  have Ig1 : xk_cnt (B + 0) g1 := xk_cnt_le (iczM_goes_111 (B + 0) _ _ _ u1 Ig0) (by omega)
  obtain ⟨x1, u3, v4⟩ := v2
  obtain ⟨x2, u5, v6⟩ := v4
  obtain ⟨g2, u7, v8⟩ := v6
  have Ig2 : xk_cnt (B + 0) g2 := by rw [u7]; repeat (first | exact Ig1 | refine xk_cnt_k (by decide) ?_ | refine xk_cnt_f (by decide) ?_ | refine xk_cnt_s ?_)
  obtain ⟨g4, u9, v10⟩ := v8
  have Ig4 : xk_cnt (B + 1) g4 := by
    by_cases hc : k2 = 0
    · rw [if_pos hc] at u9
      obtain ⟨g3, u11, v12⟩ := u9
      have Ig3 : xk_cnt (B + 1) g3 := xk_cnt_le (iczM_disturb_4 (B + 0) _ _ u11 Ig2) (by omega)
      rw [v12]; exact xk_cnt_le Ig3 (by omega)
    · rw [if_neg hc] at u9
      rw [u9]; exact xk_cnt_le Ig2 (by omega)
  obtain ⟨g6, u13, v14⟩ := v10
  have Ig6 : xk_cnt (B + 2) g6 := by
    by_cases hc : k2 = 0
    · rw [if_pos hc] at u13
      obtain ⟨g5, u15, v16⟩ := u13
      have Ig5 : xk_cnt (B + 2) g5 := xk_cnt_le (iczM_disturb_5 (B + 1) _ _ u15 Ig4) (by omega)
      rw [v16]; exact xk_cnt_le Ig5 (by omega)
    · rw [if_neg hc] at u13
      rw [u13]; exact xk_cnt_le Ig4 (by omega)
  rw [v14.2.2]; exact xk_cnt_le Ig6 (by omega)

def relzM_health_1_3 (g0 : xk_St) (k2 : Int32) (rz : Int32) (gz : xk_St) : Prop := ∃ (r2 : Int32) (g1 : xk_St), relzM_goes_111 g0 r2 g1 ∧ (∃ (x1 : Int32), (if ((g1 2) 7) = k2 then (x1 = 1) else (x1 = 0)) ∧ (∃ (x2 : Int32), (if k2 = 0 then (x2 = 1) else (x2 = 0)) ∧ (∃ (g2 : xk_St), g2 = va_up g1 2 (upd (g1 2) 7 x2) ∧ (∃ (g4 : xk_St), (if k2 = 0 then (∃ (g3 : xk_St), relzM_disturb_5 g2 g3 ∧ (g4 = g3)) else (g4 = g2)) ∧ (rz = x1 ∧ xk_b rz ∧ gz = g4)))))
set_option maxHeartbeats 4000000 in
set_option maxRecDepth 100000 in
theorem kzM_health_1_3 (l : Launch) (G : va_G) (ac : Nat → ClassId) (ad : Nat → Nat) (g0 : xk_St) (k2 : Int32) (B : Nat) (hb2 : xk_b k2) (Ig0 : xk_cnt B g0) (hB : B + 2 < 2147483648) : xk_CI l yzM_health czM_health 7 .boolean xk_WS xk_r2 G xk_cls (xk_tys ac) [.ref (ad 0), .int 1, .int 3, .int k2] (xk_wM ad ac g0) (fun rz (gz : xk_St) => relzM_health_1_3 g0 k2 rz gz) (fun gz => xk_wM ad ac gz) := by
  refine xk_ofI (by decide) (Nat.le_of_ble_eq_true rfl) ?_
  intro p e s m args below meth c A Q H locs ls C0 hret hP hD hS hl
  obtain ⟨hx, hb, hml, hts, hown, hK, hA⟩ := C0
  have hl : lv_has ls 7 [(0, .ref (ad 0)), (1, .int 1), (2, .int 3), (3, .int k2)] := hl
  have Ig0 : xk_cnt (B + 0) g0 := Ig0
  refine lv_aload_n (pc := 0) hx hb dzM_health_0 rfl (lv_at hl 0 rfl) ?_
  refine lv_iload_n (pc := 1) hx hb dzM_health_1 rfl (lv_at hl 1 rfl) ?_
  refine lv_iload_n (pc := 2) hx hb dzM_health_2 rfl (lv_at hl 2 rfl) ?_
  refine xk_callSI (As := [.int 1, .int 3]) (rest := [.ref (ad 0)]) (H0 := s.heap) (pc := 3) hx hb hml hts hown hK hA hP hD hS (kzM_isHead l G ac 1 3) sfzM_110 [] (by decide) rfl (fun _ => rfl) ⟨rfl, rfl⟩ ⟨Nat.le_of_ble_eq_true rfl, Nat.le_of_ble_eq_true rfl⟩ rfl hl.1 rfl (Nat.le_of_ble_eq_true rfl) ⟨Nat.zero_le _, Nat.zero_le _⟩ dzM_health_3 (fun r1 u9 H locs e9 hP hD hS => ?_)
  obtain rfl : r1 = qzM_isHead 1 3 := e9
  refine xk_is (y := 1) (by decide) ?_
  have hP : va_P G xk_cls (xk_wM ad ac g0) H := hP
  have hD : va_D A (xk_wM ad ac g0) := hD
  refine lv_iconst (v := 1) (pc := 6) hx hb dzM_health_6 (by decide) ?_
  refine lv_iconst (v := 1) (pc := 7) hx hb dzM_health_7 (by decide) ?_
  refine xk_allVI (As := [.int 1, .int 1, .int 1]) (rest := []) (H0 := s.heap) (pc := 8) hx hb hml hts hown hK hA hP hD hS (kzM_goes_111 l G ac ad g0 (B + 0) Ig0 (by omega)) vfzM_114 (fun _ => rfl) 0 rfl rfl ⟨rfl, rfl⟩ ⟨Nat.le_of_ble_eq_true rfl, Nat.le_of_ble_eq_true rfl⟩ rfl hl.1 rfl (Nat.le_of_ble_eq_true rfl) ⟨Nat.zero_le _, Nat.zero_le _⟩ dzM_health_8 (fun r2 g1 H locs hg1 hP hD hS => ?_)
  have qr2 : r2 = 1 := rczM_goes_111 _ _ _ hg1
  refine xk_is (y := 1) qr2 ?_
  have hP : va_P G xk_cls (xk_wM ad ac g1) H := hP
  have hD : va_D A (xk_wM ad ac g1) := hD
  have Ig1 : xk_cnt (B + 0) g1 := xk_cnt_le (iczM_goes_111 (B + 0) _ _ _ hg1 Ig0) (by omega)
  refine lv_if_ne (pc := 11) (tgt := 16) hx hb dzM_health_11 (by decide) (fun _ => ?_) (fun hq9 => absurd hq9 (by decide))
  refine lv_iconst (v := 4) (pc := 16) hx hb dzM_health_16 (by decide) ?_
  refine lv_iload_n (pc := 17) hx hb dzM_health_17 rfl (lv_at hl 1 rfl) ?_
  refine lv_imul (pc := 18) hx hb dzM_health_18 ?_
  refine xk_is (y := 4) (by decide) ?_
  refine lv_iload_n (pc := 19) hx hb dzM_health_19 rfl (lv_at hl 2 rfl) ?_
  refine lv_iadd (pc := 20) hx hb dzM_health_20 ?_
  refine xk_is (y := 7) (by decide) ?_
  refine lv_istore (lv' := [(4, .int 7), (0, .ref (ad 0)), (1, .int 1), (2, .int 3), (3, .int k2)]) (pc := 21) hx hb dzM_health_21 hl (by decide) rfl (fun ls hl => ?_)
  refine lv_aload_n (pc := 23) hx hb dzM_health_23 rfl (lv_at hl 1 rfl) ?_
  refine xk_get (pc := 24) hx hb hts hown hK hP ffzM_13 0 rfl rfl dzM_health_24 ?_
  refine lv_iload (pc := 27) hx hb dzM_health_27 (lv_at hl 0 rfl) ?_
  refine xk_zald (q0 := 2) (t0 := 1) (j := 7) (pc := 29) hx hb hK hP rfl rfl (pk_in 7 8 (by decide)) (pk_cl 7) dzM_health_29 ?_
  refine lv_iload_n (pc := 30) hx hb dzM_health_30 rfl (lv_at hl 4 rfl) ?_
  have K1 : ∀ (x1 : Int32), (if ((g1 2) 7) = k2 then (x1 = 1) else (x1 = 0)) → (xk_b x1) → W p l e xk_r2 s m args below meth c H locs 0 0 Q (F0 m 39 ls [.int x1]) := by
    intro x1 R1 bx1
    refine lv_istore (lv' := [(5, .int x1), (4, .int 7), (0, .ref (ad 0)), (1, .int 1), (2, .int 3), (3, .int k2)]) (pc := 39) hx hb dzM_health_39 hl (by decide) rfl (fun ls hl => ?_)
    refine lv_aload_n (pc := 41) hx hb dzM_health_41 rfl (lv_at hl 2 rfl) ?_
    refine xk_get (pc := 42) hx hb hts hown hK hP ffzM_13 0 rfl rfl dzM_health_42 ?_
    refine lv_iload (pc := 45) hx hb dzM_health_45 (lv_at hl 1 rfl) ?_
    refine lv_iload_n (pc := 47) hx hb dzM_health_47 rfl (lv_at hl 5 rfl) ?_
    have K2 : ∀ (x2 : Int32), (if k2 = 0 then (x2 = 1) else (x2 = 0)) → (xk_b x2) → W p l e xk_r2 s m args below meth c H locs 0 0 Q (F0 m 56 ls [.int x2, .int 7, .ref (ad 2)]) := by
      intro x2 R2 bx2
      refine xk_zast (q0 := 2) (t0 := 1) (j := 7) (pc := 56) hx hb hK hP hD hS rfl rfl (pk_in 7 8 (by decide)) (pk_cl 7) bx2 dzM_health_56 (fun H locs hP hD hS => ?_)
      obtain ⟨g2, eg2⟩ : ∃ z : xk_St, z = va_up g1 2 (upd (g1 2) 7 x2) := ⟨_, rfl⟩
      have hP : va_P G xk_cls (xk_wM ad ac g2) H := by rw [eg2]; exact hP
      have hD : va_D A (xk_wM ad ac g2) := by rw [eg2]; exact hD
      have Ig2 : xk_cnt (B + 0) g2 := by rw [eg2]; repeat (first | exact Ig1 | refine xk_cnt_k (by decide) ?_ | refine xk_cnt_f (by decide) ?_ | refine xk_cnt_s ?_)
      refine lv_iload_n (pc := 57) hx hb dzM_health_57 rfl (lv_at hl 4 rfl) ?_
      refine lv_iconst (v := 1) (pc := 58) hx hb dzM_health_58 (by decide) ?_
      refine lv_isub (pc := 59) hx hb dzM_health_59 ?_
      refine xk_is (y := 2) (by decide) ?_
      refine lv_istore (lv' := [(6, .int 2), (5, .int x1), (4, .int 7), (0, .ref (ad 0)), (1, .int 1), (2, .int 3), (3, .int k2)]) (pc := 60) hx hb dzM_health_60 hl (by decide) rfl (fun ls hl => ?_)
      refine lv_iload (pc := 62) hx hb dzM_health_62 (lv_at hl 0 rfl) ?_
      refine lv_iload_n (pc := 64) hx hb dzM_health_64 rfl (lv_at hl 5 rfl) ?_
      refine lv_icmp_gt (pc := 65) (tgt := 99) hx hb dzM_health_65 (by decide) (fun hq9 => absurd hq9 (by decide)) (fun _ => ?_)
      refine lv_iload_n (pc := 68) hx hb dzM_health_68 rfl (lv_at hl 6 rfl) ?_
      have K3 : ∀ (g4 : xk_St) (H : Heap) (locs : List Loc), (if k2 = 0 then (∃ (g3 : xk_St), relzM_disturb_5 g2 g3 ∧ (g4 = g3)) else (g4 = g2)) → (xk_cnt (B + 1) g4) → (va_P G xk_cls (xk_wM ad ac g4) H) → (va_D A (xk_wM ad ac g4)) → (va_S A s.heap H locs) → W p l e xk_r2 s m args below meth c H locs 0 0 Q (F0 m 93 ls []) := by
        intro g4 H locs R3 Ig4 hP hD hS
        refine lv_iinc (k := 0) (x := 2) (v := 3) (lv' := [(6, .int 3), (5, .int x1), (4, .int 7), (0, .ref (ad 0)), (1, .int 1), (2, .int 3), (3, .int k2)]) (pc := 93) hx hb dzM_health_93 hl rfl (by decide) (by decide) rfl (fun ls hl => ?_)
        refine lv_goto (tgt := 62) (pc := 96) hx hb dzM_health_96 (by decide) ?_
        refine lv_iload (pc := 62) hx hb dzM_health_62 (lv_at hl 0 rfl) ?_
        refine lv_iload_n (pc := 64) hx hb dzM_health_64 rfl (lv_at hl 5 rfl) ?_
        refine lv_icmp_gt (pc := 65) (tgt := 99) hx hb dzM_health_65 (by decide) (fun hq9 => absurd hq9 (by decide)) (fun _ => ?_)
        refine lv_iload_n (pc := 68) hx hb dzM_health_68 rfl (lv_at hl 6 rfl) ?_
        have K4 : W p l e xk_r2 s m args below meth c H locs 0 0 Q (F0 m 93 ls []) := by
          refine lv_iinc (k := 0) (x := 3) (v := 4) (lv' := [(6, .int 4), (5, .int x1), (4, .int 7), (0, .ref (ad 0)), (1, .int 1), (2, .int 3), (3, .int k2)]) (pc := 93) hx hb dzM_health_93 hl rfl (by decide) (by decide) rfl (fun ls hl => ?_)
          refine lv_goto (tgt := 62) (pc := 96) hx hb dzM_health_96 (by decide) ?_
          refine lv_iload (pc := 62) hx hb dzM_health_62 (lv_at hl 0 rfl) ?_
          refine lv_iload_n (pc := 64) hx hb dzM_health_64 rfl (lv_at hl 5 rfl) ?_
          refine lv_icmp_gt (pc := 65) (tgt := 99) hx hb dzM_health_65 (by decide) (fun _ => ?_) (fun hq9 => absurd (by decide) hq9)
          refine lv_iload (pc := 99) hx hb dzM_health_99 (lv_at hl 1 rfl) ?_
          exact hret _ g4 H locs 101 ls hP hS (xk_bn bx1) (by unfold relzM_health_1_3; exact ⟨r2, g1, hg1, ⟨x1, R1, ⟨x2, R2, ⟨g2, eg2, ⟨g4, R3, ⟨rfl, bx1, rfl⟩⟩⟩⟩⟩⟩) dzM_health_101
        refine lv_if_ne (pc := 69) (tgt := 93) hx hb dzM_health_69 (by decide) (fun h4 => ?_) (fun h4 => ?_)
        ·
          exact K4
        ·
          refine lv_iload (pc := 72) hx hb dzM_health_72 (lv_at hl 0 rfl) ?_
          refine lv_if_lt (pc := 74) (tgt := 93) hx hb dzM_health_74 (by decide) (fun hq9 => absurd hq9 (by decide)) (fun _ => ?_)
          refine lv_iload (pc := 77) hx hb dzM_health_77 (lv_at hl 0 rfl) ?_
          refine lv_iconst (v := 3) (pc := 79) hx hb dzM_health_79 (by decide) ?_
          refine lv_icmp_ge (pc := 80) (tgt := 93) hx hb dzM_health_80 (by decide) (fun _ => ?_) (fun hq9 => absurd (by decide) hq9)
          exact K4
      refine lv_if_ne (pc := 69) (tgt := 93) hx hb dzM_health_69 (by decide) (fun h3 => ?_) (fun h3 => ?_)
      ·
        exact K3 g2 H locs (Eq.mpr (if_neg h3) rfl) (xk_cnt_le Ig2 (by omega)) hP hD hS
      ·
        refine lv_iload (pc := 72) hx hb dzM_health_72 (lv_at hl 0 rfl) ?_
        refine lv_if_lt (pc := 74) (tgt := 93) hx hb dzM_health_74 (by decide) (fun hq9 => absurd hq9 (by decide)) (fun _ => ?_)
        refine lv_iload (pc := 77) hx hb dzM_health_77 (lv_at hl 0 rfl) ?_
        refine lv_iconst (v := 3) (pc := 79) hx hb dzM_health_79 (by decide) ?_
        refine lv_icmp_ge (pc := 80) (tgt := 93) hx hb dzM_health_80 (by decide) (fun hq9 => absurd hq9 (by decide)) (fun _ => ?_)
        refine lv_aload_n (pc := 83) hx hb dzM_health_83 rfl (lv_at hl 3 rfl) ?_
        refine lv_iconst (v := 3) (pc := 84) hx hb dzM_health_84 (by decide) ?_
        refine lv_iload_n (pc := 85) hx hb dzM_health_85 rfl (lv_at hl 4 rfl) ?_
        refine lv_imul (pc := 86) hx hb dzM_health_86 ?_
        refine xk_is (y := 3) (by decide) ?_
        refine lv_iload (pc := 87) hx hb dzM_health_87 (lv_at hl 0 rfl) ?_
        refine lv_iadd (pc := 89) hx hb dzM_health_89 ?_
        refine xk_is (y := 5) (by decide) ?_
        refine xk_allVV (As := [.int 5]) (rest := []) (H0 := s.heap) (pc := 90) hx hb hml hts hown hK hA hP hD hS (kzM_disturb_5 l G ac ad g2 (B + 0) Ig2 (by omega)) vfzM_118 (fun _ => rfl) 0 rfl rfl ⟨rfl, rfl⟩ ⟨Nat.le_of_ble_eq_true rfl, Nat.le_of_ble_eq_true rfl⟩ rfl hl.1 rfl (Nat.le_of_ble_eq_true rfl) ⟨Nat.zero_le _, Nat.zero_le _⟩ dzM_health_90 (fun g3 H locs hg3 hP hD hS => ?_)
        have hP : va_P G xk_cls (xk_wM ad ac g3) H := hP
        have hD : va_D A (xk_wM ad ac g3) := hD
        have Ig3 : xk_cnt (B + 1) g3 := xk_cnt_le (iczM_disturb_5 (B + 0) _ _ hg3 Ig2) (by omega)
        exact K3 g3 H locs (Eq.mpr (if_pos h3) ⟨g3, hg3, rfl⟩) (xk_cnt_le Ig3 (by omega)) hP hD hS
    refine lv_if_ne (pc := 48) (tgt := 55) hx hb dzM_health_48 (by decide) (fun h2 => ?_) (fun h2 => ?_)
    ·
      refine lv_iconst (v := 0) (pc := 55) hx hb dzM_health_55 (by decide) ?_
      exact K2 0 (Eq.mpr (if_neg h2) rfl) xk_b0
    ·
      refine lv_iconst (v := 1) (pc := 51) hx hb dzM_health_51 (by decide) ?_
      refine lv_goto (tgt := 56) (pc := 52) hx hb dzM_health_52 (by decide) ?_
      exact K2 1 (Eq.mpr (if_pos h2) rfl) xk_b1
  refine lv_icmp_ne (pc := 31) (tgt := 38) hx hb dzM_health_31 (by decide) (fun h1 => ?_) (fun h1 => ?_)
  ·
    refine lv_iconst (v := 0) (pc := 38) hx hb dzM_health_38 (by decide) ?_
    exact K1 0 (Eq.mpr (if_neg h1) rfl) xk_b0
  ·
    refine lv_iconst (v := 1) (pc := 34) hx hb dzM_health_34 (by decide) ?_
    refine lv_goto (tgt := 39) (pc := 35) hx hb dzM_health_35 (by decide) ?_
    exact K1 1 (Eq.mpr (if_pos h1) rfl) xk_b1
theorem frzM_health_1_3 (g0 : xk_St) (k2 : Int32) (rz : Int32) (gz : xk_St) : relzM_health_1_3 g0 k2 rz gz → xk_eqv [1, 3, 4, 6, 7, 8, 9, 10, 11, 12, 13, 14, 15, 16, 17, 18, 19, 20, 21, 22, 23, 24] g0 gz := by
  intro h
  unfold relzM_health_1_3 at h
  have s0 : xk_eqv [1, 3, 4, 6, 7, 8, 9, 10, 11, 12, 13, 14, 15, 16, 17, 18, 19, 20, 21, 22, 23, 24] g0 g0 := xk_eqv_rf
  obtain ⟨r2, g1, u1, v2⟩ := h
  have s3 : xk_eqv [1, 3, 4, 6, 7, 8, 9, 10, 11, 12, 13, 14, 15, 16, 17, 18, 19, 20, 21, 22, 23, 24] g0 g1 := xk_eqv_tr s0 (xk_eqv_sub (frzM_goes_111 _ _ _ u1) (by decide))
  obtain ⟨x1, u4, v5⟩ := v2
  obtain ⟨x2, u6, v7⟩ := v5
  obtain ⟨g2, u8, v9⟩ := v7
  have s10 : xk_eqv [1, 3, 4, 6, 7, 8, 9, 10, 11, 12, 13, 14, 15, 16, 17, 18, 19, 20, 21, 22, 23, 24] g0 g2 := by rw [u8]; repeat (first | exact s3 | refine xk_eqv_up (by decide) ?_)
  obtain ⟨g4, u11, v12⟩ := v9
  have s13 : xk_eqv [1, 3, 4, 6, 7, 8, 9, 10, 11, 12, 13, 14, 15, 16, 17, 18, 19, 20, 21, 22, 23, 24] g0 g4 := by
    by_cases hc : k2 = 0
    · rw [if_pos hc] at u11
      obtain ⟨g3, u14, v15⟩ := u11
      have s16 : xk_eqv [1, 3, 4, 6, 7, 8, 9, 10, 11, 12, 13, 14, 15, 16, 17, 18, 19, 20, 21, 22, 23, 24] g0 g3 := xk_eqv_tr s10 (xk_eqv_sub (frzM_disturb_5 _ _ u14) (by decide))
      rw [v15]; exact s16
    · rw [if_neg hc] at u11
      rw [u11]; exact s10
  rw [v12.2.2]; exact s13
theorem iczM_health_1_3 (B : Nat) (g0 : xk_St) (k2 : Int32) (rz : Int32) (gz : xk_St) : relzM_health_1_3 g0 k2 rz gz → xk_cnt B g0 → xk_cnt (B + 1) gz := by
  intro h Ig0
  unfold relzM_health_1_3 at h
  have Ig0 : xk_cnt (B + 0) g0 := Ig0
  obtain ⟨r2, g1, u1, v2⟩ := h
  have Ig1 : xk_cnt (B + 0) g1 := xk_cnt_le (iczM_goes_111 (B + 0) _ _ _ u1 Ig0) (by omega)
  obtain ⟨x1, u3, v4⟩ := v2
  obtain ⟨x2, u5, v6⟩ := v4
  obtain ⟨g2, u7, v8⟩ := v6
  have Ig2 : xk_cnt (B + 0) g2 := by rw [u7]; repeat (first | exact Ig1 | refine xk_cnt_k (by decide) ?_ | refine xk_cnt_f (by decide) ?_ | refine xk_cnt_s ?_)
  obtain ⟨g4, u9, v10⟩ := v8
  have Ig4 : xk_cnt (B + 1) g4 := by
    by_cases hc : k2 = 0
    · rw [if_pos hc] at u9
      obtain ⟨g3, u11, v12⟩ := u9
      have Ig3 : xk_cnt (B + 1) g3 := xk_cnt_le (iczM_disturb_5 (B + 0) _ _ u11 Ig2) (by omega)
      rw [v12]; exact xk_cnt_le Ig3 (by omega)
    · rw [if_neg hc] at u9
      rw [u9]; exact xk_cnt_le Ig2 (by omega)
  rw [v10.2.2]; exact xk_cnt_le Ig4 (by omega)

