def relzU_countPulses (g0 : xk_St) (gz : xk_St) : Prop := ∃ (g1 : xk_St), g1 = va_up g0 15 (qzK_takePulse_0_b (g0 15)) ∧ (∃ (g4 : xk_St), (if (qzK_takePulse_0 (g0 15)) = 0 then (g4 = g1) else (if ((g1 17) 0) = 0 then (g4 = g1) else (if (qzK_takePulse_0 (g0 15)) = 1 then (∃ (g2 : xk_St), relzU_countAxle_0_0_p g1 g2 ∧ (g4 = g2)) else (∃ (g3 : xk_St), relzU_countAxle_0_0_m g1 g3 ∧ (g4 = g3))))) ∧ (∃ (g5 : xk_St), g5 = va_up g4 15 (qzK_takePulse_1_b (g4 15)) ∧ (∃ (g8 : xk_St), (if (qzK_takePulse_1 (g4 15)) = 0 then (g8 = g5) else (if ((g5 17) 1) = 0 then (g8 = g5) else (if (qzK_takePulse_1 (g4 15)) = 1 then (∃ (g6 : xk_St), relzU_countAxle_0_1_p g5 g6 ∧ (g8 = g6)) else (∃ (g7 : xk_St), relzU_countAxle_0_1_m g5 g7 ∧ (g8 = g7))))) ∧ (∃ (g9 : xk_St), g9 = va_up g8 15 (qzK_takePulse_2_b (g8 15)) ∧ (∃ (g12 : xk_St), (if (qzK_takePulse_2 (g8 15)) = 0 then (g12 = g9) else (if ((g9 17) 2) = 0 then (g12 = g9) else (if (qzK_takePulse_2 (g8 15)) = 1 then (∃ (g10 : xk_St), relzU_countAxle_0_2_p g9 g10 ∧ (g12 = g10)) else (∃ (g11 : xk_St), relzU_countAxle_0_2_m g9 g11 ∧ (g12 = g11))))) ∧ (∃ (g13 : xk_St), g13 = va_up g12 15 (qzK_takePulse_3_b (g12 15)) ∧ (∃ (g16 : xk_St), (if (qzK_takePulse_3 (g12 15)) = 0 then (g16 = g13) else (if ((g13 17) 3) = 0 then (g16 = g13) else (if (qzK_takePulse_3 (g12 15)) = 1 then (∃ (g14 : xk_St), relzU_countAxle_0_3_p g13 g14 ∧ (g16 = g14)) else (∃ (g15 : xk_St), relzU_countAxle_0_3_m g13 g15 ∧ (g16 = g15))))) ∧ (∃ (g17 : xk_St), g17 = va_up g16 16 (qzK_takePulse_0_b (g16 16)) ∧ (∃ (g20 : xk_St), (if (qzK_takePulse_0 (g16 16)) = 0 then (g20 = g17) else (if ((g17 18) 0) = 0 then (g20 = g17) else (if (qzK_takePulse_0 (g16 16)) = 1 then (∃ (g18 : xk_St), relzU_countAxle_1_0_p g17 g18 ∧ (g20 = g18)) else (∃ (g19 : xk_St), relzU_countAxle_1_0_m g17 g19 ∧ (g20 = g19))))) ∧ (∃ (g21 : xk_St), g21 = va_up g20 16 (qzK_takePulse_1_b (g20 16)) ∧ (∃ (g24 : xk_St), (if (qzK_takePulse_1 (g20 16)) = 0 then (g24 = g21) else (if ((g21 18) 1) = 0 then (g24 = g21) else (if (qzK_takePulse_1 (g20 16)) = 1 then (∃ (g22 : xk_St), relzU_countAxle_1_1_p g21 g22 ∧ (g24 = g22)) else (∃ (g23 : xk_St), relzU_countAxle_1_1_m g21 g23 ∧ (g24 = g23))))) ∧ (∃ (g25 : xk_St), g25 = va_up g24 16 (qzK_takePulse_2_b (g24 16)) ∧ (∃ (g28 : xk_St), (if (qzK_takePulse_2 (g24 16)) = 0 then (g28 = g25) else (if ((g25 18) 2) = 0 then (g28 = g25) else (if (qzK_takePulse_2 (g24 16)) = 1 then (∃ (g26 : xk_St), relzU_countAxle_1_2_p g25 g26 ∧ (g28 = g26)) else (∃ (g27 : xk_St), relzU_countAxle_1_2_m g25 g27 ∧ (g28 = g27))))) ∧ (∃ (g29 : xk_St), g29 = va_up g28 16 (qzK_takePulse_3_b (g28 16)) ∧ (∃ (g32 : xk_St), (if (qzK_takePulse_3 (g28 16)) = 0 then (g32 = g29) else (if ((g29 18) 3) = 0 then (g32 = g29) else (if (qzK_takePulse_3 (g28 16)) = 1 then (∃ (g30 : xk_St), relzU_countAxle_1_3_p g29 g30 ∧ (g32 = g30)) else (∃ (g31 : xk_St), relzU_countAxle_1_3_m g29 g31 ∧ (g32 = g31))))) ∧ (gz = g32))))))))))))))))
set_option maxHeartbeats 4000000 in
set_option maxRecDepth 100000 in
theorem kzU_countPulses (l : Launch) (G : va_G) (ac : Nat → ClassId) (ad : Nat → Nat) (g0 : xk_St) (Ig0 : xk_kept g0) : xk_CV l yzU_countPulses czU_countPulses 4 xk_WS xk_r4 G xk_cls (xk_tys ac) [.ref (ad 0)] (xk_wU ad ac g0) (fun (gz : xk_St) => relzU_countPulses g0 gz) (fun gz => xk_wU ad ac gz) := by
  refine xk_ofV (by decide) (Nat.le_of_ble_eq_true rfl) ?_
  intro p e s m args below meth c A Q H locs ls C0 hret hP hD hS hl
  obtain ⟨hx, hb, hml, hts, hown, hK, hA⟩ := C0
  have hl : lv_has ls 4 [(0, .ref (ad 0))] := hl
  refine lv_iconst (v := 0) (pc := 0) hx hb dzU_countPulses_0 (by decide) ?_
  refine lv_istore_n (lv' := [(1, .int 0), (0, .ref (ad 0))]) (pc := 1) hx hb dzU_countPulses_1 rfl hl (by decide) rfl (fun ls hl => ?_)
  refine lv_iload_n (pc := 2) hx hb dzU_countPulses_2 rfl (lv_at hl 0 rfl) ?_
  refine lv_iconst (v := 2) (pc := 3) hx hb dzU_countPulses_3 (by decide) ?_
  refine lv_icmp_ge (pc := 4) (tgt := 67) hx hb dzU_countPulses_4 (by decide) (fun hq9 => absurd hq9 (by decide)) (fun _ => ?_)
  refine lv_iconst (v := 0) (pc := 7) hx hb dzU_countPulses_7 (by decide) ?_
  refine lv_istore_n (lv' := [(2, .int 0), (1, .int 0), (0, .ref (ad 0))]) (pc := 8) hx hb dzU_countPulses_8 rfl hl (by decide) rfl (fun ls hl => ?_)
  refine lv_iload_n (pc := 9) hx hb dzU_countPulses_9 rfl (lv_at hl 0 rfl) ?_
  refine lv_iconst (v := 4) (pc := 10) hx hb dzU_countPulses_10 (by decide) ?_
  refine lv_icmp_ge (pc := 11) (tgt := 61) hx hb dzU_countPulses_11 (by decide) (fun hq9 => absurd hq9 (by decide)) (fun _ => ?_)
  refine lv_aload_n (pc := 14) hx hb dzU_countPulses_14 rfl (lv_at hl 2 rfl) ?_
  refine xk_get (pc := 15) hx hb hts hown hK hP ffzU_11 0 rfl rfl dzU_countPulses_15 ?_
  refine lv_iload_n (pc := 18) hx hb dzU_countPulses_18 rfl (lv_at hl 1 rfl) ?_
  refine xk_aald (q0 := 1) (t0 := 2) (j := 0) (b := (ad 9)) (pc := 19) hx hb hK hP rfl rfl (pk_in 0 2 (by decide)) (pk_cl 0) rfl dzU_countPulses_19 ?_
  refine lv_iload_n (pc := 20) hx hb dzU_countPulses_20 rfl (lv_at hl 0 rfl) ?_
  refine xk_callVI (As := [.int 0]) (rest := []) (H0 := s.heap) (pc := 21) hx hb hml hts hown hK hA hP hD hS (kzK_takePulse_0 l G ac (ad 9) (ad 15) (ad 11) (ad 13) (ad 17) (g0 9 4) (g0 9 5) (g0 15)) vfzU_281 [9, 15] (by decide) rfl (fun _ => rfl) 9 rfl rfl ⟨rfl, rfl⟩ ⟨Nat.le_of_ble_eq_true rfl, Nat.le_of_ble_eq_true rfl⟩ rfl hl.1 rfl (Nat.le_of_ble_eq_true rfl) ⟨Nat.zero_le _, Nat.zero_le _⟩ dzU_countPulses_21 (fun r1 u9 H locs e9 hP hD hS => ?_)
  obtain rfl : r1 = qzK_takePulse_0 (g0 15) := e9
  obtain ⟨g1, eg1⟩ : ∃ z : xk_St, z = va_up g0 15 (qzK_takePulse_0_b (g0 15)) := ⟨_, rfl⟩
  have hP : va_P G xk_cls (xk_wU ad ac g1) H := by rw [eg1]; exact hP
  have hD : va_D A (xk_wU ad ac g1) := by rw [eg1]; exact hD
  have Ig1 : xk_kept g1 := by rw [eg1]; exact xk_kept_a _ Ig0
  refine lv_istore_n (lv' := [(3, .int (qzK_takePulse_0 (g0 15))), (2, .int 0), (1, .int 0), (0, .ref (ad 0))]) (pc := 24) hx hb dzU_countPulses_24 rfl hl (by decide) rfl (fun ls hl => ?_)
  refine lv_iload_n (pc := 25) hx hb dzU_countPulses_25 rfl (lv_at hl 0 rfl) ?_
  have K1 : ∀ (g4 : xk_St) (H : Heap) (locs : List Loc), (if (qzK_takePulse_0 (g0 15)) = 0 then (g4 = g1) else (if ((g1 17) 0) = 0 then (g4 = g1) else (if (qzK_takePulse_0 (g0 15)) = 1 then (∃ (g2 : xk_St), relzU_countAxle_0_0_p g1 g2 ∧ (g4 = g2)) else (∃ (g3 : xk_St), relzU_countAxle_0_0_m g1 g3 ∧ (g4 = g3))))) → (xk_kept g4) → (va_P G xk_cls (xk_wU ad ac g4) H) → (va_D A (xk_wU ad ac g4)) → (va_S A s.heap H locs) → W p l e xk_r4 s m args below meth c H locs 0 0 Q (F0 m 55 ls []) := by
    intro g4 H locs R1 Ig4 hP hD hS
    refine lv_iinc (k := 1) (x := 0) (v := 1) (lv' := [(2, .int 1), (3, .int (qzK_takePulse_0 (g0 15))), (1, .int 0), (0, .ref (ad 0))]) (pc := 55) hx hb dzU_countPulses_55 hl rfl (by decide) (by decide) rfl (fun ls hl => ?_)
    refine lv_goto (tgt := 9) (pc := 58) hx hb dzU_countPulses_58 (by decide) ?_
    refine lv_iload_n (pc := 9) hx hb dzU_countPulses_9 rfl (lv_at hl 0 rfl) ?_
    refine lv_iconst (v := 4) (pc := 10) hx hb dzU_countPulses_10 (by decide) ?_
    refine lv_icmp_ge (pc := 11) (tgt := 61) hx hb dzU_countPulses_11 (by decide) (fun hq9 => absurd hq9 (by decide)) (fun _ => ?_)
    refine lv_aload_n (pc := 14) hx hb dzU_countPulses_14 rfl (lv_at hl 3 rfl) ?_
    refine xk_get (pc := 15) hx hb hts hown hK hP ffzU_11 0 rfl rfl dzU_countPulses_15 ?_
    refine lv_iload_n (pc := 18) hx hb dzU_countPulses_18 rfl (lv_at hl 2 rfl) ?_
    refine xk_aald (q0 := 1) (t0 := 2) (j := 0) (b := (ad 9)) (pc := 19) hx hb hK hP rfl rfl (pk_in 0 2 (by decide)) (pk_cl 0) rfl dzU_countPulses_19 ?_
    refine lv_iload_n (pc := 20) hx hb dzU_countPulses_20 rfl (lv_at hl 0 rfl) ?_
    refine xk_callVI (As := [.int 1]) (rest := []) (H0 := s.heap) (pc := 21) hx hb hml hts hown hK hA hP hD hS (kzK_takePulse_1 l G ac (ad 9) (ad 15) (ad 11) (ad 13) (ad 17) (g4 9 4) (g4 9 5) (g4 15)) vfzU_281 [9, 15] (by decide) rfl (fun _ => rfl) 9 rfl rfl ⟨rfl, rfl⟩ ⟨Nat.le_of_ble_eq_true rfl, Nat.le_of_ble_eq_true rfl⟩ rfl hl.1 rfl (Nat.le_of_ble_eq_true rfl) ⟨Nat.zero_le _, Nat.zero_le _⟩ dzU_countPulses_21 (fun r2 u9 H locs e9 hP hD hS => ?_)
    obtain rfl : r2 = qzK_takePulse_1 (g4 15) := e9
    obtain ⟨g5, eg5⟩ : ∃ z : xk_St, z = va_up g4 15 (qzK_takePulse_1_b (g4 15)) := ⟨_, rfl⟩
    have hP : va_P G xk_cls (xk_wU ad ac g5) H := by rw [eg5]; exact hP
    have hD : va_D A (xk_wU ad ac g5) := by rw [eg5]; exact hD
    have Ig5 : xk_kept g5 := by rw [eg5]; exact xk_kept_a _ Ig4
    refine lv_istore_n (lv' := [(3, .int (qzK_takePulse_1 (g4 15))), (2, .int 1), (1, .int 0), (0, .ref (ad 0))]) (pc := 24) hx hb dzU_countPulses_24 rfl hl (by decide) rfl (fun ls hl => ?_)
    refine lv_iload_n (pc := 25) hx hb dzU_countPulses_25 rfl (lv_at hl 0 rfl) ?_
    have K2 : ∀ (g8 : xk_St) (H : Heap) (locs : List Loc), (if (qzK_takePulse_1 (g4 15)) = 0 then (g8 = g5) else (if ((g5 17) 1) = 0 then (g8 = g5) else (if (qzK_takePulse_1 (g4 15)) = 1 then (∃ (g6 : xk_St), relzU_countAxle_0_1_p g5 g6 ∧ (g8 = g6)) else (∃ (g7 : xk_St), relzU_countAxle_0_1_m g5 g7 ∧ (g8 = g7))))) → (xk_kept g8) → (va_P G xk_cls (xk_wU ad ac g8) H) → (va_D A (xk_wU ad ac g8)) → (va_S A s.heap H locs) → W p l e xk_r4 s m args below meth c H locs 0 0 Q (F0 m 55 ls []) := by
      intro g8 H locs R2 Ig8 hP hD hS
      refine lv_iinc (k := 1) (x := 1) (v := 2) (lv' := [(2, .int 2), (3, .int (qzK_takePulse_1 (g4 15))), (1, .int 0), (0, .ref (ad 0))]) (pc := 55) hx hb dzU_countPulses_55 hl rfl (by decide) (by decide) rfl (fun ls hl => ?_)
      refine lv_goto (tgt := 9) (pc := 58) hx hb dzU_countPulses_58 (by decide) ?_
      refine lv_iload_n (pc := 9) hx hb dzU_countPulses_9 rfl (lv_at hl 0 rfl) ?_
      refine lv_iconst (v := 4) (pc := 10) hx hb dzU_countPulses_10 (by decide) ?_
      refine lv_icmp_ge (pc := 11) (tgt := 61) hx hb dzU_countPulses_11 (by decide) (fun hq9 => absurd hq9 (by decide)) (fun _ => ?_)
      refine lv_aload_n (pc := 14) hx hb dzU_countPulses_14 rfl (lv_at hl 3 rfl) ?_
      refine xk_get (pc := 15) hx hb hts hown hK hP ffzU_11 0 rfl rfl dzU_countPulses_15 ?_
      refine lv_iload_n (pc := 18) hx hb dzU_countPulses_18 rfl (lv_at hl 2 rfl) ?_
      refine xk_aald (q0 := 1) (t0 := 2) (j := 0) (b := (ad 9)) (pc := 19) hx hb hK hP rfl rfl (pk_in 0 2 (by decide)) (pk_cl 0) rfl dzU_countPulses_19 ?_
      refine lv_iload_n (pc := 20) hx hb dzU_countPulses_20 rfl (lv_at hl 0 rfl) ?_
      refine xk_callVI (As := [.int 2]) (rest := []) (H0 := s.heap) (pc := 21) hx hb hml hts hown hK hA hP hD hS (kzK_takePulse_2 l G ac (ad 9) (ad 15) (ad 11) (ad 13) (ad 17) (g8 9 4) (g8 9 5) (g8 15)) vfzU_281 [9, 15] (by decide) rfl (fun _ => rfl) 9 rfl rfl ⟨rfl, rfl⟩ ⟨Nat.le_of_ble_eq_true rfl, Nat.le_of_ble_eq_true rfl⟩ rfl hl.1 rfl (Nat.le_of_ble_eq_true rfl) ⟨Nat.zero_le _, Nat.zero_le _⟩ dzU_countPulses_21 (fun r3 u9 H locs e9 hP hD hS => ?_)
      obtain rfl : r3 = qzK_takePulse_2 (g8 15) := e9
      obtain ⟨g9, eg9⟩ : ∃ z : xk_St, z = va_up g8 15 (qzK_takePulse_2_b (g8 15)) := ⟨_, rfl⟩
      have hP : va_P G xk_cls (xk_wU ad ac g9) H := by rw [eg9]; exact hP
      have hD : va_D A (xk_wU ad ac g9) := by rw [eg9]; exact hD
      have Ig9 : xk_kept g9 := by rw [eg9]; exact xk_kept_a _ Ig8
      refine lv_istore_n (lv' := [(3, .int (qzK_takePulse_2 (g8 15))), (2, .int 2), (1, .int 0), (0, .ref (ad 0))]) (pc := 24) hx hb dzU_countPulses_24 rfl hl (by decide) rfl (fun ls hl => ?_)
      refine lv_iload_n (pc := 25) hx hb dzU_countPulses_25 rfl (lv_at hl 0 rfl) ?_
      have K3 : ∀ (g12 : xk_St) (H : Heap) (locs : List Loc), (if (qzK_takePulse_2 (g8 15)) = 0 then (g12 = g9) else (if ((g9 17) 2) = 0 then (g12 = g9) else (if (qzK_takePulse_2 (g8 15)) = 1 then (∃ (g10 : xk_St), relzU_countAxle_0_2_p g9 g10 ∧ (g12 = g10)) else (∃ (g11 : xk_St), relzU_countAxle_0_2_m g9 g11 ∧ (g12 = g11))))) → (xk_kept g12) → (va_P G xk_cls (xk_wU ad ac g12) H) → (va_D A (xk_wU ad ac g12)) → (va_S A s.heap H locs) → W p l e xk_r4 s m args below meth c H locs 0 0 Q (F0 m 55 ls []) := by
        intro g12 H locs R3 Ig12 hP hD hS
        refine lv_iinc (k := 1) (x := 2) (v := 3) (lv' := [(2, .int 3), (3, .int (qzK_takePulse_2 (g8 15))), (1, .int 0), (0, .ref (ad 0))]) (pc := 55) hx hb dzU_countPulses_55 hl rfl (by decide) (by decide) rfl (fun ls hl => ?_)
        refine lv_goto (tgt := 9) (pc := 58) hx hb dzU_countPulses_58 (by decide) ?_
        refine lv_iload_n (pc := 9) hx hb dzU_countPulses_9 rfl (lv_at hl 0 rfl) ?_
        refine lv_iconst (v := 4) (pc := 10) hx hb dzU_countPulses_10 (by decide) ?_
        refine lv_icmp_ge (pc := 11) (tgt := 61) hx hb dzU_countPulses_11 (by decide) (fun hq9 => absurd hq9 (by decide)) (fun _ => ?_)
        refine lv_aload_n (pc := 14) hx hb dzU_countPulses_14 rfl (lv_at hl 3 rfl) ?_
        refine xk_get (pc := 15) hx hb hts hown hK hP ffzU_11 0 rfl rfl dzU_countPulses_15 ?_
        refine lv_iload_n (pc := 18) hx hb dzU_countPulses_18 rfl (lv_at hl 2 rfl) ?_
        refine xk_aald (q0 := 1) (t0 := 2) (j := 0) (b := (ad 9)) (pc := 19) hx hb hK hP rfl rfl (pk_in 0 2 (by decide)) (pk_cl 0) rfl dzU_countPulses_19 ?_
        refine lv_iload_n (pc := 20) hx hb dzU_countPulses_20 rfl (lv_at hl 0 rfl) ?_
        refine xk_callVI (As := [.int 3]) (rest := []) (H0 := s.heap) (pc := 21) hx hb hml hts hown hK hA hP hD hS (kzK_takePulse_3 l G ac (ad 9) (ad 15) (ad 11) (ad 13) (ad 17) (g12 9 4) (g12 9 5) (g12 15)) vfzU_281 [9, 15] (by decide) rfl (fun _ => rfl) 9 rfl rfl ⟨rfl, rfl⟩ ⟨Nat.le_of_ble_eq_true rfl, Nat.le_of_ble_eq_true rfl⟩ rfl hl.1 rfl (Nat.le_of_ble_eq_true rfl) ⟨Nat.zero_le _, Nat.zero_le _⟩ dzU_countPulses_21 (fun r4 u9 H locs e9 hP hD hS => ?_)
        obtain rfl : r4 = qzK_takePulse_3 (g12 15) := e9
        obtain ⟨g13, eg13⟩ : ∃ z : xk_St, z = va_up g12 15 (qzK_takePulse_3_b (g12 15)) := ⟨_, rfl⟩
        have hP : va_P G xk_cls (xk_wU ad ac g13) H := by rw [eg13]; exact hP
        have hD : va_D A (xk_wU ad ac g13) := by rw [eg13]; exact hD
        have Ig13 : xk_kept g13 := by rw [eg13]; exact xk_kept_a _ Ig12
        refine lv_istore_n (lv' := [(3, .int (qzK_takePulse_3 (g12 15))), (2, .int 3), (1, .int 0), (0, .ref (ad 0))]) (pc := 24) hx hb dzU_countPulses_24 rfl hl (by decide) rfl (fun ls hl => ?_)
        refine lv_iload_n (pc := 25) hx hb dzU_countPulses_25 rfl (lv_at hl 0 rfl) ?_
        have K4 : ∀ (g16 : xk_St) (H : Heap) (locs : List Loc), (if (qzK_takePulse_3 (g12 15)) = 0 then (g16 = g13) else (if ((g13 17) 3) = 0 then (g16 = g13) else (if (qzK_takePulse_3 (g12 15)) = 1 then (∃ (g14 : xk_St), relzU_countAxle_0_3_p g13 g14 ∧ (g16 = g14)) else (∃ (g15 : xk_St), relzU_countAxle_0_3_m g13 g15 ∧ (g16 = g15))))) → (xk_kept g16) → (va_P G xk_cls (xk_wU ad ac g16) H) → (va_D A (xk_wU ad ac g16)) → (va_S A s.heap H locs) → W p l e xk_r4 s m args below meth c H locs 0 0 Q (F0 m 55 ls []) := by
          intro g16 H locs R4 Ig16 hP hD hS
          refine lv_iinc (k := 1) (x := 3) (v := 4) (lv' := [(2, .int 4), (3, .int (qzK_takePulse_3 (g12 15))), (1, .int 0), (0, .ref (ad 0))]) (pc := 55) hx hb dzU_countPulses_55 hl rfl (by decide) (by decide) rfl (fun ls hl => ?_)
          refine lv_goto (tgt := 9) (pc := 58) hx hb dzU_countPulses_58 (by decide) ?_
          refine lv_iload_n (pc := 9) hx hb dzU_countPulses_9 rfl (lv_at hl 0 rfl) ?_
          refine lv_iconst (v := 4) (pc := 10) hx hb dzU_countPulses_10 (by decide) ?_
          refine lv_icmp_ge (pc := 11) (tgt := 61) hx hb dzU_countPulses_11 (by decide) (fun _ => ?_) (fun hq9 => absurd (by decide) hq9)
          refine lv_iinc (k := 2) (x := 0) (v := 1) (lv' := [(1, .int 1), (2, .int 4), (3, .int (qzK_takePulse_3 (g12 15))), (0, .ref (ad 0))]) (pc := 61) hx hb dzU_countPulses_61 hl rfl (by decide) (by decide) rfl (fun ls hl => ?_)
          refine lv_goto (tgt := 2) (pc := 64) hx hb dzU_countPulses_64 (by decide) ?_
          refine lv_iload_n (pc := 2) hx hb dzU_countPulses_2 rfl (lv_at hl 0 rfl) ?_
          refine lv_iconst (v := 2) (pc := 3) hx hb dzU_countPulses_3 (by decide) ?_
          refine lv_icmp_ge (pc := 4) (tgt := 67) hx hb dzU_countPulses_4 (by decide) (fun hq9 => absurd hq9 (by decide)) (fun _ => ?_)
          refine lv_iconst (v := 0) (pc := 7) hx hb dzU_countPulses_7 (by decide) ?_
          refine lv_istore_n (lv' := [(2, .int 0), (1, .int 1), (3, .int (qzK_takePulse_3 (g12 15))), (0, .ref (ad 0))]) (pc := 8) hx hb dzU_countPulses_8 rfl hl (by decide) rfl (fun ls hl => ?_)
          refine lv_iload_n (pc := 9) hx hb dzU_countPulses_9 rfl (lv_at hl 0 rfl) ?_
          refine lv_iconst (v := 4) (pc := 10) hx hb dzU_countPulses_10 (by decide) ?_
          refine lv_icmp_ge (pc := 11) (tgt := 61) hx hb dzU_countPulses_11 (by decide) (fun hq9 => absurd hq9 (by decide)) (fun _ => ?_)
          refine lv_aload_n (pc := 14) hx hb dzU_countPulses_14 rfl (lv_at hl 3 rfl) ?_
          refine xk_get (pc := 15) hx hb hts hown hK hP ffzU_11 0 rfl rfl dzU_countPulses_15 ?_
          refine lv_iload_n (pc := 18) hx hb dzU_countPulses_18 rfl (lv_at hl 1 rfl) ?_
          refine xk_aald (q0 := 1) (t0 := 2) (j := 1) (b := (ad 10)) (pc := 19) hx hb hK hP rfl rfl (pk_in 1 2 (by decide)) (pk_cl 1) rfl dzU_countPulses_19 ?_
          refine lv_iload_n (pc := 20) hx hb dzU_countPulses_20 rfl (lv_at hl 0 rfl) ?_
          refine xk_callVI (As := [.int 0]) (rest := []) (H0 := s.heap) (pc := 21) hx hb hml hts hown hK hA hP hD hS (kzK_takePulse_0 l G ac (ad 10) (ad 16) (ad 12) (ad 14) (ad 18) (g16 10 4) (g16 10 5) (g16 16)) vfzU_281 [10, 16] (by decide) rfl (fun _ => rfl) 10 rfl rfl ⟨rfl, rfl⟩ ⟨Nat.le_of_ble_eq_true rfl, Nat.le_of_ble_eq_true rfl⟩ rfl hl.1 rfl (Nat.le_of_ble_eq_true rfl) ⟨Nat.zero_le _, Nat.zero_le _⟩ dzU_countPulses_21 (fun r5 u9 H locs e9 hP hD hS => ?_)
          obtain rfl : r5 = qzK_takePulse_0 (g16 16) := e9
          obtain ⟨g17, eg17⟩ : ∃ z : xk_St, z = va_up g16 16 (qzK_takePulse_0_b (g16 16)) := ⟨_, rfl⟩
          have hP : va_P G xk_cls (xk_wU ad ac g17) H := by rw [eg17]; exact hP
          have hD : va_D A (xk_wU ad ac g17) := by rw [eg17]; exact hD
          have Ig17 : xk_kept g17 := by rw [eg17]; exact xk_kept_b _ Ig16
          refine lv_istore_n (lv' := [(3, .int (qzK_takePulse_0 (g16 16))), (2, .int 0), (1, .int 1), (0, .ref (ad 0))]) (pc := 24) hx hb dzU_countPulses_24 rfl hl (by decide) rfl (fun ls hl => ?_)
          refine lv_iload_n (pc := 25) hx hb dzU_countPulses_25 rfl (lv_at hl 0 rfl) ?_
          have K5 : ∀ (g20 : xk_St) (H : Heap) (locs : List Loc), (if (qzK_takePulse_0 (g16 16)) = 0 then (g20 = g17) else (if ((g17 18) 0) = 0 then (g20 = g17) else (if (qzK_takePulse_0 (g16 16)) = 1 then (∃ (g18 : xk_St), relzU_countAxle_1_0_p g17 g18 ∧ (g20 = g18)) else (∃ (g19 : xk_St), relzU_countAxle_1_0_m g17 g19 ∧ (g20 = g19))))) → (xk_kept g20) → (va_P G xk_cls (xk_wU ad ac g20) H) → (va_D A (xk_wU ad ac g20)) → (va_S A s.heap H locs) → W p l e xk_r4 s m args below meth c H locs 0 0 Q (F0 m 55 ls []) := by
            intro g20 H locs R5 Ig20 hP hD hS
            refine lv_iinc (k := 1) (x := 0) (v := 1) (lv' := [(2, .int 1), (3, .int (qzK_takePulse_0 (g16 16))), (1, .int 1), (0, .ref (ad 0))]) (pc := 55) hx hb dzU_countPulses_55 hl rfl (by decide) (by decide) rfl (fun ls hl => ?_)
            refine lv_goto (tgt := 9) (pc := 58) hx hb dzU_countPulses_58 (by decide) ?_
            refine lv_iload_n (pc := 9) hx hb dzU_countPulses_9 rfl (lv_at hl 0 rfl) ?_
            refine lv_iconst (v := 4) (pc := 10) hx hb dzU_countPulses_10 (by decide) ?_
            refine lv_icmp_ge (pc := 11) (tgt := 61) hx hb dzU_countPulses_11 (by decide) (fun hq9 => absurd hq9 (by decide)) (fun _ => ?_)
            refine lv_aload_n (pc := 14) hx hb dzU_countPulses_14 rfl (lv_at hl 3 rfl) ?_
            refine xk_get (pc := 15) hx hb hts hown hK hP ffzU_11 0 rfl rfl dzU_countPulses_15 ?_
            refine lv_iload_n (pc := 18) hx hb dzU_countPulses_18 rfl (lv_at hl 2 rfl) ?_
            refine xk_aald (q0 := 1) (t0 := 2) (j := 1) (b := (ad 10)) (pc := 19) hx hb hK hP rfl rfl (pk_in 1 2 (by decide)) (pk_cl 1) rfl dzU_countPulses_19 ?_
            refine lv_iload_n (pc := 20) hx hb dzU_countPulses_20 rfl (lv_at hl 0 rfl) ?_
            refine xk_callVI (As := [.int 1]) (rest := []) (H0 := s.heap) (pc := 21) hx hb hml hts hown hK hA hP hD hS (kzK_takePulse_1 l G ac (ad 10) (ad 16) (ad 12) (ad 14) (ad 18) (g20 10 4) (g20 10 5) (g20 16)) vfzU_281 [10, 16] (by decide) rfl (fun _ => rfl) 10 rfl rfl ⟨rfl, rfl⟩ ⟨Nat.le_of_ble_eq_true rfl, Nat.le_of_ble_eq_true rfl⟩ rfl hl.1 rfl (Nat.le_of_ble_eq_true rfl) ⟨Nat.zero_le _, Nat.zero_le _⟩ dzU_countPulses_21 (fun r6 u9 H locs e9 hP hD hS => ?_)
            obtain rfl : r6 = qzK_takePulse_1 (g20 16) := e9
            obtain ⟨g21, eg21⟩ : ∃ z : xk_St, z = va_up g20 16 (qzK_takePulse_1_b (g20 16)) := ⟨_, rfl⟩
            have hP : va_P G xk_cls (xk_wU ad ac g21) H := by rw [eg21]; exact hP
            have hD : va_D A (xk_wU ad ac g21) := by rw [eg21]; exact hD
            have Ig21 : xk_kept g21 := by rw [eg21]; exact xk_kept_b _ Ig20
            refine lv_istore_n (lv' := [(3, .int (qzK_takePulse_1 (g20 16))), (2, .int 1), (1, .int 1), (0, .ref (ad 0))]) (pc := 24) hx hb dzU_countPulses_24 rfl hl (by decide) rfl (fun ls hl => ?_)
            refine lv_iload_n (pc := 25) hx hb dzU_countPulses_25 rfl (lv_at hl 0 rfl) ?_
            have K6 : ∀ (g24 : xk_St) (H : Heap) (locs : List Loc), (if (qzK_takePulse_1 (g20 16)) = 0 then (g24 = g21) else (if ((g21 18) 1) = 0 then (g24 = g21) else (if (qzK_takePulse_1 (g20 16)) = 1 then (∃ (g22 : xk_St), relzU_countAxle_1_1_p g21 g22 ∧ (g24 = g22)) else (∃ (g23 : xk_St), relzU_countAxle_1_1_m g21 g23 ∧ (g24 = g23))))) → (xk_kept g24) → (va_P G xk_cls (xk_wU ad ac g24) H) → (va_D A (xk_wU ad ac g24)) → (va_S A s.heap H locs) → W p l e xk_r4 s m args below meth c H locs 0 0 Q (F0 m 55 ls []) := by
              intro g24 H locs R6 Ig24 hP hD hS
              refine lv_iinc (k := 1) (x := 1) (v := 2) (lv' := [(2, .int 2), (3, .int (qzK_takePulse_1 (g20 16))), (1, .int 1), (0, .ref (ad 0))]) (pc := 55) hx hb dzU_countPulses_55 hl rfl (by decide) (by decide) rfl (fun ls hl => ?_)
              refine lv_goto (tgt := 9) (pc := 58) hx hb dzU_countPulses_58 (by decide) ?_
              refine lv_iload_n (pc := 9) hx hb dzU_countPulses_9 rfl (lv_at hl 0 rfl) ?_
              refine lv_iconst (v := 4) (pc := 10) hx hb dzU_countPulses_10 (by decide) ?_
              refine lv_icmp_ge (pc := 11) (tgt := 61) hx hb dzU_countPulses_11 (by decide) (fun hq9 => absurd hq9 (by decide)) (fun _ => ?_)
              refine lv_aload_n (pc := 14) hx hb dzU_countPulses_14 rfl (lv_at hl 3 rfl) ?_
              refine xk_get (pc := 15) hx hb hts hown hK hP ffzU_11 0 rfl rfl dzU_countPulses_15 ?_
              refine lv_iload_n (pc := 18) hx hb dzU_countPulses_18 rfl (lv_at hl 2 rfl) ?_
              refine xk_aald (q0 := 1) (t0 := 2) (j := 1) (b := (ad 10)) (pc := 19) hx hb hK hP rfl rfl (pk_in 1 2 (by decide)) (pk_cl 1) rfl dzU_countPulses_19 ?_
              refine lv_iload_n (pc := 20) hx hb dzU_countPulses_20 rfl (lv_at hl 0 rfl) ?_
              refine xk_callVI (As := [.int 2]) (rest := []) (H0 := s.heap) (pc := 21) hx hb hml hts hown hK hA hP hD hS (kzK_takePulse_2 l G ac (ad 10) (ad 16) (ad 12) (ad 14) (ad 18) (g24 10 4) (g24 10 5) (g24 16)) vfzU_281 [10, 16] (by decide) rfl (fun _ => rfl) 10 rfl rfl ⟨rfl, rfl⟩ ⟨Nat.le_of_ble_eq_true rfl, Nat.le_of_ble_eq_true rfl⟩ rfl hl.1 rfl (Nat.le_of_ble_eq_true rfl) ⟨Nat.zero_le _, Nat.zero_le _⟩ dzU_countPulses_21 (fun r7 u9 H locs e9 hP hD hS => ?_)
              obtain rfl : r7 = qzK_takePulse_2 (g24 16) := e9
              obtain ⟨g25, eg25⟩ : ∃ z : xk_St, z = va_up g24 16 (qzK_takePulse_2_b (g24 16)) := ⟨_, rfl⟩
              have hP : va_P G xk_cls (xk_wU ad ac g25) H := by rw [eg25]; exact hP
              have hD : va_D A (xk_wU ad ac g25) := by rw [eg25]; exact hD
              have Ig25 : xk_kept g25 := by rw [eg25]; exact xk_kept_b _ Ig24
              refine lv_istore_n (lv' := [(3, .int (qzK_takePulse_2 (g24 16))), (2, .int 2), (1, .int 1), (0, .ref (ad 0))]) (pc := 24) hx hb dzU_countPulses_24 rfl hl (by decide) rfl (fun ls hl => ?_)
              refine lv_iload_n (pc := 25) hx hb dzU_countPulses_25 rfl (lv_at hl 0 rfl) ?_
              have K7 : ∀ (g28 : xk_St) (H : Heap) (locs : List Loc), (if (qzK_takePulse_2 (g24 16)) = 0 then (g28 = g25) else (if ((g25 18) 2) = 0 then (g28 = g25) else (if (qzK_takePulse_2 (g24 16)) = 1 then (∃ (g26 : xk_St), relzU_countAxle_1_2_p g25 g26 ∧ (g28 = g26)) else (∃ (g27 : xk_St), relzU_countAxle_1_2_m g25 g27 ∧ (g28 = g27))))) → (xk_kept g28) → (va_P G xk_cls (xk_wU ad ac g28) H) → (va_D A (xk_wU ad ac g28)) → (va_S A s.heap H locs) → W p l e xk_r4 s m args below meth c H locs 0 0 Q (F0 m 55 ls []) := by
                intro g28 H locs R7 Ig28 hP hD hS
                refine lv_iinc (k := 1) (x := 2) (v := 3) (lv' := [(2, .int 3), (3, .int (qzK_takePulse_2 (g24 16))), (1, .int 1), (0, .ref (ad 0))]) (pc := 55) hx hb dzU_countPulses_55 hl rfl (by decide) (by decide) rfl (fun ls hl => ?_)
                refine lv_goto (tgt := 9) (pc := 58) hx hb dzU_countPulses_58 (by decide) ?_
                refine lv_iload_n (pc := 9) hx hb dzU_countPulses_9 rfl (lv_at hl 0 rfl) ?_
                refine lv_iconst (v := 4) (pc := 10) hx hb dzU_countPulses_10 (by decide) ?_
                refine lv_icmp_ge (pc := 11) (tgt := 61) hx hb dzU_countPulses_11 (by decide) (fun hq9 => absurd hq9 (by decide)) (fun _ => ?_)
                refine lv_aload_n (pc := 14) hx hb dzU_countPulses_14 rfl (lv_at hl 3 rfl) ?_
                refine xk_get (pc := 15) hx hb hts hown hK hP ffzU_11 0 rfl rfl dzU_countPulses_15 ?_
                refine lv_iload_n (pc := 18) hx hb dzU_countPulses_18 rfl (lv_at hl 2 rfl) ?_
                refine xk_aald (q0 := 1) (t0 := 2) (j := 1) (b := (ad 10)) (pc := 19) hx hb hK hP rfl rfl (pk_in 1 2 (by decide)) (pk_cl 1) rfl dzU_countPulses_19 ?_
                refine lv_iload_n (pc := 20) hx hb dzU_countPulses_20 rfl (lv_at hl 0 rfl) ?_
                refine xk_callVI (As := [.int 3]) (rest := []) (H0 := s.heap) (pc := 21) hx hb hml hts hown hK hA hP hD hS (kzK_takePulse_3 l G ac (ad 10) (ad 16) (ad 12) (ad 14) (ad 18) (g28 10 4) (g28 10 5) (g28 16)) vfzU_281 [10, 16] (by decide) rfl (fun _ => rfl) 10 rfl rfl ⟨rfl, rfl⟩ ⟨Nat.le_of_ble_eq_true rfl, Nat.le_of_ble_eq_true rfl⟩ rfl hl.1 rfl (Nat.le_of_ble_eq_true rfl) ⟨Nat.zero_le _, Nat.zero_le _⟩ dzU_countPulses_21 (fun r8 u9 H locs e9 hP hD hS => ?_)
                obtain rfl : r8 = qzK_takePulse_3 (g28 16) := e9
                obtain ⟨g29, eg29⟩ : ∃ z : xk_St, z = va_up g28 16 (qzK_takePulse_3_b (g28 16)) := ⟨_, rfl⟩
                have hP : va_P G xk_cls (xk_wU ad ac g29) H := by rw [eg29]; exact hP
                have hD : va_D A (xk_wU ad ac g29) := by rw [eg29]; exact hD
                have Ig29 : xk_kept g29 := by rw [eg29]; exact xk_kept_b _ Ig28
                refine lv_istore_n (lv' := [(3, .int (qzK_takePulse_3 (g28 16))), (2, .int 3), (1, .int 1), (0, .ref (ad 0))]) (pc := 24) hx hb dzU_countPulses_24 rfl hl (by decide) rfl (fun ls hl => ?_)
                refine lv_iload_n (pc := 25) hx hb dzU_countPulses_25 rfl (lv_at hl 0 rfl) ?_
                have K8 : ∀ (g32 : xk_St) (H : Heap) (locs : List Loc), (if (qzK_takePulse_3 (g28 16)) = 0 then (g32 = g29) else (if ((g29 18) 3) = 0 then (g32 = g29) else (if (qzK_takePulse_3 (g28 16)) = 1 then (∃ (g30 : xk_St), relzU_countAxle_1_3_p g29 g30 ∧ (g32 = g30)) else (∃ (g31 : xk_St), relzU_countAxle_1_3_m g29 g31 ∧ (g32 = g31))))) → (xk_kept g32) → (va_P G xk_cls (xk_wU ad ac g32) H) → (va_D A (xk_wU ad ac g32)) → (va_S A s.heap H locs) → W p l e xk_r4 s m args below meth c H locs 0 0 Q (F0 m 55 ls []) := by
                  intro g32 H locs R8 Ig32 hP hD hS
                  refine lv_iinc (k := 1) (x := 3) (v := 4) (lv' := [(2, .int 4), (3, .int (qzK_takePulse_3 (g28 16))), (1, .int 1), (0, .ref (ad 0))]) (pc := 55) hx hb dzU_countPulses_55 hl rfl (by decide) (by decide) rfl (fun ls hl => ?_)
                  refine lv_goto (tgt := 9) (pc := 58) hx hb dzU_countPulses_58 (by decide) ?_
                  refine lv_iload_n (pc := 9) hx hb dzU_countPulses_9 rfl (lv_at hl 0 rfl) ?_
                  refine lv_iconst (v := 4) (pc := 10) hx hb dzU_countPulses_10 (by decide) ?_
                  refine lv_icmp_ge (pc := 11) (tgt := 61) hx hb dzU_countPulses_11 (by decide) (fun _ => ?_) (fun hq9 => absurd (by decide) hq9)
                  refine lv_iinc (k := 2) (x := 1) (v := 2) (lv' := [(1, .int 2), (2, .int 4), (3, .int (qzK_takePulse_3 (g28 16))), (0, .ref (ad 0))]) (pc := 61) hx hb dzU_countPulses_61 hl rfl (by decide) (by decide) rfl (fun ls hl => ?_)
                  refine lv_goto (tgt := 2) (pc := 64) hx hb dzU_countPulses_64 (by decide) ?_
                  refine lv_iload_n (pc := 2) hx hb dzU_countPulses_2 rfl (lv_at hl 0 rfl) ?_
                  refine lv_iconst (v := 2) (pc := 3) hx hb dzU_countPulses_3 (by decide) ?_
                  refine lv_icmp_ge (pc := 4) (tgt := 67) hx hb dzU_countPulses_4 (by decide) (fun _ => ?_) (fun hq9 => absurd (by decide) hq9)
                  exact hret g32 H locs 67 ls hP hS (by unfold relzU_countPulses; exact ⟨g1, eg1, ⟨g4, R1, ⟨g5, eg5, ⟨g8, R2, ⟨g9, eg9, ⟨g12, R3, ⟨g13, eg13, ⟨g16, R4, ⟨g17, eg17, ⟨g20, R5, ⟨g21, eg21, ⟨g24, R6, ⟨g25, eg25, ⟨g28, R7, ⟨g29, eg29, ⟨g32, R8, rfl⟩⟩⟩⟩⟩⟩⟩⟩⟩⟩⟩⟩⟩⟩⟩⟩) dzU_countPulses_67
                refine lv_if_eq (pc := 26) (tgt := 55) hx hb dzU_countPulses_26 (by decide) (fun h22 => ?_) (fun h22 => ?_)
                ·
                  exact K8 g29 H locs (Eq.mpr (if_pos h22) rfl) Ig29 hP hD hS
                ·
                  refine lv_aload_n (pc := 29) hx hb dzU_countPulses_29 rfl (lv_at hl 3 rfl) ?_
                  refine xk_get (pc := 30) hx hb hts hown hK hP ffzU_11 0 rfl rfl dzU_countPulses_30 ?_
                  refine lv_iload_n (pc := 33) hx hb dzU_countPulses_33 rfl (lv_at hl 2 rfl) ?_
                  refine xk_aald (q0 := 1) (t0 := 2) (j := 1) (b := (ad 10)) (pc := 34) hx hb hK hP rfl rfl (pk_in 1 2 (by decide)) (pk_cl 1) rfl dzU_countPulses_34 ?_
                  refine xk_get (pc := 35) hx hb hts hown hK hP ffzU_86 10 rfl rfl dzU_countPulses_35 ?_
                  refine lv_iload_n (pc := 38) hx hb dzU_countPulses_38 rfl (lv_at hl 1 rfl) ?_
                  refine xk_zald (q0 := 18) (t0 := 1) (j := 3) (pc := 39) hx hb hK hP rfl rfl (pk_in 3 4 (by decide)) (pk_cl 3) dzU_countPulses_39 ?_
                  refine lv_if_eq (pc := 40) (tgt := 55) hx hb dzU_countPulses_40 (by decide) (fun h23 => ?_) (fun h23 => ?_)
                  ·
                    exact K8 g29 H locs (Eq.mpr (if_neg h22) (Eq.mpr (if_pos h23) rfl)) Ig29 hP hD hS
                  ·
                    refine lv_aload_n (pc := 43) hx hb dzU_countPulses_43 rfl (lv_at hl 3 rfl) ?_
                    refine lv_aload_n (pc := 44) hx hb dzU_countPulses_44 rfl (lv_at hl 3 rfl) ?_
                    refine xk_get (pc := 45) hx hb hts hown hK hP ffzU_11 0 rfl rfl dzU_countPulses_45 ?_
                    refine lv_iload_n (pc := 48) hx hb dzU_countPulses_48 rfl (lv_at hl 2 rfl) ?_
                    refine xk_aald (q0 := 1) (t0 := 2) (j := 1) (b := (ad 10)) (pc := 49) hx hb hK hP rfl rfl (pk_in 1 2 (by decide)) (pk_cl 1) rfl dzU_countPulses_49 ?_
                    refine lv_iload_n (pc := 50) hx hb dzU_countPulses_50 rfl (lv_at hl 1 rfl) ?_
                    refine lv_iload_n (pc := 51) hx hb dzU_countPulses_51 rfl (lv_at hl 0 rfl) ?_
                    by_cases h24 : (qzK_takePulse_3 (g28 16)) = 1
                    ·
                      refine xk_allVV (As := [.ref (ad 10), .int 3, .int (qzK_takePulse_3 (g28 16))]) (rest := []) (H0 := s.heap) (pc := 52) hx hb hml hts hown hK hA hP hD hS (kzU_countAxle_1_3_p l G ac ad g29 (qzK_takePulse_3 (g28 16)) h24) vfzU_285 (fun _ => rfl) 0 rfl rfl ⟨rfl, rfl⟩ ⟨Nat.le_of_ble_eq_true rfl, Nat.le_of_ble_eq_true rfl⟩ rfl hl.1 rfl (Nat.le_of_ble_eq_true rfl) ⟨Nat.zero_le _, Nat.zero_le _⟩ dzU_countPulses_52 (fun g30 H locs hg30 hP hD hS => ?_)
                      have hP : va_P G xk_cls (xk_wU ad ac g30) H := hP
                      have hD : va_D A (xk_wU ad ac g30) := hD
                      have Ig30 : xk_kept g30 := xk_kept_of (frzU_countAxle_1_3_p _ _ hg30) (by decide) (by decide) Ig29
                      exact K8 g30 H locs (Eq.mpr (if_neg h22) (Eq.mpr (if_neg h23) (Eq.mpr (if_pos h24) ⟨g30, hg30, rfl⟩))) Ig30 hP hD hS
                    ·
                      refine xk_allVV (As := [.ref (ad 10), .int 3, .int (qzK_takePulse_3 (g28 16))]) (rest := []) (H0 := s.heap) (pc := 52) hx hb hml hts hown hK hA hP hD hS (kzU_countAxle_1_3_m l G ac ad g29 (qzK_takePulse_3 (g28 16)) (xk_pm ((Ig28 3).2) h22 h24)) vfzU_285 (fun _ => rfl) 0 rfl rfl ⟨rfl, rfl⟩ ⟨Nat.le_of_ble_eq_true rfl, Nat.le_of_ble_eq_true rfl⟩ rfl hl.1 rfl (Nat.le_of_ble_eq_true rfl) ⟨Nat.zero_le _, Nat.zero_le _⟩ dzU_countPulses_52 (fun g31 H locs hg31 hP hD hS => ?_)
                      have hP : va_P G xk_cls (xk_wU ad ac g31) H := hP
                      have hD : va_D A (xk_wU ad ac g31) := hD
                      have Ig31 : xk_kept g31 := xk_kept_of (frzU_countAxle_1_3_m _ _ hg31) (by decide) (by decide) Ig29
                      exact K8 g31 H locs (Eq.mpr (if_neg h22) (Eq.mpr (if_neg h23) (Eq.mpr (if_neg h24) ⟨g31, hg31, rfl⟩))) Ig31 hP hD hS
              refine lv_if_eq (pc := 26) (tgt := 55) hx hb dzU_countPulses_26 (by decide) (fun h19 => ?_) (fun h19 => ?_)
              ·
                exact K7 g25 H locs (Eq.mpr (if_pos h19) rfl) Ig25 hP hD hS
              ·
                refine lv_aload_n (pc := 29) hx hb dzU_countPulses_29 rfl (lv_at hl 3 rfl) ?_
                refine xk_get (pc := 30) hx hb hts hown hK hP ffzU_11 0 rfl rfl dzU_countPulses_30 ?_
                refine lv_iload_n (pc := 33) hx hb dzU_countPulses_33 rfl (lv_at hl 2 rfl) ?_
                refine xk_aald (q0 := 1) (t0 := 2) (j := 1) (b := (ad 10)) (pc := 34) hx hb hK hP rfl rfl (pk_in 1 2 (by decide)) (pk_cl 1) rfl dzU_countPulses_34 ?_
                refine xk_get (pc := 35) hx hb hts hown hK hP ffzU_86 10 rfl rfl dzU_countPulses_35 ?_
                refine lv_iload_n (pc := 38) hx hb dzU_countPulses_38 rfl (lv_at hl 1 rfl) ?_
                refine xk_zald (q0 := 18) (t0 := 1) (j := 2) (pc := 39) hx hb hK hP rfl rfl (pk_in 2 4 (by decide)) (pk_cl 2) dzU_countPulses_39 ?_
                refine lv_if_eq (pc := 40) (tgt := 55) hx hb dzU_countPulses_40 (by decide) (fun h20 => ?_) (fun h20 => ?_)
                ·
                  exact K7 g25 H locs (Eq.mpr (if_neg h19) (Eq.mpr (if_pos h20) rfl)) Ig25 hP hD hS
                ·
                  refine lv_aload_n (pc := 43) hx hb dzU_countPulses_43 rfl (lv_at hl 3 rfl) ?_
                  refine lv_aload_n (pc := 44) hx hb dzU_countPulses_44 rfl (lv_at hl 3 rfl) ?_
                  refine xk_get (pc := 45) hx hb hts hown hK hP ffzU_11 0 rfl rfl dzU_countPulses_45 ?_
                  refine lv_iload_n (pc := 48) hx hb dzU_countPulses_48 rfl (lv_at hl 2 rfl) ?_
                  refine xk_aald (q0 := 1) (t0 := 2) (j := 1) (b := (ad 10)) (pc := 49) hx hb hK hP rfl rfl (pk_in 1 2 (by decide)) (pk_cl 1) rfl dzU_countPulses_49 ?_
                  refine lv_iload_n (pc := 50) hx hb dzU_countPulses_50 rfl (lv_at hl 1 rfl) ?_
                  refine lv_iload_n (pc := 51) hx hb dzU_countPulses_51 rfl (lv_at hl 0 rfl) ?_
                  by_cases h21 : (qzK_takePulse_2 (g24 16)) = 1
                  ·
                    refine xk_allVV (As := [.ref (ad 10), .int 2, .int (qzK_takePulse_2 (g24 16))]) (rest := []) (H0 := s.heap) (pc := 52) hx hb hml hts hown hK hA hP hD hS (kzU_countAxle_1_2_p l G ac ad g25 (qzK_takePulse_2 (g24 16)) h21) vfzU_285 (fun _ => rfl) 0 rfl rfl ⟨rfl, rfl⟩ ⟨Nat.le_of_ble_eq_true rfl, Nat.le_of_ble_eq_true rfl⟩ rfl hl.1 rfl (Nat.le_of_ble_eq_true rfl) ⟨Nat.zero_le _, Nat.zero_le _⟩ dzU_countPulses_52 (fun g26 H locs hg26 hP hD hS => ?_)
                    have hP : va_P G xk_cls (xk_wU ad ac g26) H := hP
                    have hD : va_D A (xk_wU ad ac g26) := hD
                    have Ig26 : xk_kept g26 := xk_kept_of (frzU_countAxle_1_2_p _ _ hg26) (by decide) (by decide) Ig25
                    exact K7 g26 H locs (Eq.mpr (if_neg h19) (Eq.mpr (if_neg h20) (Eq.mpr (if_pos h21) ⟨g26, hg26, rfl⟩))) Ig26 hP hD hS
                  ·
                    refine xk_allVV (As := [.ref (ad 10), .int 2, .int (qzK_takePulse_2 (g24 16))]) (rest := []) (H0 := s.heap) (pc := 52) hx hb hml hts hown hK hA hP hD hS (kzU_countAxle_1_2_m l G ac ad g25 (qzK_takePulse_2 (g24 16)) (xk_pm ((Ig24 2).2) h19 h21)) vfzU_285 (fun _ => rfl) 0 rfl rfl ⟨rfl, rfl⟩ ⟨Nat.le_of_ble_eq_true rfl, Nat.le_of_ble_eq_true rfl⟩ rfl hl.1 rfl (Nat.le_of_ble_eq_true rfl) ⟨Nat.zero_le _, Nat.zero_le _⟩ dzU_countPulses_52 (fun g27 H locs hg27 hP hD hS => ?_)
                    have hP : va_P G xk_cls (xk_wU ad ac g27) H := hP
                    have hD : va_D A (xk_wU ad ac g27) := hD
                    have Ig27 : xk_kept g27 := xk_kept_of (frzU_countAxle_1_2_m _ _ hg27) (by decide) (by decide) Ig25
                    exact K7 g27 H locs (Eq.mpr (if_neg h19) (Eq.mpr (if_neg h20) (Eq.mpr (if_neg h21) ⟨g27, hg27, rfl⟩))) Ig27 hP hD hS
            refine lv_if_eq (pc := 26) (tgt := 55) hx hb dzU_countPulses_26 (by decide) (fun h16 => ?_) (fun h16 => ?_)
            ·
              exact K6 g21 H locs (Eq.mpr (if_pos h16) rfl) Ig21 hP hD hS
            ·
              refine lv_aload_n (pc := 29) hx hb dzU_countPulses_29 rfl (lv_at hl 3 rfl) ?_
              refine xk_get (pc := 30) hx hb hts hown hK hP ffzU_11 0 rfl rfl dzU_countPulses_30 ?_
              refine lv_iload_n (pc := 33) hx hb dzU_countPulses_33 rfl (lv_at hl 2 rfl) ?_
              refine xk_aald (q0 := 1) (t0 := 2) (j := 1) (b := (ad 10)) (pc := 34) hx hb hK hP rfl rfl (pk_in 1 2 (by decide)) (pk_cl 1) rfl dzU_countPulses_34 ?_
              refine xk_get (pc := 35) hx hb hts hown hK hP ffzU_86 10 rfl rfl dzU_countPulses_35 ?_
              refine lv_iload_n (pc := 38) hx hb dzU_countPulses_38 rfl (lv_at hl 1 rfl) ?_
              refine xk_zald (q0 := 18) (t0 := 1) (j := 1) (pc := 39) hx hb hK hP rfl rfl (pk_in 1 4 (by decide)) (pk_cl 1) dzU_countPulses_39 ?_
              refine lv_if_eq (pc := 40) (tgt := 55) hx hb dzU_countPulses_40 (by decide) (fun h17 => ?_) (fun h17 => ?_)
              ·
                exact K6 g21 H locs (Eq.mpr (if_neg h16) (Eq.mpr (if_pos h17) rfl)) Ig21 hP hD hS
              ·
                refine lv_aload_n (pc := 43) hx hb dzU_countPulses_43 rfl (lv_at hl 3 rfl) ?_
                refine lv_aload_n (pc := 44) hx hb dzU_countPulses_44 rfl (lv_at hl 3 rfl) ?_
                refine xk_get (pc := 45) hx hb hts hown hK hP ffzU_11 0 rfl rfl dzU_countPulses_45 ?_
                refine lv_iload_n (pc := 48) hx hb dzU_countPulses_48 rfl (lv_at hl 2 rfl) ?_
                refine xk_aald (q0 := 1) (t0 := 2) (j := 1) (b := (ad 10)) (pc := 49) hx hb hK hP rfl rfl (pk_in 1 2 (by decide)) (pk_cl 1) rfl dzU_countPulses_49 ?_
                refine lv_iload_n (pc := 50) hx hb dzU_countPulses_50 rfl (lv_at hl 1 rfl) ?_
                refine lv_iload_n (pc := 51) hx hb dzU_countPulses_51 rfl (lv_at hl 0 rfl) ?_
                by_cases h18 : (qzK_takePulse_1 (g20 16)) = 1
                ·
                  refine xk_allVV (As := [.ref (ad 10), .int 1, .int (qzK_takePulse_1 (g20 16))]) (rest := []) (H0 := s.heap) (pc := 52) hx hb hml hts hown hK hA hP hD hS (kzU_countAxle_1_1_p l G ac ad g21 (qzK_takePulse_1 (g20 16)) h18) vfzU_285 (fun _ => rfl) 0 rfl rfl ⟨rfl, rfl⟩ ⟨Nat.le_of_ble_eq_true rfl, Nat.le_of_ble_eq_true rfl⟩ rfl hl.1 rfl (Nat.le_of_ble_eq_true rfl) ⟨Nat.zero_le _, Nat.zero_le _⟩ dzU_countPulses_52 (fun g22 H locs hg22 hP hD hS => ?_)
                  have hP : va_P G xk_cls (xk_wU ad ac g22) H := hP
                  have hD : va_D A (xk_wU ad ac g22) := hD
                  have Ig22 : xk_kept g22 := xk_kept_of (frzU_countAxle_1_1_p _ _ hg22) (by decide) (by decide) Ig21
                  exact K6 g22 H locs (Eq.mpr (if_neg h16) (Eq.mpr (if_neg h17) (Eq.mpr (if_pos h18) ⟨g22, hg22, rfl⟩))) Ig22 hP hD hS
                ·
                  refine xk_allVV (As := [.ref (ad 10), .int 1, .int (qzK_takePulse_1 (g20 16))]) (rest := []) (H0 := s.heap) (pc := 52) hx hb hml hts hown hK hA hP hD hS (kzU_countAxle_1_1_m l G ac ad g21 (qzK_takePulse_1 (g20 16)) (xk_pm ((Ig20 1).2) h16 h18)) vfzU_285 (fun _ => rfl) 0 rfl rfl ⟨rfl, rfl⟩ ⟨Nat.le_of_ble_eq_true rfl, Nat.le_of_ble_eq_true rfl⟩ rfl hl.1 rfl (Nat.le_of_ble_eq_true rfl) ⟨Nat.zero_le _, Nat.zero_le _⟩ dzU_countPulses_52 (fun g23 H locs hg23 hP hD hS => ?_)
                  have hP : va_P G xk_cls (xk_wU ad ac g23) H := hP
                  have hD : va_D A (xk_wU ad ac g23) := hD
                  have Ig23 : xk_kept g23 := xk_kept_of (frzU_countAxle_1_1_m _ _ hg23) (by decide) (by decide) Ig21
                  exact K6 g23 H locs (Eq.mpr (if_neg h16) (Eq.mpr (if_neg h17) (Eq.mpr (if_neg h18) ⟨g23, hg23, rfl⟩))) Ig23 hP hD hS
          refine lv_if_eq (pc := 26) (tgt := 55) hx hb dzU_countPulses_26 (by decide) (fun h13 => ?_) (fun h13 => ?_)
          ·
            exact K5 g17 H locs (Eq.mpr (if_pos h13) rfl) Ig17 hP hD hS
          ·
            refine lv_aload_n (pc := 29) hx hb dzU_countPulses_29 rfl (lv_at hl 3 rfl) ?_
            refine xk_get (pc := 30) hx hb hts hown hK hP ffzU_11 0 rfl rfl dzU_countPulses_30 ?_
            refine lv_iload_n (pc := 33) hx hb dzU_countPulses_33 rfl (lv_at hl 2 rfl) ?_
            refine xk_aald (q0 := 1) (t0 := 2) (j := 1) (b := (ad 10)) (pc := 34) hx hb hK hP rfl rfl (pk_in 1 2 (by decide)) (pk_cl 1) rfl dzU_countPulses_34 ?_
            refine xk_get (pc := 35) hx hb hts hown hK hP ffzU_86 10 rfl rfl dzU_countPulses_35 ?_
            refine lv_iload_n (pc := 38) hx hb dzU_countPulses_38 rfl (lv_at hl 1 rfl) ?_
            refine xk_zald (q0 := 18) (t0 := 1) (j := 0) (pc := 39) hx hb hK hP rfl rfl (pk_in 0 4 (by decide)) (pk_cl 0) dzU_countPulses_39 ?_
            refine lv_if_eq (pc := 40) (tgt := 55) hx hb dzU_countPulses_40 (by decide) (fun h14 => ?_) (fun h14 => ?_)
            ·
              exact K5 g17 H locs (Eq.mpr (if_neg h13) (Eq.mpr (if_pos h14) rfl)) Ig17 hP hD hS
            ·
              refine lv_aload_n (pc := 43) hx hb dzU_countPulses_43 rfl (lv_at hl 3 rfl) ?_
              refine lv_aload_n (pc := 44) hx hb dzU_countPulses_44 rfl (lv_at hl 3 rfl) ?_
              refine xk_get (pc := 45) hx hb hts hown hK hP ffzU_11 0 rfl rfl dzU_countPulses_45 ?_
              refine lv_iload_n (pc := 48) hx hb dzU_countPulses_48 rfl (lv_at hl 2 rfl) ?_
              refine xk_aald (q0 := 1) (t0 := 2) (j := 1) (b := (ad 10)) (pc := 49) hx hb hK hP rfl rfl (pk_in 1 2 (by decide)) (pk_cl 1) rfl dzU_countPulses_49 ?_
              refine lv_iload_n (pc := 50) hx hb dzU_countPulses_50 rfl (lv_at hl 1 rfl) ?_
              refine lv_iload_n (pc := 51) hx hb dzU_countPulses_51 rfl (lv_at hl 0 rfl) ?_
              by_cases h15 : (qzK_takePulse_0 (g16 16)) = 1
              ·
                refine xk_allVV (As := [.ref (ad 10), .int 0, .int (qzK_takePulse_0 (g16 16))]) (rest := []) (H0 := s.heap) (pc := 52) hx hb hml hts hown hK hA hP hD hS (kzU_countAxle_1_0_p l G ac ad g17 (qzK_takePulse_0 (g16 16)) h15) vfzU_285 (fun _ => rfl) 0 rfl rfl ⟨rfl, rfl⟩ ⟨Nat.le_of_ble_eq_true rfl, Nat.le_of_ble_eq_true rfl⟩ rfl hl.1 rfl (Nat.le_of_ble_eq_true rfl) ⟨Nat.zero_le _, Nat.zero_le _⟩ dzU_countPulses_52 (fun g18 H locs hg18 hP hD hS => ?_)
                have hP : va_P G xk_cls (xk_wU ad ac g18) H := hP
                have hD : va_D A (xk_wU ad ac g18) := hD
                have Ig18 : xk_kept g18 := xk_kept_of (frzU_countAxle_1_0_p _ _ hg18) (by decide) (by decide) Ig17
                exact K5 g18 H locs (Eq.mpr (if_neg h13) (Eq.mpr (if_neg h14) (Eq.mpr (if_pos h15) ⟨g18, hg18, rfl⟩))) Ig18 hP hD hS
              ·
                refine xk_allVV (As := [.ref (ad 10), .int 0, .int (qzK_takePulse_0 (g16 16))]) (rest := []) (H0 := s.heap) (pc := 52) hx hb hml hts hown hK hA hP hD hS (kzU_countAxle_1_0_m l G ac ad g17 (qzK_takePulse_0 (g16 16)) (xk_pm ((Ig16 0).2) h13 h15)) vfzU_285 (fun _ => rfl) 0 rfl rfl ⟨rfl, rfl⟩ ⟨Nat.le_of_ble_eq_true rfl, Nat.le_of_ble_eq_true rfl⟩ rfl hl.1 rfl (Nat.le_of_ble_eq_true rfl) ⟨Nat.zero_le _, Nat.zero_le _⟩ dzU_countPulses_52 (fun g19 H locs hg19 hP hD hS => ?_)
                have hP : va_P G xk_cls (xk_wU ad ac g19) H := hP
                have hD : va_D A (xk_wU ad ac g19) := hD
                have Ig19 : xk_kept g19 := xk_kept_of (frzU_countAxle_1_0_m _ _ hg19) (by decide) (by decide) Ig17
                exact K5 g19 H locs (Eq.mpr (if_neg h13) (Eq.mpr (if_neg h14) (Eq.mpr (if_neg h15) ⟨g19, hg19, rfl⟩))) Ig19 hP hD hS
        refine lv_if_eq (pc := 26) (tgt := 55) hx hb dzU_countPulses_26 (by decide) (fun h10 => ?_) (fun h10 => ?_)
        ·
          exact K4 g13 H locs (Eq.mpr (if_pos h10) rfl) Ig13 hP hD hS
        ·
          refine lv_aload_n (pc := 29) hx hb dzU_countPulses_29 rfl (lv_at hl 3 rfl) ?_
          refine xk_get (pc := 30) hx hb hts hown hK hP ffzU_11 0 rfl rfl dzU_countPulses_30 ?_
          refine lv_iload_n (pc := 33) hx hb dzU_countPulses_33 rfl (lv_at hl 2 rfl) ?_
          refine xk_aald (q0 := 1) (t0 := 2) (j := 0) (b := (ad 9)) (pc := 34) hx hb hK hP rfl rfl (pk_in 0 2 (by decide)) (pk_cl 0) rfl dzU_countPulses_34 ?_
          refine xk_get (pc := 35) hx hb hts hown hK hP ffzU_86 9 rfl rfl dzU_countPulses_35 ?_
          refine lv_iload_n (pc := 38) hx hb dzU_countPulses_38 rfl (lv_at hl 1 rfl) ?_
          refine xk_zald (q0 := 17) (t0 := 1) (j := 3) (pc := 39) hx hb hK hP rfl rfl (pk_in 3 4 (by decide)) (pk_cl 3) dzU_countPulses_39 ?_
          refine lv_if_eq (pc := 40) (tgt := 55) hx hb dzU_countPulses_40 (by decide) (fun h11 => ?_) (fun h11 => ?_)
          ·
            exact K4 g13 H locs (Eq.mpr (if_neg h10) (Eq.mpr (if_pos h11) rfl)) Ig13 hP hD hS
          ·
            refine lv_aload_n (pc := 43) hx hb dzU_countPulses_43 rfl (lv_at hl 3 rfl) ?_
            refine lv_aload_n (pc := 44) hx hb dzU_countPulses_44 rfl (lv_at hl 3 rfl) ?_
            refine xk_get (pc := 45) hx hb hts hown hK hP ffzU_11 0 rfl rfl dzU_countPulses_45 ?_
            refine lv_iload_n (pc := 48) hx hb dzU_countPulses_48 rfl (lv_at hl 2 rfl) ?_
            refine xk_aald (q0 := 1) (t0 := 2) (j := 0) (b := (ad 9)) (pc := 49) hx hb hK hP rfl rfl (pk_in 0 2 (by decide)) (pk_cl 0) rfl dzU_countPulses_49 ?_
            refine lv_iload_n (pc := 50) hx hb dzU_countPulses_50 rfl (lv_at hl 1 rfl) ?_
            refine lv_iload_n (pc := 51) hx hb dzU_countPulses_51 rfl (lv_at hl 0 rfl) ?_
            by_cases h12 : (qzK_takePulse_3 (g12 15)) = 1
            ·
              refine xk_allVV (As := [.ref (ad 9), .int 3, .int (qzK_takePulse_3 (g12 15))]) (rest := []) (H0 := s.heap) (pc := 52) hx hb hml hts hown hK hA hP hD hS (kzU_countAxle_0_3_p l G ac ad g13 (qzK_takePulse_3 (g12 15)) h12) vfzU_285 (fun _ => rfl) 0 rfl rfl ⟨rfl, rfl⟩ ⟨Nat.le_of_ble_eq_true rfl, Nat.le_of_ble_eq_true rfl⟩ rfl hl.1 rfl (Nat.le_of_ble_eq_true rfl) ⟨Nat.zero_le _, Nat.zero_le _⟩ dzU_countPulses_52 (fun g14 H locs hg14 hP hD hS => ?_)
              have hP : va_P G xk_cls (xk_wU ad ac g14) H := hP
              have hD : va_D A (xk_wU ad ac g14) := hD
              have Ig14 : xk_kept g14 := xk_kept_of (frzU_countAxle_0_3_p _ _ hg14) (by decide) (by decide) Ig13
              exact K4 g14 H locs (Eq.mpr (if_neg h10) (Eq.mpr (if_neg h11) (Eq.mpr (if_pos h12) ⟨g14, hg14, rfl⟩))) Ig14 hP hD hS
            ·
              refine xk_allVV (As := [.ref (ad 9), .int 3, .int (qzK_takePulse_3 (g12 15))]) (rest := []) (H0 := s.heap) (pc := 52) hx hb hml hts hown hK hA hP hD hS (kzU_countAxle_0_3_m l G ac ad g13 (qzK_takePulse_3 (g12 15)) (xk_pm ((Ig12 3).1) h10 h12)) vfzU_285 (fun _ => rfl) 0 rfl rfl ⟨rfl, rfl⟩ ⟨Nat.le_of_ble_eq_true rfl, Nat.le_of_ble_eq_true rfl⟩ rfl hl.1 rfl (Nat.le_of_ble_eq_true rfl) ⟨Nat.zero_le _, Nat.zero_le _⟩ dzU_countPulses_52 (fun g15 H locs hg15 hP hD hS => ?_)
              have hP : va_P G xk_cls (xk_wU ad ac g15) H := hP
              have hD : va_D A (xk_wU ad ac g15) := hD
              have Ig15 : xk_kept g15 := xk_kept_of (frzU_countAxle_0_3_m _ _ hg15) (by decide) (by decide) Ig13
              exact K4 g15 H locs (Eq.mpr (if_neg h10) (Eq.mpr (if_neg h11) (Eq.mpr (if_neg h12) ⟨g15, hg15, rfl⟩))) Ig15 hP hD hS
      refine lv_if_eq (pc := 26) (tgt := 55) hx hb dzU_countPulses_26 (by decide) (fun h7 => ?_) (fun h7 => ?_)
      ·
        exact K3 g9 H locs (Eq.mpr (if_pos h7) rfl) Ig9 hP hD hS
      ·
        refine lv_aload_n (pc := 29) hx hb dzU_countPulses_29 rfl (lv_at hl 3 rfl) ?_
        refine xk_get (pc := 30) hx hb hts hown hK hP ffzU_11 0 rfl rfl dzU_countPulses_30 ?_
        refine lv_iload_n (pc := 33) hx hb dzU_countPulses_33 rfl (lv_at hl 2 rfl) ?_
        refine xk_aald (q0 := 1) (t0 := 2) (j := 0) (b := (ad 9)) (pc := 34) hx hb hK hP rfl rfl (pk_in 0 2 (by decide)) (pk_cl 0) rfl dzU_countPulses_34 ?_
        refine xk_get (pc := 35) hx hb hts hown hK hP ffzU_86 9 rfl rfl dzU_countPulses_35 ?_
        refine lv_iload_n (pc := 38) hx hb dzU_countPulses_38 rfl (lv_at hl 1 rfl) ?_
        refine xk_zald (q0 := 17) (t0 := 1) (j := 2) (pc := 39) hx hb hK hP rfl rfl (pk_in 2 4 (by decide)) (pk_cl 2) dzU_countPulses_39 ?_
        refine lv_if_eq (pc := 40) (tgt := 55) hx hb dzU_countPulses_40 (by decide) (fun h8 => ?_) (fun h8 => ?_)
        ·
          exact K3 g9 H locs (Eq.mpr (if_neg h7) (Eq.mpr (if_pos h8) rfl)) Ig9 hP hD hS
        ·
          refine lv_aload_n (pc := 43) hx hb dzU_countPulses_43 rfl (lv_at hl 3 rfl) ?_
          refine lv_aload_n (pc := 44) hx hb dzU_countPulses_44 rfl (lv_at hl 3 rfl) ?_
          refine xk_get (pc := 45) hx hb hts hown hK hP ffzU_11 0 rfl rfl dzU_countPulses_45 ?_
          refine lv_iload_n (pc := 48) hx hb dzU_countPulses_48 rfl (lv_at hl 2 rfl) ?_
          refine xk_aald (q0 := 1) (t0 := 2) (j := 0) (b := (ad 9)) (pc := 49) hx hb hK hP rfl rfl (pk_in 0 2 (by decide)) (pk_cl 0) rfl dzU_countPulses_49 ?_
          refine lv_iload_n (pc := 50) hx hb dzU_countPulses_50 rfl (lv_at hl 1 rfl) ?_
          refine lv_iload_n (pc := 51) hx hb dzU_countPulses_51 rfl (lv_at hl 0 rfl) ?_
          by_cases h9 : (qzK_takePulse_2 (g8 15)) = 1
          ·
            refine xk_allVV (As := [.ref (ad 9), .int 2, .int (qzK_takePulse_2 (g8 15))]) (rest := []) (H0 := s.heap) (pc := 52) hx hb hml hts hown hK hA hP hD hS (kzU_countAxle_0_2_p l G ac ad g9 (qzK_takePulse_2 (g8 15)) h9) vfzU_285 (fun _ => rfl) 0 rfl rfl ⟨rfl, rfl⟩ ⟨Nat.le_of_ble_eq_true rfl, Nat.le_of_ble_eq_true rfl⟩ rfl hl.1 rfl (Nat.le_of_ble_eq_true rfl) ⟨Nat.zero_le _, Nat.zero_le _⟩ dzU_countPulses_52 (fun g10 H locs hg10 hP hD hS => ?_)
            have hP : va_P G xk_cls (xk_wU ad ac g10) H := hP
            have hD : va_D A (xk_wU ad ac g10) := hD
            have Ig10 : xk_kept g10 := xk_kept_of (frzU_countAxle_0_2_p _ _ hg10) (by decide) (by decide) Ig9
            exact K3 g10 H locs (Eq.mpr (if_neg h7) (Eq.mpr (if_neg h8) (Eq.mpr (if_pos h9) ⟨g10, hg10, rfl⟩))) Ig10 hP hD hS
          ·
            refine xk_allVV (As := [.ref (ad 9), .int 2, .int (qzK_takePulse_2 (g8 15))]) (rest := []) (H0 := s.heap) (pc := 52) hx hb hml hts hown hK hA hP hD hS (kzU_countAxle_0_2_m l G ac ad g9 (qzK_takePulse_2 (g8 15)) (xk_pm ((Ig8 2).1) h7 h9)) vfzU_285 (fun _ => rfl) 0 rfl rfl ⟨rfl, rfl⟩ ⟨Nat.le_of_ble_eq_true rfl, Nat.le_of_ble_eq_true rfl⟩ rfl hl.1 rfl (Nat.le_of_ble_eq_true rfl) ⟨Nat.zero_le _, Nat.zero_le _⟩ dzU_countPulses_52 (fun g11 H locs hg11 hP hD hS => ?_)
            have hP : va_P G xk_cls (xk_wU ad ac g11) H := hP
            have hD : va_D A (xk_wU ad ac g11) := hD
            have Ig11 : xk_kept g11 := xk_kept_of (frzU_countAxle_0_2_m _ _ hg11) (by decide) (by decide) Ig9
            exact K3 g11 H locs (Eq.mpr (if_neg h7) (Eq.mpr (if_neg h8) (Eq.mpr (if_neg h9) ⟨g11, hg11, rfl⟩))) Ig11 hP hD hS
    refine lv_if_eq (pc := 26) (tgt := 55) hx hb dzU_countPulses_26 (by decide) (fun h4 => ?_) (fun h4 => ?_)
    ·
      exact K2 g5 H locs (Eq.mpr (if_pos h4) rfl) Ig5 hP hD hS
    ·
      refine lv_aload_n (pc := 29) hx hb dzU_countPulses_29 rfl (lv_at hl 3 rfl) ?_
      refine xk_get (pc := 30) hx hb hts hown hK hP ffzU_11 0 rfl rfl dzU_countPulses_30 ?_
      refine lv_iload_n (pc := 33) hx hb dzU_countPulses_33 rfl (lv_at hl 2 rfl) ?_
      refine xk_aald (q0 := 1) (t0 := 2) (j := 0) (b := (ad 9)) (pc := 34) hx hb hK hP rfl rfl (pk_in 0 2 (by decide)) (pk_cl 0) rfl dzU_countPulses_34 ?_
      refine xk_get (pc := 35) hx hb hts hown hK hP ffzU_86 9 rfl rfl dzU_countPulses_35 ?_
      refine lv_iload_n (pc := 38) hx hb dzU_countPulses_38 rfl (lv_at hl 1 rfl) ?_
      refine xk_zald (q0 := 17) (t0 := 1) (j := 1) (pc := 39) hx hb hK hP rfl rfl (pk_in 1 4 (by decide)) (pk_cl 1) dzU_countPulses_39 ?_
      refine lv_if_eq (pc := 40) (tgt := 55) hx hb dzU_countPulses_40 (by decide) (fun h5 => ?_) (fun h5 => ?_)
      ·
        exact K2 g5 H locs (Eq.mpr (if_neg h4) (Eq.mpr (if_pos h5) rfl)) Ig5 hP hD hS
      ·
        refine lv_aload_n (pc := 43) hx hb dzU_countPulses_43 rfl (lv_at hl 3 rfl) ?_
        refine lv_aload_n (pc := 44) hx hb dzU_countPulses_44 rfl (lv_at hl 3 rfl) ?_
        refine xk_get (pc := 45) hx hb hts hown hK hP ffzU_11 0 rfl rfl dzU_countPulses_45 ?_
        refine lv_iload_n (pc := 48) hx hb dzU_countPulses_48 rfl (lv_at hl 2 rfl) ?_
        refine xk_aald (q0 := 1) (t0 := 2) (j := 0) (b := (ad 9)) (pc := 49) hx hb hK hP rfl rfl (pk_in 0 2 (by decide)) (pk_cl 0) rfl dzU_countPulses_49 ?_
        refine lv_iload_n (pc := 50) hx hb dzU_countPulses_50 rfl (lv_at hl 1 rfl) ?_
        refine lv_iload_n (pc := 51) hx hb dzU_countPulses_51 rfl (lv_at hl 0 rfl) ?_
        by_cases h6 : (qzK_takePulse_1 (g4 15)) = 1
        ·
          refine xk_allVV (As := [.ref (ad 9), .int 1, .int (qzK_takePulse_1 (g4 15))]) (rest := []) (H0 := s.heap) (pc := 52) hx hb hml hts hown hK hA hP hD hS (kzU_countAxle_0_1_p l G ac ad g5 (qzK_takePulse_1 (g4 15)) h6) vfzU_285 (fun _ => rfl) 0 rfl rfl ⟨rfl, rfl⟩ ⟨Nat.le_of_ble_eq_true rfl, Nat.le_of_ble_eq_true rfl⟩ rfl hl.1 rfl (Nat.le_of_ble_eq_true rfl) ⟨Nat.zero_le _, Nat.zero_le _⟩ dzU_countPulses_52 (fun g6 H locs hg6 hP hD hS => ?_)
          have hP : va_P G xk_cls (xk_wU ad ac g6) H := hP
          have hD : va_D A (xk_wU ad ac g6) := hD
          have Ig6 : xk_kept g6 := xk_kept_of (frzU_countAxle_0_1_p _ _ hg6) (by decide) (by decide) Ig5
          exact K2 g6 H locs (Eq.mpr (if_neg h4) (Eq.mpr (if_neg h5) (Eq.mpr (if_pos h6) ⟨g6, hg6, rfl⟩))) Ig6 hP hD hS
        ·
          refine xk_allVV (As := [.ref (ad 9), .int 1, .int (qzK_takePulse_1 (g4 15))]) (rest := []) (H0 := s.heap) (pc := 52) hx hb hml hts hown hK hA hP hD hS (kzU_countAxle_0_1_m l G ac ad g5 (qzK_takePulse_1 (g4 15)) (xk_pm ((Ig4 1).1) h4 h6)) vfzU_285 (fun _ => rfl) 0 rfl rfl ⟨rfl, rfl⟩ ⟨Nat.le_of_ble_eq_true rfl, Nat.le_of_ble_eq_true rfl⟩ rfl hl.1 rfl (Nat.le_of_ble_eq_true rfl) ⟨Nat.zero_le _, Nat.zero_le _⟩ dzU_countPulses_52 (fun g7 H locs hg7 hP hD hS => ?_)
          have hP : va_P G xk_cls (xk_wU ad ac g7) H := hP
          have hD : va_D A (xk_wU ad ac g7) := hD
          have Ig7 : xk_kept g7 := xk_kept_of (frzU_countAxle_0_1_m _ _ hg7) (by decide) (by decide) Ig5
          exact K2 g7 H locs (Eq.mpr (if_neg h4) (Eq.mpr (if_neg h5) (Eq.mpr (if_neg h6) ⟨g7, hg7, rfl⟩))) Ig7 hP hD hS
  refine lv_if_eq (pc := 26) (tgt := 55) hx hb dzU_countPulses_26 (by decide) (fun h1 => ?_) (fun h1 => ?_)
  ·
    exact K1 g1 H locs (Eq.mpr (if_pos h1) rfl) Ig1 hP hD hS
  ·
    refine lv_aload_n (pc := 29) hx hb dzU_countPulses_29 rfl (lv_at hl 3 rfl) ?_
    refine xk_get (pc := 30) hx hb hts hown hK hP ffzU_11 0 rfl rfl dzU_countPulses_30 ?_
    refine lv_iload_n (pc := 33) hx hb dzU_countPulses_33 rfl (lv_at hl 2 rfl) ?_
    refine xk_aald (q0 := 1) (t0 := 2) (j := 0) (b := (ad 9)) (pc := 34) hx hb hK hP rfl rfl (pk_in 0 2 (by decide)) (pk_cl 0) rfl dzU_countPulses_34 ?_
    refine xk_get (pc := 35) hx hb hts hown hK hP ffzU_86 9 rfl rfl dzU_countPulses_35 ?_
    refine lv_iload_n (pc := 38) hx hb dzU_countPulses_38 rfl (lv_at hl 1 rfl) ?_
    refine xk_zald (q0 := 17) (t0 := 1) (j := 0) (pc := 39) hx hb hK hP rfl rfl (pk_in 0 4 (by decide)) (pk_cl 0) dzU_countPulses_39 ?_
    refine lv_if_eq (pc := 40) (tgt := 55) hx hb dzU_countPulses_40 (by decide) (fun h2 => ?_) (fun h2 => ?_)
    ·
      exact K1 g1 H locs (Eq.mpr (if_neg h1) (Eq.mpr (if_pos h2) rfl)) Ig1 hP hD hS
    ·
      refine lv_aload_n (pc := 43) hx hb dzU_countPulses_43 rfl (lv_at hl 3 rfl) ?_
      refine lv_aload_n (pc := 44) hx hb dzU_countPulses_44 rfl (lv_at hl 3 rfl) ?_
      refine xk_get (pc := 45) hx hb hts hown hK hP ffzU_11 0 rfl rfl dzU_countPulses_45 ?_
      refine lv_iload_n (pc := 48) hx hb dzU_countPulses_48 rfl (lv_at hl 2 rfl) ?_
      refine xk_aald (q0 := 1) (t0 := 2) (j := 0) (b := (ad 9)) (pc := 49) hx hb hK hP rfl rfl (pk_in 0 2 (by decide)) (pk_cl 0) rfl dzU_countPulses_49 ?_
      refine lv_iload_n (pc := 50) hx hb dzU_countPulses_50 rfl (lv_at hl 1 rfl) ?_
      refine lv_iload_n (pc := 51) hx hb dzU_countPulses_51 rfl (lv_at hl 0 rfl) ?_
      by_cases h3 : (qzK_takePulse_0 (g0 15)) = 1
      ·
        refine xk_allVV (As := [.ref (ad 9), .int 0, .int (qzK_takePulse_0 (g0 15))]) (rest := []) (H0 := s.heap) (pc := 52) hx hb hml hts hown hK hA hP hD hS (kzU_countAxle_0_0_p l G ac ad g1 (qzK_takePulse_0 (g0 15)) h3) vfzU_285 (fun _ => rfl) 0 rfl rfl ⟨rfl, rfl⟩ ⟨Nat.le_of_ble_eq_true rfl, Nat.le_of_ble_eq_true rfl⟩ rfl hl.1 rfl (Nat.le_of_ble_eq_true rfl) ⟨Nat.zero_le _, Nat.zero_le _⟩ dzU_countPulses_52 (fun g2 H locs hg2 hP hD hS => ?_)
        have hP : va_P G xk_cls (xk_wU ad ac g2) H := hP
        have hD : va_D A (xk_wU ad ac g2) := hD
        have Ig2 : xk_kept g2 := xk_kept_of (frzU_countAxle_0_0_p _ _ hg2) (by decide) (by decide) Ig1
        exact K1 g2 H locs (Eq.mpr (if_neg h1) (Eq.mpr (if_neg h2) (Eq.mpr (if_pos h3) ⟨g2, hg2, rfl⟩))) Ig2 hP hD hS
      ·
        refine xk_allVV (As := [.ref (ad 9), .int 0, .int (qzK_takePulse_0 (g0 15))]) (rest := []) (H0 := s.heap) (pc := 52) hx hb hml hts hown hK hA hP hD hS (kzU_countAxle_0_0_m l G ac ad g1 (qzK_takePulse_0 (g0 15)) (xk_pm ((Ig0 0).1) h1 h3)) vfzU_285 (fun _ => rfl) 0 rfl rfl ⟨rfl, rfl⟩ ⟨Nat.le_of_ble_eq_true rfl, Nat.le_of_ble_eq_true rfl⟩ rfl hl.1 rfl (Nat.le_of_ble_eq_true rfl) ⟨Nat.zero_le _, Nat.zero_le _⟩ dzU_countPulses_52 (fun g3 H locs hg3 hP hD hS => ?_)
        have hP : va_P G xk_cls (xk_wU ad ac g3) H := hP
        have hD : va_D A (xk_wU ad ac g3) := hD
        have Ig3 : xk_kept g3 := xk_kept_of (frzU_countAxle_0_0_m _ _ hg3) (by decide) (by decide) Ig1
        exact K1 g3 H locs (Eq.mpr (if_neg h1) (Eq.mpr (if_neg h2) (Eq.mpr (if_neg h3) ⟨g3, hg3, rfl⟩))) Ig3 hP hD hS
theorem frzU_countPulses (g0 : xk_St) (gz : xk_St) : relzU_countPulses g0 gz → xk_eqv [0, 1, 2, 3, 4, 9, 10, 11, 12, 13, 14, 17, 18, 29, 30, 31, 32, 33] g0 gz := by
  intro h
  unfold relzU_countPulses at h
  have s0 : xk_eqv [0, 1, 2, 3, 4, 9, 10, 11, 12, 13, 14, 17, 18, 29, 30, 31, 32, 33] g0 g0 := xk_eqv_rf
  obtain ⟨g1, u1, v2⟩ := h
  have s3 : xk_eqv [0, 1, 2, 3, 4, 9, 10, 11, 12, 13, 14, 17, 18, 29, 30, 31, 32, 33] g0 g1 := by rw [u1]; repeat (first | exact s0 | refine xk_eqv_up (by decide) ?_)
  obtain ⟨g4, u4, v5⟩ := v2
  have s6 : xk_eqv [0, 1, 2, 3, 4, 9, 10, 11, 12, 13, 14, 17, 18, 29, 30, 31, 32, 33] g0 g4 := by
    by_cases hc : (qzK_takePulse_0 (g0 15)) = 0
    · rw [if_pos hc] at u4
      rw [u4]; exact s3
    · rw [if_neg hc] at u4
      by_cases hc : ((g1 17) 0) = 0
      · rw [if_pos hc] at u4
        rw [u4]; exact s3
      · rw [if_neg hc] at u4
        by_cases hc : (qzK_takePulse_0 (g0 15)) = 1
        · rw [if_pos hc] at u4
          obtain ⟨g2, u7, v8⟩ := u4
          have s9 : xk_eqv [0, 1, 2, 3, 4, 9, 10, 11, 12, 13, 14, 17, 18, 29, 30, 31, 32, 33] g0 g2 := xk_eqv_tr s3 (xk_eqv_sub (frzU_countAxle_0_0_p _ _ u7) (by decide))
          rw [v8]; exact s9
        · rw [if_neg hc] at u4
          obtain ⟨g3, u10, v11⟩ := u4
          have s12 : xk_eqv [0, 1, 2, 3, 4, 9, 10, 11, 12, 13, 14, 17, 18, 29, 30, 31, 32, 33] g0 g3 := xk_eqv_tr s3 (xk_eqv_sub (frzU_countAxle_0_0_m _ _ u10) (by decide))
          rw [v11]; exact s12
  obtain ⟨g5, u13, v14⟩ := v5
  have s15 : xk_eqv [0, 1, 2, 3, 4, 9, 10, 11, 12, 13, 14, 17, 18, 29, 30, 31, 32, 33] g0 g5 := by rw [u13]; repeat (first | exact s6 | refine xk_eqv_up (by decide) ?_)
  obtain ⟨g8, u16, v17⟩ := v14
  have s18 : xk_eqv [0, 1, 2, 3, 4, 9, 10, 11, 12, 13, 14, 17, 18, 29, 30, 31, 32, 33] g0 g8 := by
    by_cases hc : (qzK_takePulse_1 (g4 15)) = 0
    · rw [if_pos hc] at u16
      rw [u16]; exact s15
    · rw [if_neg hc] at u16
      by_cases hc : ((g5 17) 1) = 0
      · rw [if_pos hc] at u16
        rw [u16]; exact s15
      · rw [if_neg hc] at u16
        by_cases hc : (qzK_takePulse_1 (g4 15)) = 1
        · rw [if_pos hc] at u16
          obtain ⟨g6, u19, v20⟩ := u16
          have s21 : xk_eqv [0, 1, 2, 3, 4, 9, 10, 11, 12, 13, 14, 17, 18, 29, 30, 31, 32, 33] g0 g6 := xk_eqv_tr s15 (xk_eqv_sub (frzU_countAxle_0_1_p _ _ u19) (by decide))
          rw [v20]; exact s21
        · rw [if_neg hc] at u16
          obtain ⟨g7, u22, v23⟩ := u16
          have s24 : xk_eqv [0, 1, 2, 3, 4, 9, 10, 11, 12, 13, 14, 17, 18, 29, 30, 31, 32, 33] g0 g7 := xk_eqv_tr s15 (xk_eqv_sub (frzU_countAxle_0_1_m _ _ u22) (by decide))
          rw [v23]; exact s24
  obtain ⟨g9, u25, v26⟩ := v17
  have s27 : xk_eqv [0, 1, 2, 3, 4, 9, 10, 11, 12, 13, 14, 17, 18, 29, 30, 31, 32, 33] g0 g9 := by rw [u25]; repeat (first | exact s18 | refine xk_eqv_up (by decide) ?_)
  obtain ⟨g12, u28, v29⟩ := v26
  have s30 : xk_eqv [0, 1, 2, 3, 4, 9, 10, 11, 12, 13, 14, 17, 18, 29, 30, 31, 32, 33] g0 g12 := by
    by_cases hc : (qzK_takePulse_2 (g8 15)) = 0
    · rw [if_pos hc] at u28
      rw [u28]; exact s27
    · rw [if_neg hc] at u28
      by_cases hc : ((g9 17) 2) = 0
      · rw [if_pos hc] at u28
        rw [u28]; exact s27
      · rw [if_neg hc] at u28
        by_cases hc : (qzK_takePulse_2 (g8 15)) = 1
        · rw [if_pos hc] at u28
          obtain ⟨g10, u31, v32⟩ := u28
          have s33 : xk_eqv [0, 1, 2, 3, 4, 9, 10, 11, 12, 13, 14, 17, 18, 29, 30, 31, 32, 33] g0 g10 := xk_eqv_tr s27 (xk_eqv_sub (frzU_countAxle_0_2_p _ _ u31) (by decide))
          rw [v32]; exact s33
        · rw [if_neg hc] at u28
          obtain ⟨g11, u34, v35⟩ := u28
          have s36 : xk_eqv [0, 1, 2, 3, 4, 9, 10, 11, 12, 13, 14, 17, 18, 29, 30, 31, 32, 33] g0 g11 := xk_eqv_tr s27 (xk_eqv_sub (frzU_countAxle_0_2_m _ _ u34) (by decide))
          rw [v35]; exact s36
  obtain ⟨g13, u37, v38⟩ := v29
  have s39 : xk_eqv [0, 1, 2, 3, 4, 9, 10, 11, 12, 13, 14, 17, 18, 29, 30, 31, 32, 33] g0 g13 := by rw [u37]; repeat (first | exact s30 | refine xk_eqv_up (by decide) ?_)
  obtain ⟨g16, u40, v41⟩ := v38
  have s42 : xk_eqv [0, 1, 2, 3, 4, 9, 10, 11, 12, 13, 14, 17, 18, 29, 30, 31, 32, 33] g0 g16 := by
    by_cases hc : (qzK_takePulse_3 (g12 15)) = 0
    · rw [if_pos hc] at u40
      rw [u40]; exact s39
    · rw [if_neg hc] at u40
      by_cases hc : ((g13 17) 3) = 0
      · rw [if_pos hc] at u40
        rw [u40]; exact s39
      · rw [if_neg hc] at u40
        by_cases hc : (qzK_takePulse_3 (g12 15)) = 1
        · rw [if_pos hc] at u40
          obtain ⟨g14, u43, v44⟩ := u40
          have s45 : xk_eqv [0, 1, 2, 3, 4, 9, 10, 11, 12, 13, 14, 17, 18, 29, 30, 31, 32, 33] g0 g14 := xk_eqv_tr s39 (xk_eqv_sub (frzU_countAxle_0_3_p _ _ u43) (by decide))
          rw [v44]; exact s45
        · rw [if_neg hc] at u40
          obtain ⟨g15, u46, v47⟩ := u40
          have s48 : xk_eqv [0, 1, 2, 3, 4, 9, 10, 11, 12, 13, 14, 17, 18, 29, 30, 31, 32, 33] g0 g15 := xk_eqv_tr s39 (xk_eqv_sub (frzU_countAxle_0_3_m _ _ u46) (by decide))
          rw [v47]; exact s48
  obtain ⟨g17, u49, v50⟩ := v41
  have s51 : xk_eqv [0, 1, 2, 3, 4, 9, 10, 11, 12, 13, 14, 17, 18, 29, 30, 31, 32, 33] g0 g17 := by rw [u49]; repeat (first | exact s42 | refine xk_eqv_up (by decide) ?_)
  obtain ⟨g20, u52, v53⟩ := v50
  have s54 : xk_eqv [0, 1, 2, 3, 4, 9, 10, 11, 12, 13, 14, 17, 18, 29, 30, 31, 32, 33] g0 g20 := by
    by_cases hc : (qzK_takePulse_0 (g16 16)) = 0
    · rw [if_pos hc] at u52
      rw [u52]; exact s51
    · rw [if_neg hc] at u52
      by_cases hc : ((g17 18) 0) = 0
      · rw [if_pos hc] at u52
        rw [u52]; exact s51
      · rw [if_neg hc] at u52
        by_cases hc : (qzK_takePulse_0 (g16 16)) = 1
        · rw [if_pos hc] at u52
          obtain ⟨g18, u55, v56⟩ := u52
          have s57 : xk_eqv [0, 1, 2, 3, 4, 9, 10, 11, 12, 13, 14, 17, 18, 29, 30, 31, 32, 33] g0 g18 := xk_eqv_tr s51 (xk_eqv_sub (frzU_countAxle_1_0_p _ _ u55) (by decide))
          rw [v56]; exact s57
        · rw [if_neg hc] at u52
          obtain ⟨g19, u58, v59⟩ := u52
          have s60 : xk_eqv [0, 1, 2, 3, 4, 9, 10, 11, 12, 13, 14, 17, 18, 29, 30, 31, 32, 33] g0 g19 := xk_eqv_tr s51 (xk_eqv_sub (frzU_countAxle_1_0_m _ _ u58) (by decide))
          rw [v59]; exact s60
  obtain ⟨g21, u61, v62⟩ := v53
  have s63 : xk_eqv [0, 1, 2, 3, 4, 9, 10, 11, 12, 13, 14, 17, 18, 29, 30, 31, 32, 33] g0 g21 := by rw [u61]; repeat (first | exact s54 | refine xk_eqv_up (by decide) ?_)
  obtain ⟨g24, u64, v65⟩ := v62
  have s66 : xk_eqv [0, 1, 2, 3, 4, 9, 10, 11, 12, 13, 14, 17, 18, 29, 30, 31, 32, 33] g0 g24 := by
    by_cases hc : (qzK_takePulse_1 (g20 16)) = 0
    · rw [if_pos hc] at u64
      rw [u64]; exact s63
    · rw [if_neg hc] at u64
      by_cases hc : ((g21 18) 1) = 0
      · rw [if_pos hc] at u64
        rw [u64]; exact s63
      · rw [if_neg hc] at u64
        by_cases hc : (qzK_takePulse_1 (g20 16)) = 1
        · rw [if_pos hc] at u64
          obtain ⟨g22, u67, v68⟩ := u64
          have s69 : xk_eqv [0, 1, 2, 3, 4, 9, 10, 11, 12, 13, 14, 17, 18, 29, 30, 31, 32, 33] g0 g22 := xk_eqv_tr s63 (xk_eqv_sub (frzU_countAxle_1_1_p _ _ u67) (by decide))
          rw [v68]; exact s69
        · rw [if_neg hc] at u64
          obtain ⟨g23, u70, v71⟩ := u64
          have s72 : xk_eqv [0, 1, 2, 3, 4, 9, 10, 11, 12, 13, 14, 17, 18, 29, 30, 31, 32, 33] g0 g23 := xk_eqv_tr s63 (xk_eqv_sub (frzU_countAxle_1_1_m _ _ u70) (by decide))
          rw [v71]; exact s72
  obtain ⟨g25, u73, v74⟩ := v65
  have s75 : xk_eqv [0, 1, 2, 3, 4, 9, 10, 11, 12, 13, 14, 17, 18, 29, 30, 31, 32, 33] g0 g25 := by rw [u73]; repeat (first | exact s66 | refine xk_eqv_up (by decide) ?_)
  obtain ⟨g28, u76, v77⟩ := v74
  have s78 : xk_eqv [0, 1, 2, 3, 4, 9, 10, 11, 12, 13, 14, 17, 18, 29, 30, 31, 32, 33] g0 g28 := by
    by_cases hc : (qzK_takePulse_2 (g24 16)) = 0
    · rw [if_pos hc] at u76
      rw [u76]; exact s75
    · rw [if_neg hc] at u76
      by_cases hc : ((g25 18) 2) = 0
      · rw [if_pos hc] at u76
        rw [u76]; exact s75
      · rw [if_neg hc] at u76
        by_cases hc : (qzK_takePulse_2 (g24 16)) = 1
        · rw [if_pos hc] at u76
          obtain ⟨g26, u79, v80⟩ := u76
          have s81 : xk_eqv [0, 1, 2, 3, 4, 9, 10, 11, 12, 13, 14, 17, 18, 29, 30, 31, 32, 33] g0 g26 := xk_eqv_tr s75 (xk_eqv_sub (frzU_countAxle_1_2_p _ _ u79) (by decide))
          rw [v80]; exact s81
        · rw [if_neg hc] at u76
          obtain ⟨g27, u82, v83⟩ := u76
          have s84 : xk_eqv [0, 1, 2, 3, 4, 9, 10, 11, 12, 13, 14, 17, 18, 29, 30, 31, 32, 33] g0 g27 := xk_eqv_tr s75 (xk_eqv_sub (frzU_countAxle_1_2_m _ _ u82) (by decide))
          rw [v83]; exact s84
  obtain ⟨g29, u85, v86⟩ := v77
  have s87 : xk_eqv [0, 1, 2, 3, 4, 9, 10, 11, 12, 13, 14, 17, 18, 29, 30, 31, 32, 33] g0 g29 := by rw [u85]; repeat (first | exact s78 | refine xk_eqv_up (by decide) ?_)
  obtain ⟨g32, u88, v89⟩ := v86
  have s90 : xk_eqv [0, 1, 2, 3, 4, 9, 10, 11, 12, 13, 14, 17, 18, 29, 30, 31, 32, 33] g0 g32 := by
    by_cases hc : (qzK_takePulse_3 (g28 16)) = 0
    · rw [if_pos hc] at u88
      rw [u88]; exact s87
    · rw [if_neg hc] at u88
      by_cases hc : ((g29 18) 3) = 0
      · rw [if_pos hc] at u88
        rw [u88]; exact s87
      · rw [if_neg hc] at u88
        by_cases hc : (qzK_takePulse_3 (g28 16)) = 1
        · rw [if_pos hc] at u88
          obtain ⟨g30, u91, v92⟩ := u88
          have s93 : xk_eqv [0, 1, 2, 3, 4, 9, 10, 11, 12, 13, 14, 17, 18, 29, 30, 31, 32, 33] g0 g30 := xk_eqv_tr s87 (xk_eqv_sub (frzU_countAxle_1_3_p _ _ u91) (by decide))
          rw [v92]; exact s93
        · rw [if_neg hc] at u88
          obtain ⟨g31, u94, v95⟩ := u88
          have s96 : xk_eqv [0, 1, 2, 3, 4, 9, 10, 11, 12, 13, 14, 17, 18, 29, 30, 31, 32, 33] g0 g31 := xk_eqv_tr s87 (xk_eqv_sub (frzU_countAxle_1_3_m _ _ u94) (by decide))
          rw [v95]; exact s96
  rw [v89]; exact s90

