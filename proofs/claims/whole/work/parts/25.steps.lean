def relzU_followComings (g0 : xk_St) (gz : xk_St) : Prop := ∃ (g1 : xk_St), g1 = va_up g0 25 (upd (upd (g0 25) 1 (qzE_follow_a1 (g0 25 1) (g0 25 2) (g0 19 1) (g0 19 2))) 2 qzE_follow_a2) ∧ (∃ (g2 : xk_St), g2 = va_up g1 26 (upd (upd (g1 26) 1 (qzE_follow_a1 (g1 26 1) (g1 26 2) (g1 21 1) (g1 21 2))) 2 qzE_follow_a2) ∧ (∃ (g3 : xk_St), g3 = va_up g2 27 (upd (upd (g2 27) 1 (qzE_follow_a1 (g2 27 1) (g2 27 2) (g2 22 1) (g2 22 2))) 2 qzE_follow_a2) ∧ (∃ (g4 : xk_St), g4 = va_up g3 28 (upd (upd (g3 28) 1 (qzE_follow_a1 (g3 28 1) (g3 28 2) (g3 24 1) (g3 24 2))) 2 qzE_follow_a2) ∧ (gz = g4))))
set_option maxHeartbeats 4000000 in
set_option maxRecDepth 100000 in
theorem kzU_followComings (l : Launch) (G : va_G) (ac : Nat → ClassId) (ad : Nat → Nat) (g0 : xk_St) : xk_CV l yzU_followComings czU_followComings 3 xk_WS xk_r2 G xk_cls (xk_tys ac) [.ref (ad 0)] (xk_wU ad ac g0) (fun (gz : xk_St) => relzU_followComings g0 gz) (fun gz => xk_wU ad ac gz) := by
  refine xk_ofV (by decide) (Nat.le_of_ble_eq_true rfl) ?_
  intro p e s m args below meth c A Q H locs ls C0 hret hP hD hS hl
  obtain ⟨hx, hb, hml, hts, hown, hK, hA⟩ := C0
  have hl : lv_has ls 3 [(0, .ref (ad 0))] := hl
  refine lv_iconst (v := 0) (pc := 0) hx hb dzU_followComings_0 (by decide) ?_
  refine lv_istore_n (lv' := [(1, .int 0), (0, .ref (ad 0))]) (pc := 1) hx hb dzU_followComings_1 rfl hl (by decide) rfl (fun ls hl => ?_)
  refine lv_iload_n (pc := 2) hx hb dzU_followComings_2 rfl (lv_at hl 0 rfl) ?_
  refine lv_iconst (v := 2) (pc := 3) hx hb dzU_followComings_3 (by decide) ?_
  refine lv_icmp_ge (pc := 4) (tgt := 40) hx hb dzU_followComings_4 (by decide) (fun hq9 => absurd hq9 (by decide)) (fun _ => ?_)
  refine lv_iconst (v := 0) (pc := 7) hx hb dzU_followComings_7 (by decide) ?_
  refine lv_istore_n (lv' := [(2, .int 0), (1, .int 0), (0, .ref (ad 0))]) (pc := 8) hx hb dzU_followComings_8 rfl hl (by decide) rfl (fun ls hl => ?_)
  refine lv_iload_n (pc := 9) hx hb dzU_followComings_9 rfl (lv_at hl 0 rfl) ?_
  refine lv_iconst (v := 2) (pc := 10) hx hb dzU_followComings_10 (by decide) ?_
  refine lv_icmp_ge (pc := 11) (tgt := 34) hx hb dzU_followComings_11 (by decide) (fun hq9 => absurd hq9 (by decide)) (fun _ => ?_)
  refine lv_aload_n (pc := 14) hx hb dzU_followComings_14 rfl (lv_at hl 2 rfl) ?_
  refine xk_get (pc := 15) hx hb hts hown hK hP ffzU_11 0 rfl rfl dzU_followComings_15 ?_
  refine lv_iload_n (pc := 18) hx hb dzU_followComings_18 rfl (lv_at hl 1 rfl) ?_
  refine xk_aald (q0 := 1) (t0 := 2) (j := 0) (b := (ad 9)) (pc := 19) hx hb hK hP rfl rfl (pk_in 0 2 (by decide)) (pk_cl 0) rfl dzU_followComings_19 ?_
  refine xk_get (pc := 20) hx hb hts hown hK hP ffzU_212 9 rfl rfl dzU_followComings_20 ?_
  refine lv_iload_n (pc := 23) hx hb dzU_followComings_23 rfl (lv_at hl 0 rfl) ?_
  refine xk_aald (q0 := 13) (t0 := 4) (j := 0) (b := (ad 25)) (pc := 24) hx hb hK hP rfl rfl (pk_in 0 2 (by decide)) (pk_cl 0) rfl dzU_followComings_24 ?_
  refine xk_callVV (As := []) (rest := []) (H0 := s.heap) (pc := 25) hx hb hml hts hown hK hA hP hD hS (kzE_follow l G ac (ad 25) (ad 19) (g0 25 1) (g0 25 2) (g0 19 0) (g0 19 1) (g0 19 2) (g0 19 3) (g0 19 4) (g0 19 5) (g0 19 6) (g0 19 7) (g0 19 8)) vfzU_301 [25, 19] (by decide) rfl (fun _ => rfl) 25 rfl rfl ⟨rfl, rfl⟩ ⟨Nat.le_of_ble_eq_true rfl, Nat.le_of_ble_eq_true rfl⟩ rfl hl.1 rfl (Nat.le_of_ble_eq_true rfl) ⟨Nat.zero_le _, Nat.zero_le _⟩ dzU_followComings_25 (fun u9 H locs e9 hP hD hS => ?_)
  obtain ⟨g1, eg1⟩ : ∃ z : xk_St, z = va_up g0 25 (upd (upd (g0 25) 1 (qzE_follow_a1 (g0 25 1) (g0 25 2) (g0 19 1) (g0 19 2))) 2 qzE_follow_a2) := ⟨_, rfl⟩
  have hP : va_P G xk_cls (xk_wU ad ac g1) H := by rw [eg1]; exact hP
  have hD : va_D A (xk_wU ad ac g1) := by rw [eg1]; exact hD
  refine lv_iinc (k := 0) (x := 0) (v := 1) (lv' := [(2, .int 1), (1, .int 0), (0, .ref (ad 0))]) (pc := 28) hx hb dzU_followComings_28 hl rfl (by decide) (by decide) rfl (fun ls hl => ?_)
  refine lv_goto (tgt := 9) (pc := 31) hx hb dzU_followComings_31 (by decide) ?_
  refine lv_iload_n (pc := 9) hx hb dzU_followComings_9 rfl (lv_at hl 0 rfl) ?_
  refine lv_iconst (v := 2) (pc := 10) hx hb dzU_followComings_10 (by decide) ?_
  refine lv_icmp_ge (pc := 11) (tgt := 34) hx hb dzU_followComings_11 (by decide) (fun hq9 => absurd hq9 (by decide)) (fun _ => ?_)
  refine lv_aload_n (pc := 14) hx hb dzU_followComings_14 rfl (lv_at hl 2 rfl) ?_
  refine xk_get (pc := 15) hx hb hts hown hK hP ffzU_11 0 rfl rfl dzU_followComings_15 ?_
  refine lv_iload_n (pc := 18) hx hb dzU_followComings_18 rfl (lv_at hl 1 rfl) ?_
  refine xk_aald (q0 := 1) (t0 := 2) (j := 0) (b := (ad 9)) (pc := 19) hx hb hK hP rfl rfl (pk_in 0 2 (by decide)) (pk_cl 0) rfl dzU_followComings_19 ?_
  refine xk_get (pc := 20) hx hb hts hown hK hP ffzU_212 9 rfl rfl dzU_followComings_20 ?_
  refine lv_iload_n (pc := 23) hx hb dzU_followComings_23 rfl (lv_at hl 0 rfl) ?_
  refine xk_aald (q0 := 13) (t0 := 4) (j := 1) (b := (ad 26)) (pc := 24) hx hb hK hP rfl rfl (pk_in 1 2 (by decide)) (pk_cl 1) rfl dzU_followComings_24 ?_
  refine xk_callVV (As := []) (rest := []) (H0 := s.heap) (pc := 25) hx hb hml hts hown hK hA hP hD hS (kzE_follow l G ac (ad 26) (ad 21) (g1 26 1) (g1 26 2) (g1 21 0) (g1 21 1) (g1 21 2) (g1 21 3) (g1 21 4) (g1 21 5) (g1 21 6) (g1 21 7) (g1 21 8)) vfzU_301 [26, 21] (by decide) rfl (fun _ => rfl) 26 rfl rfl ⟨rfl, rfl⟩ ⟨Nat.le_of_ble_eq_true rfl, Nat.le_of_ble_eq_true rfl⟩ rfl hl.1 rfl (Nat.le_of_ble_eq_true rfl) ⟨Nat.zero_le _, Nat.zero_le _⟩ dzU_followComings_25 (fun u9 H locs e9 hP hD hS => ?_)
  obtain ⟨g2, eg2⟩ : ∃ z : xk_St, z = va_up g1 26 (upd (upd (g1 26) 1 (qzE_follow_a1 (g1 26 1) (g1 26 2) (g1 21 1) (g1 21 2))) 2 qzE_follow_a2) := ⟨_, rfl⟩
  have hP : va_P G xk_cls (xk_wU ad ac g2) H := by rw [eg2]; exact hP
  have hD : va_D A (xk_wU ad ac g2) := by rw [eg2]; exact hD
  refine lv_iinc (k := 0) (x := 1) (v := 2) (lv' := [(2, .int 2), (1, .int 0), (0, .ref (ad 0))]) (pc := 28) hx hb dzU_followComings_28 hl rfl (by decide) (by decide) rfl (fun ls hl => ?_)
  refine lv_goto (tgt := 9) (pc := 31) hx hb dzU_followComings_31 (by decide) ?_
  refine lv_iload_n (pc := 9) hx hb dzU_followComings_9 rfl (lv_at hl 0 rfl) ?_
  refine lv_iconst (v := 2) (pc := 10) hx hb dzU_followComings_10 (by decide) ?_
  refine lv_icmp_ge (pc := 11) (tgt := 34) hx hb dzU_followComings_11 (by decide) (fun _ => ?_) (fun hq9 => absurd (by decide) hq9)
  refine lv_iinc (k := 1) (x := 0) (v := 1) (lv' := [(1, .int 1), (2, .int 2), (0, .ref (ad 0))]) (pc := 34) hx hb dzU_followComings_34 hl rfl (by decide) (by decide) rfl (fun ls hl => ?_)
  refine lv_goto (tgt := 2) (pc := 37) hx hb dzU_followComings_37 (by decide) ?_
  refine lv_iload_n (pc := 2) hx hb dzU_followComings_2 rfl (lv_at hl 0 rfl) ?_
  refine lv_iconst (v := 2) (pc := 3) hx hb dzU_followComings_3 (by decide) ?_
  refine lv_icmp_ge (pc := 4) (tgt := 40) hx hb dzU_followComings_4 (by decide) (fun hq9 => absurd hq9 (by decide)) (fun _ => ?_)
  refine lv_iconst (v := 0) (pc := 7) hx hb dzU_followComings_7 (by decide) ?_
  refine lv_istore_n (lv' := [(2, .int 0), (1, .int 1), (0, .ref (ad 0))]) (pc := 8) hx hb dzU_followComings_8 rfl hl (by decide) rfl (fun ls hl => ?_)
  refine lv_iload_n (pc := 9) hx hb dzU_followComings_9 rfl (lv_at hl 0 rfl) ?_
  refine lv_iconst (v := 2) (pc := 10) hx hb dzU_followComings_10 (by decide) ?_
  refine lv_icmp_ge (pc := 11) (tgt := 34) hx hb dzU_followComings_11 (by decide) (fun hq9 => absurd hq9 (by decide)) (fun _ => ?_)
  refine lv_aload_n (pc := 14) hx hb dzU_followComings_14 rfl (lv_at hl 2 rfl) ?_
  refine xk_get (pc := 15) hx hb hts hown hK hP ffzU_11 0 rfl rfl dzU_followComings_15 ?_
  refine lv_iload_n (pc := 18) hx hb dzU_followComings_18 rfl (lv_at hl 1 rfl) ?_
  refine xk_aald (q0 := 1) (t0 := 2) (j := 1) (b := (ad 10)) (pc := 19) hx hb hK hP rfl rfl (pk_in 1 2 (by decide)) (pk_cl 1) rfl dzU_followComings_19 ?_
  refine xk_get (pc := 20) hx hb hts hown hK hP ffzU_212 10 rfl rfl dzU_followComings_20 ?_
  refine lv_iload_n (pc := 23) hx hb dzU_followComings_23 rfl (lv_at hl 0 rfl) ?_
  refine xk_aald (q0 := 14) (t0 := 4) (j := 0) (b := (ad 27)) (pc := 24) hx hb hK hP rfl rfl (pk_in 0 2 (by decide)) (pk_cl 0) rfl dzU_followComings_24 ?_
  refine xk_callVV (As := []) (rest := []) (H0 := s.heap) (pc := 25) hx hb hml hts hown hK hA hP hD hS (kzE_follow l G ac (ad 27) (ad 22) (g2 27 1) (g2 27 2) (g2 22 0) (g2 22 1) (g2 22 2) (g2 22 3) (g2 22 4) (g2 22 5) (g2 22 6) (g2 22 7) (g2 22 8)) vfzU_301 [27, 22] (by decide) rfl (fun _ => rfl) 27 rfl rfl ⟨rfl, rfl⟩ ⟨Nat.le_of_ble_eq_true rfl, Nat.le_of_ble_eq_true rfl⟩ rfl hl.1 rfl (Nat.le_of_ble_eq_true rfl) ⟨Nat.zero_le _, Nat.zero_le _⟩ dzU_followComings_25 (fun u9 H locs e9 hP hD hS => ?_)
  obtain ⟨g3, eg3⟩ : ∃ z : xk_St, z = va_up g2 27 (upd (upd (g2 27) 1 (qzE_follow_a1 (g2 27 1) (g2 27 2) (g2 22 1) (g2 22 2))) 2 qzE_follow_a2) := ⟨_, rfl⟩
  have hP : va_P G xk_cls (xk_wU ad ac g3) H := by rw [eg3]; exact hP
  have hD : va_D A (xk_wU ad ac g3) := by rw [eg3]; exact hD
  refine lv_iinc (k := 0) (x := 0) (v := 1) (lv' := [(2, .int 1), (1, .int 1), (0, .ref (ad 0))]) (pc := 28) hx hb dzU_followComings_28 hl rfl (by decide) (by decide) rfl (fun ls hl => ?_)
  refine lv_goto (tgt := 9) (pc := 31) hx hb dzU_followComings_31 (by decide) ?_
  refine lv_iload_n (pc := 9) hx hb dzU_followComings_9 rfl (lv_at hl 0 rfl) ?_
  refine lv_iconst (v := 2) (pc := 10) hx hb dzU_followComings_10 (by decide) ?_
  refine lv_icmp_ge (pc := 11) (tgt := 34) hx hb dzU_followComings_11 (by decide) (fun hq9 => absurd hq9 (by decide)) (fun _ => ?_)
  refine lv_aload_n (pc := 14) hx hb dzU_followComings_14 rfl (lv_at hl 2 rfl) ?_
  refine xk_get (pc := 15) hx hb hts hown hK hP ffzU_11 0 rfl rfl dzU_followComings_15 ?_
  refine lv_iload_n (pc := 18) hx hb dzU_followComings_18 rfl (lv_at hl 1 rfl) ?_
  refine xk_aald (q0 := 1) (t0 := 2) (j := 1) (b := (ad 10)) (pc := 19) hx hb hK hP rfl rfl (pk_in 1 2 (by decide)) (pk_cl 1) rfl dzU_followComings_19 ?_
  refine xk_get (pc := 20) hx hb hts hown hK hP ffzU_212 10 rfl rfl dzU_followComings_20 ?_
  refine lv_iload_n (pc := 23) hx hb dzU_followComings_23 rfl (lv_at hl 0 rfl) ?_
  refine xk_aald (q0 := 14) (t0 := 4) (j := 1) (b := (ad 28)) (pc := 24) hx hb hK hP rfl rfl (pk_in 1 2 (by decide)) (pk_cl 1) rfl dzU_followComings_24 ?_
  refine xk_callVV (As := []) (rest := []) (H0 := s.heap) (pc := 25) hx hb hml hts hown hK hA hP hD hS (kzE_follow l G ac (ad 28) (ad 24) (g3 28 1) (g3 28 2) (g3 24 0) (g3 24 1) (g3 24 2) (g3 24 3) (g3 24 4) (g3 24 5) (g3 24 6) (g3 24 7) (g3 24 8)) vfzU_301 [28, 24] (by decide) rfl (fun _ => rfl) 28 rfl rfl ⟨rfl, rfl⟩ ⟨Nat.le_of_ble_eq_true rfl, Nat.le_of_ble_eq_true rfl⟩ rfl hl.1 rfl (Nat.le_of_ble_eq_true rfl) ⟨Nat.zero_le _, Nat.zero_le _⟩ dzU_followComings_25 (fun u9 H locs e9 hP hD hS => ?_)
  obtain ⟨g4, eg4⟩ : ∃ z : xk_St, z = va_up g3 28 (upd (upd (g3 28) 1 (qzE_follow_a1 (g3 28 1) (g3 28 2) (g3 24 1) (g3 24 2))) 2 qzE_follow_a2) := ⟨_, rfl⟩
  have hP : va_P G xk_cls (xk_wU ad ac g4) H := by rw [eg4]; exact hP
  have hD : va_D A (xk_wU ad ac g4) := by rw [eg4]; exact hD
  refine lv_iinc (k := 0) (x := 1) (v := 2) (lv' := [(2, .int 2), (1, .int 1), (0, .ref (ad 0))]) (pc := 28) hx hb dzU_followComings_28 hl rfl (by decide) (by decide) rfl (fun ls hl => ?_)
  refine lv_goto (tgt := 9) (pc := 31) hx hb dzU_followComings_31 (by decide) ?_
  refine lv_iload_n (pc := 9) hx hb dzU_followComings_9 rfl (lv_at hl 0 rfl) ?_
  refine lv_iconst (v := 2) (pc := 10) hx hb dzU_followComings_10 (by decide) ?_
  refine lv_icmp_ge (pc := 11) (tgt := 34) hx hb dzU_followComings_11 (by decide) (fun _ => ?_) (fun hq9 => absurd (by decide) hq9)
  refine lv_iinc (k := 1) (x := 1) (v := 2) (lv' := [(1, .int 2), (2, .int 2), (0, .ref (ad 0))]) (pc := 34) hx hb dzU_followComings_34 hl rfl (by decide) (by decide) rfl (fun ls hl => ?_)
  refine lv_goto (tgt := 2) (pc := 37) hx hb dzU_followComings_37 (by decide) ?_
  refine lv_iload_n (pc := 2) hx hb dzU_followComings_2 rfl (lv_at hl 0 rfl) ?_
  refine lv_iconst (v := 2) (pc := 3) hx hb dzU_followComings_3 (by decide) ?_
  refine lv_icmp_ge (pc := 4) (tgt := 40) hx hb dzU_followComings_4 (by decide) (fun _ => ?_) (fun hq9 => absurd (by decide) hq9)
  exact hret g4 H locs 40 ls hP hS (by unfold relzU_followComings; exact ⟨g1, eg1, ⟨g2, eg2, ⟨g3, eg3, ⟨g4, eg4, rfl⟩⟩⟩⟩) dzU_followComings_40
theorem frzU_followComings (g0 : xk_St) (gz : xk_St) : relzU_followComings g0 gz → xk_eqv [0, 1, 2, 3, 4, 5, 6, 7, 8, 9, 10, 11, 12, 13, 14, 15, 16, 17, 18, 19, 20, 21, 22, 23, 24, 29, 30, 31, 32, 33] g0 gz := by
  intro h
  unfold relzU_followComings at h
  have s0 : xk_eqv [0, 1, 2, 3, 4, 5, 6, 7, 8, 9, 10, 11, 12, 13, 14, 15, 16, 17, 18, 19, 20, 21, 22, 23, 24, 29, 30, 31, 32, 33] g0 g0 := xk_eqv_rf
  obtain ⟨g1, u1, v2⟩ := h
  have s3 : xk_eqv [0, 1, 2, 3, 4, 5, 6, 7, 8, 9, 10, 11, 12, 13, 14, 15, 16, 17, 18, 19, 20, 21, 22, 23, 24, 29, 30, 31, 32, 33] g0 g1 := by rw [u1]; repeat (first | exact s0 | refine xk_eqv_up (by decide) ?_)
  obtain ⟨g2, u4, v5⟩ := v2
  have s6 : xk_eqv [0, 1, 2, 3, 4, 5, 6, 7, 8, 9, 10, 11, 12, 13, 14, 15, 16, 17, 18, 19, 20, 21, 22, 23, 24, 29, 30, 31, 32, 33] g0 g2 := by rw [u4]; repeat (first | exact s3 | refine xk_eqv_up (by decide) ?_)
  obtain ⟨g3, u7, v8⟩ := v5
  have s9 : xk_eqv [0, 1, 2, 3, 4, 5, 6, 7, 8, 9, 10, 11, 12, 13, 14, 15, 16, 17, 18, 19, 20, 21, 22, 23, 24, 29, 30, 31, 32, 33] g0 g3 := by rw [u7]; repeat (first | exact s6 | refine xk_eqv_up (by decide) ?_)
  obtain ⟨g4, u10, v11⟩ := v8
  have s12 : xk_eqv [0, 1, 2, 3, 4, 5, 6, 7, 8, 9, 10, 11, 12, 13, 14, 15, 16, 17, 18, 19, 20, 21, 22, 23, 24, 29, 30, 31, 32, 33] g0 g4 := by rw [u10]; repeat (first | exact s9 | refine xk_eqv_up (by decide) ?_)
  rw [v11]; exact s12

def relzU_useUpOrders (g0 : xk_St) (gz : xk_St) : Prop := ∃ (g3 : xk_St), (if (g0 9 4) = 0 then (g3 = g0) else (if (g0 20 1) ≤ 0 then (g3 = g0) else (if (g0 20 2) = 0 then (∃ (g1 : xk_St), g1 = va_up g0 9 (upd (g0 9) 4 0) ∧ (∃ (g2 : xk_St), g2 = va_up (va_up (va_up (va_up g1 5 (upd (g1 5) 3 (qzJ_add_a3 (g1 5 3)))) 6 (qzJ_add_b (g1 5 3) (g1 6) (g1 0 5))) 7 (qzJ_add_c (g1 5 3) (g1 7) 9)) 8 (qzJ_add_d (g1 5 3) (g1 8) 0) ∧ (g3 = g2))) else (g3 = g0)))) ∧ (∃ (g6 : xk_St), (if (g3 10 4) = 0 then (g6 = g3) else (if (g3 23 1) ≤ 0 then (g6 = g3) else (if (g3 23 2) = 0 then (∃ (g4 : xk_St), g4 = va_up g3 10 (upd (g3 10) 4 0) ∧ (∃ (g5 : xk_St), g5 = va_up (va_up (va_up (va_up g4 5 (upd (g4 5) 3 (qzJ_add_a3 (g4 5 3)))) 6 (qzJ_add_b (g4 5 3) (g4 6) (g4 0 5))) 7 (qzJ_add_c (g4 5 3) (g4 7) 9)) 8 (qzJ_add_d (g4 5 3) (g4 8) 1) ∧ (g6 = g5))) else (g6 = g3)))) ∧ (gz = g6))
set_option maxHeartbeats 4000000 in
set_option maxRecDepth 100000 in
theorem kzU_useUpOrders (l : Launch) (G : va_G) (ac : Nat → ClassId) (ad : Nat → Nat) (g0 : xk_St) : xk_CV l yzU_useUpOrders czU_useUpOrders 3 xk_WS xk_r1 G xk_cls (xk_tys ac) [.ref (ad 0)] (xk_wU ad ac g0) (fun (gz : xk_St) => relzU_useUpOrders g0 gz) (fun gz => xk_wU ad ac gz) := by
  refine xk_ofV (by decide) (Nat.le_of_ble_eq_true rfl) ?_
  intro p e s m args below meth c A Q H locs ls C0 hret hP hD hS hl
  obtain ⟨hx, hb, hml, hts, hown, hK, hA⟩ := C0
  have hl : lv_has ls 3 [(0, .ref (ad 0))] := hl
  refine lv_iconst (v := 0) (pc := 0) hx hb dzU_useUpOrders_0 (by decide) ?_
  refine lv_istore_n (lv' := [(1, .int 0), (0, .ref (ad 0))]) (pc := 1) hx hb dzU_useUpOrders_1 rfl hl (by decide) rfl (fun ls hl => ?_)
  refine lv_iload_n (pc := 2) hx hb dzU_useUpOrders_2 rfl (lv_at hl 0 rfl) ?_
  refine lv_iconst (v := 2) (pc := 3) hx hb dzU_useUpOrders_3 (by decide) ?_
  refine lv_icmp_ge (pc := 4) (tgt := 75) hx hb dzU_useUpOrders_4 (by decide) (fun hq9 => absurd hq9 (by decide)) (fun _ => ?_)
  refine lv_aload_n (pc := 7) hx hb dzU_useUpOrders_7 rfl (lv_at hl 1 rfl) ?_
  refine xk_get (pc := 8) hx hb hts hown hK hP ffzU_11 0 rfl rfl dzU_useUpOrders_8 ?_
  refine lv_iload_n (pc := 11) hx hb dzU_useUpOrders_11 rfl (lv_at hl 0 rfl) ?_
  refine xk_aald (q0 := 1) (t0 := 2) (j := 0) (b := (ad 9)) (pc := 12) hx hb hK hP rfl rfl (pk_in 0 2 (by decide)) (pk_cl 0) rfl dzU_useUpOrders_12 ?_
  refine xk_get (pc := 13) hx hb hts hown hK hP ffzU_158 9 rfl rfl dzU_useUpOrders_13 ?_
  refine lv_iconst (v := 1) (pc := 16) hx hb dzU_useUpOrders_16 (by decide) ?_
  refine xk_aald (q0 := 11) (t0 := 3) (j := 1) (b := (ad 20)) (pc := 17) hx hb hK hP rfl rfl (pk_in 1 3 (by decide)) (pk_cl 1) rfl dzU_useUpOrders_17 ?_
  refine lv_astore_n (lv' := [(2, .ref (ad 20)), (1, .int 0), (0, .ref (ad 0))]) (pc := 18) hx hb dzU_useUpOrders_18 rfl hl (by decide) rfl (fun ls hl => ?_)
  refine lv_aload_n (pc := 19) hx hb dzU_useUpOrders_19 rfl (lv_at hl 2 rfl) ?_
  refine xk_get (pc := 20) hx hb hts hown hK hP ffzU_11 0 rfl rfl dzU_useUpOrders_20 ?_
  refine lv_iload_n (pc := 23) hx hb dzU_useUpOrders_23 rfl (lv_at hl 1 rfl) ?_
  refine xk_aald (q0 := 1) (t0 := 2) (j := 0) (b := (ad 9)) (pc := 24) hx hb hK hP rfl rfl (pk_in 0 2 (by decide)) (pk_cl 0) rfl dzU_useUpOrders_24 ?_
  refine xk_get (pc := 25) hx hb hts hown hK hP ffzU_152 9 rfl rfl dzU_useUpOrders_25 ?_
  have K1 : ∀ (g3 : xk_St) (H : Heap) (locs : List Loc), (if (g0 9 4) = 0 then (g3 = g0) else (if (g0 20 1) ≤ 0 then (g3 = g0) else (if (g0 20 2) = 0 then (∃ (g1 : xk_St), g1 = va_up g0 9 (upd (g0 9) 4 0) ∧ (∃ (g2 : xk_St), g2 = va_up (va_up (va_up (va_up g1 5 (upd (g1 5) 3 (qzJ_add_a3 (g1 5 3)))) 6 (qzJ_add_b (g1 5 3) (g1 6) (g1 0 5))) 7 (qzJ_add_c (g1 5 3) (g1 7) 9)) 8 (qzJ_add_d (g1 5 3) (g1 8) 0) ∧ (g3 = g2))) else (g3 = g0)))) → (va_P G xk_cls (xk_wU ad ac g3) H) → (va_D A (xk_wU ad ac g3)) → (va_S A s.heap H locs) → W p l e xk_r1 s m args below meth c H locs 0 0 Q (F0 m 69 ls []) := by
    intro g3 H locs R1 hP hD hS
    refine lv_iinc (k := 1) (x := 0) (v := 1) (lv' := [(1, .int 1), (2, .ref (ad 20)), (0, .ref (ad 0))]) (pc := 69) hx hb dzU_useUpOrders_69 hl rfl (by decide) (by decide) rfl (fun ls hl => ?_)
    refine lv_goto (tgt := 2) (pc := 72) hx hb dzU_useUpOrders_72 (by decide) ?_
    refine lv_iload_n (pc := 2) hx hb dzU_useUpOrders_2 rfl (lv_at hl 0 rfl) ?_
    refine lv_iconst (v := 2) (pc := 3) hx hb dzU_useUpOrders_3 (by decide) ?_
    refine lv_icmp_ge (pc := 4) (tgt := 75) hx hb dzU_useUpOrders_4 (by decide) (fun hq9 => absurd hq9 (by decide)) (fun _ => ?_)
    refine lv_aload_n (pc := 7) hx hb dzU_useUpOrders_7 rfl (lv_at hl 2 rfl) ?_
    refine xk_get (pc := 8) hx hb hts hown hK hP ffzU_11 0 rfl rfl dzU_useUpOrders_8 ?_
    refine lv_iload_n (pc := 11) hx hb dzU_useUpOrders_11 rfl (lv_at hl 0 rfl) ?_
    refine xk_aald (q0 := 1) (t0 := 2) (j := 1) (b := (ad 10)) (pc := 12) hx hb hK hP rfl rfl (pk_in 1 2 (by decide)) (pk_cl 1) rfl dzU_useUpOrders_12 ?_
    refine xk_get (pc := 13) hx hb hts hown hK hP ffzU_158 10 rfl rfl dzU_useUpOrders_13 ?_
    refine lv_iconst (v := 1) (pc := 16) hx hb dzU_useUpOrders_16 (by decide) ?_
    refine xk_aald (q0 := 12) (t0 := 3) (j := 1) (b := (ad 23)) (pc := 17) hx hb hK hP rfl rfl (pk_in 1 3 (by decide)) (pk_cl 1) rfl dzU_useUpOrders_17 ?_
    refine lv_astore_n (lv' := [(2, .ref (ad 23)), (1, .int 1), (0, .ref (ad 0))]) (pc := 18) hx hb dzU_useUpOrders_18 rfl hl (by decide) rfl (fun ls hl => ?_)
    refine lv_aload_n (pc := 19) hx hb dzU_useUpOrders_19 rfl (lv_at hl 2 rfl) ?_
    refine xk_get (pc := 20) hx hb hts hown hK hP ffzU_11 0 rfl rfl dzU_useUpOrders_20 ?_
    refine lv_iload_n (pc := 23) hx hb dzU_useUpOrders_23 rfl (lv_at hl 1 rfl) ?_
    refine xk_aald (q0 := 1) (t0 := 2) (j := 1) (b := (ad 10)) (pc := 24) hx hb hK hP rfl rfl (pk_in 1 2 (by decide)) (pk_cl 1) rfl dzU_useUpOrders_24 ?_
    refine xk_get (pc := 25) hx hb hts hown hK hP ffzU_152 10 rfl rfl dzU_useUpOrders_25 ?_
    have K2 : ∀ (g6 : xk_St) (H : Heap) (locs : List Loc), (if (g3 10 4) = 0 then (g6 = g3) else (if (g3 23 1) ≤ 0 then (g6 = g3) else (if (g3 23 2) = 0 then (∃ (g4 : xk_St), g4 = va_up g3 10 (upd (g3 10) 4 0) ∧ (∃ (g5 : xk_St), g5 = va_up (va_up (va_up (va_up g4 5 (upd (g4 5) 3 (qzJ_add_a3 (g4 5 3)))) 6 (qzJ_add_b (g4 5 3) (g4 6) (g4 0 5))) 7 (qzJ_add_c (g4 5 3) (g4 7) 9)) 8 (qzJ_add_d (g4 5 3) (g4 8) 1) ∧ (g6 = g5))) else (g6 = g3)))) → (va_P G xk_cls (xk_wU ad ac g6) H) → (va_D A (xk_wU ad ac g6)) → (va_S A s.heap H locs) → W p l e xk_r1 s m args below meth c H locs 0 0 Q (F0 m 69 ls []) := by
      intro g6 H locs R2 hP hD hS
      refine lv_iinc (k := 1) (x := 1) (v := 2) (lv' := [(1, .int 2), (2, .ref (ad 23)), (0, .ref (ad 0))]) (pc := 69) hx hb dzU_useUpOrders_69 hl rfl (by decide) (by decide) rfl (fun ls hl => ?_)
      refine lv_goto (tgt := 2) (pc := 72) hx hb dzU_useUpOrders_72 (by decide) ?_
      refine lv_iload_n (pc := 2) hx hb dzU_useUpOrders_2 rfl (lv_at hl 0 rfl) ?_
      refine lv_iconst (v := 2) (pc := 3) hx hb dzU_useUpOrders_3 (by decide) ?_
      refine lv_icmp_ge (pc := 4) (tgt := 75) hx hb dzU_useUpOrders_4 (by decide) (fun _ => ?_) (fun hq9 => absurd (by decide) hq9)
      exact hret g6 H locs 75 ls hP hS (by unfold relzU_useUpOrders; exact ⟨g3, R1, ⟨g6, R2, rfl⟩⟩) dzU_useUpOrders_75
    refine lv_if_eq (pc := 28) (tgt := 69) hx hb dzU_useUpOrders_28 (by decide) (fun h4 => ?_) (fun h4 => ?_)
    ·
      exact K2 g3 H locs (Eq.mpr (if_pos h4) rfl) hP hD hS
    ·
      refine lv_aload_n (pc := 31) hx hb dzU_useUpOrders_31 rfl (lv_at hl 0 rfl) ?_
      refine xk_get (pc := 32) hx hb hts hown hK hP ffzU_207 23 rfl rfl dzU_useUpOrders_32 ?_
      refine lv_if_le (pc := 35) (tgt := 69) hx hb dzU_useUpOrders_35 (by decide) (fun h5 => ?_) (fun h5 => ?_)
      ·
        exact K2 g3 H locs (Eq.mpr (if_neg h4) (Eq.mpr (if_pos h5) rfl)) hP hD hS
      ·
        refine lv_aload_n (pc := 38) hx hb dzU_useUpOrders_38 rfl (lv_at hl 0 rfl) ?_
        refine xk_get (pc := 39) hx hb hts hown hK hP ffzU_304 23 rfl rfl dzU_useUpOrders_39 ?_
        refine lv_if_ne (pc := 42) (tgt := 69) hx hb dzU_useUpOrders_42 (by decide) (fun h6 => ?_) (fun h6 => ?_)
        ·
          exact K2 g3 H locs (Eq.mpr (if_neg h4) (Eq.mpr (if_neg h5) (Eq.mpr (if_neg h6) rfl))) hP hD hS
        ·
          refine lv_aload_n (pc := 45) hx hb dzU_useUpOrders_45 rfl (lv_at hl 2 rfl) ?_
          refine xk_get (pc := 46) hx hb hts hown hK hP ffzU_11 0 rfl rfl dzU_useUpOrders_46 ?_
          refine lv_iload_n (pc := 49) hx hb dzU_useUpOrders_49 rfl (lv_at hl 1 rfl) ?_
          refine xk_aald (q0 := 1) (t0 := 2) (j := 1) (b := (ad 10)) (pc := 50) hx hb hK hP rfl rfl (pk_in 1 2 (by decide)) (pk_cl 1) rfl dzU_useUpOrders_50 ?_
          refine lv_iconst (v := 0) (pc := 51) hx hb dzU_useUpOrders_51 (by decide) ?_
          refine xk_putf (pc := 52) hx hb hts hown hK hP hD hS pfzU_152 10 rfl (xk_bn xk_b0) (xk_bf xk_b0) (Nat.le_of_ble_eq_true rfl) dzU_useUpOrders_52 (fun H locs hP hD hS => ?_)
          obtain ⟨g4, eg4⟩ : ∃ z : xk_St, z = va_up g3 10 (upd (g3 10) 4 0) := ⟨_, rfl⟩
          have hP : va_P G xk_cls (xk_wU ad ac g4) H := by rw [eg4]; exact hP
          have hD : va_D A (xk_wU ad ac g4) := by rw [eg4]; exact hD
          refine lv_aload_n (pc := 55) hx hb dzU_useUpOrders_55 rfl (lv_at hl 2 rfl) ?_
          refine xk_get (pc := 56) hx hb hts hown hK hP ffzU_37 0 rfl rfl dzU_useUpOrders_56 ?_
          refine lv_aload_n (pc := 59) hx hb dzU_useUpOrders_59 rfl (lv_at hl 2 rfl) ?_
          refine xk_get (pc := 60) hx hb hts hown hK hP ffzU_41 0 rfl rfl dzU_useUpOrders_60 ?_
          refine lv_bipush (v := 9) (pc := 63) hx hb dzU_useUpOrders_63 (by decide) ?_
          refine lv_iload_n (pc := 65) hx hb dzU_useUpOrders_65 rfl (lv_at hl 1 rfl) ?_
          refine xk_callVV (As := [.int (g4 0 5), .int 9, .int 1]) (rest := []) (H0 := s.heap) (pc := 66) hx hb hml hts hown hK hA hP hD hS (kzJ_add l G ac (ad 5) (ad 6) (ad 7) (ad 8) (g4 5 3) (g4 6) (g4 7) (g4 8) (g4 0 5) 9 1) vfzU_170 [5, 6, 7, 8] (by decide) rfl (fun _ => rfl) 5 rfl rfl ⟨rfl, rfl⟩ ⟨Nat.le_of_ble_eq_true rfl, Nat.le_of_ble_eq_true rfl⟩ rfl hl.1 rfl (Nat.le_of_ble_eq_true rfl) ⟨Nat.zero_le _, Nat.zero_le _⟩ dzU_useUpOrders_66 (fun u9 H locs e9 hP hD hS => ?_)
          obtain ⟨g5, eg5⟩ : ∃ z : xk_St, z = va_up (va_up (va_up (va_up g4 5 (upd (g4 5) 3 (qzJ_add_a3 (g4 5 3)))) 6 (qzJ_add_b (g4 5 3) (g4 6) (g4 0 5))) 7 (qzJ_add_c (g4 5 3) (g4 7) 9)) 8 (qzJ_add_d (g4 5 3) (g4 8) 1) := ⟨_, rfl⟩
          have hP : va_P G xk_cls (xk_wU ad ac g5) H := by rw [eg5]; exact hP
          have hD : va_D A (xk_wU ad ac g5) := by rw [eg5]; exact hD
          exact K2 g5 H locs (Eq.mpr (if_neg h4) (Eq.mpr (if_neg h5) (Eq.mpr (if_pos h6) ⟨g4, eg4, ⟨g5, eg5, rfl⟩⟩))) hP hD hS
  refine lv_if_eq (pc := 28) (tgt := 69) hx hb dzU_useUpOrders_28 (by decide) (fun h1 => ?_) (fun h1 => ?_)
  ·
    exact K1 g0 H locs (Eq.mpr (if_pos h1) rfl) hP hD hS
  ·
    refine lv_aload_n (pc := 31) hx hb dzU_useUpOrders_31 rfl (lv_at hl 0 rfl) ?_
    refine xk_get (pc := 32) hx hb hts hown hK hP ffzU_207 20 rfl rfl dzU_useUpOrders_32 ?_
    refine lv_if_le (pc := 35) (tgt := 69) hx hb dzU_useUpOrders_35 (by decide) (fun h2 => ?_) (fun h2 => ?_)
    ·
      exact K1 g0 H locs (Eq.mpr (if_neg h1) (Eq.mpr (if_pos h2) rfl)) hP hD hS
    ·
      refine lv_aload_n (pc := 38) hx hb dzU_useUpOrders_38 rfl (lv_at hl 0 rfl) ?_
      refine xk_get (pc := 39) hx hb hts hown hK hP ffzU_304 20 rfl rfl dzU_useUpOrders_39 ?_
      refine lv_if_ne (pc := 42) (tgt := 69) hx hb dzU_useUpOrders_42 (by decide) (fun h3 => ?_) (fun h3 => ?_)
      ·
        exact K1 g0 H locs (Eq.mpr (if_neg h1) (Eq.mpr (if_neg h2) (Eq.mpr (if_neg h3) rfl))) hP hD hS
      ·
        refine lv_aload_n (pc := 45) hx hb dzU_useUpOrders_45 rfl (lv_at hl 2 rfl) ?_
        refine xk_get (pc := 46) hx hb hts hown hK hP ffzU_11 0 rfl rfl dzU_useUpOrders_46 ?_
        refine lv_iload_n (pc := 49) hx hb dzU_useUpOrders_49 rfl (lv_at hl 1 rfl) ?_
        refine xk_aald (q0 := 1) (t0 := 2) (j := 0) (b := (ad 9)) (pc := 50) hx hb hK hP rfl rfl (pk_in 0 2 (by decide)) (pk_cl 0) rfl dzU_useUpOrders_50 ?_
        refine lv_iconst (v := 0) (pc := 51) hx hb dzU_useUpOrders_51 (by decide) ?_
        refine xk_putf (pc := 52) hx hb hts hown hK hP hD hS pfzU_152 9 rfl (xk_bn xk_b0) (xk_bf xk_b0) (Nat.le_of_ble_eq_true rfl) dzU_useUpOrders_52 (fun H locs hP hD hS => ?_)
        obtain ⟨g1, eg1⟩ : ∃ z : xk_St, z = va_up g0 9 (upd (g0 9) 4 0) := ⟨_, rfl⟩
        have hP : va_P G xk_cls (xk_wU ad ac g1) H := by rw [eg1]; exact hP
        have hD : va_D A (xk_wU ad ac g1) := by rw [eg1]; exact hD
        refine lv_aload_n (pc := 55) hx hb dzU_useUpOrders_55 rfl (lv_at hl 2 rfl) ?_
        refine xk_get (pc := 56) hx hb hts hown hK hP ffzU_37 0 rfl rfl dzU_useUpOrders_56 ?_
        refine lv_aload_n (pc := 59) hx hb dzU_useUpOrders_59 rfl (lv_at hl 2 rfl) ?_
        refine xk_get (pc := 60) hx hb hts hown hK hP ffzU_41 0 rfl rfl dzU_useUpOrders_60 ?_
        refine lv_bipush (v := 9) (pc := 63) hx hb dzU_useUpOrders_63 (by decide) ?_
        refine lv_iload_n (pc := 65) hx hb dzU_useUpOrders_65 rfl (lv_at hl 1 rfl) ?_
        refine xk_callVV (As := [.int (g1 0 5), .int 9, .int 0]) (rest := []) (H0 := s.heap) (pc := 66) hx hb hml hts hown hK hA hP hD hS (kzJ_add l G ac (ad 5) (ad 6) (ad 7) (ad 8) (g1 5 3) (g1 6) (g1 7) (g1 8) (g1 0 5) 9 0) vfzU_170 [5, 6, 7, 8] (by decide) rfl (fun _ => rfl) 5 rfl rfl ⟨rfl, rfl⟩ ⟨Nat.le_of_ble_eq_true rfl, Nat.le_of_ble_eq_true rfl⟩ rfl hl.1 rfl (Nat.le_of_ble_eq_true rfl) ⟨Nat.zero_le _, Nat.zero_le _⟩ dzU_useUpOrders_66 (fun u9 H locs e9 hP hD hS => ?_)
        obtain ⟨g2, eg2⟩ : ∃ z : xk_St, z = va_up (va_up (va_up (va_up g1 5 (upd (g1 5) 3 (qzJ_add_a3 (g1 5 3)))) 6 (qzJ_add_b (g1 5 3) (g1 6) (g1 0 5))) 7 (qzJ_add_c (g1 5 3) (g1 7) 9)) 8 (qzJ_add_d (g1 5 3) (g1 8) 0) := ⟨_, rfl⟩
        have hP : va_P G xk_cls (xk_wU ad ac g2) H := by rw [eg2]; exact hP
        have hD : va_D A (xk_wU ad ac g2) := by rw [eg2]; exact hD
        exact K1 g2 H locs (Eq.mpr (if_neg h1) (Eq.mpr (if_neg h2) (Eq.mpr (if_pos h3) ⟨g1, eg1, ⟨g2, eg2, rfl⟩⟩))) hP hD hS
theorem frzU_useUpOrders (g0 : xk_St) (gz : xk_St) : relzU_useUpOrders g0 gz → xk_eqv [0, 1, 2, 3, 4, 11, 12, 13, 14, 15, 16, 17, 18, 19, 20, 21, 22, 23, 24, 25, 26, 27, 28, 29, 30, 31, 32, 33] g0 gz := by
  intro h
  unfold relzU_useUpOrders at h
  have s0 : xk_eqv [0, 1, 2, 3, 4, 11, 12, 13, 14, 15, 16, 17, 18, 19, 20, 21, 22, 23, 24, 25, 26, 27, 28, 29, 30, 31, 32, 33] g0 g0 := xk_eqv_rf
  obtain ⟨g3, u1, v2⟩ := h
  have s3 : xk_eqv [0, 1, 2, 3, 4, 11, 12, 13, 14, 15, 16, 17, 18, 19, 20, 21, 22, 23, 24, 25, 26, 27, 28, 29, 30, 31, 32, 33] g0 g3 := by
    by_cases hc : (g0 9 4) = 0
    · rw [if_pos hc] at u1
      rw [u1]; exact s0
    · rw [if_neg hc] at u1
      by_cases hc : (g0 20 1) ≤ 0
      · rw [if_pos hc] at u1
        rw [u1]; exact s0
      · rw [if_neg hc] at u1
        by_cases hc : (g0 20 2) = 0
        · rw [if_pos hc] at u1
          obtain ⟨g1, u4, v5⟩ := u1
          have s6 : xk_eqv [0, 1, 2, 3, 4, 11, 12, 13, 14, 15, 16, 17, 18, 19, 20, 21, 22, 23, 24, 25, 26, 27, 28, 29, 30, 31, 32, 33] g0 g1 := by rw [u4]; repeat (first | exact s0 | refine xk_eqv_up (by decide) ?_)
          obtain ⟨g2, u7, v8⟩ := v5
          have s9 : xk_eqv [0, 1, 2, 3, 4, 11, 12, 13, 14, 15, 16, 17, 18, 19, 20, 21, 22, 23, 24, 25, 26, 27, 28, 29, 30, 31, 32, 33] g0 g2 := by rw [u7]; repeat (first | exact s6 | refine xk_eqv_up (by decide) ?_)
          rw [v8]; exact s9
        · rw [if_neg hc] at u1
          rw [u1]; exact s0
  obtain ⟨g6, u10, v11⟩ := v2
  have s12 : xk_eqv [0, 1, 2, 3, 4, 11, 12, 13, 14, 15, 16, 17, 18, 19, 20, 21, 22, 23, 24, 25, 26, 27, 28, 29, 30, 31, 32, 33] g0 g6 := by
    by_cases hc : (g3 10 4) = 0
    · rw [if_pos hc] at u10
      rw [u10]; exact s3
    · rw [if_neg hc] at u10
      by_cases hc : (g3 23 1) ≤ 0
      · rw [if_pos hc] at u10
        rw [u10]; exact s3
      · rw [if_neg hc] at u10
        by_cases hc : (g3 23 2) = 0
        · rw [if_pos hc] at u10
          obtain ⟨g4, u13, v14⟩ := u10
          have s15 : xk_eqv [0, 1, 2, 3, 4, 11, 12, 13, 14, 15, 16, 17, 18, 19, 20, 21, 22, 23, 24, 25, 26, 27, 28, 29, 30, 31, 32, 33] g0 g4 := by rw [u13]; repeat (first | exact s3 | refine xk_eqv_up (by decide) ?_)
          obtain ⟨g5, u16, v17⟩ := v14
          have s18 : xk_eqv [0, 1, 2, 3, 4, 11, 12, 13, 14, 15, 16, 17, 18, 19, 20, 21, 22, 23, 24, 25, 26, 27, 28, 29, 30, 31, 32, 33] g0 g5 := by rw [u16]; repeat (first | exact s15 | refine xk_eqv_up (by decide) ?_)
          rw [v17]; exact s18
        · rw [if_neg hc] at u10
          rw [u10]; exact s3
  rw [v11]; exact s12

def relzU_watchLamps (g0 : xk_St) (gz : xk_St) : Prop := ∃ (g1 : xk_St), g1 = va_up g0 31 (upd (upd (g0 31) 2 (qzP_dies_a2 (g0 31 0) (g0 31 1) (g0 31 2) (g0 31 3))) 3 (qzP_dies_a3 (g0 31 0) (g0 31 1) (g0 31 3))) ∧ (∃ (g3 : xk_St), (if (qzP_dies (g0 31 0) (g0 31 1) (g0 31 3)) = 0 then (g3 = g1) else (∃ (g2 : xk_St), g2 = va_up (va_up (va_up (va_up g1 5 (upd (g1 5) 3 (qzJ_add_a3 (g1 5 3)))) 6 (qzJ_add_b (g1 5 3) (g1 6) (g1 0 5))) 7 (qzJ_add_c (g1 5 3) (g1 7) 7)) 8 (qzJ_add_d (g1 5 3) (g1 8) 0) ∧ (g3 = g2))) ∧ (∃ (g4 : xk_St), g4 = va_up g3 32 (upd (upd (g3 32) 2 (qzP_dies_a2 (g3 32 0) (g3 32 1) (g3 32 2) (g3 32 3))) 3 (qzP_dies_a3 (g3 32 0) (g3 32 1) (g3 32 3))) ∧ (∃ (g6 : xk_St), (if (qzP_dies (g3 32 0) (g3 32 1) (g3 32 3)) = 0 then (g6 = g4) else (∃ (g5 : xk_St), g5 = va_up (va_up (va_up (va_up g4 5 (upd (g4 5) 3 (qzJ_add_a3 (g4 5 3)))) 6 (qzJ_add_b (g4 5 3) (g4 6) (g4 0 5))) 7 (qzJ_add_c (g4 5 3) (g4 7) 7)) 8 (qzJ_add_d (g4 5 3) (g4 8) 1) ∧ (g6 = g5))) ∧ (∃ (g7 : xk_St), g7 = va_up g6 33 (upd (upd (g6 33) 2 (qzP_dies_a2 (g6 33 0) (g6 33 1) (g6 33 2) (g6 33 3))) 3 (qzP_dies_a3 (g6 33 0) (g6 33 1) (g6 33 3))) ∧ (∃ (g9 : xk_St), (if (qzP_dies (g6 33 0) (g6 33 1) (g6 33 3)) = 0 then (g9 = g7) else (∃ (g8 : xk_St), g8 = va_up (va_up (va_up (va_up g7 5 (upd (g7 5) 3 (qzJ_add_a3 (g7 5 3)))) 6 (qzJ_add_b (g7 5 3) (g7 6) (g7 0 5))) 7 (qzJ_add_c (g7 5 3) (g7 7) 7)) 8 (qzJ_add_d (g7 5 3) (g7 8) 2) ∧ (g9 = g8))) ∧ (gz = g9))))))
set_option maxHeartbeats 4000000 in
set_option maxRecDepth 100000 in
theorem kzU_watchLamps (l : Launch) (G : va_G) (ac : Nat → ClassId) (ad : Nat → Nat) (g0 : xk_St) : xk_CV l yzU_watchLamps czU_watchLamps 2 xk_WS xk_r1 G xk_cls (xk_tys ac) [.ref (ad 0)] (xk_wU ad ac g0) (fun (gz : xk_St) => relzU_watchLamps g0 gz) (fun gz => xk_wU ad ac gz) := by
  refine xk_ofV (by decide) (Nat.le_of_ble_eq_true rfl) ?_
  intro p e s m args below meth c A Q H locs ls C0 hret hP hD hS hl
  obtain ⟨hx, hb, hml, hts, hown, hK, hA⟩ := C0
  have hl : lv_has ls 2 [(0, .ref (ad 0))] := hl
  refine lv_iconst (v := 0) (pc := 0) hx hb dzU_watchLamps_0 (by decide) ?_
  refine lv_istore_n (lv' := [(1, .int 0), (0, .ref (ad 0))]) (pc := 1) hx hb dzU_watchLamps_1 rfl hl (by decide) rfl (fun ls hl => ?_)
  refine lv_iload_n (pc := 2) hx hb dzU_watchLamps_2 rfl (lv_at hl 0 rfl) ?_
  refine lv_iconst (v := 3) (pc := 3) hx hb dzU_watchLamps_3 (by decide) ?_
  refine lv_icmp_ge (pc := 4) (tgt := 39) hx hb dzU_watchLamps_4 (by decide) (fun hq9 => absurd hq9 (by decide)) (fun _ => ?_)
  refine lv_aload_n (pc := 7) hx hb dzU_watchLamps_7 rfl (lv_at hl 1 rfl) ?_
  refine xk_get (pc := 8) hx hb hts hown hK hP ffzU_23 0 rfl rfl dzU_watchLamps_8 ?_
  refine lv_iload_n (pc := 11) hx hb dzU_watchLamps_11 rfl (lv_at hl 0 rfl) ?_
  refine xk_aald (q0 := 3) (t0 := 6) (j := 0) (b := (ad 31)) (pc := 12) hx hb hK hP rfl rfl (pk_in 0 3 (by decide)) (pk_cl 0) rfl dzU_watchLamps_12 ?_
  refine xk_callVI (As := []) (rest := []) (H0 := s.heap) (pc := 13) hx hb hml hts hown hK hA hP hD hS (kzP_dies l G ac (ad 31) (g0 31 0) (g0 31 1) (g0 31 2) (g0 31 3)) vfzU_307 [31] (by decide) rfl (fun _ => rfl) 31 rfl rfl ⟨rfl, rfl⟩ ⟨Nat.le_of_ble_eq_true rfl, Nat.le_of_ble_eq_true rfl⟩ rfl hl.1 rfl (Nat.le_of_ble_eq_true rfl) ⟨Nat.zero_le _, Nat.zero_le _⟩ dzU_watchLamps_13 (fun r1 u9 H locs e9 hP hD hS => ?_)
  obtain rfl : r1 = qzP_dies (g0 31 0) (g0 31 1) (g0 31 3) := e9
  obtain ⟨g1, eg1⟩ : ∃ z : xk_St, z = va_up g0 31 (upd (upd (g0 31) 2 (qzP_dies_a2 (g0 31 0) (g0 31 1) (g0 31 2) (g0 31 3))) 3 (qzP_dies_a3 (g0 31 0) (g0 31 1) (g0 31 3))) := ⟨_, rfl⟩
  have hP : va_P G xk_cls (xk_wU ad ac g1) H := by rw [eg1]; exact hP
  have hD : va_D A (xk_wU ad ac g1) := by rw [eg1]; exact hD
  have K1 : ∀ (g3 : xk_St) (H : Heap) (locs : List Loc), (if (qzP_dies (g0 31 0) (g0 31 1) (g0 31 3)) = 0 then (g3 = g1) else (∃ (g2 : xk_St), g2 = va_up (va_up (va_up (va_up g1 5 (upd (g1 5) 3 (qzJ_add_a3 (g1 5 3)))) 6 (qzJ_add_b (g1 5 3) (g1 6) (g1 0 5))) 7 (qzJ_add_c (g1 5 3) (g1 7) 7)) 8 (qzJ_add_d (g1 5 3) (g1 8) 0) ∧ (g3 = g2))) → (va_P G xk_cls (xk_wU ad ac g3) H) → (va_D A (xk_wU ad ac g3)) → (va_S A s.heap H locs) → W p l e xk_r1 s m args below meth c H locs 0 0 Q (F0 m 33 ls []) := by
    intro g3 H locs R1 hP hD hS
    refine lv_iinc (k := 0) (x := 0) (v := 1) (lv' := [(1, .int 1), (0, .ref (ad 0))]) (pc := 33) hx hb dzU_watchLamps_33 hl rfl (by decide) (by decide) rfl (fun ls hl => ?_)
    refine lv_goto (tgt := 2) (pc := 36) hx hb dzU_watchLamps_36 (by decide) ?_
    refine lv_iload_n (pc := 2) hx hb dzU_watchLamps_2 rfl (lv_at hl 0 rfl) ?_
    refine lv_iconst (v := 3) (pc := 3) hx hb dzU_watchLamps_3 (by decide) ?_
    refine lv_icmp_ge (pc := 4) (tgt := 39) hx hb dzU_watchLamps_4 (by decide) (fun hq9 => absurd hq9 (by decide)) (fun _ => ?_)
    refine lv_aload_n (pc := 7) hx hb dzU_watchLamps_7 rfl (lv_at hl 1 rfl) ?_
    refine xk_get (pc := 8) hx hb hts hown hK hP ffzU_23 0 rfl rfl dzU_watchLamps_8 ?_
    refine lv_iload_n (pc := 11) hx hb dzU_watchLamps_11 rfl (lv_at hl 0 rfl) ?_
    refine xk_aald (q0 := 3) (t0 := 6) (j := 1) (b := (ad 32)) (pc := 12) hx hb hK hP rfl rfl (pk_in 1 3 (by decide)) (pk_cl 1) rfl dzU_watchLamps_12 ?_
    refine xk_callVI (As := []) (rest := []) (H0 := s.heap) (pc := 13) hx hb hml hts hown hK hA hP hD hS (kzP_dies l G ac (ad 32) (g3 32 0) (g3 32 1) (g3 32 2) (g3 32 3)) vfzU_307 [32] (by decide) rfl (fun _ => rfl) 32 rfl rfl ⟨rfl, rfl⟩ ⟨Nat.le_of_ble_eq_true rfl, Nat.le_of_ble_eq_true rfl⟩ rfl hl.1 rfl (Nat.le_of_ble_eq_true rfl) ⟨Nat.zero_le _, Nat.zero_le _⟩ dzU_watchLamps_13 (fun r2 u9 H locs e9 hP hD hS => ?_)
    obtain rfl : r2 = qzP_dies (g3 32 0) (g3 32 1) (g3 32 3) := e9
    obtain ⟨g4, eg4⟩ : ∃ z : xk_St, z = va_up g3 32 (upd (upd (g3 32) 2 (qzP_dies_a2 (g3 32 0) (g3 32 1) (g3 32 2) (g3 32 3))) 3 (qzP_dies_a3 (g3 32 0) (g3 32 1) (g3 32 3))) := ⟨_, rfl⟩
    have hP : va_P G xk_cls (xk_wU ad ac g4) H := by rw [eg4]; exact hP
    have hD : va_D A (xk_wU ad ac g4) := by rw [eg4]; exact hD
    have K2 : ∀ (g6 : xk_St) (H : Heap) (locs : List Loc), (if (qzP_dies (g3 32 0) (g3 32 1) (g3 32 3)) = 0 then (g6 = g4) else (∃ (g5 : xk_St), g5 = va_up (va_up (va_up (va_up g4 5 (upd (g4 5) 3 (qzJ_add_a3 (g4 5 3)))) 6 (qzJ_add_b (g4 5 3) (g4 6) (g4 0 5))) 7 (qzJ_add_c (g4 5 3) (g4 7) 7)) 8 (qzJ_add_d (g4 5 3) (g4 8) 1) ∧ (g6 = g5))) → (va_P G xk_cls (xk_wU ad ac g6) H) → (va_D A (xk_wU ad ac g6)) → (va_S A s.heap H locs) → W p l e xk_r1 s m args below meth c H locs 0 0 Q (F0 m 33 ls []) := by
      intro g6 H locs R2 hP hD hS
      refine lv_iinc (k := 0) (x := 1) (v := 2) (lv' := [(1, .int 2), (0, .ref (ad 0))]) (pc := 33) hx hb dzU_watchLamps_33 hl rfl (by decide) (by decide) rfl (fun ls hl => ?_)
      refine lv_goto (tgt := 2) (pc := 36) hx hb dzU_watchLamps_36 (by decide) ?_
      refine lv_iload_n (pc := 2) hx hb dzU_watchLamps_2 rfl (lv_at hl 0 rfl) ?_
      refine lv_iconst (v := 3) (pc := 3) hx hb dzU_watchLamps_3 (by decide) ?_
      refine lv_icmp_ge (pc := 4) (tgt := 39) hx hb dzU_watchLamps_4 (by decide) (fun hq9 => absurd hq9 (by decide)) (fun _ => ?_)
      refine lv_aload_n (pc := 7) hx hb dzU_watchLamps_7 rfl (lv_at hl 1 rfl) ?_
      refine xk_get (pc := 8) hx hb hts hown hK hP ffzU_23 0 rfl rfl dzU_watchLamps_8 ?_
      refine lv_iload_n (pc := 11) hx hb dzU_watchLamps_11 rfl (lv_at hl 0 rfl) ?_
      refine xk_aald (q0 := 3) (t0 := 6) (j := 2) (b := (ad 33)) (pc := 12) hx hb hK hP rfl rfl (pk_in 2 3 (by decide)) (pk_cl 2) rfl dzU_watchLamps_12 ?_
      refine xk_callVI (As := []) (rest := []) (H0 := s.heap) (pc := 13) hx hb hml hts hown hK hA hP hD hS (kzP_dies l G ac (ad 33) (g6 33 0) (g6 33 1) (g6 33 2) (g6 33 3)) vfzU_307 [33] (by decide) rfl (fun _ => rfl) 33 rfl rfl ⟨rfl, rfl⟩ ⟨Nat.le_of_ble_eq_true rfl, Nat.le_of_ble_eq_true rfl⟩ rfl hl.1 rfl (Nat.le_of_ble_eq_true rfl) ⟨Nat.zero_le _, Nat.zero_le _⟩ dzU_watchLamps_13 (fun r3 u9 H locs e9 hP hD hS => ?_)
      obtain rfl : r3 = qzP_dies (g6 33 0) (g6 33 1) (g6 33 3) := e9
      obtain ⟨g7, eg7⟩ : ∃ z : xk_St, z = va_up g6 33 (upd (upd (g6 33) 2 (qzP_dies_a2 (g6 33 0) (g6 33 1) (g6 33 2) (g6 33 3))) 3 (qzP_dies_a3 (g6 33 0) (g6 33 1) (g6 33 3))) := ⟨_, rfl⟩
      have hP : va_P G xk_cls (xk_wU ad ac g7) H := by rw [eg7]; exact hP
      have hD : va_D A (xk_wU ad ac g7) := by rw [eg7]; exact hD
      have K3 : ∀ (g9 : xk_St) (H : Heap) (locs : List Loc), (if (qzP_dies (g6 33 0) (g6 33 1) (g6 33 3)) = 0 then (g9 = g7) else (∃ (g8 : xk_St), g8 = va_up (va_up (va_up (va_up g7 5 (upd (g7 5) 3 (qzJ_add_a3 (g7 5 3)))) 6 (qzJ_add_b (g7 5 3) (g7 6) (g7 0 5))) 7 (qzJ_add_c (g7 5 3) (g7 7) 7)) 8 (qzJ_add_d (g7 5 3) (g7 8) 2) ∧ (g9 = g8))) → (va_P G xk_cls (xk_wU ad ac g9) H) → (va_D A (xk_wU ad ac g9)) → (va_S A s.heap H locs) → W p l e xk_r1 s m args below meth c H locs 0 0 Q (F0 m 33 ls []) := by
        intro g9 H locs R3 hP hD hS
        refine lv_iinc (k := 0) (x := 2) (v := 3) (lv' := [(1, .int 3), (0, .ref (ad 0))]) (pc := 33) hx hb dzU_watchLamps_33 hl rfl (by decide) (by decide) rfl (fun ls hl => ?_)
        refine lv_goto (tgt := 2) (pc := 36) hx hb dzU_watchLamps_36 (by decide) ?_
        refine lv_iload_n (pc := 2) hx hb dzU_watchLamps_2 rfl (lv_at hl 0 rfl) ?_
        refine lv_iconst (v := 3) (pc := 3) hx hb dzU_watchLamps_3 (by decide) ?_
        refine lv_icmp_ge (pc := 4) (tgt := 39) hx hb dzU_watchLamps_4 (by decide) (fun _ => ?_) (fun hq9 => absurd (by decide) hq9)
        exact hret g9 H locs 39 ls hP hS (by unfold relzU_watchLamps; exact ⟨g1, eg1, ⟨g3, R1, ⟨g4, eg4, ⟨g6, R2, ⟨g7, eg7, ⟨g9, R3, rfl⟩⟩⟩⟩⟩⟩) dzU_watchLamps_39
      refine lv_if_eq (pc := 16) (tgt := 33) hx hb dzU_watchLamps_16 (by decide) (fun h3 => ?_) (fun h3 => ?_)
      ·
        exact K3 g7 H locs (Eq.mpr (if_pos h3) rfl) hP hD hS
      ·
        refine lv_aload_n (pc := 19) hx hb dzU_watchLamps_19 rfl (lv_at hl 1 rfl) ?_
        refine xk_get (pc := 20) hx hb hts hown hK hP ffzU_37 0 rfl rfl dzU_watchLamps_20 ?_
        refine lv_aload_n (pc := 23) hx hb dzU_watchLamps_23 rfl (lv_at hl 1 rfl) ?_
        refine xk_get (pc := 24) hx hb hts hown hK hP ffzU_41 0 rfl rfl dzU_watchLamps_24 ?_
        refine lv_bipush (v := 7) (pc := 27) hx hb dzU_watchLamps_27 (by decide) ?_
        refine lv_iload_n (pc := 29) hx hb dzU_watchLamps_29 rfl (lv_at hl 0 rfl) ?_
        refine xk_callVV (As := [.int (g7 0 5), .int 7, .int 2]) (rest := []) (H0 := s.heap) (pc := 30) hx hb hml hts hown hK hA hP hD hS (kzJ_add l G ac (ad 5) (ad 6) (ad 7) (ad 8) (g7 5 3) (g7 6) (g7 7) (g7 8) (g7 0 5) 7 2) vfzU_170 [5, 6, 7, 8] (by decide) rfl (fun _ => rfl) 5 rfl rfl ⟨rfl, rfl⟩ ⟨Nat.le_of_ble_eq_true rfl, Nat.le_of_ble_eq_true rfl⟩ rfl hl.1 rfl (Nat.le_of_ble_eq_true rfl) ⟨Nat.zero_le _, Nat.zero_le _⟩ dzU_watchLamps_30 (fun u9 H locs e9 hP hD hS => ?_)
        obtain ⟨g8, eg8⟩ : ∃ z : xk_St, z = va_up (va_up (va_up (va_up g7 5 (upd (g7 5) 3 (qzJ_add_a3 (g7 5 3)))) 6 (qzJ_add_b (g7 5 3) (g7 6) (g7 0 5))) 7 (qzJ_add_c (g7 5 3) (g7 7) 7)) 8 (qzJ_add_d (g7 5 3) (g7 8) 2) := ⟨_, rfl⟩
        have hP : va_P G xk_cls (xk_wU ad ac g8) H := by rw [eg8]; exact hP
        have hD : va_D A (xk_wU ad ac g8) := by rw [eg8]; exact hD
        exact K3 g8 H locs (Eq.mpr (if_neg h3) ⟨g8, eg8, rfl⟩) hP hD hS
    refine lv_if_eq (pc := 16) (tgt := 33) hx hb dzU_watchLamps_16 (by decide) (fun h2 => ?_) (fun h2 => ?_)
    ·
      exact K2 g4 H locs (Eq.mpr (if_pos h2) rfl) hP hD hS
    ·
      refine lv_aload_n (pc := 19) hx hb dzU_watchLamps_19 rfl (lv_at hl 1 rfl) ?_
      refine xk_get (pc := 20) hx hb hts hown hK hP ffzU_37 0 rfl rfl dzU_watchLamps_20 ?_
      refine lv_aload_n (pc := 23) hx hb dzU_watchLamps_23 rfl (lv_at hl 1 rfl) ?_
      refine xk_get (pc := 24) hx hb hts hown hK hP ffzU_41 0 rfl rfl dzU_watchLamps_24 ?_
      refine lv_bipush (v := 7) (pc := 27) hx hb dzU_watchLamps_27 (by decide) ?_
      refine lv_iload_n (pc := 29) hx hb dzU_watchLamps_29 rfl (lv_at hl 0 rfl) ?_
      refine xk_callVV (As := [.int (g4 0 5), .int 7, .int 1]) (rest := []) (H0 := s.heap) (pc := 30) hx hb hml hts hown hK hA hP hD hS (kzJ_add l G ac (ad 5) (ad 6) (ad 7) (ad 8) (g4 5 3) (g4 6) (g4 7) (g4 8) (g4 0 5) 7 1) vfzU_170 [5, 6, 7, 8] (by decide) rfl (fun _ => rfl) 5 rfl rfl ⟨rfl, rfl⟩ ⟨Nat.le_of_ble_eq_true rfl, Nat.le_of_ble_eq_true rfl⟩ rfl hl.1 rfl (Nat.le_of_ble_eq_true rfl) ⟨Nat.zero_le _, Nat.zero_le _⟩ dzU_watchLamps_30 (fun u9 H locs e9 hP hD hS => ?_)
      obtain ⟨g5, eg5⟩ : ∃ z : xk_St, z = va_up (va_up (va_up (va_up g4 5 (upd (g4 5) 3 (qzJ_add_a3 (g4 5 3)))) 6 (qzJ_add_b (g4 5 3) (g4 6) (g4 0 5))) 7 (qzJ_add_c (g4 5 3) (g4 7) 7)) 8 (qzJ_add_d (g4 5 3) (g4 8) 1) := ⟨_, rfl⟩
      have hP : va_P G xk_cls (xk_wU ad ac g5) H := by rw [eg5]; exact hP
      have hD : va_D A (xk_wU ad ac g5) := by rw [eg5]; exact hD
      exact K2 g5 H locs (Eq.mpr (if_neg h2) ⟨g5, eg5, rfl⟩) hP hD hS
  refine lv_if_eq (pc := 16) (tgt := 33) hx hb dzU_watchLamps_16 (by decide) (fun h1 => ?_) (fun h1 => ?_)
  ·
    exact K1 g1 H locs (Eq.mpr (if_pos h1) rfl) hP hD hS
  ·
    refine lv_aload_n (pc := 19) hx hb dzU_watchLamps_19 rfl (lv_at hl 1 rfl) ?_
    refine xk_get (pc := 20) hx hb hts hown hK hP ffzU_37 0 rfl rfl dzU_watchLamps_20 ?_
    refine lv_aload_n (pc := 23) hx hb dzU_watchLamps_23 rfl (lv_at hl 1 rfl) ?_
    refine xk_get (pc := 24) hx hb hts hown hK hP ffzU_41 0 rfl rfl dzU_watchLamps_24 ?_
    refine lv_bipush (v := 7) (pc := 27) hx hb dzU_watchLamps_27 (by decide) ?_
    refine lv_iload_n (pc := 29) hx hb dzU_watchLamps_29 rfl (lv_at hl 0 rfl) ?_
    refine xk_callVV (As := [.int (g1 0 5), .int 7, .int 0]) (rest := []) (H0 := s.heap) (pc := 30) hx hb hml hts hown hK hA hP hD hS (kzJ_add l G ac (ad 5) (ad 6) (ad 7) (ad 8) (g1 5 3) (g1 6) (g1 7) (g1 8) (g1 0 5) 7 0) vfzU_170 [5, 6, 7, 8] (by decide) rfl (fun _ => rfl) 5 rfl rfl ⟨rfl, rfl⟩ ⟨Nat.le_of_ble_eq_true rfl, Nat.le_of_ble_eq_true rfl⟩ rfl hl.1 rfl (Nat.le_of_ble_eq_true rfl) ⟨Nat.zero_le _, Nat.zero_le _⟩ dzU_watchLamps_30 (fun u9 H locs e9 hP hD hS => ?_)
    obtain ⟨g2, eg2⟩ : ∃ z : xk_St, z = va_up (va_up (va_up (va_up g1 5 (upd (g1 5) 3 (qzJ_add_a3 (g1 5 3)))) 6 (qzJ_add_b (g1 5 3) (g1 6) (g1 0 5))) 7 (qzJ_add_c (g1 5 3) (g1 7) 7)) 8 (qzJ_add_d (g1 5 3) (g1 8) 0) := ⟨_, rfl⟩
    have hP : va_P G xk_cls (xk_wU ad ac g2) H := by rw [eg2]; exact hP
    have hD : va_D A (xk_wU ad ac g2) := by rw [eg2]; exact hD
    exact K1 g2 H locs (Eq.mpr (if_neg h1) ⟨g2, eg2, rfl⟩) hP hD hS
theorem frzU_watchLamps (g0 : xk_St) (gz : xk_St) : relzU_watchLamps g0 gz → xk_eqv [0, 1, 2, 3, 4, 9, 10, 11, 12, 13, 14, 15, 16, 17, 18, 19, 20, 21, 22, 23, 24, 25, 26, 27, 28, 29, 30] g0 gz := by
  intro h
  unfold relzU_watchLamps at h
  have s0 : xk_eqv [0, 1, 2, 3, 4, 9, 10, 11, 12, 13, 14, 15, 16, 17, 18, 19, 20, 21, 22, 23, 24, 25, 26, 27, 28, 29, 30] g0 g0 := xk_eqv_rf
  obtain ⟨g1, u1, v2⟩ := h
  have s3 : xk_eqv [0, 1, 2, 3, 4, 9, 10, 11, 12, 13, 14, 15, 16, 17, 18, 19, 20, 21, 22, 23, 24, 25, 26, 27, 28, 29, 30] g0 g1 := by rw [u1]; repeat (first | exact s0 | refine xk_eqv_up (by decide) ?_)
  obtain ⟨g3, u4, v5⟩ := v2
  have s6 : xk_eqv [0, 1, 2, 3, 4, 9, 10, 11, 12, 13, 14, 15, 16, 17, 18, 19, 20, 21, 22, 23, 24, 25, 26, 27, 28, 29, 30] g0 g3 := by
    by_cases hc : (qzP_dies (g0 31 0) (g0 31 1) (g0 31 3)) = 0
    · rw [if_pos hc] at u4
      rw [u4]; exact s3
    · rw [if_neg hc] at u4
      obtain ⟨g2, u7, v8⟩ := u4
      have s9 : xk_eqv [0, 1, 2, 3, 4, 9, 10, 11, 12, 13, 14, 15, 16, 17, 18, 19, 20, 21, 22, 23, 24, 25, 26, 27, 28, 29, 30] g0 g2 := by rw [u7]; repeat (first | exact s3 | refine xk_eqv_up (by decide) ?_)
      rw [v8]; exact s9
  obtain ⟨g4, u10, v11⟩ := v5
  have s12 : xk_eqv [0, 1, 2, 3, 4, 9, 10, 11, 12, 13, 14, 15, 16, 17, 18, 19, 20, 21, 22, 23, 24, 25, 26, 27, 28, 29, 30] g0 g4 := by rw [u10]; repeat (first | exact s6 | refine xk_eqv_up (by decide) ?_)
  obtain ⟨g6, u13, v14⟩ := v11
  have s15 : xk_eqv [0, 1, 2, 3, 4, 9, 10, 11, 12, 13, 14, 15, 16, 17, 18, 19, 20, 21, 22, 23, 24, 25, 26, 27, 28, 29, 30] g0 g6 := by
    by_cases hc : (qzP_dies (g3 32 0) (g3 32 1) (g3 32 3)) = 0
    · rw [if_pos hc] at u13
      rw [u13]; exact s12
    · rw [if_neg hc] at u13
      obtain ⟨g5, u16, v17⟩ := u13
      have s18 : xk_eqv [0, 1, 2, 3, 4, 9, 10, 11, 12, 13, 14, 15, 16, 17, 18, 19, 20, 21, 22, 23, 24, 25, 26, 27, 28, 29, 30] g0 g5 := by rw [u16]; repeat (first | exact s12 | refine xk_eqv_up (by decide) ?_)
      rw [v17]; exact s18
  obtain ⟨g7, u19, v20⟩ := v14
  have s21 : xk_eqv [0, 1, 2, 3, 4, 9, 10, 11, 12, 13, 14, 15, 16, 17, 18, 19, 20, 21, 22, 23, 24, 25, 26, 27, 28, 29, 30] g0 g7 := by rw [u19]; repeat (first | exact s15 | refine xk_eqv_up (by decide) ?_)
  obtain ⟨g9, u22, v23⟩ := v20
  have s24 : xk_eqv [0, 1, 2, 3, 4, 9, 10, 11, 12, 13, 14, 15, 16, 17, 18, 19, 20, 21, 22, 23, 24, 25, 26, 27, 28, 29, 30] g0 g9 := by
    by_cases hc : (qzP_dies (g6 33 0) (g6 33 1) (g6 33 3)) = 0
    · rw [if_pos hc] at u22
      rw [u22]; exact s21
    · rw [if_neg hc] at u22
      obtain ⟨g8, u25, v26⟩ := u22
      have s27 : xk_eqv [0, 1, 2, 3, 4, 9, 10, 11, 12, 13, 14, 15, 16, 17, 18, 19, 20, 21, 22, 23, 24, 25, 26, 27, 28, 29, 30] g0 g8 := by rw [u25]; repeat (first | exact s21 | refine xk_eqv_up (by decide) ?_)
      rw [v26]; exact s27
  rw [v23]; exact s24

def relzU_watchBarriers (g0 : xk_St) (gz : xk_St) : Prop := ∃ (g1 : xk_St), g1 = va_up g0 29 (upd (upd (upd (upd (g0 29) 1 (qzB_startsAlarm_a1 (g0 29 0))) 3 (qzB_startsAlarm_a3 (g0 29 0) (g0 29 3))) 4 (qzB_startsAlarm_a4 (g0 29 0) (g0 29 1) (g0 29 2) (g0 29 4))) 5 (qzB_startsAlarm_a5 (g0 29 0) (g0 29 1) (g0 29 2) (g0 29 4) (g0 29 5))) ∧ (∃ (g3 : xk_St), (if (qzB_startsAlarm (g0 29 0) (g0 29 1) (g0 29 2) (g0 29 4)) = 0 then (g3 = g1) else (∃ (g2 : xk_St), g2 = va_up (va_up (va_up (va_up g1 5 (upd (g1 5) 3 (qzJ_add_a3 (g1 5 3)))) 6 (qzJ_add_b (g1 5 3) (g1 6) (g1 0 5))) 7 (qzJ_add_c (g1 5 3) (g1 7) 6)) 8 (qzJ_add_d (g1 5 3) (g1 8) 0) ∧ (g3 = g2))) ∧ (∃ (g4 : xk_St), g4 = va_up g3 30 (upd (upd (upd (upd (g3 30) 1 (qzB_startsAlarm_a1 (g3 30 0))) 3 (qzB_startsAlarm_a3 (g3 30 0) (g3 30 3))) 4 (qzB_startsAlarm_a4 (g3 30 0) (g3 30 1) (g3 30 2) (g3 30 4))) 5 (qzB_startsAlarm_a5 (g3 30 0) (g3 30 1) (g3 30 2) (g3 30 4) (g3 30 5))) ∧ (∃ (g6 : xk_St), (if (qzB_startsAlarm (g3 30 0) (g3 30 1) (g3 30 2) (g3 30 4)) = 0 then (g6 = g4) else (∃ (g5 : xk_St), g5 = va_up (va_up (va_up (va_up g4 5 (upd (g4 5) 3 (qzJ_add_a3 (g4 5 3)))) 6 (qzJ_add_b (g4 5 3) (g4 6) (g4 0 5))) 7 (qzJ_add_c (g4 5 3) (g4 7) 6)) 8 (qzJ_add_d (g4 5 3) (g4 8) 1) ∧ (g6 = g5))) ∧ (∃ (x1 : Int32), (if (g6 29 3) < 5 then (x1 = 0) else (if (g6 30 3) < 5 then (x1 = 0) else (x1 = 1))) ∧ (∃ (g7 : xk_St), g7 = va_up g6 0 (upd (g6 0) 9 x1) ∧ (gz = g7))))))
set_option maxHeartbeats 4000000 in
set_option maxRecDepth 100000 in
theorem kzU_watchBarriers (l : Launch) (G : va_G) (ac : Nat → ClassId) (ad : Nat → Nat) (g0 : xk_St) : xk_CV l yzU_watchBarriers czU_watchBarriers 2 xk_WS xk_r1 G xk_cls (xk_tys ac) [.ref (ad 0)] (xk_wU ad ac g0) (fun (gz : xk_St) => relzU_watchBarriers g0 gz) (fun gz => xk_wU ad ac gz) := by
  refine xk_ofV (by decide) (Nat.le_of_ble_eq_true rfl) ?_
  intro p e s m args below meth c A Q H locs ls C0 hret hP hD hS hl
  obtain ⟨hx, hb, hml, hts, hown, hK, hA⟩ := C0
  have hl : lv_has ls 2 [(0, .ref (ad 0))] := hl
  refine lv_iconst (v := 0) (pc := 0) hx hb dzU_watchBarriers_0 (by decide) ?_
  refine lv_istore_n (lv' := [(1, .int 0), (0, .ref (ad 0))]) (pc := 1) hx hb dzU_watchBarriers_1 rfl hl (by decide) rfl (fun ls hl => ?_)
  refine lv_iload_n (pc := 2) hx hb dzU_watchBarriers_2 rfl (lv_at hl 0 rfl) ?_
  refine lv_iconst (v := 2) (pc := 3) hx hb dzU_watchBarriers_3 (by decide) ?_
  refine lv_icmp_ge (pc := 4) (tgt := 39) hx hb dzU_watchBarriers_4 (by decide) (fun hq9 => absurd hq9 (by decide)) (fun _ => ?_)
  refine lv_aload_n (pc := 7) hx hb dzU_watchBarriers_7 rfl (lv_at hl 1 rfl) ?_
  refine xk_get (pc := 8) hx hb hts hown hK hP ffzU_17 0 rfl rfl dzU_watchBarriers_8 ?_
  refine lv_iload_n (pc := 11) hx hb dzU_watchBarriers_11 rfl (lv_at hl 0 rfl) ?_
  refine xk_aald (q0 := 2) (t0 := 5) (j := 0) (b := (ad 29)) (pc := 12) hx hb hK hP rfl rfl (pk_in 0 2 (by decide)) (pk_cl 0) rfl dzU_watchBarriers_12 ?_
  refine xk_callVI (As := []) (rest := []) (H0 := s.heap) (pc := 13) hx hb hml hts hown hK hA hP hD hS (kzB_startsAlarm l G ac (ad 29) (g0 29 0) (g0 29 1) (g0 29 2) (g0 29 3) (g0 29 4) (g0 29 5)) vfzU_310 [29] (by decide) rfl (fun _ => rfl) 29 rfl rfl ⟨rfl, rfl⟩ ⟨Nat.le_of_ble_eq_true rfl, Nat.le_of_ble_eq_true rfl⟩ rfl hl.1 rfl (Nat.le_of_ble_eq_true rfl) ⟨Nat.zero_le _, Nat.zero_le _⟩ dzU_watchBarriers_13 (fun r1 u9 H locs e9 hP hD hS => ?_)
  obtain rfl : r1 = qzB_startsAlarm (g0 29 0) (g0 29 1) (g0 29 2) (g0 29 4) := e9
  obtain ⟨g1, eg1⟩ : ∃ z : xk_St, z = va_up g0 29 (upd (upd (upd (upd (g0 29) 1 (qzB_startsAlarm_a1 (g0 29 0))) 3 (qzB_startsAlarm_a3 (g0 29 0) (g0 29 3))) 4 (qzB_startsAlarm_a4 (g0 29 0) (g0 29 1) (g0 29 2) (g0 29 4))) 5 (qzB_startsAlarm_a5 (g0 29 0) (g0 29 1) (g0 29 2) (g0 29 4) (g0 29 5))) := ⟨_, rfl⟩
  have hP : va_P G xk_cls (xk_wU ad ac g1) H := by rw [eg1]; exact hP
  have hD : va_D A (xk_wU ad ac g1) := by rw [eg1]; exact hD
  have K1 : ∀ (g3 : xk_St) (H : Heap) (locs : List Loc), (if (qzB_startsAlarm (g0 29 0) (g0 29 1) (g0 29 2) (g0 29 4)) = 0 then (g3 = g1) else (∃ (g2 : xk_St), g2 = va_up (va_up (va_up (va_up g1 5 (upd (g1 5) 3 (qzJ_add_a3 (g1 5 3)))) 6 (qzJ_add_b (g1 5 3) (g1 6) (g1 0 5))) 7 (qzJ_add_c (g1 5 3) (g1 7) 6)) 8 (qzJ_add_d (g1 5 3) (g1 8) 0) ∧ (g3 = g2))) → (va_P G xk_cls (xk_wU ad ac g3) H) → (va_D A (xk_wU ad ac g3)) → (va_S A s.heap H locs) → W p l e xk_r1 s m args below meth c H locs 0 0 Q (F0 m 33 ls []) := by
    intro g3 H locs R1 hP hD hS
    refine lv_iinc (k := 0) (x := 0) (v := 1) (lv' := [(1, .int 1), (0, .ref (ad 0))]) (pc := 33) hx hb dzU_watchBarriers_33 hl rfl (by decide) (by decide) rfl (fun ls hl => ?_)
    refine lv_goto (tgt := 2) (pc := 36) hx hb dzU_watchBarriers_36 (by decide) ?_
    refine lv_iload_n (pc := 2) hx hb dzU_watchBarriers_2 rfl (lv_at hl 0 rfl) ?_
    refine lv_iconst (v := 2) (pc := 3) hx hb dzU_watchBarriers_3 (by decide) ?_
    refine lv_icmp_ge (pc := 4) (tgt := 39) hx hb dzU_watchBarriers_4 (by decide) (fun hq9 => absurd hq9 (by decide)) (fun _ => ?_)
    refine lv_aload_n (pc := 7) hx hb dzU_watchBarriers_7 rfl (lv_at hl 1 rfl) ?_
    refine xk_get (pc := 8) hx hb hts hown hK hP ffzU_17 0 rfl rfl dzU_watchBarriers_8 ?_
    refine lv_iload_n (pc := 11) hx hb dzU_watchBarriers_11 rfl (lv_at hl 0 rfl) ?_
    refine xk_aald (q0 := 2) (t0 := 5) (j := 1) (b := (ad 30)) (pc := 12) hx hb hK hP rfl rfl (pk_in 1 2 (by decide)) (pk_cl 1) rfl dzU_watchBarriers_12 ?_
    refine xk_callVI (As := []) (rest := []) (H0 := s.heap) (pc := 13) hx hb hml hts hown hK hA hP hD hS (kzB_startsAlarm l G ac (ad 30) (g3 30 0) (g3 30 1) (g3 30 2) (g3 30 3) (g3 30 4) (g3 30 5)) vfzU_310 [30] (by decide) rfl (fun _ => rfl) 30 rfl rfl ⟨rfl, rfl⟩ ⟨Nat.le_of_ble_eq_true rfl, Nat.le_of_ble_eq_true rfl⟩ rfl hl.1 rfl (Nat.le_of_ble_eq_true rfl) ⟨Nat.zero_le _, Nat.zero_le _⟩ dzU_watchBarriers_13 (fun r2 u9 H locs e9 hP hD hS => ?_)
    obtain rfl : r2 = qzB_startsAlarm (g3 30 0) (g3 30 1) (g3 30 2) (g3 30 4) := e9
    obtain ⟨g4, eg4⟩ : ∃ z : xk_St, z = va_up g3 30 (upd (upd (upd (upd (g3 30) 1 (qzB_startsAlarm_a1 (g3 30 0))) 3 (qzB_startsAlarm_a3 (g3 30 0) (g3 30 3))) 4 (qzB_startsAlarm_a4 (g3 30 0) (g3 30 1) (g3 30 2) (g3 30 4))) 5 (qzB_startsAlarm_a5 (g3 30 0) (g3 30 1) (g3 30 2) (g3 30 4) (g3 30 5))) := ⟨_, rfl⟩
    have hP : va_P G xk_cls (xk_wU ad ac g4) H := by rw [eg4]; exact hP
    have hD : va_D A (xk_wU ad ac g4) := by rw [eg4]; exact hD
    have K2 : ∀ (g6 : xk_St) (H : Heap) (locs : List Loc), (if (qzB_startsAlarm (g3 30 0) (g3 30 1) (g3 30 2) (g3 30 4)) = 0 then (g6 = g4) else (∃ (g5 : xk_St), g5 = va_up (va_up (va_up (va_up g4 5 (upd (g4 5) 3 (qzJ_add_a3 (g4 5 3)))) 6 (qzJ_add_b (g4 5 3) (g4 6) (g4 0 5))) 7 (qzJ_add_c (g4 5 3) (g4 7) 6)) 8 (qzJ_add_d (g4 5 3) (g4 8) 1) ∧ (g6 = g5))) → (va_P G xk_cls (xk_wU ad ac g6) H) → (va_D A (xk_wU ad ac g6)) → (va_S A s.heap H locs) → W p l e xk_r1 s m args below meth c H locs 0 0 Q (F0 m 33 ls []) := by
      intro g6 H locs R2 hP hD hS
      refine lv_iinc (k := 0) (x := 1) (v := 2) (lv' := [(1, .int 2), (0, .ref (ad 0))]) (pc := 33) hx hb dzU_watchBarriers_33 hl rfl (by decide) (by decide) rfl (fun ls hl => ?_)
      refine lv_goto (tgt := 2) (pc := 36) hx hb dzU_watchBarriers_36 (by decide) ?_
      refine lv_iload_n (pc := 2) hx hb dzU_watchBarriers_2 rfl (lv_at hl 0 rfl) ?_
      refine lv_iconst (v := 2) (pc := 3) hx hb dzU_watchBarriers_3 (by decide) ?_
      refine lv_icmp_ge (pc := 4) (tgt := 39) hx hb dzU_watchBarriers_4 (by decide) (fun _ => ?_) (fun hq9 => absurd (by decide) hq9)
      refine lv_aload_n (pc := 39) hx hb dzU_watchBarriers_39 rfl (lv_at hl 1 rfl) ?_
      refine lv_aload_n (pc := 40) hx hb dzU_watchBarriers_40 rfl (lv_at hl 1 rfl) ?_
      refine xk_get (pc := 41) hx hb hts hown hK hP ffzU_17 0 rfl rfl dzU_watchBarriers_41 ?_
      refine lv_iconst (v := 0) (pc := 44) hx hb dzU_watchBarriers_44 (by decide) ?_
      refine xk_aald (q0 := 2) (t0 := 5) (j := 0) (b := (ad 29)) (pc := 45) hx hb hK hP rfl rfl (pk_in 0 2 (by decide)) (pk_cl 0) rfl dzU_watchBarriers_45 ?_
      refine xk_get (pc := 46) hx hb hts hown hK hP ffzU_313 29 rfl rfl dzU_watchBarriers_46 ?_
      refine lv_iconst (v := 5) (pc := 49) hx hb dzU_watchBarriers_49 (by decide) ?_
      have K3 : ∀ (x1 : Int32), (if (g6 29 3) < 5 then (x1 = 0) else (if (g6 30 3) < 5 then (x1 = 0) else (x1 = 1))) → (xk_b x1) → W p l e xk_r1 s m args below meth c H locs 0 0 Q (F0 m 71 ls [.int x1, .ref (ad 0)]) := by
        intro x1 R3 bx1
        refine xk_putf (pc := 71) hx hb hts hown hK hP hD hS pfzU_55 0 rfl (xk_bn bx1) (xk_bf bx1) (Nat.le_of_ble_eq_true rfl) dzU_watchBarriers_71 (fun H locs hP hD hS => ?_)
        obtain ⟨g7, eg7⟩ : ∃ z : xk_St, z = va_up g6 0 (upd (g6 0) 9 x1) := ⟨_, rfl⟩
        have hP : va_P G xk_cls (xk_wU ad ac g7) H := by rw [eg7]; exact hP
        have hD : va_D A (xk_wU ad ac g7) := by rw [eg7]; exact hD
        exact hret g7 H locs 74 ls hP hS (by unfold relzU_watchBarriers; exact ⟨g1, eg1, ⟨g3, R1, ⟨g4, eg4, ⟨g6, R2, ⟨x1, R3, ⟨g7, eg7, rfl⟩⟩⟩⟩⟩⟩) dzU_watchBarriers_74
      refine lv_icmp_lt (pc := 50) (tgt := 70) hx hb dzU_watchBarriers_50 (by decide) (fun h3 => ?_) (fun h3 => ?_)
      ·
        refine lv_iconst (v := 0) (pc := 70) hx hb dzU_watchBarriers_70 (by decide) ?_
        exact K3 0 (Eq.mpr (if_pos h3) rfl) xk_b0
      ·
        refine lv_aload_n (pc := 53) hx hb dzU_watchBarriers_53 rfl (lv_at hl 1 rfl) ?_
        refine xk_get (pc := 54) hx hb hts hown hK hP ffzU_17 0 rfl rfl dzU_watchBarriers_54 ?_
        refine lv_iconst (v := 1) (pc := 57) hx hb dzU_watchBarriers_57 (by decide) ?_
        refine xk_aald (q0 := 2) (t0 := 5) (j := 1) (b := (ad 30)) (pc := 58) hx hb hK hP rfl rfl (pk_in 1 2 (by decide)) (pk_cl 1) rfl dzU_watchBarriers_58 ?_
        refine xk_get (pc := 59) hx hb hts hown hK hP ffzU_313 30 rfl rfl dzU_watchBarriers_59 ?_
        refine lv_iconst (v := 5) (pc := 62) hx hb dzU_watchBarriers_62 (by decide) ?_
        refine lv_icmp_lt (pc := 63) (tgt := 70) hx hb dzU_watchBarriers_63 (by decide) (fun h4 => ?_) (fun h4 => ?_)
        ·
          refine lv_iconst (v := 0) (pc := 70) hx hb dzU_watchBarriers_70 (by decide) ?_
          exact K3 0 (Eq.mpr (if_neg h3) (Eq.mpr (if_pos h4) rfl)) xk_b0
        ·
          refine lv_iconst (v := 1) (pc := 66) hx hb dzU_watchBarriers_66 (by decide) ?_
          refine lv_goto (tgt := 71) (pc := 67) hx hb dzU_watchBarriers_67 (by decide) ?_
          exact K3 1 (Eq.mpr (if_neg h3) (Eq.mpr (if_neg h4) rfl)) xk_b1
    refine lv_if_eq (pc := 16) (tgt := 33) hx hb dzU_watchBarriers_16 (by decide) (fun h2 => ?_) (fun h2 => ?_)
    ·
      exact K2 g4 H locs (Eq.mpr (if_pos h2) rfl) hP hD hS
    ·
      refine lv_aload_n (pc := 19) hx hb dzU_watchBarriers_19 rfl (lv_at hl 1 rfl) ?_
      refine xk_get (pc := 20) hx hb hts hown hK hP ffzU_37 0 rfl rfl dzU_watchBarriers_20 ?_
      refine lv_aload_n (pc := 23) hx hb dzU_watchBarriers_23 rfl (lv_at hl 1 rfl) ?_
      refine xk_get (pc := 24) hx hb hts hown hK hP ffzU_41 0 rfl rfl dzU_watchBarriers_24 ?_
      refine lv_bipush (v := 6) (pc := 27) hx hb dzU_watchBarriers_27 (by decide) ?_
      refine lv_iload_n (pc := 29) hx hb dzU_watchBarriers_29 rfl (lv_at hl 0 rfl) ?_
      refine xk_callVV (As := [.int (g4 0 5), .int 6, .int 1]) (rest := []) (H0 := s.heap) (pc := 30) hx hb hml hts hown hK hA hP hD hS (kzJ_add l G ac (ad 5) (ad 6) (ad 7) (ad 8) (g4 5 3) (g4 6) (g4 7) (g4 8) (g4 0 5) 6 1) vfzU_170 [5, 6, 7, 8] (by decide) rfl (fun _ => rfl) 5 rfl rfl ⟨rfl, rfl⟩ ⟨Nat.le_of_ble_eq_true rfl, Nat.le_of_ble_eq_true rfl⟩ rfl hl.1 rfl (Nat.le_of_ble_eq_true rfl) ⟨Nat.zero_le _, Nat.zero_le _⟩ dzU_watchBarriers_30 (fun u9 H locs e9 hP hD hS => ?_)
      obtain ⟨g5, eg5⟩ : ∃ z : xk_St, z = va_up (va_up (va_up (va_up g4 5 (upd (g4 5) 3 (qzJ_add_a3 (g4 5 3)))) 6 (qzJ_add_b (g4 5 3) (g4 6) (g4 0 5))) 7 (qzJ_add_c (g4 5 3) (g4 7) 6)) 8 (qzJ_add_d (g4 5 3) (g4 8) 1) := ⟨_, rfl⟩
      have hP : va_P G xk_cls (xk_wU ad ac g5) H := by rw [eg5]; exact hP
      have hD : va_D A (xk_wU ad ac g5) := by rw [eg5]; exact hD
      exact K2 g5 H locs (Eq.mpr (if_neg h2) ⟨g5, eg5, rfl⟩) hP hD hS
  refine lv_if_eq (pc := 16) (tgt := 33) hx hb dzU_watchBarriers_16 (by decide) (fun h1 => ?_) (fun h1 => ?_)
  ·
    exact K1 g1 H locs (Eq.mpr (if_pos h1) rfl) hP hD hS
  ·
    refine lv_aload_n (pc := 19) hx hb dzU_watchBarriers_19 rfl (lv_at hl 1 rfl) ?_
    refine xk_get (pc := 20) hx hb hts hown hK hP ffzU_37 0 rfl rfl dzU_watchBarriers_20 ?_
    refine lv_aload_n (pc := 23) hx hb dzU_watchBarriers_23 rfl (lv_at hl 1 rfl) ?_
    refine xk_get (pc := 24) hx hb hts hown hK hP ffzU_41 0 rfl rfl dzU_watchBarriers_24 ?_
    refine lv_bipush (v := 6) (pc := 27) hx hb dzU_watchBarriers_27 (by decide) ?_
    refine lv_iload_n (pc := 29) hx hb dzU_watchBarriers_29 rfl (lv_at hl 0 rfl) ?_
    refine xk_callVV (As := [.int (g1 0 5), .int 6, .int 0]) (rest := []) (H0 := s.heap) (pc := 30) hx hb hml hts hown hK hA hP hD hS (kzJ_add l G ac (ad 5) (ad 6) (ad 7) (ad 8) (g1 5 3) (g1 6) (g1 7) (g1 8) (g1 0 5) 6 0) vfzU_170 [5, 6, 7, 8] (by decide) rfl (fun _ => rfl) 5 rfl rfl ⟨rfl, rfl⟩ ⟨Nat.le_of_ble_eq_true rfl, Nat.le_of_ble_eq_true rfl⟩ rfl hl.1 rfl (Nat.le_of_ble_eq_true rfl) ⟨Nat.zero_le _, Nat.zero_le _⟩ dzU_watchBarriers_30 (fun u9 H locs e9 hP hD hS => ?_)
    obtain ⟨g2, eg2⟩ : ∃ z : xk_St, z = va_up (va_up (va_up (va_up g1 5 (upd (g1 5) 3 (qzJ_add_a3 (g1 5 3)))) 6 (qzJ_add_b (g1 5 3) (g1 6) (g1 0 5))) 7 (qzJ_add_c (g1 5 3) (g1 7) 6)) 8 (qzJ_add_d (g1 5 3) (g1 8) 0) := ⟨_, rfl⟩
    have hP : va_P G xk_cls (xk_wU ad ac g2) H := by rw [eg2]; exact hP
    have hD : va_D A (xk_wU ad ac g2) := by rw [eg2]; exact hD
    exact K1 g2 H locs (Eq.mpr (if_neg h1) ⟨g2, eg2, rfl⟩) hP hD hS
theorem frzU_watchBarriers (g0 : xk_St) (gz : xk_St) : relzU_watchBarriers g0 gz → xk_eqv [1, 2, 3, 4, 9, 10, 11, 12, 13, 14, 15, 16, 17, 18, 19, 20, 21, 22, 23, 24, 25, 26, 27, 28, 31, 32, 33] g0 gz := by
  intro h
  unfold relzU_watchBarriers at h
  have s0 : xk_eqv [1, 2, 3, 4, 9, 10, 11, 12, 13, 14, 15, 16, 17, 18, 19, 20, 21, 22, 23, 24, 25, 26, 27, 28, 31, 32, 33] g0 g0 := xk_eqv_rf
  obtain ⟨g1, u1, v2⟩ := h
  have s3 : xk_eqv [1, 2, 3, 4, 9, 10, 11, 12, 13, 14, 15, 16, 17, 18, 19, 20, 21, 22, 23, 24, 25, 26, 27, 28, 31, 32, 33] g0 g1 := by rw [u1]; repeat (first | exact s0 | refine xk_eqv_up (by decide) ?_)
  obtain ⟨g3, u4, v5⟩ := v2
  have s6 : xk_eqv [1, 2, 3, 4, 9, 10, 11, 12, 13, 14, 15, 16, 17, 18, 19, 20, 21, 22, 23, 24, 25, 26, 27, 28, 31, 32, 33] g0 g3 := by
    by_cases hc : (qzB_startsAlarm (g0 29 0) (g0 29 1) (g0 29 2) (g0 29 4)) = 0
    · rw [if_pos hc] at u4
      rw [u4]; exact s3
    · rw [if_neg hc] at u4
      obtain ⟨g2, u7, v8⟩ := u4
      have s9 : xk_eqv [1, 2, 3, 4, 9, 10, 11, 12, 13, 14, 15, 16, 17, 18, 19, 20, 21, 22, 23, 24, 25, 26, 27, 28, 31, 32, 33] g0 g2 := by rw [u7]; repeat (first | exact s3 | refine xk_eqv_up (by decide) ?_)
      rw [v8]; exact s9
  obtain ⟨g4, u10, v11⟩ := v5
  have s12 : xk_eqv [1, 2, 3, 4, 9, 10, 11, 12, 13, 14, 15, 16, 17, 18, 19, 20, 21, 22, 23, 24, 25, 26, 27, 28, 31, 32, 33] g0 g4 := by rw [u10]; repeat (first | exact s6 | refine xk_eqv_up (by decide) ?_)
  obtain ⟨g6, u13, v14⟩ := v11
  have s15 : xk_eqv [1, 2, 3, 4, 9, 10, 11, 12, 13, 14, 15, 16, 17, 18, 19, 20, 21, 22, 23, 24, 25, 26, 27, 28, 31, 32, 33] g0 g6 := by
    by_cases hc : (qzB_startsAlarm (g3 30 0) (g3 30 1) (g3 30 2) (g3 30 4)) = 0
    · rw [if_pos hc] at u13
      rw [u13]; exact s12
    · rw [if_neg hc] at u13
      obtain ⟨g5, u16, v17⟩ := u13
      have s18 : xk_eqv [1, 2, 3, 4, 9, 10, 11, 12, 13, 14, 15, 16, 17, 18, 19, 20, 21, 22, 23, 24, 25, 26, 27, 28, 31, 32, 33] g0 g5 := by rw [u16]; repeat (first | exact s12 | refine xk_eqv_up (by decide) ?_)
      rw [v17]; exact s18
  obtain ⟨x1, u19, v20⟩ := v14
  obtain ⟨g7, u21, v22⟩ := v20
  have s23 : xk_eqv [1, 2, 3, 4, 9, 10, 11, 12, 13, 14, 15, 16, 17, 18, 19, 20, 21, 22, 23, 24, 25, 26, 27, 28, 31, 32, 33] g0 g7 := by rw [u21]; repeat (first | exact s15 | refine xk_eqv_up (by decide) ?_)
  rw [v22]; exact s23

def relzU_moveRoad (g0 : xk_St) (gz : xk_St) : Prop := ∃ (g1 : xk_St), g1 = va_up g0 4 (upd (upd (upd (g0 4) 0 (qzR_moves_a0 (g0 4 0) (g0 4 1) (g0 4 2) (qzU_isDemanded g0) (g0 0 9) (qzU_isUp g0))) 1 (qzR_moves_a1 (g0 4 0) (g0 4 1) (g0 4 2) (qzU_isDemanded g0) (g0 0 9) (qzU_isUp g0))) 2 (qzR_moves_a2 (g0 4 0) (g0 4 1) (g0 4 2) (qzU_isDemanded g0) (g0 0 9) (qzU_isUp g0))) ∧ (∃ (g3 : xk_St), (if (qzR_moves (g0 4 0) (g0 4 1) (g0 4 2) (qzU_isDemanded g0) (g0 0 9) (qzU_isUp g0)) = 0 then (g3 = g1) else (∃ (g2 : xk_St), g2 = va_up (va_up (va_up (va_up g1 5 (upd (g1 5) 3 (qzJ_add_a3 (g1 5 3)))) 6 (qzJ_add_b (g1 5 3) (g1 6) (g1 0 5))) 7 (qzJ_add_c (g1 5 3) (g1 7) 3)) 8 (qzJ_add_d (g1 5 3) (g1 8) (g1 4 0)) ∧ (g3 = g2))) ∧ (gz = g3))
set_option maxHeartbeats 4000000 in
set_option maxRecDepth 100000 in
theorem kzU_moveRoad (l : Launch) (G : va_G) (ac : Nat → ClassId) (ad : Nat → Nat) (g0 : xk_St) : xk_CV l yzU_moveRoad czU_moveRoad 1 xk_WS xk_r3 G xk_cls (xk_tys ac) [.ref (ad 0)] (xk_wU ad ac g0) (fun (gz : xk_St) => relzU_moveRoad g0 gz) (fun gz => xk_wU ad ac gz) := by
  refine xk_ofV (by decide) (Nat.le_of_ble_eq_true rfl) ?_
  intro p e s m args below meth c A Q H locs ls C0 hret hP hD hS hl
  obtain ⟨hx, hb, hml, hts, hown, hK, hA⟩ := C0
  have hl : lv_has ls 1 [(0, .ref (ad 0))] := hl
  refine lv_aload_n (pc := 0) hx hb dzU_moveRoad_0 rfl (lv_at hl 0 rfl) ?_
  refine xk_get (pc := 1) hx hb hts hown hK hP ffzU_30 0 rfl rfl dzU_moveRoad_1 ?_
  refine lv_aload_n (pc := 4) hx hb dzU_moveRoad_4 rfl (lv_at hl 0 rfl) ?_
  refine xk_allVI (As := []) (rest := [.ref (ad 4)]) (H0 := s.heap) (pc := 5) hx hb hml hts hown hK hA hP hD hS (kzU_isDemanded l G ac ad g0) vfzU_316 (fun _ => rfl) 0 rfl rfl ⟨rfl, rfl⟩ ⟨Nat.le_of_ble_eq_true rfl, Nat.le_of_ble_eq_true rfl⟩ rfl hl.1 rfl (Nat.le_of_ble_eq_true rfl) ⟨Nat.zero_le _, Nat.zero_le _⟩ dzU_moveRoad_5 (fun r1 u9 H locs e9 hP hD hS => ?_)
  obtain rfl : r1 = qzU_isDemanded g0 := e9
  have hP : va_P G xk_cls (xk_wU ad ac g0) H := hP
  have hD : va_D A (xk_wU ad ac g0) := hD
  refine lv_aload_n (pc := 8) hx hb dzU_moveRoad_8 rfl (lv_at hl 0 rfl) ?_
  refine xk_get (pc := 9) hx hb hts hown hK hP ffzU_55 0 rfl rfl dzU_moveRoad_9 ?_
  refine lv_aload_n (pc := 12) hx hb dzU_moveRoad_12 rfl (lv_at hl 0 rfl) ?_
  refine xk_allVI (As := []) (rest := [.int (g0 0 9), .int (qzU_isDemanded g0), .ref (ad 4)]) (H0 := s.heap) (pc := 13) hx hb hml hts hown hK hA hP hD hS (kzU_isUp l G ac ad g0) vfzU_319 (fun _ => rfl) 0 rfl rfl ⟨rfl, rfl⟩ ⟨Nat.le_of_ble_eq_true rfl, Nat.le_of_ble_eq_true rfl⟩ rfl hl.1 rfl (Nat.le_of_ble_eq_true rfl) ⟨Nat.zero_le _, Nat.zero_le _⟩ dzU_moveRoad_13 (fun r2 u9 H locs e9 hP hD hS => ?_)
  obtain rfl : r2 = qzU_isUp g0 := e9
  have hP : va_P G xk_cls (xk_wU ad ac g0) H := hP
  have hD : va_D A (xk_wU ad ac g0) := hD
  refine xk_callVI (As := [.int (qzU_isDemanded g0), .int (g0 0 9), .int (qzU_isUp g0)]) (rest := []) (H0 := s.heap) (pc := 16) hx hb hml hts hown hK hA hP hD hS (kzR_moves l G ac (ad 4) (g0 4 0) (g0 4 1) (g0 4 2) (qzU_isDemanded g0) (g0 0 9) (qzU_isUp g0)) vfzU_322 [4] (by decide) rfl (fun _ => rfl) 4 rfl rfl ⟨rfl, rfl⟩ ⟨Nat.le_of_ble_eq_true rfl, Nat.le_of_ble_eq_true rfl⟩ rfl hl.1 rfl (Nat.le_of_ble_eq_true rfl) ⟨Nat.zero_le _, Nat.zero_le _⟩ dzU_moveRoad_16 (fun r3 u9 H locs e9 hP hD hS => ?_)
  obtain rfl : r3 = qzR_moves (g0 4 0) (g0 4 1) (g0 4 2) (qzU_isDemanded g0) (g0 0 9) (qzU_isUp g0) := e9
  obtain ⟨g1, eg1⟩ : ∃ z : xk_St, z = va_up g0 4 (upd (upd (upd (g0 4) 0 (qzR_moves_a0 (g0 4 0) (g0 4 1) (g0 4 2) (qzU_isDemanded g0) (g0 0 9) (qzU_isUp g0))) 1 (qzR_moves_a1 (g0 4 0) (g0 4 1) (g0 4 2) (qzU_isDemanded g0) (g0 0 9) (qzU_isUp g0))) 2 (qzR_moves_a2 (g0 4 0) (g0 4 1) (g0 4 2) (qzU_isDemanded g0) (g0 0 9) (qzU_isUp g0))) := ⟨_, rfl⟩
  have hP : va_P G xk_cls (xk_wU ad ac g1) H := by rw [eg1]; exact hP
  have hD : va_D A (xk_wU ad ac g1) := by rw [eg1]; exact hD
  have K1 : ∀ (g3 : xk_St) (H : Heap) (locs : List Loc), (if (qzR_moves (g0 4 0) (g0 4 1) (g0 4 2) (qzU_isDemanded g0) (g0 0 9) (qzU_isUp g0)) = 0 then (g3 = g1) else (∃ (g2 : xk_St), g2 = va_up (va_up (va_up (va_up g1 5 (upd (g1 5) 3 (qzJ_add_a3 (g1 5 3)))) 6 (qzJ_add_b (g1 5 3) (g1 6) (g1 0 5))) 7 (qzJ_add_c (g1 5 3) (g1 7) 3)) 8 (qzJ_add_d (g1 5 3) (g1 8) (g1 4 0)) ∧ (g3 = g2))) → (va_P G xk_cls (xk_wU ad ac g3) H) → (va_D A (xk_wU ad ac g3)) → (va_S A s.heap H locs) → W p l e xk_r3 s m args below meth c H locs 0 0 Q (F0 m 41 ls []) := by
    intro g3 H locs R1 hP hD hS
    exact hret g3 H locs 41 ls hP hS (by unfold relzU_moveRoad; exact ⟨g1, eg1, ⟨g3, R1, rfl⟩⟩) dzU_moveRoad_41
  refine lv_if_eq (pc := 19) (tgt := 41) hx hb dzU_moveRoad_19 (by decide) (fun h1 => ?_) (fun h1 => ?_)
  ·
    exact K1 g1 H locs (Eq.mpr (if_pos h1) rfl) hP hD hS
  ·
    refine lv_aload_n (pc := 22) hx hb dzU_moveRoad_22 rfl (lv_at hl 0 rfl) ?_
    refine xk_get (pc := 23) hx hb hts hown hK hP ffzU_37 0 rfl rfl dzU_moveRoad_23 ?_
    refine lv_aload_n (pc := 26) hx hb dzU_moveRoad_26 rfl (lv_at hl 0 rfl) ?_
    refine xk_get (pc := 27) hx hb hts hown hK hP ffzU_41 0 rfl rfl dzU_moveRoad_27 ?_
    refine lv_iconst (v := 3) (pc := 30) hx hb dzU_moveRoad_30 (by decide) ?_
    refine lv_aload_n (pc := 31) hx hb dzU_moveRoad_31 rfl (lv_at hl 0 rfl) ?_
    refine xk_get (pc := 32) hx hb hts hown hK hP ffzU_30 0 rfl rfl dzU_moveRoad_32 ?_
    refine xk_get (pc := 35) hx hb hts hown hK hP ffzU_227 4 rfl rfl dzU_moveRoad_35 ?_
    refine xk_callVV (As := [.int (g1 0 5), .int 3, .int (g1 4 0)]) (rest := []) (H0 := s.heap) (pc := 38) hx hb hml hts hown hK hA hP hD hS (kzJ_add l G ac (ad 5) (ad 6) (ad 7) (ad 8) (g1 5 3) (g1 6) (g1 7) (g1 8) (g1 0 5) 3 (g1 4 0)) vfzU_170 [5, 6, 7, 8] (by decide) rfl (fun _ => rfl) 5 rfl rfl ⟨rfl, rfl⟩ ⟨Nat.le_of_ble_eq_true rfl, Nat.le_of_ble_eq_true rfl⟩ rfl hl.1 rfl (Nat.le_of_ble_eq_true rfl) ⟨Nat.zero_le _, Nat.zero_le _⟩ dzU_moveRoad_38 (fun u9 H locs e9 hP hD hS => ?_)
    obtain ⟨g2, eg2⟩ : ∃ z : xk_St, z = va_up (va_up (va_up (va_up g1 5 (upd (g1 5) 3 (qzJ_add_a3 (g1 5 3)))) 6 (qzJ_add_b (g1 5 3) (g1 6) (g1 0 5))) 7 (qzJ_add_c (g1 5 3) (g1 7) 3)) 8 (qzJ_add_d (g1 5 3) (g1 8) (g1 4 0)) := ⟨_, rfl⟩
    have hP : va_P G xk_cls (xk_wU ad ac g2) H := by rw [eg2]; exact hP
    have hD : va_D A (xk_wU ad ac g2) := by rw [eg2]; exact hD
    exact K1 g2 H locs (Eq.mpr (if_neg h1) ⟨g2, eg2, rfl⟩) hP hD hS
theorem frzU_moveRoad (g0 : xk_St) (gz : xk_St) : relzU_moveRoad g0 gz → xk_eqv [0, 1, 2, 3, 9, 10, 11, 12, 13, 14, 15, 16, 17, 18, 19, 20, 21, 22, 23, 24, 25, 26, 27, 28, 29, 30, 31, 32, 33] g0 gz := by
  intro h
  unfold relzU_moveRoad at h
  have s0 : xk_eqv [0, 1, 2, 3, 9, 10, 11, 12, 13, 14, 15, 16, 17, 18, 19, 20, 21, 22, 23, 24, 25, 26, 27, 28, 29, 30, 31, 32, 33] g0 g0 := xk_eqv_rf
  obtain ⟨g1, u1, v2⟩ := h
  have s3 : xk_eqv [0, 1, 2, 3, 9, 10, 11, 12, 13, 14, 15, 16, 17, 18, 19, 20, 21, 22, 23, 24, 25, 26, 27, 28, 29, 30, 31, 32, 33] g0 g1 := by rw [u1]; repeat (first | exact s0 | refine xk_eqv_up (by decide) ?_)
  obtain ⟨g3, u4, v5⟩ := v2
  have s6 : xk_eqv [0, 1, 2, 3, 9, 10, 11, 12, 13, 14, 15, 16, 17, 18, 19, 20, 21, 22, 23, 24, 25, 26, 27, 28, 29, 30, 31, 32, 33] g0 g3 := by
    by_cases hc : (qzR_moves (g0 4 0) (g0 4 1) (g0 4 2) (qzU_isDemanded g0) (g0 0 9) (qzU_isUp g0)) = 0
    · rw [if_pos hc] at u4
      rw [u4]; exact s3
    · rw [if_neg hc] at u4
      obtain ⟨g2, u7, v8⟩ := u4
      have s9 : xk_eqv [0, 1, 2, 3, 9, 10, 11, 12, 13, 14, 15, 16, 17, 18, 19, 20, 21, 22, 23, 24, 25, 26, 27, 28, 29, 30, 31, 32, 33] g0 g2 := by rw [u7]; repeat (first | exact s3 | refine xk_eqv_up (by decide) ?_)
      rw [v8]; exact s9
  rw [v5]; exact s6

def relzU_driveMotors (g0 : xk_St) (gz : xk_St) : Prop := ∃ (g1 : xk_St), g1 = va_up g0 29 (upd (g0 29) 2 (qzB_drive_a2 (g0 29 0) (g0 29 5) (g0 4 0))) ∧ (∃ (g2 : xk_St), g2 = va_up g1 30 (upd (g1 30) 2 (qzB_drive_a2 (g1 30 0) (g1 30 5) (g1 4 0))) ∧ (gz = g2))
set_option maxHeartbeats 4000000 in
set_option maxRecDepth 100000 in
theorem kzU_driveMotors (l : Launch) (G : va_G) (ac : Nat → ClassId) (ad : Nat → Nat) (g0 : xk_St) : xk_CV l yzU_driveMotors czU_driveMotors 2 xk_WS xk_r1 G xk_cls (xk_tys ac) [.ref (ad 0)] (xk_wU ad ac g0) (fun (gz : xk_St) => relzU_driveMotors g0 gz) (fun gz => xk_wU ad ac gz) := by
  refine xk_ofV (by decide) (Nat.le_of_ble_eq_true rfl) ?_
  intro p e s m args below meth c A Q H locs ls C0 hret hP hD hS hl
  obtain ⟨hx, hb, hml, hts, hown, hK, hA⟩ := C0
  have hl : lv_has ls 2 [(0, .ref (ad 0))] := hl
  refine lv_iconst (v := 0) (pc := 0) hx hb dzU_driveMotors_0 (by decide) ?_
  refine lv_istore_n (lv' := [(1, .int 0), (0, .ref (ad 0))]) (pc := 1) hx hb dzU_driveMotors_1 rfl hl (by decide) rfl (fun ls hl => ?_)
  refine lv_iload_n (pc := 2) hx hb dzU_driveMotors_2 rfl (lv_at hl 0 rfl) ?_
  refine lv_iconst (v := 2) (pc := 3) hx hb dzU_driveMotors_3 (by decide) ?_
  refine lv_icmp_ge (pc := 4) (tgt := 29) hx hb dzU_driveMotors_4 (by decide) (fun hq9 => absurd hq9 (by decide)) (fun _ => ?_)
  refine lv_aload_n (pc := 7) hx hb dzU_driveMotors_7 rfl (lv_at hl 1 rfl) ?_
  refine xk_get (pc := 8) hx hb hts hown hK hP ffzU_17 0 rfl rfl dzU_driveMotors_8 ?_
  refine lv_iload_n (pc := 11) hx hb dzU_driveMotors_11 rfl (lv_at hl 0 rfl) ?_
  refine xk_aald (q0 := 2) (t0 := 5) (j := 0) (b := (ad 29)) (pc := 12) hx hb hK hP rfl rfl (pk_in 0 2 (by decide)) (pk_cl 0) rfl dzU_driveMotors_12 ?_
  refine lv_aload_n (pc := 13) hx hb dzU_driveMotors_13 rfl (lv_at hl 1 rfl) ?_
  refine xk_get (pc := 14) hx hb hts hown hK hP ffzU_30 0 rfl rfl dzU_driveMotors_14 ?_
  refine xk_get (pc := 17) hx hb hts hown hK hP ffzU_227 4 rfl rfl dzU_driveMotors_17 ?_
  refine xk_callVV (As := [.int (g0 4 0)]) (rest := []) (H0 := s.heap) (pc := 20) hx hb hml hts hown hK hA hP hD hS (kzB_drive l G ac (ad 29) (g0 29 0) (g0 29 1) (g0 29 2) (g0 29 3) (g0 29 4) (g0 29 5) (g0 4 0)) vfzU_332 [29] (by decide) rfl (fun _ => rfl) 29 rfl rfl ⟨rfl, rfl⟩ ⟨Nat.le_of_ble_eq_true rfl, Nat.le_of_ble_eq_true rfl⟩ rfl hl.1 rfl (Nat.le_of_ble_eq_true rfl) ⟨Nat.zero_le _, Nat.zero_le _⟩ dzU_driveMotors_20 (fun u9 H locs e9 hP hD hS => ?_)
  obtain ⟨g1, eg1⟩ : ∃ z : xk_St, z = va_up g0 29 (upd (g0 29) 2 (qzB_drive_a2 (g0 29 0) (g0 29 5) (g0 4 0))) := ⟨_, rfl⟩
  have hP : va_P G xk_cls (xk_wU ad ac g1) H := by rw [eg1]; exact hP
  have hD : va_D A (xk_wU ad ac g1) := by rw [eg1]; exact hD
  refine lv_iinc (k := 0) (x := 0) (v := 1) (lv' := [(1, .int 1), (0, .ref (ad 0))]) (pc := 23) hx hb dzU_driveMotors_23 hl rfl (by decide) (by decide) rfl (fun ls hl => ?_)
  refine lv_goto (tgt := 2) (pc := 26) hx hb dzU_driveMotors_26 (by decide) ?_
  refine lv_iload_n (pc := 2) hx hb dzU_driveMotors_2 rfl (lv_at hl 0 rfl) ?_
  refine lv_iconst (v := 2) (pc := 3) hx hb dzU_driveMotors_3 (by decide) ?_
  refine lv_icmp_ge (pc := 4) (tgt := 29) hx hb dzU_driveMotors_4 (by decide) (fun hq9 => absurd hq9 (by decide)) (fun _ => ?_)
  refine lv_aload_n (pc := 7) hx hb dzU_driveMotors_7 rfl (lv_at hl 1 rfl) ?_
  refine xk_get (pc := 8) hx hb hts hown hK hP ffzU_17 0 rfl rfl dzU_driveMotors_8 ?_
  refine lv_iload_n (pc := 11) hx hb dzU_driveMotors_11 rfl (lv_at hl 0 rfl) ?_
  refine xk_aald (q0 := 2) (t0 := 5) (j := 1) (b := (ad 30)) (pc := 12) hx hb hK hP rfl rfl (pk_in 1 2 (by decide)) (pk_cl 1) rfl dzU_driveMotors_12 ?_
  refine lv_aload_n (pc := 13) hx hb dzU_driveMotors_13 rfl (lv_at hl 1 rfl) ?_
  refine xk_get (pc := 14) hx hb hts hown hK hP ffzU_30 0 rfl rfl dzU_driveMotors_14 ?_
  refine xk_get (pc := 17) hx hb hts hown hK hP ffzU_227 4 rfl rfl dzU_driveMotors_17 ?_
  refine xk_callVV (As := [.int (g1 4 0)]) (rest := []) (H0 := s.heap) (pc := 20) hx hb hml hts hown hK hA hP hD hS (kzB_drive l G ac (ad 30) (g1 30 0) (g1 30 1) (g1 30 2) (g1 30 3) (g1 30 4) (g1 30 5) (g1 4 0)) vfzU_332 [30] (by decide) rfl (fun _ => rfl) 30 rfl rfl ⟨rfl, rfl⟩ ⟨Nat.le_of_ble_eq_true rfl, Nat.le_of_ble_eq_true rfl⟩ rfl hl.1 rfl (Nat.le_of_ble_eq_true rfl) ⟨Nat.zero_le _, Nat.zero_le _⟩ dzU_driveMotors_20 (fun u9 H locs e9 hP hD hS => ?_)
  obtain ⟨g2, eg2⟩ : ∃ z : xk_St, z = va_up g1 30 (upd (g1 30) 2 (qzB_drive_a2 (g1 30 0) (g1 30 5) (g1 4 0))) := ⟨_, rfl⟩
  have hP : va_P G xk_cls (xk_wU ad ac g2) H := by rw [eg2]; exact hP
  have hD : va_D A (xk_wU ad ac g2) := by rw [eg2]; exact hD
  refine lv_iinc (k := 0) (x := 1) (v := 2) (lv' := [(1, .int 2), (0, .ref (ad 0))]) (pc := 23) hx hb dzU_driveMotors_23 hl rfl (by decide) (by decide) rfl (fun ls hl => ?_)
  refine lv_goto (tgt := 2) (pc := 26) hx hb dzU_driveMotors_26 (by decide) ?_
  refine lv_iload_n (pc := 2) hx hb dzU_driveMotors_2 rfl (lv_at hl 0 rfl) ?_
  refine lv_iconst (v := 2) (pc := 3) hx hb dzU_driveMotors_3 (by decide) ?_
  refine lv_icmp_ge (pc := 4) (tgt := 29) hx hb dzU_driveMotors_4 (by decide) (fun _ => ?_) (fun hq9 => absurd (by decide) hq9)
  exact hret g2 H locs 29 ls hP hS (by unfold relzU_driveMotors; exact ⟨g1, eg1, ⟨g2, eg2, rfl⟩⟩) dzU_driveMotors_29
theorem frzU_driveMotors (g0 : xk_St) (gz : xk_St) : relzU_driveMotors g0 gz → xk_eqv [0, 1, 2, 3, 4, 5, 6, 7, 8, 9, 10, 11, 12, 13, 14, 15, 16, 17, 18, 19, 20, 21, 22, 23, 24, 25, 26, 27, 28, 31, 32, 33] g0 gz := by
  intro h
  unfold relzU_driveMotors at h
  have s0 : xk_eqv [0, 1, 2, 3, 4, 5, 6, 7, 8, 9, 10, 11, 12, 13, 14, 15, 16, 17, 18, 19, 20, 21, 22, 23, 24, 25, 26, 27, 28, 31, 32, 33] g0 g0 := xk_eqv_rf
  obtain ⟨g1, u1, v2⟩ := h
  have s3 : xk_eqv [0, 1, 2, 3, 4, 5, 6, 7, 8, 9, 10, 11, 12, 13, 14, 15, 16, 17, 18, 19, 20, 21, 22, 23, 24, 25, 26, 27, 28, 31, 32, 33] g0 g1 := by rw [u1]; repeat (first | exact s0 | refine xk_eqv_up (by decide) ?_)
  obtain ⟨g2, u4, v5⟩ := v2
  have s6 : xk_eqv [0, 1, 2, 3, 4, 5, 6, 7, 8, 9, 10, 11, 12, 13, 14, 15, 16, 17, 18, 19, 20, 21, 22, 23, 24, 25, 26, 27, 28, 31, 32, 33] g0 g2 := by rw [u4]; repeat (first | exact s3 | refine xk_eqv_up (by decide) ?_)
  rw [v5]; exact s6

def relzU_lightLamps (g0 : xk_St) (gz : xk_St) : Prop := ∃ (x1 : Int32), (if (g0 4 0) < 2 then (x1 = 0) else (x1 = 1)) ∧ (∃ (x2 : Int32), (if (g0 4 0) = 1 then (x2 = 1) else (x2 = 0)) ∧ (∃ (g1 : xk_St), g1 = va_up g0 31 (upd (g0 31) 1 x2) ∧ (∃ (x3 : Int32), (if x1 = 0 then (x3 = 0) else (if (qzU_isEven ((g0 0 5) / 5)) = 0 then (x3 = 0) else (x3 = 1))) ∧ (∃ (g2 : xk_St), g2 = va_up g1 32 (upd (g1 32) 1 x3) ∧ (∃ (x4 : Int32), (if x1 = 0 then (x4 = 0) else (if (qzU_isEven ((g0 0 5) / 5)) = 0 then (x4 = 1) else (x4 = 0))) ∧ (∃ (g3 : xk_St), g3 = va_up g2 33 (upd (g2 33) 1 x4) ∧ (gz = g3)))))))
set_option maxHeartbeats 4000000 in
set_option maxRecDepth 100000 in
theorem kzU_lightLamps (l : Launch) (G : va_G) (ac : Nat → ClassId) (ad : Nat → Nat) (g0 : xk_St) : xk_CV l yzU_lightLamps czU_lightLamps 3 xk_WS xk_r1 G xk_cls (xk_tys ac) [.ref (ad 0)] (xk_wU ad ac g0) (fun (gz : xk_St) => relzU_lightLamps g0 gz) (fun gz => xk_wU ad ac gz) := by
  refine xk_ofV (by decide) (Nat.le_of_ble_eq_true rfl) ?_
  intro p e s m args below meth c A Q H locs ls C0 hret hP hD hS hl
  obtain ⟨hx, hb, hml, hts, hown, hK, hA⟩ := C0
  have hl : lv_has ls 3 [(0, .ref (ad 0))] := hl
  refine lv_aload_n (pc := 0) hx hb dzU_lightLamps_0 rfl (lv_at hl 0 rfl) ?_
  refine xk_get (pc := 1) hx hb hts hown hK hP ffzU_30 0 rfl rfl dzU_lightLamps_1 ?_
  refine xk_get (pc := 4) hx hb hts hown hK hP ffzU_227 4 rfl rfl dzU_lightLamps_4 ?_
  refine lv_iconst (v := 2) (pc := 7) hx hb dzU_lightLamps_7 (by decide) ?_
  have K1 : ∀ (x1 : Int32), (if (g0 4 0) < 2 then (x1 = 0) else (x1 = 1)) → (xk_b x1) → W p l e xk_r1 s m args below meth c H locs 0 0 Q (F0 m 16 ls [.int x1]) := by
    intro x1 R1 bx1
    refine lv_istore_n (lv' := [(1, .int x1), (0, .ref (ad 0))]) (pc := 16) hx hb dzU_lightLamps_16 rfl hl (by decide) rfl (fun ls hl => ?_)
    refine lv_aload_n (pc := 17) hx hb dzU_lightLamps_17 rfl (lv_at hl 1 rfl) ?_
    refine xk_get (pc := 18) hx hb hts hown hK hP ffzU_41 0 rfl rfl dzU_lightLamps_18 ?_
    refine lv_iconst (v := 5) (pc := 21) hx hb dzU_lightLamps_21 (by decide) ?_
    refine lv_idiv (pc := 22) hx hb dzU_lightLamps_22 (by decide) ?_
    refine xk_callSI (As := [.int ((g0 0 5) / 5)]) (rest := []) (H0 := s.heap) (pc := 23) hx hb hml hts hown hK hA hP hD hS (kzU_isEven l G ac ((g0 0 5) / 5)) sfzU_335 [] (by decide) rfl (fun _ => rfl) ⟨rfl, rfl⟩ ⟨Nat.le_of_ble_eq_true rfl, Nat.le_of_ble_eq_true rfl⟩ rfl hl.1 rfl (Nat.le_of_ble_eq_true rfl) ⟨Nat.zero_le _, Nat.zero_le _⟩ dzU_lightLamps_23 (fun r1 u9 H locs e9 hP hD hS => ?_)
    obtain rfl : r1 = qzU_isEven ((g0 0 5) / 5) := e9
    have hP : va_P G xk_cls (xk_wU ad ac g0) H := hP
    have hD : va_D A (xk_wU ad ac g0) := hD
    refine lv_istore_n (lv' := [(2, .int (qzU_isEven ((g0 0 5) / 5))), (1, .int x1), (0, .ref (ad 0))]) (pc := 26) hx hb dzU_lightLamps_26 rfl hl (by decide) rfl (fun ls hl => ?_)
    refine lv_aload_n (pc := 27) hx hb dzU_lightLamps_27 rfl (lv_at hl 2 rfl) ?_
    refine xk_get (pc := 28) hx hb hts hown hK hP ffzU_23 0 rfl rfl dzU_lightLamps_28 ?_
    refine lv_iconst (v := 0) (pc := 31) hx hb dzU_lightLamps_31 (by decide) ?_
    refine xk_aald (q0 := 3) (t0 := 6) (j := 0) (b := (ad 31)) (pc := 32) hx hb hK hP rfl rfl (pk_in 0 3 (by decide)) (pk_cl 0) rfl dzU_lightLamps_32 ?_
    refine lv_aload_n (pc := 33) hx hb dzU_lightLamps_33 rfl (lv_at hl 2 rfl) ?_
    refine xk_get (pc := 34) hx hb hts hown hK hP ffzU_30 0 rfl rfl dzU_lightLamps_34 ?_
    refine xk_get (pc := 37) hx hb hts hown hK hP ffzU_227 4 rfl rfl dzU_lightLamps_37 ?_
    refine lv_iconst (v := 1) (pc := 40) hx hb dzU_lightLamps_40 (by decide) ?_
    have K2 : ∀ (x2 : Int32), (if (g0 4 0) = 1 then (x2 = 1) else (x2 = 0)) → (xk_b x2) → W p l e xk_r1 s m args below meth c H locs 0 0 Q (F0 m 49 ls [.int x2, .ref (ad 31)]) := by
      intro x2 R2 bx2
      refine xk_putf (pc := 49) hx hb hts hown hK hP hD hS pfzU_338 31 rfl (xk_bn bx2) (xk_bf bx2) (Nat.le_of_ble_eq_true rfl) dzU_lightLamps_49 (fun H locs hP hD hS => ?_)
      obtain ⟨g1, eg1⟩ : ∃ z : xk_St, z = va_up g0 31 (upd (g0 31) 1 x2) := ⟨_, rfl⟩
      have hP : va_P G xk_cls (xk_wU ad ac g1) H := by rw [eg1]; exact hP
      have hD : va_D A (xk_wU ad ac g1) := by rw [eg1]; exact hD
      refine lv_aload_n (pc := 52) hx hb dzU_lightLamps_52 rfl (lv_at hl 2 rfl) ?_
      refine xk_get (pc := 53) hx hb hts hown hK hP ffzU_23 0 rfl rfl dzU_lightLamps_53 ?_
      refine lv_iconst (v := 1) (pc := 56) hx hb dzU_lightLamps_56 (by decide) ?_
      refine xk_aald (q0 := 3) (t0 := 6) (j := 1) (b := (ad 32)) (pc := 57) hx hb hK hP rfl rfl (pk_in 1 3 (by decide)) (pk_cl 1) rfl dzU_lightLamps_57 ?_
      refine lv_iload_n (pc := 58) hx hb dzU_lightLamps_58 rfl (lv_at hl 1 rfl) ?_
      have K3 : ∀ (x3 : Int32), (if x1 = 0 then (x3 = 0) else (if (qzU_isEven ((g0 0 5) / 5)) = 0 then (x3 = 0) else (x3 = 1))) → (xk_b x3) → W p l e xk_r1 s m args below meth c H locs 0 0 Q (F0 m 71 ls [.int x3, .ref (ad 32)]) := by
        intro x3 R3 bx3
        refine xk_putf (pc := 71) hx hb hts hown hK hP hD hS pfzU_338 32 rfl (xk_bn bx3) (xk_bf bx3) (Nat.le_of_ble_eq_true rfl) dzU_lightLamps_71 (fun H locs hP hD hS => ?_)
        obtain ⟨g2, eg2⟩ : ∃ z : xk_St, z = va_up g1 32 (upd (g1 32) 1 x3) := ⟨_, rfl⟩
        have hP : va_P G xk_cls (xk_wU ad ac g2) H := by rw [eg2]; exact hP
        have hD : va_D A (xk_wU ad ac g2) := by rw [eg2]; exact hD
        refine lv_aload_n (pc := 74) hx hb dzU_lightLamps_74 rfl (lv_at hl 2 rfl) ?_
        refine xk_get (pc := 75) hx hb hts hown hK hP ffzU_23 0 rfl rfl dzU_lightLamps_75 ?_
        refine lv_iconst (v := 2) (pc := 78) hx hb dzU_lightLamps_78 (by decide) ?_
        refine xk_aald (q0 := 3) (t0 := 6) (j := 2) (b := (ad 33)) (pc := 79) hx hb hK hP rfl rfl (pk_in 2 3 (by decide)) (pk_cl 2) rfl dzU_lightLamps_79 ?_
        refine lv_iload_n (pc := 80) hx hb dzU_lightLamps_80 rfl (lv_at hl 1 rfl) ?_
        have K4 : ∀ (x4 : Int32), (if x1 = 0 then (x4 = 0) else (if (qzU_isEven ((g0 0 5) / 5)) = 0 then (x4 = 1) else (x4 = 0))) → (xk_b x4) → W p l e xk_r1 s m args below meth c H locs 0 0 Q (F0 m 93 ls [.int x4, .ref (ad 33)]) := by
          intro x4 R4 bx4
          refine xk_putf (pc := 93) hx hb hts hown hK hP hD hS pfzU_338 33 rfl (xk_bn bx4) (xk_bf bx4) (Nat.le_of_ble_eq_true rfl) dzU_lightLamps_93 (fun H locs hP hD hS => ?_)
          obtain ⟨g3, eg3⟩ : ∃ z : xk_St, z = va_up g2 33 (upd (g2 33) 1 x4) := ⟨_, rfl⟩
          have hP : va_P G xk_cls (xk_wU ad ac g3) H := by rw [eg3]; exact hP
          have hD : va_D A (xk_wU ad ac g3) := by rw [eg3]; exact hD
          exact hret g3 H locs 96 ls hP hS (by unfold relzU_lightLamps; exact ⟨x1, R1, ⟨x2, R2, ⟨g1, eg1, ⟨x3, R3, ⟨g2, eg2, ⟨x4, R4, ⟨g3, eg3, rfl⟩⟩⟩⟩⟩⟩⟩) dzU_lightLamps_96
        refine lv_if_eq (pc := 81) (tgt := 92) hx hb dzU_lightLamps_81 (by decide) (fun h5 => ?_) (fun h5 => ?_)
        ·
          refine lv_iconst (v := 0) (pc := 92) hx hb dzU_lightLamps_92 (by decide) ?_
          exact K4 0 (Eq.mpr (if_pos h5) rfl) xk_b0
        ·
          refine lv_iload_n (pc := 84) hx hb dzU_lightLamps_84 rfl (lv_at hl 0 rfl) ?_
          refine lv_if_ne (pc := 85) (tgt := 92) hx hb dzU_lightLamps_85 (by decide) (fun h6 => ?_) (fun h6 => ?_)
          ·
            refine lv_iconst (v := 0) (pc := 92) hx hb dzU_lightLamps_92 (by decide) ?_
            exact K4 0 (Eq.mpr (if_neg h5) (Eq.mpr (if_neg h6) rfl)) xk_b0
          ·
            refine lv_iconst (v := 1) (pc := 88) hx hb dzU_lightLamps_88 (by decide) ?_
            refine lv_goto (tgt := 93) (pc := 89) hx hb dzU_lightLamps_89 (by decide) ?_
            exact K4 1 (Eq.mpr (if_neg h5) (Eq.mpr (if_pos h6) rfl)) xk_b1
      refine lv_if_eq (pc := 59) (tgt := 70) hx hb dzU_lightLamps_59 (by decide) (fun h3 => ?_) (fun h3 => ?_)
      ·
        refine lv_iconst (v := 0) (pc := 70) hx hb dzU_lightLamps_70 (by decide) ?_
        exact K3 0 (Eq.mpr (if_pos h3) rfl) xk_b0
      ·
        refine lv_iload_n (pc := 62) hx hb dzU_lightLamps_62 rfl (lv_at hl 0 rfl) ?_
        refine lv_if_eq (pc := 63) (tgt := 70) hx hb dzU_lightLamps_63 (by decide) (fun h4 => ?_) (fun h4 => ?_)
        ·
          refine lv_iconst (v := 0) (pc := 70) hx hb dzU_lightLamps_70 (by decide) ?_
          exact K3 0 (Eq.mpr (if_neg h3) (Eq.mpr (if_pos h4) rfl)) xk_b0
        ·
          refine lv_iconst (v := 1) (pc := 66) hx hb dzU_lightLamps_66 (by decide) ?_
          refine lv_goto (tgt := 71) (pc := 67) hx hb dzU_lightLamps_67 (by decide) ?_
          exact K3 1 (Eq.mpr (if_neg h3) (Eq.mpr (if_neg h4) rfl)) xk_b1
    refine lv_icmp_ne (pc := 41) (tgt := 48) hx hb dzU_lightLamps_41 (by decide) (fun h2 => ?_) (fun h2 => ?_)
    ·
      refine lv_iconst (v := 0) (pc := 48) hx hb dzU_lightLamps_48 (by decide) ?_
      exact K2 0 (Eq.mpr (if_neg h2) rfl) xk_b0
    ·
      refine lv_iconst (v := 1) (pc := 44) hx hb dzU_lightLamps_44 (by decide) ?_
      refine lv_goto (tgt := 49) (pc := 45) hx hb dzU_lightLamps_45 (by decide) ?_
      exact K2 1 (Eq.mpr (if_pos h2) rfl) xk_b1
  refine lv_icmp_lt (pc := 8) (tgt := 15) hx hb dzU_lightLamps_8 (by decide) (fun h1 => ?_) (fun h1 => ?_)
  ·
    refine lv_iconst (v := 0) (pc := 15) hx hb dzU_lightLamps_15 (by decide) ?_
    exact K1 0 (Eq.mpr (if_pos h1) rfl) xk_b0
  ·
    refine lv_iconst (v := 1) (pc := 11) hx hb dzU_lightLamps_11 (by decide) ?_
    refine lv_goto (tgt := 16) (pc := 12) hx hb dzU_lightLamps_12 (by decide) ?_
    exact K1 1 (Eq.mpr (if_neg h1) rfl) xk_b1
theorem frzU_lightLamps (g0 : xk_St) (gz : xk_St) : relzU_lightLamps g0 gz → xk_eqv [0, 1, 2, 3, 4, 5, 6, 7, 8, 9, 10, 11, 12, 13, 14, 15, 16, 17, 18, 19, 20, 21, 22, 23, 24, 25, 26, 27, 28, 29, 30] g0 gz := by
  intro h
  unfold relzU_lightLamps at h
  have s0 : xk_eqv [0, 1, 2, 3, 4, 5, 6, 7, 8, 9, 10, 11, 12, 13, 14, 15, 16, 17, 18, 19, 20, 21, 22, 23, 24, 25, 26, 27, 28, 29, 30] g0 g0 := xk_eqv_rf
  obtain ⟨x1, u1, v2⟩ := h
  obtain ⟨x2, u3, v4⟩ := v2
  obtain ⟨g1, u5, v6⟩ := v4
  have s7 : xk_eqv [0, 1, 2, 3, 4, 5, 6, 7, 8, 9, 10, 11, 12, 13, 14, 15, 16, 17, 18, 19, 20, 21, 22, 23, 24, 25, 26, 27, 28, 29, 30] g0 g1 := by rw [u5]; repeat (first | exact s0 | refine xk_eqv_up (by decide) ?_)
  obtain ⟨x3, u8, v9⟩ := v6
  obtain ⟨g2, u10, v11⟩ := v9
  have s12 : xk_eqv [0, 1, 2, 3, 4, 5, 6, 7, 8, 9, 10, 11, 12, 13, 14, 15, 16, 17, 18, 19, 20, 21, 22, 23, 24, 25, 26, 27, 28, 29, 30] g0 g2 := by rw [u10]; repeat (first | exact s7 | refine xk_eqv_up (by decide) ?_)
  obtain ⟨x4, u13, v14⟩ := v11
  obtain ⟨g3, u15, v16⟩ := v14
  have s17 : xk_eqv [0, 1, 2, 3, 4, 5, 6, 7, 8, 9, 10, 11, 12, 13, 14, 15, 16, 17, 18, 19, 20, 21, 22, 23, 24, 25, 26, 27, 28, 29, 30] g0 g3 := by rw [u15]; repeat (first | exact s12 | refine xk_eqv_up (by decide) ?_)
  rw [v16]; exact s17

def relzU_setSignals (g0 : xk_St) (gz : xk_St) : Prop := ∃ (g3 : xk_St), (if (qzU_signalIsDue_0 g0) = (g0 9 5) then (g3 = g0) else (∃ (g1 : xk_St), g1 = va_up g0 9 (upd (g0 9) 5 (qzU_signalIsDue_0 g0)) ∧ (∃ (x1 : Int32), (if (qzU_signalIsDue_0 g0) = 0 then (x1 = 5) else (x1 = 4)) ∧ (∃ (g2 : xk_St), g2 = va_up (va_up (va_up (va_up g1 5 (upd (g1 5) 3 (qzJ_add_a3 (g1 5 3)))) 6 (qzJ_add_b (g1 5 3) (g1 6) (g1 0 5))) 7 (qzJ_add_c (g1 5 3) (g1 7) x1)) 8 (qzJ_add_d (g1 5 3) (g1 8) 0) ∧ (g3 = g2))))) ∧ (∃ (g6 : xk_St), (if (qzU_signalIsDue_1 g3) = (g3 10 5) then (g6 = g3) else (∃ (g4 : xk_St), g4 = va_up g3 10 (upd (g3 10) 5 (qzU_signalIsDue_1 g3)) ∧ (∃ (x2 : Int32), (if (qzU_signalIsDue_1 g3) = 0 then (x2 = 5) else (x2 = 4)) ∧ (∃ (g5 : xk_St), g5 = va_up (va_up (va_up (va_up g4 5 (upd (g4 5) 3 (qzJ_add_a3 (g4 5 3)))) 6 (qzJ_add_b (g4 5 3) (g4 6) (g4 0 5))) 7 (qzJ_add_c (g4 5 3) (g4 7) x2)) 8 (qzJ_add_d (g4 5 3) (g4 8) 1) ∧ (g6 = g5))))) ∧ (gz = g6))
set_option maxHeartbeats 4000000 in
set_option maxRecDepth 100000 in
theorem kzU_setSignals (l : Launch) (G : va_G) (ac : Nat → ClassId) (ad : Nat → Nat) (g0 : xk_St) : xk_CV l yzU_setSignals czU_setSignals 3 xk_WS xk_r2 G xk_cls (xk_tys ac) [.ref (ad 0)] (xk_wU ad ac g0) (fun (gz : xk_St) => relzU_setSignals g0 gz) (fun gz => xk_wU ad ac gz) := by
  refine xk_ofV (by decide) (Nat.le_of_ble_eq_true rfl) ?_
  intro p e s m args below meth c A Q H locs ls C0 hret hP hD hS hl
  obtain ⟨hx, hb, hml, hts, hown, hK, hA⟩ := C0
  have hl : lv_has ls 3 [(0, .ref (ad 0))] := hl
  refine lv_iconst (v := 0) (pc := 0) hx hb dzU_setSignals_0 (by decide) ?_
  refine lv_istore_n (lv' := [(1, .int 0), (0, .ref (ad 0))]) (pc := 1) hx hb dzU_setSignals_1 rfl hl (by decide) rfl (fun ls hl => ?_)
  refine lv_iload_n (pc := 2) hx hb dzU_setSignals_2 rfl (lv_at hl 0 rfl) ?_
  refine lv_iconst (v := 2) (pc := 3) hx hb dzU_setSignals_3 (by decide) ?_
  refine lv_icmp_ge (pc := 4) (tgt := 68) hx hb dzU_setSignals_4 (by decide) (fun hq9 => absurd hq9 (by decide)) (fun _ => ?_)
  refine lv_aload_n (pc := 7) hx hb dzU_setSignals_7 rfl (lv_at hl 1 rfl) ?_
  refine lv_aload_n (pc := 8) hx hb dzU_setSignals_8 rfl (lv_at hl 1 rfl) ?_
  refine xk_get (pc := 9) hx hb hts hown hK hP ffzU_11 0 rfl rfl dzU_setSignals_9 ?_
  refine lv_iload_n (pc := 12) hx hb dzU_setSignals_12 rfl (lv_at hl 0 rfl) ?_
  refine xk_aald (q0 := 1) (t0 := 2) (j := 0) (b := (ad 9)) (pc := 13) hx hb hK hP rfl rfl (pk_in 0 2 (by decide)) (pk_cl 0) rfl dzU_setSignals_13 ?_
  refine xk_allVI (As := [.ref (ad 9)]) (rest := []) (H0 := s.heap) (pc := 14) hx hb hml hts hown hK hA hP hD hS (kzU_signalIsDue_0 l G ac ad g0) vfzU_341 (fun _ => rfl) 0 rfl rfl ⟨rfl, rfl⟩ ⟨Nat.le_of_ble_eq_true rfl, Nat.le_of_ble_eq_true rfl⟩ rfl hl.1 rfl (Nat.le_of_ble_eq_true rfl) ⟨Nat.zero_le _, Nat.zero_le _⟩ dzU_setSignals_14 (fun r1 u9 H locs e9 hP hD hS => ?_)
  obtain rfl : r1 = qzU_signalIsDue_0 g0 := e9
  have hP : va_P G xk_cls (xk_wU ad ac g0) H := hP
  have hD : va_D A (xk_wU ad ac g0) := hD
  refine lv_istore_n (lv' := [(2, .int (qzU_signalIsDue_0 g0)), (1, .int 0), (0, .ref (ad 0))]) (pc := 17) hx hb dzU_setSignals_17 rfl hl (by decide) rfl (fun ls hl => ?_)
  refine lv_iload_n (pc := 18) hx hb dzU_setSignals_18 rfl (lv_at hl 0 rfl) ?_
  refine lv_aload_n (pc := 19) hx hb dzU_setSignals_19 rfl (lv_at hl 2 rfl) ?_
  refine xk_get (pc := 20) hx hb hts hown hK hP ffzU_11 0 rfl rfl dzU_setSignals_20 ?_
  refine lv_iload_n (pc := 23) hx hb dzU_setSignals_23 rfl (lv_at hl 1 rfl) ?_
  refine xk_aald (q0 := 1) (t0 := 2) (j := 0) (b := (ad 9)) (pc := 24) hx hb hK hP rfl rfl (pk_in 0 2 (by decide)) (pk_cl 0) rfl dzU_setSignals_24 ?_
  refine xk_get (pc := 25) hx hb hts hown hK hP ffzU_345 9 rfl rfl dzU_setSignals_25 ?_
  have K2 : ∀ (g3 : xk_St) (H : Heap) (locs : List Loc), (if (qzU_signalIsDue_0 g0) = (g0 9 5) then (g3 = g0) else (∃ (g1 : xk_St), g1 = va_up g0 9 (upd (g0 9) 5 (qzU_signalIsDue_0 g0)) ∧ (∃ (x1 : Int32), (if (qzU_signalIsDue_0 g0) = 0 then (x1 = 5) else (x1 = 4)) ∧ (∃ (g2 : xk_St), g2 = va_up (va_up (va_up (va_up g1 5 (upd (g1 5) 3 (qzJ_add_a3 (g1 5 3)))) 6 (qzJ_add_b (g1 5 3) (g1 6) (g1 0 5))) 7 (qzJ_add_c (g1 5 3) (g1 7) x1)) 8 (qzJ_add_d (g1 5 3) (g1 8) 0) ∧ (g3 = g2))))) → (va_P G xk_cls (xk_wU ad ac g3) H) → (va_D A (xk_wU ad ac g3)) → (va_S A s.heap H locs) → W p l e xk_r2 s m args below meth c H locs 0 0 Q (F0 m 62 ls []) := by
    intro g3 H locs R2 hP hD hS
    refine lv_iinc (k := 1) (x := 0) (v := 1) (lv' := [(1, .int 1), (2, .int (qzU_signalIsDue_0 g0)), (0, .ref (ad 0))]) (pc := 62) hx hb dzU_setSignals_62 hl rfl (by decide) (by decide) rfl (fun ls hl => ?_)
    refine lv_goto (tgt := 2) (pc := 65) hx hb dzU_setSignals_65 (by decide) ?_
    refine lv_iload_n (pc := 2) hx hb dzU_setSignals_2 rfl (lv_at hl 0 rfl) ?_
    refine lv_iconst (v := 2) (pc := 3) hx hb dzU_setSignals_3 (by decide) ?_
    refine lv_icmp_ge (pc := 4) (tgt := 68) hx hb dzU_setSignals_4 (by decide) (fun hq9 => absurd hq9 (by decide)) (fun _ => ?_)
    refine lv_aload_n (pc := 7) hx hb dzU_setSignals_7 rfl (lv_at hl 2 rfl) ?_
    refine lv_aload_n (pc := 8) hx hb dzU_setSignals_8 rfl (lv_at hl 2 rfl) ?_
    refine xk_get (pc := 9) hx hb hts hown hK hP ffzU_11 0 rfl rfl dzU_setSignals_9 ?_
    refine lv_iload_n (pc := 12) hx hb dzU_setSignals_12 rfl (lv_at hl 0 rfl) ?_
    refine xk_aald (q0 := 1) (t0 := 2) (j := 1) (b := (ad 10)) (pc := 13) hx hb hK hP rfl rfl (pk_in 1 2 (by decide)) (pk_cl 1) rfl dzU_setSignals_13 ?_
    refine xk_allVI (As := [.ref (ad 10)]) (rest := []) (H0 := s.heap) (pc := 14) hx hb hml hts hown hK hA hP hD hS (kzU_signalIsDue_1 l G ac ad g3) vfzU_341 (fun _ => rfl) 0 rfl rfl ⟨rfl, rfl⟩ ⟨Nat.le_of_ble_eq_true rfl, Nat.le_of_ble_eq_true rfl⟩ rfl hl.1 rfl (Nat.le_of_ble_eq_true rfl) ⟨Nat.zero_le _, Nat.zero_le _⟩ dzU_setSignals_14 (fun r2 u9 H locs e9 hP hD hS => ?_)
    obtain rfl : r2 = qzU_signalIsDue_1 g3 := e9
    have hP : va_P G xk_cls (xk_wU ad ac g3) H := hP
    have hD : va_D A (xk_wU ad ac g3) := hD
    refine lv_istore_n (lv' := [(2, .int (qzU_signalIsDue_1 g3)), (1, .int 1), (0, .ref (ad 0))]) (pc := 17) hx hb dzU_setSignals_17 rfl hl (by decide) rfl (fun ls hl => ?_)
    refine lv_iload_n (pc := 18) hx hb dzU_setSignals_18 rfl (lv_at hl 0 rfl) ?_
    refine lv_aload_n (pc := 19) hx hb dzU_setSignals_19 rfl (lv_at hl 2 rfl) ?_
    refine xk_get (pc := 20) hx hb hts hown hK hP ffzU_11 0 rfl rfl dzU_setSignals_20 ?_
    refine lv_iload_n (pc := 23) hx hb dzU_setSignals_23 rfl (lv_at hl 1 rfl) ?_
    refine xk_aald (q0 := 1) (t0 := 2) (j := 1) (b := (ad 10)) (pc := 24) hx hb hK hP rfl rfl (pk_in 1 2 (by decide)) (pk_cl 1) rfl dzU_setSignals_24 ?_
    refine xk_get (pc := 25) hx hb hts hown hK hP ffzU_345 10 rfl rfl dzU_setSignals_25 ?_
    have K4 : ∀ (g6 : xk_St) (H : Heap) (locs : List Loc), (if (qzU_signalIsDue_1 g3) = (g3 10 5) then (g6 = g3) else (∃ (g4 : xk_St), g4 = va_up g3 10 (upd (g3 10) 5 (qzU_signalIsDue_1 g3)) ∧ (∃ (x2 : Int32), (if (qzU_signalIsDue_1 g3) = 0 then (x2 = 5) else (x2 = 4)) ∧ (∃ (g5 : xk_St), g5 = va_up (va_up (va_up (va_up g4 5 (upd (g4 5) 3 (qzJ_add_a3 (g4 5 3)))) 6 (qzJ_add_b (g4 5 3) (g4 6) (g4 0 5))) 7 (qzJ_add_c (g4 5 3) (g4 7) x2)) 8 (qzJ_add_d (g4 5 3) (g4 8) 1) ∧ (g6 = g5))))) → (va_P G xk_cls (xk_wU ad ac g6) H) → (va_D A (xk_wU ad ac g6)) → (va_S A s.heap H locs) → W p l e xk_r2 s m args below meth c H locs 0 0 Q (F0 m 62 ls []) := by
      intro g6 H locs R4 hP hD hS
      refine lv_iinc (k := 1) (x := 1) (v := 2) (lv' := [(1, .int 2), (2, .int (qzU_signalIsDue_1 g3)), (0, .ref (ad 0))]) (pc := 62) hx hb dzU_setSignals_62 hl rfl (by decide) (by decide) rfl (fun ls hl => ?_)
      refine lv_goto (tgt := 2) (pc := 65) hx hb dzU_setSignals_65 (by decide) ?_
      refine lv_iload_n (pc := 2) hx hb dzU_setSignals_2 rfl (lv_at hl 0 rfl) ?_
      refine lv_iconst (v := 2) (pc := 3) hx hb dzU_setSignals_3 (by decide) ?_
      refine lv_icmp_ge (pc := 4) (tgt := 68) hx hb dzU_setSignals_4 (by decide) (fun _ => ?_) (fun hq9 => absurd (by decide) hq9)
      exact hret g6 H locs 68 ls hP hS (by unfold relzU_setSignals; exact ⟨g3, R2, ⟨g6, R4, rfl⟩⟩) dzU_setSignals_68
    refine lv_icmp_eq (pc := 28) (tgt := 62) hx hb dzU_setSignals_28 (by decide) (fun h3 => ?_) (fun h3 => ?_)
    ·
      exact K4 g3 H locs (Eq.mpr (if_pos h3) rfl) hP hD hS
    ·
      refine lv_aload_n (pc := 31) hx hb dzU_setSignals_31 rfl (lv_at hl 2 rfl) ?_
      refine xk_get (pc := 32) hx hb hts hown hK hP ffzU_11 0 rfl rfl dzU_setSignals_32 ?_
      refine lv_iload_n (pc := 35) hx hb dzU_setSignals_35 rfl (lv_at hl 1 rfl) ?_
      refine xk_aald (q0 := 1) (t0 := 2) (j := 1) (b := (ad 10)) (pc := 36) hx hb hK hP rfl rfl (pk_in 1 2 (by decide)) (pk_cl 1) rfl dzU_setSignals_36 ?_
      refine lv_iload_n (pc := 37) hx hb dzU_setSignals_37 rfl (lv_at hl 0 rfl) ?_
      refine xk_putf (pc := 38) hx hb hts hown hK hP hD hS pfzU_345 10 rfl (xk_bn (bzU_signalIsDue_1 g3)) (xk_bf (bzU_signalIsDue_1 g3)) (Nat.le_of_ble_eq_true rfl) dzU_setSignals_38 (fun H locs hP hD hS => ?_)
      obtain ⟨g4, eg4⟩ : ∃ z : xk_St, z = va_up g3 10 (upd (g3 10) 5 (qzU_signalIsDue_1 g3)) := ⟨_, rfl⟩
      have hP : va_P G xk_cls (xk_wU ad ac g4) H := by rw [eg4]; exact hP
      have hD : va_D A (xk_wU ad ac g4) := by rw [eg4]; exact hD
      refine lv_aload_n (pc := 41) hx hb dzU_setSignals_41 rfl (lv_at hl 2 rfl) ?_
      refine xk_get (pc := 42) hx hb hts hown hK hP ffzU_37 0 rfl rfl dzU_setSignals_42 ?_
      refine lv_aload_n (pc := 45) hx hb dzU_setSignals_45 rfl (lv_at hl 2 rfl) ?_
      refine xk_get (pc := 46) hx hb hts hown hK hP ffzU_41 0 rfl rfl dzU_setSignals_46 ?_
      refine lv_iload_n (pc := 49) hx hb dzU_setSignals_49 rfl (lv_at hl 0 rfl) ?_
      have K3 : ∀ (x2 : Int32), (if (qzU_signalIsDue_1 g3) = 0 then (x2 = 5) else (x2 = 4)) → (¬ x2 = 0) → W p l e xk_r2 s m args below meth c H locs 0 0 Q (F0 m 58 ls [.int x2, .int (g4 0 5), .ref (ad 5)]) := by
        intro x2 R3 nx2
        refine lv_iload_n (pc := 58) hx hb dzU_setSignals_58 rfl (lv_at hl 1 rfl) ?_
        refine xk_callVV (As := [.int (g4 0 5), .int x2, .int 1]) (rest := []) (H0 := s.heap) (pc := 59) hx hb hml hts hown hK hA hP hD hS (kzJ_add l G ac (ad 5) (ad 6) (ad 7) (ad 8) (g4 5 3) (g4 6) (g4 7) (g4 8) (g4 0 5) x2 1) vfzU_170 [5, 6, 7, 8] (by decide) rfl (fun _ => rfl) 5 rfl rfl ⟨rfl, rfl⟩ ⟨Nat.le_of_ble_eq_true rfl, Nat.le_of_ble_eq_true rfl⟩ rfl hl.1 rfl (Nat.le_of_ble_eq_true rfl) ⟨Nat.zero_le _, Nat.zero_le _⟩ dzU_setSignals_59 (fun u9 H locs e9 hP hD hS => ?_)
        obtain ⟨g5, eg5⟩ : ∃ z : xk_St, z = va_up (va_up (va_up (va_up g4 5 (upd (g4 5) 3 (qzJ_add_a3 (g4 5 3)))) 6 (qzJ_add_b (g4 5 3) (g4 6) (g4 0 5))) 7 (qzJ_add_c (g4 5 3) (g4 7) x2)) 8 (qzJ_add_d (g4 5 3) (g4 8) 1) := ⟨_, rfl⟩
        have hP : va_P G xk_cls (xk_wU ad ac g5) H := by rw [eg5]; exact hP
        have hD : va_D A (xk_wU ad ac g5) := by rw [eg5]; exact hD
        exact K4 g5 H locs (Eq.mpr (if_neg h3) ⟨g4, eg4, ⟨x2, R3, ⟨g5, eg5, rfl⟩⟩⟩) hP hD hS
      refine lv_if_eq (pc := 50) (tgt := 57) hx hb dzU_setSignals_50 (by decide) (fun h4 => ?_) (fun h4 => ?_)
      ·
        refine lv_iconst (v := 5) (pc := 57) hx hb dzU_setSignals_57 (by decide) ?_
        exact K3 5 (Eq.mpr (if_pos h4) rfl) (by decide)
      ·
        refine lv_iconst (v := 4) (pc := 53) hx hb dzU_setSignals_53 (by decide) ?_
        refine lv_goto (tgt := 58) (pc := 54) hx hb dzU_setSignals_54 (by decide) ?_
        exact K3 4 (Eq.mpr (if_neg h4) rfl) (by decide)
  refine lv_icmp_eq (pc := 28) (tgt := 62) hx hb dzU_setSignals_28 (by decide) (fun h1 => ?_) (fun h1 => ?_)
  ·
    exact K2 g0 H locs (Eq.mpr (if_pos h1) rfl) hP hD hS
  ·
    refine lv_aload_n (pc := 31) hx hb dzU_setSignals_31 rfl (lv_at hl 2 rfl) ?_
    refine xk_get (pc := 32) hx hb hts hown hK hP ffzU_11 0 rfl rfl dzU_setSignals_32 ?_
    refine lv_iload_n (pc := 35) hx hb dzU_setSignals_35 rfl (lv_at hl 1 rfl) ?_
    refine xk_aald (q0 := 1) (t0 := 2) (j := 0) (b := (ad 9)) (pc := 36) hx hb hK hP rfl rfl (pk_in 0 2 (by decide)) (pk_cl 0) rfl dzU_setSignals_36 ?_
    refine lv_iload_n (pc := 37) hx hb dzU_setSignals_37 rfl (lv_at hl 0 rfl) ?_
    refine xk_putf (pc := 38) hx hb hts hown hK hP hD hS pfzU_345 9 rfl (xk_bn (bzU_signalIsDue_0 g0)) (xk_bf (bzU_signalIsDue_0 g0)) (Nat.le_of_ble_eq_true rfl) dzU_setSignals_38 (fun H locs hP hD hS => ?_)
    obtain ⟨g1, eg1⟩ : ∃ z : xk_St, z = va_up g0 9 (upd (g0 9) 5 (qzU_signalIsDue_0 g0)) := ⟨_, rfl⟩
    have hP : va_P G xk_cls (xk_wU ad ac g1) H := by rw [eg1]; exact hP
    have hD : va_D A (xk_wU ad ac g1) := by rw [eg1]; exact hD
    refine lv_aload_n (pc := 41) hx hb dzU_setSignals_41 rfl (lv_at hl 2 rfl) ?_
    refine xk_get (pc := 42) hx hb hts hown hK hP ffzU_37 0 rfl rfl dzU_setSignals_42 ?_
    refine lv_aload_n (pc := 45) hx hb dzU_setSignals_45 rfl (lv_at hl 2 rfl) ?_
    refine xk_get (pc := 46) hx hb hts hown hK hP ffzU_41 0 rfl rfl dzU_setSignals_46 ?_
    refine lv_iload_n (pc := 49) hx hb dzU_setSignals_49 rfl (lv_at hl 0 rfl) ?_
    have K1 : ∀ (x1 : Int32), (if (qzU_signalIsDue_0 g0) = 0 then (x1 = 5) else (x1 = 4)) → (¬ x1 = 0) → W p l e xk_r2 s m args below meth c H locs 0 0 Q (F0 m 58 ls [.int x1, .int (g1 0 5), .ref (ad 5)]) := by
      intro x1 R1 nx1
      refine lv_iload_n (pc := 58) hx hb dzU_setSignals_58 rfl (lv_at hl 1 rfl) ?_
      refine xk_callVV (As := [.int (g1 0 5), .int x1, .int 0]) (rest := []) (H0 := s.heap) (pc := 59) hx hb hml hts hown hK hA hP hD hS (kzJ_add l G ac (ad 5) (ad 6) (ad 7) (ad 8) (g1 5 3) (g1 6) (g1 7) (g1 8) (g1 0 5) x1 0) vfzU_170 [5, 6, 7, 8] (by decide) rfl (fun _ => rfl) 5 rfl rfl ⟨rfl, rfl⟩ ⟨Nat.le_of_ble_eq_true rfl, Nat.le_of_ble_eq_true rfl⟩ rfl hl.1 rfl (Nat.le_of_ble_eq_true rfl) ⟨Nat.zero_le _, Nat.zero_le _⟩ dzU_setSignals_59 (fun u9 H locs e9 hP hD hS => ?_)
      obtain ⟨g2, eg2⟩ : ∃ z : xk_St, z = va_up (va_up (va_up (va_up g1 5 (upd (g1 5) 3 (qzJ_add_a3 (g1 5 3)))) 6 (qzJ_add_b (g1 5 3) (g1 6) (g1 0 5))) 7 (qzJ_add_c (g1 5 3) (g1 7) x1)) 8 (qzJ_add_d (g1 5 3) (g1 8) 0) := ⟨_, rfl⟩
      have hP : va_P G xk_cls (xk_wU ad ac g2) H := by rw [eg2]; exact hP
      have hD : va_D A (xk_wU ad ac g2) := by rw [eg2]; exact hD
      exact K2 g2 H locs (Eq.mpr (if_neg h1) ⟨g1, eg1, ⟨x1, R1, ⟨g2, eg2, rfl⟩⟩⟩) hP hD hS
    refine lv_if_eq (pc := 50) (tgt := 57) hx hb dzU_setSignals_50 (by decide) (fun h2 => ?_) (fun h2 => ?_)
    ·
      refine lv_iconst (v := 5) (pc := 57) hx hb dzU_setSignals_57 (by decide) ?_
      exact K1 5 (Eq.mpr (if_pos h2) rfl) (by decide)
    ·
      refine lv_iconst (v := 4) (pc := 53) hx hb dzU_setSignals_53 (by decide) ?_
      refine lv_goto (tgt := 58) (pc := 54) hx hb dzU_setSignals_54 (by decide) ?_
      exact K1 4 (Eq.mpr (if_neg h2) rfl) (by decide)
theorem frzU_setSignals (g0 : xk_St) (gz : xk_St) : relzU_setSignals g0 gz → xk_eqv [0, 1, 2, 3, 4, 11, 12, 13, 14, 15, 16, 17, 18, 19, 20, 21, 22, 23, 24, 25, 26, 27, 28, 29, 30, 31, 32, 33] g0 gz := by
  intro h
  unfold relzU_setSignals at h
  have s0 : xk_eqv [0, 1, 2, 3, 4, 11, 12, 13, 14, 15, 16, 17, 18, 19, 20, 21, 22, 23, 24, 25, 26, 27, 28, 29, 30, 31, 32, 33] g0 g0 := xk_eqv_rf
  obtain ⟨g3, u1, v2⟩ := h
  have s3 : xk_eqv [0, 1, 2, 3, 4, 11, 12, 13, 14, 15, 16, 17, 18, 19, 20, 21, 22, 23, 24, 25, 26, 27, 28, 29, 30, 31, 32, 33] g0 g3 := by
    by_cases hc : (qzU_signalIsDue_0 g0) = (g0 9 5)
    · rw [if_pos hc] at u1
      rw [u1]; exact s0
    · rw [if_neg hc] at u1
      obtain ⟨g1, u4, v5⟩ := u1
      have s6 : xk_eqv [0, 1, 2, 3, 4, 11, 12, 13, 14, 15, 16, 17, 18, 19, 20, 21, 22, 23, 24, 25, 26, 27, 28, 29, 30, 31, 32, 33] g0 g1 := by rw [u4]; repeat (first | exact s0 | refine xk_eqv_up (by decide) ?_)
      obtain ⟨x1, u7, v8⟩ := v5
      obtain ⟨g2, u9, v10⟩ := v8
      have s11 : xk_eqv [0, 1, 2, 3, 4, 11, 12, 13, 14, 15, 16, 17, 18, 19, 20, 21, 22, 23, 24, 25, 26, 27, 28, 29, 30, 31, 32, 33] g0 g2 := by rw [u9]; repeat (first | exact s6 | refine xk_eqv_up (by decide) ?_)
      rw [v10]; exact s11
  obtain ⟨g6, u12, v13⟩ := v2
  have s14 : xk_eqv [0, 1, 2, 3, 4, 11, 12, 13, 14, 15, 16, 17, 18, 19, 20, 21, 22, 23, 24, 25, 26, 27, 28, 29, 30, 31, 32, 33] g0 g6 := by
    by_cases hc : (qzU_signalIsDue_1 g3) = (g3 10 5)
    · rw [if_pos hc] at u12
      rw [u12]; exact s3
    · rw [if_neg hc] at u12
      obtain ⟨g4, u15, v16⟩ := u12
      have s17 : xk_eqv [0, 1, 2, 3, 4, 11, 12, 13, 14, 15, 16, 17, 18, 19, 20, 21, 22, 23, 24, 25, 26, 27, 28, 29, 30, 31, 32, 33] g0 g4 := by rw [u15]; repeat (first | exact s3 | refine xk_eqv_up (by decide) ?_)
      obtain ⟨x2, u18, v19⟩ := v16
      obtain ⟨g5, u20, v21⟩ := v19
      have s22 : xk_eqv [0, 1, 2, 3, 4, 11, 12, 13, 14, 15, 16, 17, 18, 19, 20, 21, 22, 23, 24, 25, 26, 27, 28, 29, 30, 31, 32, 33] g0 g5 := by rw [u20]; repeat (first | exact s17 | refine xk_eqv_up (by decide) ?_)
      rw [v21]; exact s22
  rw [v13]; exact s14

