def relzM_allPulses (g0 : xk_St) (gz : xk_St) : Prop := ∃ (g1 : xk_St), g1 = va_up g0 4 (upd (g0 4) 0 ((g0 3) 0)) ∧ (∃ (g2 : xk_St), g2 = va_up g1 4 (upd (g1 4) 1 ((g1 3) 1)) ∧ (∃ (g3 : xk_St), g3 = va_up g2 4 (upd (g2 4) 2 ((g2 3) 2)) ∧ (∃ (g4 : xk_St), g4 = va_up g3 4 (upd (g3 4) 3 ((g3 3) 3)) ∧ (∃ (g5 : xk_St), g5 = va_up g4 4 (upd (g4 4) 4 ((g4 3) 4)) ∧ (∃ (g6 : xk_St), g6 = va_up g5 4 (upd (g5 4) 5 ((g5 3) 5)) ∧ (∃ (g7 : xk_St), g7 = va_up g6 12 (upd (g6 12) 0 0) ∧ (∃ (g8 : xk_St), g8 = va_up g7 12 (upd (g7 12) 1 0) ∧ (∃ (g9 : xk_St), g9 = va_up g8 12 (upd (g8 12) 2 0) ∧ (∃ (g10 : xk_St), g10 = va_up g9 12 (upd (g9 12) 3 0) ∧ (∃ (g11 : xk_St), g11 = va_up g10 1 (upd (g10 1) 0 0) ∧ (∃ (g13 : xk_St), (if ((g10 1) 0) = 0 then (g13 = g11) else (if ((g11 2) 0) = 0 then (∃ (g12 : xk_St), relzM_counts_0_0 g11 ((g10 1) 0) g12 ∧ (g13 = g12)) else (g13 = g11))) ∧ (∃ (g14 : xk_St), g14 = va_up g13 1 (upd (g13 1) 1 0) ∧ (∃ (g16 : xk_St), (if ((g13 1) 1) = 0 then (g16 = g14) else (if ((g14 2) 1) = 0 then (∃ (g15 : xk_St), relzM_counts_0_1 g14 ((g13 1) 1) g15 ∧ (g16 = g15)) else (g16 = g14))) ∧ (∃ (g17 : xk_St), g17 = va_up g16 1 (upd (g16 1) 2 0) ∧ (∃ (g19 : xk_St), (if ((g16 1) 2) = 0 then (g19 = g17) else (if ((g17 2) 2) = 0 then (∃ (g18 : xk_St), relzM_counts_0_2 g17 ((g16 1) 2) g18 ∧ (g19 = g18)) else (g19 = g17))) ∧ (∃ (g20 : xk_St), g20 = va_up g19 1 (upd (g19 1) 3 0) ∧ (∃ (g22 : xk_St), (if ((g19 1) 3) = 0 then (g22 = g20) else (if ((g20 2) 3) = 0 then (∃ (g21 : xk_St), relzM_counts_0_3 g20 ((g19 1) 3) g21 ∧ (g22 = g21)) else (g22 = g20))) ∧ (∃ (g23 : xk_St), g23 = va_up g22 1 (upd (g22 1) 4 0) ∧ (∃ (g25 : xk_St), (if ((g22 1) 4) = 0 then (g25 = g23) else (if ((g23 2) 4) = 0 then (∃ (g24 : xk_St), relzM_counts_1_0 g23 ((g22 1) 4) g24 ∧ (g25 = g24)) else (g25 = g23))) ∧ (∃ (g26 : xk_St), g26 = va_up g25 1 (upd (g25 1) 5 0) ∧ (∃ (g28 : xk_St), (if ((g25 1) 5) = 0 then (g28 = g26) else (if ((g26 2) 5) = 0 then (∃ (g27 : xk_St), relzM_counts_1_1 g26 ((g25 1) 5) g27 ∧ (g28 = g27)) else (g28 = g26))) ∧ (∃ (g29 : xk_St), g29 = va_up g28 1 (upd (g28 1) 6 0) ∧ (∃ (g31 : xk_St), (if ((g28 1) 6) = 0 then (g31 = g29) else (if ((g29 2) 6) = 0 then (∃ (g30 : xk_St), relzM_counts_1_2 g29 ((g28 1) 6) g30 ∧ (g31 = g30)) else (g31 = g29))) ∧ (∃ (g32 : xk_St), g32 = va_up g31 1 (upd (g31 1) 7 0) ∧ (∃ (g34 : xk_St), (if ((g31 1) 7) = 0 then (g34 = g32) else (if ((g32 2) 7) = 0 then (∃ (g33 : xk_St), relzM_counts_1_3 g32 ((g31 1) 7) g33 ∧ (g34 = g33)) else (g34 = g32))) ∧ (gz = g34))))))))))))))))))))))))))
set_option maxHeartbeats 4000000 in
set_option maxRecDepth 100000 in
theorem kzM_allPulses (l : Launch) (G : va_G) (ac : Nat → ClassId) (ad : Nat → Nat) (g0 : xk_St) (B : Nat) (Ig0 : xk_cnt B g0) (hB : B + 13 < 2147483648) : xk_CV l yzM_allPulses czM_allPulses 3 xk_WS xk_r4 G xk_cls (xk_tys ac) [.ref (ad 0)] (xk_wM ad ac g0) (fun (gz : xk_St) => relzM_allPulses g0 gz) (fun gz => xk_wM ad ac gz) := by
  refine xk_ofV (by decide) (Nat.le_of_ble_eq_true rfl) ?_
  intro p e s m args below meth c A Q H locs ls C0 hret hP hD hS hl
  obtain ⟨hx, hb, hml, hts, hown, hK, hA⟩ := C0
  have hl : lv_has ls 3 [(0, .ref (ad 0))] := hl
  have Ig0 : xk_cnt (B + 0) g0 := Ig0
  refine lv_iconst (v := 0) (pc := 0) hx hb dzM_allPulses_0 (by decide) ?_
  refine lv_istore_n (lv' := [(1, .int 0), (0, .ref (ad 0))]) (pc := 1) hx hb dzM_allPulses_1 rfl hl (by decide) rfl (fun ls hl => ?_)
  refine lv_iload_n (pc := 2) hx hb dzM_allPulses_2 rfl (lv_at hl 0 rfl) ?_
  refine lv_bipush (v := 6) (pc := 3) hx hb dzM_allPulses_3 (by decide) ?_
  refine lv_icmp_ge (pc := 5) (tgt := 26) hx hb dzM_allPulses_5 (by decide) (fun hq9 => absurd hq9 (by decide)) (fun _ => ?_)
  refine lv_aload_n (pc := 8) hx hb dzM_allPulses_8 rfl (lv_at hl 1 rfl) ?_
  refine xk_get (pc := 9) hx hb hts hown hK hP ffzM_20 0 rfl rfl dzM_allPulses_9 ?_
  refine lv_iload_n (pc := 12) hx hb dzM_allPulses_12 rfl (lv_at hl 0 rfl) ?_
  refine lv_aload_n (pc := 13) hx hb dzM_allPulses_13 rfl (lv_at hl 1 rfl) ?_
  refine xk_get (pc := 14) hx hb hts hown hK hP ffzM_17 0 rfl rfl dzM_allPulses_14 ?_
  refine lv_iload_n (pc := 17) hx hb dzM_allPulses_17 rfl (lv_at hl 0 rfl) ?_
  refine xk_iald (q0 := 3) (t0 := 0) (j := 0) (pc := 18) hx hb hK hP rfl rfl (pk_in 0 6 (by decide)) (pk_cl 0) dzM_allPulses_18 ?_
  refine xk_iast (q0 := 4) (t0 := 0) (j := 0) (pc := 19) hx hb hK hP hD hS rfl rfl (pk_in 0 6 (by decide)) (pk_cl 0) dzM_allPulses_19 (fun H locs hP hD hS => ?_)
  obtain ⟨g1, eg1⟩ : ∃ z : xk_St, z = va_up g0 4 (upd (g0 4) 0 ((g0 3) 0)) := ⟨_, rfl⟩
  have hP : va_P G xk_cls (xk_wM ad ac g1) H := by rw [eg1]; exact hP
  have hD : va_D A (xk_wM ad ac g1) := by rw [eg1]; exact hD
  have Ig1 : xk_cnt (B + 0) g1 := by rw [eg1]; repeat (first | exact Ig0 | refine xk_cnt_k (by decide) ?_ | refine xk_cnt_f (by decide) ?_ | refine xk_cnt_s ?_)
  refine lv_iinc (k := 0) (x := 0) (v := 1) (lv' := [(1, .int 1), (0, .ref (ad 0))]) (pc := 20) hx hb dzM_allPulses_20 hl rfl (by decide) (by decide) rfl (fun ls hl => ?_)
  refine lv_goto (tgt := 2) (pc := 23) hx hb dzM_allPulses_23 (by decide) ?_
  refine lv_iload_n (pc := 2) hx hb dzM_allPulses_2 rfl (lv_at hl 0 rfl) ?_
  refine lv_bipush (v := 6) (pc := 3) hx hb dzM_allPulses_3 (by decide) ?_
  refine lv_icmp_ge (pc := 5) (tgt := 26) hx hb dzM_allPulses_5 (by decide) (fun hq9 => absurd hq9 (by decide)) (fun _ => ?_)
  refine lv_aload_n (pc := 8) hx hb dzM_allPulses_8 rfl (lv_at hl 1 rfl) ?_
  refine xk_get (pc := 9) hx hb hts hown hK hP ffzM_20 0 rfl rfl dzM_allPulses_9 ?_
  refine lv_iload_n (pc := 12) hx hb dzM_allPulses_12 rfl (lv_at hl 0 rfl) ?_
  refine lv_aload_n (pc := 13) hx hb dzM_allPulses_13 rfl (lv_at hl 1 rfl) ?_
  refine xk_get (pc := 14) hx hb hts hown hK hP ffzM_17 0 rfl rfl dzM_allPulses_14 ?_
  refine lv_iload_n (pc := 17) hx hb dzM_allPulses_17 rfl (lv_at hl 0 rfl) ?_
  refine xk_iald (q0 := 3) (t0 := 0) (j := 1) (pc := 18) hx hb hK hP rfl rfl (pk_in 1 6 (by decide)) (pk_cl 1) dzM_allPulses_18 ?_
  refine xk_iast (q0 := 4) (t0 := 0) (j := 1) (pc := 19) hx hb hK hP hD hS rfl rfl (pk_in 1 6 (by decide)) (pk_cl 1) dzM_allPulses_19 (fun H locs hP hD hS => ?_)
  obtain ⟨g2, eg2⟩ : ∃ z : xk_St, z = va_up g1 4 (upd (g1 4) 1 ((g1 3) 1)) := ⟨_, rfl⟩
  have hP : va_P G xk_cls (xk_wM ad ac g2) H := by rw [eg2]; exact hP
  have hD : va_D A (xk_wM ad ac g2) := by rw [eg2]; exact hD
  have Ig2 : xk_cnt (B + 0) g2 := by rw [eg2]; repeat (first | exact Ig1 | refine xk_cnt_k (by decide) ?_ | refine xk_cnt_f (by decide) ?_ | refine xk_cnt_s ?_)
  refine lv_iinc (k := 0) (x := 1) (v := 2) (lv' := [(1, .int 2), (0, .ref (ad 0))]) (pc := 20) hx hb dzM_allPulses_20 hl rfl (by decide) (by decide) rfl (fun ls hl => ?_)
  refine lv_goto (tgt := 2) (pc := 23) hx hb dzM_allPulses_23 (by decide) ?_
  refine lv_iload_n (pc := 2) hx hb dzM_allPulses_2 rfl (lv_at hl 0 rfl) ?_
  refine lv_bipush (v := 6) (pc := 3) hx hb dzM_allPulses_3 (by decide) ?_
  refine lv_icmp_ge (pc := 5) (tgt := 26) hx hb dzM_allPulses_5 (by decide) (fun hq9 => absurd hq9 (by decide)) (fun _ => ?_)
  refine lv_aload_n (pc := 8) hx hb dzM_allPulses_8 rfl (lv_at hl 1 rfl) ?_
  refine xk_get (pc := 9) hx hb hts hown hK hP ffzM_20 0 rfl rfl dzM_allPulses_9 ?_
  refine lv_iload_n (pc := 12) hx hb dzM_allPulses_12 rfl (lv_at hl 0 rfl) ?_
  refine lv_aload_n (pc := 13) hx hb dzM_allPulses_13 rfl (lv_at hl 1 rfl) ?_
  refine xk_get (pc := 14) hx hb hts hown hK hP ffzM_17 0 rfl rfl dzM_allPulses_14 ?_
  refine lv_iload_n (pc := 17) hx hb dzM_allPulses_17 rfl (lv_at hl 0 rfl) ?_
  refine xk_iald (q0 := 3) (t0 := 0) (j := 2) (pc := 18) hx hb hK hP rfl rfl (pk_in 2 6 (by decide)) (pk_cl 2) dzM_allPulses_18 ?_
  refine xk_iast (q0 := 4) (t0 := 0) (j := 2) (pc := 19) hx hb hK hP hD hS rfl rfl (pk_in 2 6 (by decide)) (pk_cl 2) dzM_allPulses_19 (fun H locs hP hD hS => ?_)
  obtain ⟨g3, eg3⟩ : ∃ z : xk_St, z = va_up g2 4 (upd (g2 4) 2 ((g2 3) 2)) := ⟨_, rfl⟩
  have hP : va_P G xk_cls (xk_wM ad ac g3) H := by rw [eg3]; exact hP
  have hD : va_D A (xk_wM ad ac g3) := by rw [eg3]; exact hD
  have Ig3 : xk_cnt (B + 0) g3 := by rw [eg3]; repeat (first | exact Ig2 | refine xk_cnt_k (by decide) ?_ | refine xk_cnt_f (by decide) ?_ | refine xk_cnt_s ?_)
  refine lv_iinc (k := 0) (x := 2) (v := 3) (lv' := [(1, .int 3), (0, .ref (ad 0))]) (pc := 20) hx hb dzM_allPulses_20 hl rfl (by decide) (by decide) rfl (fun ls hl => ?_)
  refine lv_goto (tgt := 2) (pc := 23) hx hb dzM_allPulses_23 (by decide) ?_
  refine lv_iload_n (pc := 2) hx hb dzM_allPulses_2 rfl (lv_at hl 0 rfl) ?_
  refine lv_bipush (v := 6) (pc := 3) hx hb dzM_allPulses_3 (by decide) ?_
  refine lv_icmp_ge (pc := 5) (tgt := 26) hx hb dzM_allPulses_5 (by decide) (fun hq9 => absurd hq9 (by decide)) (fun _ => ?_)
  refine lv_aload_n (pc := 8) hx hb dzM_allPulses_8 rfl (lv_at hl 1 rfl) ?_
  refine xk_get (pc := 9) hx hb hts hown hK hP ffzM_20 0 rfl rfl dzM_allPulses_9 ?_
  refine lv_iload_n (pc := 12) hx hb dzM_allPulses_12 rfl (lv_at hl 0 rfl) ?_
  refine lv_aload_n (pc := 13) hx hb dzM_allPulses_13 rfl (lv_at hl 1 rfl) ?_
  refine xk_get (pc := 14) hx hb hts hown hK hP ffzM_17 0 rfl rfl dzM_allPulses_14 ?_
  refine lv_iload_n (pc := 17) hx hb dzM_allPulses_17 rfl (lv_at hl 0 rfl) ?_
  refine xk_iald (q0 := 3) (t0 := 0) (j := 3) (pc := 18) hx hb hK hP rfl rfl (pk_in 3 6 (by decide)) (pk_cl 3) dzM_allPulses_18 ?_
  refine xk_iast (q0 := 4) (t0 := 0) (j := 3) (pc := 19) hx hb hK hP hD hS rfl rfl (pk_in 3 6 (by decide)) (pk_cl 3) dzM_allPulses_19 (fun H locs hP hD hS => ?_)
  obtain ⟨g4, eg4⟩ : ∃ z : xk_St, z = va_up g3 4 (upd (g3 4) 3 ((g3 3) 3)) := ⟨_, rfl⟩
  have hP : va_P G xk_cls (xk_wM ad ac g4) H := by rw [eg4]; exact hP
  have hD : va_D A (xk_wM ad ac g4) := by rw [eg4]; exact hD
  have Ig4 : xk_cnt (B + 0) g4 := by rw [eg4]; repeat (first | exact Ig3 | refine xk_cnt_k (by decide) ?_ | refine xk_cnt_f (by decide) ?_ | refine xk_cnt_s ?_)
  refine lv_iinc (k := 0) (x := 3) (v := 4) (lv' := [(1, .int 4), (0, .ref (ad 0))]) (pc := 20) hx hb dzM_allPulses_20 hl rfl (by decide) (by decide) rfl (fun ls hl => ?_)
  refine lv_goto (tgt := 2) (pc := 23) hx hb dzM_allPulses_23 (by decide) ?_
  refine lv_iload_n (pc := 2) hx hb dzM_allPulses_2 rfl (lv_at hl 0 rfl) ?_
  refine lv_bipush (v := 6) (pc := 3) hx hb dzM_allPulses_3 (by decide) ?_
  refine lv_icmp_ge (pc := 5) (tgt := 26) hx hb dzM_allPulses_5 (by decide) (fun hq9 => absurd hq9 (by decide)) (fun _ => ?_)
  refine lv_aload_n (pc := 8) hx hb dzM_allPulses_8 rfl (lv_at hl 1 rfl) ?_
  refine xk_get (pc := 9) hx hb hts hown hK hP ffzM_20 0 rfl rfl dzM_allPulses_9 ?_
  refine lv_iload_n (pc := 12) hx hb dzM_allPulses_12 rfl (lv_at hl 0 rfl) ?_
  refine lv_aload_n (pc := 13) hx hb dzM_allPulses_13 rfl (lv_at hl 1 rfl) ?_
  refine xk_get (pc := 14) hx hb hts hown hK hP ffzM_17 0 rfl rfl dzM_allPulses_14 ?_
  refine lv_iload_n (pc := 17) hx hb dzM_allPulses_17 rfl (lv_at hl 0 rfl) ?_
  refine xk_iald (q0 := 3) (t0 := 0) (j := 4) (pc := 18) hx hb hK hP rfl rfl (pk_in 4 6 (by decide)) (pk_cl 4) dzM_allPulses_18 ?_
  refine xk_iast (q0 := 4) (t0 := 0) (j := 4) (pc := 19) hx hb hK hP hD hS rfl rfl (pk_in 4 6 (by decide)) (pk_cl 4) dzM_allPulses_19 (fun H locs hP hD hS => ?_)
  obtain ⟨g5, eg5⟩ : ∃ z : xk_St, z = va_up g4 4 (upd (g4 4) 4 ((g4 3) 4)) := ⟨_, rfl⟩
  have hP : va_P G xk_cls (xk_wM ad ac g5) H := by rw [eg5]; exact hP
  have hD : va_D A (xk_wM ad ac g5) := by rw [eg5]; exact hD
  have Ig5 : xk_cnt (B + 0) g5 := by rw [eg5]; repeat (first | exact Ig4 | refine xk_cnt_k (by decide) ?_ | refine xk_cnt_f (by decide) ?_ | refine xk_cnt_s ?_)
  refine lv_iinc (k := 0) (x := 4) (v := 5) (lv' := [(1, .int 5), (0, .ref (ad 0))]) (pc := 20) hx hb dzM_allPulses_20 hl rfl (by decide) (by decide) rfl (fun ls hl => ?_)
  refine lv_goto (tgt := 2) (pc := 23) hx hb dzM_allPulses_23 (by decide) ?_
  refine lv_iload_n (pc := 2) hx hb dzM_allPulses_2 rfl (lv_at hl 0 rfl) ?_
  refine lv_bipush (v := 6) (pc := 3) hx hb dzM_allPulses_3 (by decide) ?_
  refine lv_icmp_ge (pc := 5) (tgt := 26) hx hb dzM_allPulses_5 (by decide) (fun hq9 => absurd hq9 (by decide)) (fun _ => ?_)
  refine lv_aload_n (pc := 8) hx hb dzM_allPulses_8 rfl (lv_at hl 1 rfl) ?_
  refine xk_get (pc := 9) hx hb hts hown hK hP ffzM_20 0 rfl rfl dzM_allPulses_9 ?_
  refine lv_iload_n (pc := 12) hx hb dzM_allPulses_12 rfl (lv_at hl 0 rfl) ?_
  refine lv_aload_n (pc := 13) hx hb dzM_allPulses_13 rfl (lv_at hl 1 rfl) ?_
  refine xk_get (pc := 14) hx hb hts hown hK hP ffzM_17 0 rfl rfl dzM_allPulses_14 ?_
  refine lv_iload_n (pc := 17) hx hb dzM_allPulses_17 rfl (lv_at hl 0 rfl) ?_
  refine xk_iald (q0 := 3) (t0 := 0) (j := 5) (pc := 18) hx hb hK hP rfl rfl (pk_in 5 6 (by decide)) (pk_cl 5) dzM_allPulses_18 ?_
  refine xk_iast (q0 := 4) (t0 := 0) (j := 5) (pc := 19) hx hb hK hP hD hS rfl rfl (pk_in 5 6 (by decide)) (pk_cl 5) dzM_allPulses_19 (fun H locs hP hD hS => ?_)
  obtain ⟨g6, eg6⟩ : ∃ z : xk_St, z = va_up g5 4 (upd (g5 4) 5 ((g5 3) 5)) := ⟨_, rfl⟩
  have hP : va_P G xk_cls (xk_wM ad ac g6) H := by rw [eg6]; exact hP
  have hD : va_D A (xk_wM ad ac g6) := by rw [eg6]; exact hD
  have Ig6 : xk_cnt (B + 0) g6 := by rw [eg6]; repeat (first | exact Ig5 | refine xk_cnt_k (by decide) ?_ | refine xk_cnt_f (by decide) ?_ | refine xk_cnt_s ?_)
  refine lv_iinc (k := 0) (x := 5) (v := 6) (lv' := [(1, .int 6), (0, .ref (ad 0))]) (pc := 20) hx hb dzM_allPulses_20 hl rfl (by decide) (by decide) rfl (fun ls hl => ?_)
  refine lv_goto (tgt := 2) (pc := 23) hx hb dzM_allPulses_23 (by decide) ?_
  refine lv_iload_n (pc := 2) hx hb dzM_allPulses_2 rfl (lv_at hl 0 rfl) ?_
  refine lv_bipush (v := 6) (pc := 3) hx hb dzM_allPulses_3 (by decide) ?_
  refine lv_icmp_ge (pc := 5) (tgt := 26) hx hb dzM_allPulses_5 (by decide) (fun _ => ?_) (fun hq9 => absurd (by decide) hq9)
  refine lv_iconst (v := 0) (pc := 26) hx hb dzM_allPulses_26 (by decide) ?_
  refine lv_istore_n (lv' := [(1, .int 0), (0, .ref (ad 0))]) (pc := 27) hx hb dzM_allPulses_27 rfl hl (by decide) rfl (fun ls hl => ?_)
  refine lv_iload_n (pc := 28) hx hb dzM_allPulses_28 rfl (lv_at hl 0 rfl) ?_
  refine lv_iconst (v := 4) (pc := 29) hx hb dzM_allPulses_29 (by decide) ?_
  refine lv_icmp_ge (pc := 30) (tgt := 46) hx hb dzM_allPulses_30 (by decide) (fun hq9 => absurd hq9 (by decide)) (fun _ => ?_)
  refine lv_aload_n (pc := 33) hx hb dzM_allPulses_33 rfl (lv_at hl 1 rfl) ?_
  refine xk_get (pc := 34) hx hb hts hown hK hP ffzM_44 0 rfl rfl dzM_allPulses_34 ?_
  refine lv_iload_n (pc := 37) hx hb dzM_allPulses_37 rfl (lv_at hl 0 rfl) ?_
  refine lv_iconst (v := 0) (pc := 38) hx hb dzM_allPulses_38 (by decide) ?_
  refine xk_zast (q0 := 12) (t0 := 1) (j := 0) (pc := 39) hx hb hK hP hD hS rfl rfl (pk_in 0 4 (by decide)) (pk_cl 0) xk_b0 dzM_allPulses_39 (fun H locs hP hD hS => ?_)
  obtain ⟨g7, eg7⟩ : ∃ z : xk_St, z = va_up g6 12 (upd (g6 12) 0 0) := ⟨_, rfl⟩
  have hP : va_P G xk_cls (xk_wM ad ac g7) H := by rw [eg7]; exact hP
  have hD : va_D A (xk_wM ad ac g7) := by rw [eg7]; exact hD
  have Ig7 : xk_cnt (B + 0) g7 := by rw [eg7]; repeat (first | exact Ig6 | refine xk_cnt_k (by decide) ?_ | refine xk_cnt_f (by decide) ?_ | refine xk_cnt_s ?_)
  refine lv_iinc (k := 0) (x := 0) (v := 1) (lv' := [(1, .int 1), (0, .ref (ad 0))]) (pc := 40) hx hb dzM_allPulses_40 hl rfl (by decide) (by decide) rfl (fun ls hl => ?_)
  refine lv_goto (tgt := 28) (pc := 43) hx hb dzM_allPulses_43 (by decide) ?_
  refine lv_iload_n (pc := 28) hx hb dzM_allPulses_28 rfl (lv_at hl 0 rfl) ?_
  refine lv_iconst (v := 4) (pc := 29) hx hb dzM_allPulses_29 (by decide) ?_
  refine lv_icmp_ge (pc := 30) (tgt := 46) hx hb dzM_allPulses_30 (by decide) (fun hq9 => absurd hq9 (by decide)) (fun _ => ?_)
  refine lv_aload_n (pc := 33) hx hb dzM_allPulses_33 rfl (lv_at hl 1 rfl) ?_
  refine xk_get (pc := 34) hx hb hts hown hK hP ffzM_44 0 rfl rfl dzM_allPulses_34 ?_
  refine lv_iload_n (pc := 37) hx hb dzM_allPulses_37 rfl (lv_at hl 0 rfl) ?_
  refine lv_iconst (v := 0) (pc := 38) hx hb dzM_allPulses_38 (by decide) ?_
  refine xk_zast (q0 := 12) (t0 := 1) (j := 1) (pc := 39) hx hb hK hP hD hS rfl rfl (pk_in 1 4 (by decide)) (pk_cl 1) xk_b0 dzM_allPulses_39 (fun H locs hP hD hS => ?_)
  obtain ⟨g8, eg8⟩ : ∃ z : xk_St, z = va_up g7 12 (upd (g7 12) 1 0) := ⟨_, rfl⟩
  have hP : va_P G xk_cls (xk_wM ad ac g8) H := by rw [eg8]; exact hP
  have hD : va_D A (xk_wM ad ac g8) := by rw [eg8]; exact hD
  have Ig8 : xk_cnt (B + 0) g8 := by rw [eg8]; repeat (first | exact Ig7 | refine xk_cnt_k (by decide) ?_ | refine xk_cnt_f (by decide) ?_ | refine xk_cnt_s ?_)
  refine lv_iinc (k := 0) (x := 1) (v := 2) (lv' := [(1, .int 2), (0, .ref (ad 0))]) (pc := 40) hx hb dzM_allPulses_40 hl rfl (by decide) (by decide) rfl (fun ls hl => ?_)
  refine lv_goto (tgt := 28) (pc := 43) hx hb dzM_allPulses_43 (by decide) ?_
  refine lv_iload_n (pc := 28) hx hb dzM_allPulses_28 rfl (lv_at hl 0 rfl) ?_
  refine lv_iconst (v := 4) (pc := 29) hx hb dzM_allPulses_29 (by decide) ?_
  refine lv_icmp_ge (pc := 30) (tgt := 46) hx hb dzM_allPulses_30 (by decide) (fun hq9 => absurd hq9 (by decide)) (fun _ => ?_)
  refine lv_aload_n (pc := 33) hx hb dzM_allPulses_33 rfl (lv_at hl 1 rfl) ?_
  refine xk_get (pc := 34) hx hb hts hown hK hP ffzM_44 0 rfl rfl dzM_allPulses_34 ?_
  refine lv_iload_n (pc := 37) hx hb dzM_allPulses_37 rfl (lv_at hl 0 rfl) ?_
  refine lv_iconst (v := 0) (pc := 38) hx hb dzM_allPulses_38 (by decide) ?_
  refine xk_zast (q0 := 12) (t0 := 1) (j := 2) (pc := 39) hx hb hK hP hD hS rfl rfl (pk_in 2 4 (by decide)) (pk_cl 2) xk_b0 dzM_allPulses_39 (fun H locs hP hD hS => ?_)
  obtain ⟨g9, eg9⟩ : ∃ z : xk_St, z = va_up g8 12 (upd (g8 12) 2 0) := ⟨_, rfl⟩
  have hP : va_P G xk_cls (xk_wM ad ac g9) H := by rw [eg9]; exact hP
  have hD : va_D A (xk_wM ad ac g9) := by rw [eg9]; exact hD
  have Ig9 : xk_cnt (B + 0) g9 := by rw [eg9]; repeat (first | exact Ig8 | refine xk_cnt_k (by decide) ?_ | refine xk_cnt_f (by decide) ?_ | refine xk_cnt_s ?_)
  refine lv_iinc (k := 0) (x := 2) (v := 3) (lv' := [(1, .int 3), (0, .ref (ad 0))]) (pc := 40) hx hb dzM_allPulses_40 hl rfl (by decide) (by decide) rfl (fun ls hl => ?_)
  refine lv_goto (tgt := 28) (pc := 43) hx hb dzM_allPulses_43 (by decide) ?_
  refine lv_iload_n (pc := 28) hx hb dzM_allPulses_28 rfl (lv_at hl 0 rfl) ?_
  refine lv_iconst (v := 4) (pc := 29) hx hb dzM_allPulses_29 (by decide) ?_
  refine lv_icmp_ge (pc := 30) (tgt := 46) hx hb dzM_allPulses_30 (by decide) (fun hq9 => absurd hq9 (by decide)) (fun _ => ?_)
  refine lv_aload_n (pc := 33) hx hb dzM_allPulses_33 rfl (lv_at hl 1 rfl) ?_
  refine xk_get (pc := 34) hx hb hts hown hK hP ffzM_44 0 rfl rfl dzM_allPulses_34 ?_
  refine lv_iload_n (pc := 37) hx hb dzM_allPulses_37 rfl (lv_at hl 0 rfl) ?_
  refine lv_iconst (v := 0) (pc := 38) hx hb dzM_allPulses_38 (by decide) ?_
  refine xk_zast (q0 := 12) (t0 := 1) (j := 3) (pc := 39) hx hb hK hP hD hS rfl rfl (pk_in 3 4 (by decide)) (pk_cl 3) xk_b0 dzM_allPulses_39 (fun H locs hP hD hS => ?_)
  obtain ⟨g10, eg10⟩ : ∃ z : xk_St, z = va_up g9 12 (upd (g9 12) 3 0) := ⟨_, rfl⟩
  have hP : va_P G xk_cls (xk_wM ad ac g10) H := by rw [eg10]; exact hP
  have hD : va_D A (xk_wM ad ac g10) := by rw [eg10]; exact hD
  have Ig10 : xk_cnt (B + 0) g10 := by rw [eg10]; repeat (first | exact Ig9 | refine xk_cnt_k (by decide) ?_ | refine xk_cnt_f (by decide) ?_ | refine xk_cnt_s ?_)
  refine lv_iinc (k := 0) (x := 3) (v := 4) (lv' := [(1, .int 4), (0, .ref (ad 0))]) (pc := 40) hx hb dzM_allPulses_40 hl rfl (by decide) (by decide) rfl (fun ls hl => ?_)
  refine lv_goto (tgt := 28) (pc := 43) hx hb dzM_allPulses_43 (by decide) ?_
  refine lv_iload_n (pc := 28) hx hb dzM_allPulses_28 rfl (lv_at hl 0 rfl) ?_
  refine lv_iconst (v := 4) (pc := 29) hx hb dzM_allPulses_29 (by decide) ?_
  refine lv_icmp_ge (pc := 30) (tgt := 46) hx hb dzM_allPulses_30 (by decide) (fun _ => ?_) (fun hq9 => absurd (by decide) hq9)
  refine lv_iconst (v := 0) (pc := 46) hx hb dzM_allPulses_46 (by decide) ?_
  refine lv_istore_n (lv' := [(1, .int 0), (0, .ref (ad 0))]) (pc := 47) hx hb dzM_allPulses_47 rfl hl (by decide) rfl (fun ls hl => ?_)
  refine lv_iload_n (pc := 48) hx hb dzM_allPulses_48 rfl (lv_at hl 0 rfl) ?_
  refine lv_bipush (v := 8) (pc := 49) hx hb dzM_allPulses_49 (by decide) ?_
  refine lv_icmp_ge (pc := 51) (tgt := 98) hx hb dzM_allPulses_51 (by decide) (fun hq9 => absurd hq9 (by decide)) (fun _ => ?_)
  refine lv_aload_n (pc := 54) hx hb dzM_allPulses_54 rfl (lv_at hl 1 rfl) ?_
  refine xk_get (pc := 55) hx hb hts hown hK hP ffzM_7 0 rfl rfl dzM_allPulses_55 ?_
  refine lv_iload_n (pc := 58) hx hb dzM_allPulses_58 rfl (lv_at hl 0 rfl) ?_
  refine xk_iald (q0 := 1) (t0 := 0) (j := 0) (pc := 59) hx hb hK hP rfl rfl (pk_in 0 8 (by decide)) (pk_cl 0) dzM_allPulses_59 ?_
  refine lv_istore_n (lv' := [(2, .int ((g10 1) 0)), (1, .int 0), (0, .ref (ad 0))]) (pc := 60) hx hb dzM_allPulses_60 rfl hl (by decide) rfl (fun ls hl => ?_)
  refine lv_aload_n (pc := 61) hx hb dzM_allPulses_61 rfl (lv_at hl 2 rfl) ?_
  refine xk_get (pc := 62) hx hb hts hown hK hP ffzM_7 0 rfl rfl dzM_allPulses_62 ?_
  refine lv_iload_n (pc := 65) hx hb dzM_allPulses_65 rfl (lv_at hl 1 rfl) ?_
  refine lv_iconst (v := 0) (pc := 66) hx hb dzM_allPulses_66 (by decide) ?_
  refine xk_iast (q0 := 1) (t0 := 0) (j := 0) (pc := 67) hx hb hK hP hD hS rfl rfl (pk_in 0 8 (by decide)) (pk_cl 0) dzM_allPulses_67 (fun H locs hP hD hS => ?_)
  obtain ⟨g11, eg11⟩ : ∃ z : xk_St, z = va_up g10 1 (upd (g10 1) 0 0) := ⟨_, rfl⟩
  have hP : va_P G xk_cls (xk_wM ad ac g11) H := by rw [eg11]; exact hP
  have hD : va_D A (xk_wM ad ac g11) := by rw [eg11]; exact hD
  have Ig11 : xk_cnt (B + 0) g11 := by rw [eg11]; repeat (first | exact Ig10 | refine xk_cnt_k (by decide) ?_ | refine xk_cnt_f (by decide) ?_ | refine xk_cnt_s ?_)
  refine lv_iload_n (pc := 68) hx hb dzM_allPulses_68 rfl (lv_at hl 0 rfl) ?_
  have K1 : ∀ (g13 : xk_St) (H : Heap) (locs : List Loc), (if ((g10 1) 0) = 0 then (g13 = g11) else (if ((g11 2) 0) = 0 then (∃ (g12 : xk_St), relzM_counts_0_0 g11 ((g10 1) 0) g12 ∧ (g13 = g12)) else (g13 = g11))) → (xk_cnt (B + 1) g13) → (va_P G xk_cls (xk_wM ad ac g13) H) → (va_D A (xk_wM ad ac g13)) → (va_S A s.heap H locs) → W p l e xk_r4 s m args below meth c H locs 0 0 Q (F0 m 92 ls []) := by
    intro g13 H locs R1 Ig13 hP hD hS
    refine lv_iinc (k := 1) (x := 0) (v := 1) (lv' := [(1, .int 1), (2, .int ((g10 1) 0)), (0, .ref (ad 0))]) (pc := 92) hx hb dzM_allPulses_92 hl rfl (by decide) (by decide) rfl (fun ls hl => ?_)
    refine lv_goto (tgt := 48) (pc := 95) hx hb dzM_allPulses_95 (by decide) ?_
    refine lv_iload_n (pc := 48) hx hb dzM_allPulses_48 rfl (lv_at hl 0 rfl) ?_
    refine lv_bipush (v := 8) (pc := 49) hx hb dzM_allPulses_49 (by decide) ?_
    refine lv_icmp_ge (pc := 51) (tgt := 98) hx hb dzM_allPulses_51 (by decide) (fun hq9 => absurd hq9 (by decide)) (fun _ => ?_)
    refine lv_aload_n (pc := 54) hx hb dzM_allPulses_54 rfl (lv_at hl 2 rfl) ?_
    refine xk_get (pc := 55) hx hb hts hown hK hP ffzM_7 0 rfl rfl dzM_allPulses_55 ?_
    refine lv_iload_n (pc := 58) hx hb dzM_allPulses_58 rfl (lv_at hl 0 rfl) ?_
    refine xk_iald (q0 := 1) (t0 := 0) (j := 1) (pc := 59) hx hb hK hP rfl rfl (pk_in 1 8 (by decide)) (pk_cl 1) dzM_allPulses_59 ?_
    refine lv_istore_n (lv' := [(2, .int ((g13 1) 1)), (1, .int 1), (0, .ref (ad 0))]) (pc := 60) hx hb dzM_allPulses_60 rfl hl (by decide) rfl (fun ls hl => ?_)
    refine lv_aload_n (pc := 61) hx hb dzM_allPulses_61 rfl (lv_at hl 2 rfl) ?_
    refine xk_get (pc := 62) hx hb hts hown hK hP ffzM_7 0 rfl rfl dzM_allPulses_62 ?_
    refine lv_iload_n (pc := 65) hx hb dzM_allPulses_65 rfl (lv_at hl 1 rfl) ?_
    refine lv_iconst (v := 0) (pc := 66) hx hb dzM_allPulses_66 (by decide) ?_
    refine xk_iast (q0 := 1) (t0 := 0) (j := 1) (pc := 67) hx hb hK hP hD hS rfl rfl (pk_in 1 8 (by decide)) (pk_cl 1) dzM_allPulses_67 (fun H locs hP hD hS => ?_)
    obtain ⟨g14, eg14⟩ : ∃ z : xk_St, z = va_up g13 1 (upd (g13 1) 1 0) := ⟨_, rfl⟩
    have hP : va_P G xk_cls (xk_wM ad ac g14) H := by rw [eg14]; exact hP
    have hD : va_D A (xk_wM ad ac g14) := by rw [eg14]; exact hD
    have Ig14 : xk_cnt (B + 1) g14 := by rw [eg14]; repeat (first | exact Ig13 | refine xk_cnt_k (by decide) ?_ | refine xk_cnt_f (by decide) ?_ | refine xk_cnt_s ?_)
    refine lv_iload_n (pc := 68) hx hb dzM_allPulses_68 rfl (lv_at hl 0 rfl) ?_
    have K2 : ∀ (g16 : xk_St) (H : Heap) (locs : List Loc), (if ((g13 1) 1) = 0 then (g16 = g14) else (if ((g14 2) 1) = 0 then (∃ (g15 : xk_St), relzM_counts_0_1 g14 ((g13 1) 1) g15 ∧ (g16 = g15)) else (g16 = g14))) → (xk_cnt (B + 3) g16) → (va_P G xk_cls (xk_wM ad ac g16) H) → (va_D A (xk_wM ad ac g16)) → (va_S A s.heap H locs) → W p l e xk_r4 s m args below meth c H locs 0 0 Q (F0 m 92 ls []) := by
      intro g16 H locs R2 Ig16 hP hD hS
      refine lv_iinc (k := 1) (x := 1) (v := 2) (lv' := [(1, .int 2), (2, .int ((g13 1) 1)), (0, .ref (ad 0))]) (pc := 92) hx hb dzM_allPulses_92 hl rfl (by decide) (by decide) rfl (fun ls hl => ?_)
      refine lv_goto (tgt := 48) (pc := 95) hx hb dzM_allPulses_95 (by decide) ?_
      refine lv_iload_n (pc := 48) hx hb dzM_allPulses_48 rfl (lv_at hl 0 rfl) ?_
      refine lv_bipush (v := 8) (pc := 49) hx hb dzM_allPulses_49 (by decide) ?_
      refine lv_icmp_ge (pc := 51) (tgt := 98) hx hb dzM_allPulses_51 (by decide) (fun hq9 => absurd hq9 (by decide)) (fun _ => ?_)
      refine lv_aload_n (pc := 54) hx hb dzM_allPulses_54 rfl (lv_at hl 2 rfl) ?_
      refine xk_get (pc := 55) hx hb hts hown hK hP ffzM_7 0 rfl rfl dzM_allPulses_55 ?_
      refine lv_iload_n (pc := 58) hx hb dzM_allPulses_58 rfl (lv_at hl 0 rfl) ?_
      refine xk_iald (q0 := 1) (t0 := 0) (j := 2) (pc := 59) hx hb hK hP rfl rfl (pk_in 2 8 (by decide)) (pk_cl 2) dzM_allPulses_59 ?_
      refine lv_istore_n (lv' := [(2, .int ((g16 1) 2)), (1, .int 2), (0, .ref (ad 0))]) (pc := 60) hx hb dzM_allPulses_60 rfl hl (by decide) rfl (fun ls hl => ?_)
      refine lv_aload_n (pc := 61) hx hb dzM_allPulses_61 rfl (lv_at hl 2 rfl) ?_
      refine xk_get (pc := 62) hx hb hts hown hK hP ffzM_7 0 rfl rfl dzM_allPulses_62 ?_
      refine lv_iload_n (pc := 65) hx hb dzM_allPulses_65 rfl (lv_at hl 1 rfl) ?_
      refine lv_iconst (v := 0) (pc := 66) hx hb dzM_allPulses_66 (by decide) ?_
      refine xk_iast (q0 := 1) (t0 := 0) (j := 2) (pc := 67) hx hb hK hP hD hS rfl rfl (pk_in 2 8 (by decide)) (pk_cl 2) dzM_allPulses_67 (fun H locs hP hD hS => ?_)
      obtain ⟨g17, eg17⟩ : ∃ z : xk_St, z = va_up g16 1 (upd (g16 1) 2 0) := ⟨_, rfl⟩
      have hP : va_P G xk_cls (xk_wM ad ac g17) H := by rw [eg17]; exact hP
      have hD : va_D A (xk_wM ad ac g17) := by rw [eg17]; exact hD
      have Ig17 : xk_cnt (B + 3) g17 := by rw [eg17]; repeat (first | exact Ig16 | refine xk_cnt_k (by decide) ?_ | refine xk_cnt_f (by decide) ?_ | refine xk_cnt_s ?_)
      refine lv_iload_n (pc := 68) hx hb dzM_allPulses_68 rfl (lv_at hl 0 rfl) ?_
      have K3 : ∀ (g19 : xk_St) (H : Heap) (locs : List Loc), (if ((g16 1) 2) = 0 then (g19 = g17) else (if ((g17 2) 2) = 0 then (∃ (g18 : xk_St), relzM_counts_0_2 g17 ((g16 1) 2) g18 ∧ (g19 = g18)) else (g19 = g17))) → (xk_cnt (B + 5) g19) → (va_P G xk_cls (xk_wM ad ac g19) H) → (va_D A (xk_wM ad ac g19)) → (va_S A s.heap H locs) → W p l e xk_r4 s m args below meth c H locs 0 0 Q (F0 m 92 ls []) := by
        intro g19 H locs R3 Ig19 hP hD hS
        refine lv_iinc (k := 1) (x := 2) (v := 3) (lv' := [(1, .int 3), (2, .int ((g16 1) 2)), (0, .ref (ad 0))]) (pc := 92) hx hb dzM_allPulses_92 hl rfl (by decide) (by decide) rfl (fun ls hl => ?_)
        refine lv_goto (tgt := 48) (pc := 95) hx hb dzM_allPulses_95 (by decide) ?_
        refine lv_iload_n (pc := 48) hx hb dzM_allPulses_48 rfl (lv_at hl 0 rfl) ?_
        refine lv_bipush (v := 8) (pc := 49) hx hb dzM_allPulses_49 (by decide) ?_
        refine lv_icmp_ge (pc := 51) (tgt := 98) hx hb dzM_allPulses_51 (by decide) (fun hq9 => absurd hq9 (by decide)) (fun _ => ?_)
        refine lv_aload_n (pc := 54) hx hb dzM_allPulses_54 rfl (lv_at hl 2 rfl) ?_
        refine xk_get (pc := 55) hx hb hts hown hK hP ffzM_7 0 rfl rfl dzM_allPulses_55 ?_
        refine lv_iload_n (pc := 58) hx hb dzM_allPulses_58 rfl (lv_at hl 0 rfl) ?_
        refine xk_iald (q0 := 1) (t0 := 0) (j := 3) (pc := 59) hx hb hK hP rfl rfl (pk_in 3 8 (by decide)) (pk_cl 3) dzM_allPulses_59 ?_
        refine lv_istore_n (lv' := [(2, .int ((g19 1) 3)), (1, .int 3), (0, .ref (ad 0))]) (pc := 60) hx hb dzM_allPulses_60 rfl hl (by decide) rfl (fun ls hl => ?_)
        refine lv_aload_n (pc := 61) hx hb dzM_allPulses_61 rfl (lv_at hl 2 rfl) ?_
        refine xk_get (pc := 62) hx hb hts hown hK hP ffzM_7 0 rfl rfl dzM_allPulses_62 ?_
        refine lv_iload_n (pc := 65) hx hb dzM_allPulses_65 rfl (lv_at hl 1 rfl) ?_
        refine lv_iconst (v := 0) (pc := 66) hx hb dzM_allPulses_66 (by decide) ?_
        refine xk_iast (q0 := 1) (t0 := 0) (j := 3) (pc := 67) hx hb hK hP hD hS rfl rfl (pk_in 3 8 (by decide)) (pk_cl 3) dzM_allPulses_67 (fun H locs hP hD hS => ?_)
        obtain ⟨g20, eg20⟩ : ∃ z : xk_St, z = va_up g19 1 (upd (g19 1) 3 0) := ⟨_, rfl⟩
        have hP : va_P G xk_cls (xk_wM ad ac g20) H := by rw [eg20]; exact hP
        have hD : va_D A (xk_wM ad ac g20) := by rw [eg20]; exact hD
        have Ig20 : xk_cnt (B + 5) g20 := by rw [eg20]; repeat (first | exact Ig19 | refine xk_cnt_k (by decide) ?_ | refine xk_cnt_f (by decide) ?_ | refine xk_cnt_s ?_)
        refine lv_iload_n (pc := 68) hx hb dzM_allPulses_68 rfl (lv_at hl 0 rfl) ?_
        have K4 : ∀ (g22 : xk_St) (H : Heap) (locs : List Loc), (if ((g19 1) 3) = 0 then (g22 = g20) else (if ((g20 2) 3) = 0 then (∃ (g21 : xk_St), relzM_counts_0_3 g20 ((g19 1) 3) g21 ∧ (g22 = g21)) else (g22 = g20))) → (xk_cnt (B + 6) g22) → (va_P G xk_cls (xk_wM ad ac g22) H) → (va_D A (xk_wM ad ac g22)) → (va_S A s.heap H locs) → W p l e xk_r4 s m args below meth c H locs 0 0 Q (F0 m 92 ls []) := by
          intro g22 H locs R4 Ig22 hP hD hS
          refine lv_iinc (k := 1) (x := 3) (v := 4) (lv' := [(1, .int 4), (2, .int ((g19 1) 3)), (0, .ref (ad 0))]) (pc := 92) hx hb dzM_allPulses_92 hl rfl (by decide) (by decide) rfl (fun ls hl => ?_)
          refine lv_goto (tgt := 48) (pc := 95) hx hb dzM_allPulses_95 (by decide) ?_
          refine lv_iload_n (pc := 48) hx hb dzM_allPulses_48 rfl (lv_at hl 0 rfl) ?_
          refine lv_bipush (v := 8) (pc := 49) hx hb dzM_allPulses_49 (by decide) ?_
          refine lv_icmp_ge (pc := 51) (tgt := 98) hx hb dzM_allPulses_51 (by decide) (fun hq9 => absurd hq9 (by decide)) (fun _ => ?_)
          refine lv_aload_n (pc := 54) hx hb dzM_allPulses_54 rfl (lv_at hl 2 rfl) ?_
          refine xk_get (pc := 55) hx hb hts hown hK hP ffzM_7 0 rfl rfl dzM_allPulses_55 ?_
          refine lv_iload_n (pc := 58) hx hb dzM_allPulses_58 rfl (lv_at hl 0 rfl) ?_
          refine xk_iald (q0 := 1) (t0 := 0) (j := 4) (pc := 59) hx hb hK hP rfl rfl (pk_in 4 8 (by decide)) (pk_cl 4) dzM_allPulses_59 ?_
          refine lv_istore_n (lv' := [(2, .int ((g22 1) 4)), (1, .int 4), (0, .ref (ad 0))]) (pc := 60) hx hb dzM_allPulses_60 rfl hl (by decide) rfl (fun ls hl => ?_)
          refine lv_aload_n (pc := 61) hx hb dzM_allPulses_61 rfl (lv_at hl 2 rfl) ?_
          refine xk_get (pc := 62) hx hb hts hown hK hP ffzM_7 0 rfl rfl dzM_allPulses_62 ?_
          refine lv_iload_n (pc := 65) hx hb dzM_allPulses_65 rfl (lv_at hl 1 rfl) ?_
          refine lv_iconst (v := 0) (pc := 66) hx hb dzM_allPulses_66 (by decide) ?_
          refine xk_iast (q0 := 1) (t0 := 0) (j := 4) (pc := 67) hx hb hK hP hD hS rfl rfl (pk_in 4 8 (by decide)) (pk_cl 4) dzM_allPulses_67 (fun H locs hP hD hS => ?_)
          obtain ⟨g23, eg23⟩ : ∃ z : xk_St, z = va_up g22 1 (upd (g22 1) 4 0) := ⟨_, rfl⟩
          have hP : va_P G xk_cls (xk_wM ad ac g23) H := by rw [eg23]; exact hP
          have hD : va_D A (xk_wM ad ac g23) := by rw [eg23]; exact hD
          have Ig23 : xk_cnt (B + 6) g23 := by rw [eg23]; repeat (first | exact Ig22 | refine xk_cnt_k (by decide) ?_ | refine xk_cnt_f (by decide) ?_ | refine xk_cnt_s ?_)
          refine lv_iload_n (pc := 68) hx hb dzM_allPulses_68 rfl (lv_at hl 0 rfl) ?_
          have K5 : ∀ (g25 : xk_St) (H : Heap) (locs : List Loc), (if ((g22 1) 4) = 0 then (g25 = g23) else (if ((g23 2) 4) = 0 then (∃ (g24 : xk_St), relzM_counts_1_0 g23 ((g22 1) 4) g24 ∧ (g25 = g24)) else (g25 = g23))) → (xk_cnt (B + 7) g25) → (va_P G xk_cls (xk_wM ad ac g25) H) → (va_D A (xk_wM ad ac g25)) → (va_S A s.heap H locs) → W p l e xk_r4 s m args below meth c H locs 0 0 Q (F0 m 92 ls []) := by
            intro g25 H locs R5 Ig25 hP hD hS
            refine lv_iinc (k := 1) (x := 4) (v := 5) (lv' := [(1, .int 5), (2, .int ((g22 1) 4)), (0, .ref (ad 0))]) (pc := 92) hx hb dzM_allPulses_92 hl rfl (by decide) (by decide) rfl (fun ls hl => ?_)
            refine lv_goto (tgt := 48) (pc := 95) hx hb dzM_allPulses_95 (by decide) ?_
            refine lv_iload_n (pc := 48) hx hb dzM_allPulses_48 rfl (lv_at hl 0 rfl) ?_
            refine lv_bipush (v := 8) (pc := 49) hx hb dzM_allPulses_49 (by decide) ?_
            refine lv_icmp_ge (pc := 51) (tgt := 98) hx hb dzM_allPulses_51 (by decide) (fun hq9 => absurd hq9 (by decide)) (fun _ => ?_)
            refine lv_aload_n (pc := 54) hx hb dzM_allPulses_54 rfl (lv_at hl 2 rfl) ?_
            refine xk_get (pc := 55) hx hb hts hown hK hP ffzM_7 0 rfl rfl dzM_allPulses_55 ?_
            refine lv_iload_n (pc := 58) hx hb dzM_allPulses_58 rfl (lv_at hl 0 rfl) ?_
            refine xk_iald (q0 := 1) (t0 := 0) (j := 5) (pc := 59) hx hb hK hP rfl rfl (pk_in 5 8 (by decide)) (pk_cl 5) dzM_allPulses_59 ?_
            refine lv_istore_n (lv' := [(2, .int ((g25 1) 5)), (1, .int 5), (0, .ref (ad 0))]) (pc := 60) hx hb dzM_allPulses_60 rfl hl (by decide) rfl (fun ls hl => ?_)
            refine lv_aload_n (pc := 61) hx hb dzM_allPulses_61 rfl (lv_at hl 2 rfl) ?_
            refine xk_get (pc := 62) hx hb hts hown hK hP ffzM_7 0 rfl rfl dzM_allPulses_62 ?_
            refine lv_iload_n (pc := 65) hx hb dzM_allPulses_65 rfl (lv_at hl 1 rfl) ?_
            refine lv_iconst (v := 0) (pc := 66) hx hb dzM_allPulses_66 (by decide) ?_
            refine xk_iast (q0 := 1) (t0 := 0) (j := 5) (pc := 67) hx hb hK hP hD hS rfl rfl (pk_in 5 8 (by decide)) (pk_cl 5) dzM_allPulses_67 (fun H locs hP hD hS => ?_)
            obtain ⟨g26, eg26⟩ : ∃ z : xk_St, z = va_up g25 1 (upd (g25 1) 5 0) := ⟨_, rfl⟩
            have hP : va_P G xk_cls (xk_wM ad ac g26) H := by rw [eg26]; exact hP
            have hD : va_D A (xk_wM ad ac g26) := by rw [eg26]; exact hD
            have Ig26 : xk_cnt (B + 7) g26 := by rw [eg26]; repeat (first | exact Ig25 | refine xk_cnt_k (by decide) ?_ | refine xk_cnt_f (by decide) ?_ | refine xk_cnt_s ?_)
            refine lv_iload_n (pc := 68) hx hb dzM_allPulses_68 rfl (lv_at hl 0 rfl) ?_
            have K6 : ∀ (g28 : xk_St) (H : Heap) (locs : List Loc), (if ((g25 1) 5) = 0 then (g28 = g26) else (if ((g26 2) 5) = 0 then (∃ (g27 : xk_St), relzM_counts_1_1 g26 ((g25 1) 5) g27 ∧ (g28 = g27)) else (g28 = g26))) → (xk_cnt (B + 9) g28) → (va_P G xk_cls (xk_wM ad ac g28) H) → (va_D A (xk_wM ad ac g28)) → (va_S A s.heap H locs) → W p l e xk_r4 s m args below meth c H locs 0 0 Q (F0 m 92 ls []) := by
              intro g28 H locs R6 Ig28 hP hD hS
              refine lv_iinc (k := 1) (x := 5) (v := 6) (lv' := [(1, .int 6), (2, .int ((g25 1) 5)), (0, .ref (ad 0))]) (pc := 92) hx hb dzM_allPulses_92 hl rfl (by decide) (by decide) rfl (fun ls hl => ?_)
              refine lv_goto (tgt := 48) (pc := 95) hx hb dzM_allPulses_95 (by decide) ?_
              refine lv_iload_n (pc := 48) hx hb dzM_allPulses_48 rfl (lv_at hl 0 rfl) ?_
              refine lv_bipush (v := 8) (pc := 49) hx hb dzM_allPulses_49 (by decide) ?_
              refine lv_icmp_ge (pc := 51) (tgt := 98) hx hb dzM_allPulses_51 (by decide) (fun hq9 => absurd hq9 (by decide)) (fun _ => ?_)
              refine lv_aload_n (pc := 54) hx hb dzM_allPulses_54 rfl (lv_at hl 2 rfl) ?_
              refine xk_get (pc := 55) hx hb hts hown hK hP ffzM_7 0 rfl rfl dzM_allPulses_55 ?_
              refine lv_iload_n (pc := 58) hx hb dzM_allPulses_58 rfl (lv_at hl 0 rfl) ?_
              refine xk_iald (q0 := 1) (t0 := 0) (j := 6) (pc := 59) hx hb hK hP rfl rfl (pk_in 6 8 (by decide)) (pk_cl 6) dzM_allPulses_59 ?_
              refine lv_istore_n (lv' := [(2, .int ((g28 1) 6)), (1, .int 6), (0, .ref (ad 0))]) (pc := 60) hx hb dzM_allPulses_60 rfl hl (by decide) rfl (fun ls hl => ?_)
              refine lv_aload_n (pc := 61) hx hb dzM_allPulses_61 rfl (lv_at hl 2 rfl) ?_
              refine xk_get (pc := 62) hx hb hts hown hK hP ffzM_7 0 rfl rfl dzM_allPulses_62 ?_
              refine lv_iload_n (pc := 65) hx hb dzM_allPulses_65 rfl (lv_at hl 1 rfl) ?_
              refine lv_iconst (v := 0) (pc := 66) hx hb dzM_allPulses_66 (by decide) ?_
              refine xk_iast (q0 := 1) (t0 := 0) (j := 6) (pc := 67) hx hb hK hP hD hS rfl rfl (pk_in 6 8 (by decide)) (pk_cl 6) dzM_allPulses_67 (fun H locs hP hD hS => ?_)
              obtain ⟨g29, eg29⟩ : ∃ z : xk_St, z = va_up g28 1 (upd (g28 1) 6 0) := ⟨_, rfl⟩
              have hP : va_P G xk_cls (xk_wM ad ac g29) H := by rw [eg29]; exact hP
              have hD : va_D A (xk_wM ad ac g29) := by rw [eg29]; exact hD
              have Ig29 : xk_cnt (B + 9) g29 := by rw [eg29]; repeat (first | exact Ig28 | refine xk_cnt_k (by decide) ?_ | refine xk_cnt_f (by decide) ?_ | refine xk_cnt_s ?_)
              refine lv_iload_n (pc := 68) hx hb dzM_allPulses_68 rfl (lv_at hl 0 rfl) ?_
              have K7 : ∀ (g31 : xk_St) (H : Heap) (locs : List Loc), (if ((g28 1) 6) = 0 then (g31 = g29) else (if ((g29 2) 6) = 0 then (∃ (g30 : xk_St), relzM_counts_1_2 g29 ((g28 1) 6) g30 ∧ (g31 = g30)) else (g31 = g29))) → (xk_cnt (B + 11) g31) → (va_P G xk_cls (xk_wM ad ac g31) H) → (va_D A (xk_wM ad ac g31)) → (va_S A s.heap H locs) → W p l e xk_r4 s m args below meth c H locs 0 0 Q (F0 m 92 ls []) := by
                intro g31 H locs R7 Ig31 hP hD hS
                refine lv_iinc (k := 1) (x := 6) (v := 7) (lv' := [(1, .int 7), (2, .int ((g28 1) 6)), (0, .ref (ad 0))]) (pc := 92) hx hb dzM_allPulses_92 hl rfl (by decide) (by decide) rfl (fun ls hl => ?_)
                refine lv_goto (tgt := 48) (pc := 95) hx hb dzM_allPulses_95 (by decide) ?_
                refine lv_iload_n (pc := 48) hx hb dzM_allPulses_48 rfl (lv_at hl 0 rfl) ?_
                refine lv_bipush (v := 8) (pc := 49) hx hb dzM_allPulses_49 (by decide) ?_
                refine lv_icmp_ge (pc := 51) (tgt := 98) hx hb dzM_allPulses_51 (by decide) (fun hq9 => absurd hq9 (by decide)) (fun _ => ?_)
                refine lv_aload_n (pc := 54) hx hb dzM_allPulses_54 rfl (lv_at hl 2 rfl) ?_
                refine xk_get (pc := 55) hx hb hts hown hK hP ffzM_7 0 rfl rfl dzM_allPulses_55 ?_
                refine lv_iload_n (pc := 58) hx hb dzM_allPulses_58 rfl (lv_at hl 0 rfl) ?_
                refine xk_iald (q0 := 1) (t0 := 0) (j := 7) (pc := 59) hx hb hK hP rfl rfl (pk_in 7 8 (by decide)) (pk_cl 7) dzM_allPulses_59 ?_
                refine lv_istore_n (lv' := [(2, .int ((g31 1) 7)), (1, .int 7), (0, .ref (ad 0))]) (pc := 60) hx hb dzM_allPulses_60 rfl hl (by decide) rfl (fun ls hl => ?_)
                refine lv_aload_n (pc := 61) hx hb dzM_allPulses_61 rfl (lv_at hl 2 rfl) ?_
                refine xk_get (pc := 62) hx hb hts hown hK hP ffzM_7 0 rfl rfl dzM_allPulses_62 ?_
                refine lv_iload_n (pc := 65) hx hb dzM_allPulses_65 rfl (lv_at hl 1 rfl) ?_
                refine lv_iconst (v := 0) (pc := 66) hx hb dzM_allPulses_66 (by decide) ?_
                refine xk_iast (q0 := 1) (t0 := 0) (j := 7) (pc := 67) hx hb hK hP hD hS rfl rfl (pk_in 7 8 (by decide)) (pk_cl 7) dzM_allPulses_67 (fun H locs hP hD hS => ?_)
                obtain ⟨g32, eg32⟩ : ∃ z : xk_St, z = va_up g31 1 (upd (g31 1) 7 0) := ⟨_, rfl⟩
                have hP : va_P G xk_cls (xk_wM ad ac g32) H := by rw [eg32]; exact hP
                have hD : va_D A (xk_wM ad ac g32) := by rw [eg32]; exact hD
                have Ig32 : xk_cnt (B + 11) g32 := by rw [eg32]; repeat (first | exact Ig31 | refine xk_cnt_k (by decide) ?_ | refine xk_cnt_f (by decide) ?_ | refine xk_cnt_s ?_)
                refine lv_iload_n (pc := 68) hx hb dzM_allPulses_68 rfl (lv_at hl 0 rfl) ?_
                have K8 : ∀ (g34 : xk_St) (H : Heap) (locs : List Loc), (if ((g31 1) 7) = 0 then (g34 = g32) else (if ((g32 2) 7) = 0 then (∃ (g33 : xk_St), relzM_counts_1_3 g32 ((g31 1) 7) g33 ∧ (g34 = g33)) else (g34 = g32))) → (xk_cnt (B + 12) g34) → (va_P G xk_cls (xk_wM ad ac g34) H) → (va_D A (xk_wM ad ac g34)) → (va_S A s.heap H locs) → W p l e xk_r4 s m args below meth c H locs 0 0 Q (F0 m 92 ls []) := by
                  intro g34 H locs R8 Ig34 hP hD hS
                  refine lv_iinc (k := 1) (x := 7) (v := 8) (lv' := [(1, .int 8), (2, .int ((g31 1) 7)), (0, .ref (ad 0))]) (pc := 92) hx hb dzM_allPulses_92 hl rfl (by decide) (by decide) rfl (fun ls hl => ?_)
                  refine lv_goto (tgt := 48) (pc := 95) hx hb dzM_allPulses_95 (by decide) ?_
                  refine lv_iload_n (pc := 48) hx hb dzM_allPulses_48 rfl (lv_at hl 0 rfl) ?_
                  refine lv_bipush (v := 8) (pc := 49) hx hb dzM_allPulses_49 (by decide) ?_
                  refine lv_icmp_ge (pc := 51) (tgt := 98) hx hb dzM_allPulses_51 (by decide) (fun _ => ?_) (fun hq9 => absurd (by decide) hq9)
                  exact hret g34 H locs 98 ls hP hS (by unfold relzM_allPulses; exact ⟨g1, eg1, ⟨g2, eg2, ⟨g3, eg3, ⟨g4, eg4, ⟨g5, eg5, ⟨g6, eg6, ⟨g7, eg7, ⟨g8, eg8, ⟨g9, eg9, ⟨g10, eg10, ⟨g11, eg11, ⟨g13, R1, ⟨g14, eg14, ⟨g16, R2, ⟨g17, eg17, ⟨g19, R3, ⟨g20, eg20, ⟨g22, R4, ⟨g23, eg23, ⟨g25, R5, ⟨g26, eg26, ⟨g28, R6, ⟨g29, eg29, ⟨g31, R7, ⟨g32, eg32, ⟨g34, R8, rfl⟩⟩⟩⟩⟩⟩⟩⟩⟩⟩⟩⟩⟩⟩⟩⟩⟩⟩⟩⟩⟩⟩⟩⟩⟩⟩) dzM_allPulses_98
                refine lv_if_eq (pc := 69) (tgt := 92) hx hb dzM_allPulses_69 (by decide) (fun h15 => ?_) (fun h15 => ?_)
                ·
                  exact K8 g32 H locs (Eq.mpr (if_pos h15) rfl) (xk_cnt_le Ig32 (by omega)) hP hD hS
                ·
                  refine lv_aload_n (pc := 72) hx hb dzM_allPulses_72 rfl (lv_at hl 2 rfl) ?_
                  refine xk_get (pc := 73) hx hb hts hown hK hP ffzM_13 0 rfl rfl dzM_allPulses_73 ?_
                  refine lv_iload_n (pc := 76) hx hb dzM_allPulses_76 rfl (lv_at hl 1 rfl) ?_
                  refine xk_zald (q0 := 2) (t0 := 1) (j := 7) (pc := 77) hx hb hK hP rfl rfl (pk_in 7 8 (by decide)) (pk_cl 7) dzM_allPulses_77 ?_
                  refine lv_if_ne (pc := 78) (tgt := 92) hx hb dzM_allPulses_78 (by decide) (fun h16 => ?_) (fun h16 => ?_)
                  ·
                    exact K8 g32 H locs (Eq.mpr (if_neg h15) (Eq.mpr (if_neg h16) rfl)) (xk_cnt_le Ig32 (by omega)) hP hD hS
                  ·
                    refine lv_aload_n (pc := 81) hx hb dzM_allPulses_81 rfl (lv_at hl 2 rfl) ?_
                    refine lv_iload_n (pc := 82) hx hb dzM_allPulses_82 rfl (lv_at hl 1 rfl) ?_
                    refine lv_iconst (v := 4) (pc := 83) hx hb dzM_allPulses_83 (by decide) ?_
                    refine lv_idiv (pc := 84) hx hb dzM_allPulses_84 (by decide) ?_
                    refine xk_is (y := 1) (by decide) ?_
                    refine lv_iload_n (pc := 85) hx hb dzM_allPulses_85 rfl (lv_at hl 1 rfl) ?_
                    refine lv_iconst (v := 4) (pc := 86) hx hb dzM_allPulses_86 (by decide) ?_
                    refine lv_irem (pc := 87) hx hb dzM_allPulses_87 (by decide) ?_
                    refine xk_is (y := 3) (by decide) ?_
                    refine lv_iload_n (pc := 88) hx hb dzM_allPulses_88 rfl (lv_at hl 0 rfl) ?_
                    refine xk_allVV (As := [.int 1, .int 3, .int ((g31 1) 7)]) (rest := []) (H0 := s.heap) (pc := 89) hx hb hml hts hown hK hA hP hD hS (kzM_counts_1_3 l G ac ad g32 ((g31 1) 7) (B + 11) Ig32 (by omega)) vfzM_141 (fun _ => rfl) 0 rfl rfl ⟨rfl, rfl⟩ ⟨Nat.le_of_ble_eq_true rfl, Nat.le_of_ble_eq_true rfl⟩ rfl hl.1 rfl (Nat.le_of_ble_eq_true rfl) ⟨Nat.zero_le _, Nat.zero_le _⟩ dzM_allPulses_89 (fun g33 H locs hg33 hP hD hS => ?_)
                    have hP : va_P G xk_cls (xk_wM ad ac g33) H := hP
                    have hD : va_D A (xk_wM ad ac g33) := hD
                    have Ig33 : xk_cnt (B + 12) g33 := xk_cnt_le (iczM_counts_1_3 (B + 11) _ _ _ hg33 Ig32) (by omega)
                    exact K8 g33 H locs (Eq.mpr (if_neg h15) (Eq.mpr (if_pos h16) ⟨g33, hg33, rfl⟩)) (xk_cnt_le Ig33 (by omega)) hP hD hS
              refine lv_if_eq (pc := 69) (tgt := 92) hx hb dzM_allPulses_69 (by decide) (fun h13 => ?_) (fun h13 => ?_)
              ·
                exact K7 g29 H locs (Eq.mpr (if_pos h13) rfl) (xk_cnt_le Ig29 (by omega)) hP hD hS
              ·
                refine lv_aload_n (pc := 72) hx hb dzM_allPulses_72 rfl (lv_at hl 2 rfl) ?_
                refine xk_get (pc := 73) hx hb hts hown hK hP ffzM_13 0 rfl rfl dzM_allPulses_73 ?_
                refine lv_iload_n (pc := 76) hx hb dzM_allPulses_76 rfl (lv_at hl 1 rfl) ?_
                refine xk_zald (q0 := 2) (t0 := 1) (j := 6) (pc := 77) hx hb hK hP rfl rfl (pk_in 6 8 (by decide)) (pk_cl 6) dzM_allPulses_77 ?_
                refine lv_if_ne (pc := 78) (tgt := 92) hx hb dzM_allPulses_78 (by decide) (fun h14 => ?_) (fun h14 => ?_)
                ·
                  exact K7 g29 H locs (Eq.mpr (if_neg h13) (Eq.mpr (if_neg h14) rfl)) (xk_cnt_le Ig29 (by omega)) hP hD hS
                ·
                  refine lv_aload_n (pc := 81) hx hb dzM_allPulses_81 rfl (lv_at hl 2 rfl) ?_
                  refine lv_iload_n (pc := 82) hx hb dzM_allPulses_82 rfl (lv_at hl 1 rfl) ?_
                  refine lv_iconst (v := 4) (pc := 83) hx hb dzM_allPulses_83 (by decide) ?_
                  refine lv_idiv (pc := 84) hx hb dzM_allPulses_84 (by decide) ?_
                  refine xk_is (y := 1) (by decide) ?_
                  refine lv_iload_n (pc := 85) hx hb dzM_allPulses_85 rfl (lv_at hl 1 rfl) ?_
                  refine lv_iconst (v := 4) (pc := 86) hx hb dzM_allPulses_86 (by decide) ?_
                  refine lv_irem (pc := 87) hx hb dzM_allPulses_87 (by decide) ?_
                  refine xk_is (y := 2) (by decide) ?_
                  refine lv_iload_n (pc := 88) hx hb dzM_allPulses_88 rfl (lv_at hl 0 rfl) ?_
                  refine xk_allVV (As := [.int 1, .int 2, .int ((g28 1) 6)]) (rest := []) (H0 := s.heap) (pc := 89) hx hb hml hts hown hK hA hP hD hS (kzM_counts_1_2 l G ac ad g29 ((g28 1) 6) (B + 9) Ig29 (by omega)) vfzM_141 (fun _ => rfl) 0 rfl rfl ⟨rfl, rfl⟩ ⟨Nat.le_of_ble_eq_true rfl, Nat.le_of_ble_eq_true rfl⟩ rfl hl.1 rfl (Nat.le_of_ble_eq_true rfl) ⟨Nat.zero_le _, Nat.zero_le _⟩ dzM_allPulses_89 (fun g30 H locs hg30 hP hD hS => ?_)
                  have hP : va_P G xk_cls (xk_wM ad ac g30) H := hP
                  have hD : va_D A (xk_wM ad ac g30) := hD
                  have Ig30 : xk_cnt (B + 11) g30 := xk_cnt_le (iczM_counts_1_2 (B + 9) _ _ _ hg30 Ig29) (by omega)
                  exact K7 g30 H locs (Eq.mpr (if_neg h13) (Eq.mpr (if_pos h14) ⟨g30, hg30, rfl⟩)) (xk_cnt_le Ig30 (by omega)) hP hD hS
            refine lv_if_eq (pc := 69) (tgt := 92) hx hb dzM_allPulses_69 (by decide) (fun h11 => ?_) (fun h11 => ?_)
            ·
              exact K6 g26 H locs (Eq.mpr (if_pos h11) rfl) (xk_cnt_le Ig26 (by omega)) hP hD hS
            ·
              refine lv_aload_n (pc := 72) hx hb dzM_allPulses_72 rfl (lv_at hl 2 rfl) ?_
              refine xk_get (pc := 73) hx hb hts hown hK hP ffzM_13 0 rfl rfl dzM_allPulses_73 ?_
              refine lv_iload_n (pc := 76) hx hb dzM_allPulses_76 rfl (lv_at hl 1 rfl) ?_
              refine xk_zald (q0 := 2) (t0 := 1) (j := 5) (pc := 77) hx hb hK hP rfl rfl (pk_in 5 8 (by decide)) (pk_cl 5) dzM_allPulses_77 ?_
              refine lv_if_ne (pc := 78) (tgt := 92) hx hb dzM_allPulses_78 (by decide) (fun h12 => ?_) (fun h12 => ?_)
              ·
                exact K6 g26 H locs (Eq.mpr (if_neg h11) (Eq.mpr (if_neg h12) rfl)) (xk_cnt_le Ig26 (by omega)) hP hD hS
              ·
                refine lv_aload_n (pc := 81) hx hb dzM_allPulses_81 rfl (lv_at hl 2 rfl) ?_
                refine lv_iload_n (pc := 82) hx hb dzM_allPulses_82 rfl (lv_at hl 1 rfl) ?_
                refine lv_iconst (v := 4) (pc := 83) hx hb dzM_allPulses_83 (by decide) ?_
                refine lv_idiv (pc := 84) hx hb dzM_allPulses_84 (by decide) ?_
                refine xk_is (y := 1) (by decide) ?_
                refine lv_iload_n (pc := 85) hx hb dzM_allPulses_85 rfl (lv_at hl 1 rfl) ?_
                refine lv_iconst (v := 4) (pc := 86) hx hb dzM_allPulses_86 (by decide) ?_
                refine lv_irem (pc := 87) hx hb dzM_allPulses_87 (by decide) ?_
                refine xk_is (y := 1) (by decide) ?_
                refine lv_iload_n (pc := 88) hx hb dzM_allPulses_88 rfl (lv_at hl 0 rfl) ?_
                refine xk_allVV (As := [.int 1, .int 1, .int ((g25 1) 5)]) (rest := []) (H0 := s.heap) (pc := 89) hx hb hml hts hown hK hA hP hD hS (kzM_counts_1_1 l G ac ad g26 ((g25 1) 5) (B + 7) Ig26 (by omega)) vfzM_141 (fun _ => rfl) 0 rfl rfl ⟨rfl, rfl⟩ ⟨Nat.le_of_ble_eq_true rfl, Nat.le_of_ble_eq_true rfl⟩ rfl hl.1 rfl (Nat.le_of_ble_eq_true rfl) ⟨Nat.zero_le _, Nat.zero_le _⟩ dzM_allPulses_89 (fun g27 H locs hg27 hP hD hS => ?_)
                have hP : va_P G xk_cls (xk_wM ad ac g27) H := hP
                have hD : va_D A (xk_wM ad ac g27) := hD
                have Ig27 : xk_cnt (B + 9) g27 := xk_cnt_le (iczM_counts_1_1 (B + 7) _ _ _ hg27 Ig26) (by omega)
                exact K6 g27 H locs (Eq.mpr (if_neg h11) (Eq.mpr (if_pos h12) ⟨g27, hg27, rfl⟩)) (xk_cnt_le Ig27 (by omega)) hP hD hS
          refine lv_if_eq (pc := 69) (tgt := 92) hx hb dzM_allPulses_69 (by decide) (fun h9 => ?_) (fun h9 => ?_)
          ·
            exact K5 g23 H locs (Eq.mpr (if_pos h9) rfl) (xk_cnt_le Ig23 (by omega)) hP hD hS
          ·
            refine lv_aload_n (pc := 72) hx hb dzM_allPulses_72 rfl (lv_at hl 2 rfl) ?_
            refine xk_get (pc := 73) hx hb hts hown hK hP ffzM_13 0 rfl rfl dzM_allPulses_73 ?_
            refine lv_iload_n (pc := 76) hx hb dzM_allPulses_76 rfl (lv_at hl 1 rfl) ?_
            refine xk_zald (q0 := 2) (t0 := 1) (j := 4) (pc := 77) hx hb hK hP rfl rfl (pk_in 4 8 (by decide)) (pk_cl 4) dzM_allPulses_77 ?_
            refine lv_if_ne (pc := 78) (tgt := 92) hx hb dzM_allPulses_78 (by decide) (fun h10 => ?_) (fun h10 => ?_)
            ·
              exact K5 g23 H locs (Eq.mpr (if_neg h9) (Eq.mpr (if_neg h10) rfl)) (xk_cnt_le Ig23 (by omega)) hP hD hS
            ·
              refine lv_aload_n (pc := 81) hx hb dzM_allPulses_81 rfl (lv_at hl 2 rfl) ?_
              refine lv_iload_n (pc := 82) hx hb dzM_allPulses_82 rfl (lv_at hl 1 rfl) ?_
              refine lv_iconst (v := 4) (pc := 83) hx hb dzM_allPulses_83 (by decide) ?_
              refine lv_idiv (pc := 84) hx hb dzM_allPulses_84 (by decide) ?_
              refine xk_is (y := 1) (by decide) ?_
              refine lv_iload_n (pc := 85) hx hb dzM_allPulses_85 rfl (lv_at hl 1 rfl) ?_
              refine lv_iconst (v := 4) (pc := 86) hx hb dzM_allPulses_86 (by decide) ?_
              refine lv_irem (pc := 87) hx hb dzM_allPulses_87 (by decide) ?_
              refine xk_is (y := 0) (by decide) ?_
              refine lv_iload_n (pc := 88) hx hb dzM_allPulses_88 rfl (lv_at hl 0 rfl) ?_
              refine xk_allVV (As := [.int 1, .int 0, .int ((g22 1) 4)]) (rest := []) (H0 := s.heap) (pc := 89) hx hb hml hts hown hK hA hP hD hS (kzM_counts_1_0 l G ac ad g23 ((g22 1) 4) (B + 6) Ig23 (by omega)) vfzM_141 (fun _ => rfl) 0 rfl rfl ⟨rfl, rfl⟩ ⟨Nat.le_of_ble_eq_true rfl, Nat.le_of_ble_eq_true rfl⟩ rfl hl.1 rfl (Nat.le_of_ble_eq_true rfl) ⟨Nat.zero_le _, Nat.zero_le _⟩ dzM_allPulses_89 (fun g24 H locs hg24 hP hD hS => ?_)
              have hP : va_P G xk_cls (xk_wM ad ac g24) H := hP
              have hD : va_D A (xk_wM ad ac g24) := hD
              have Ig24 : xk_cnt (B + 7) g24 := xk_cnt_le (iczM_counts_1_0 (B + 6) _ _ _ hg24 Ig23) (by omega)
              exact K5 g24 H locs (Eq.mpr (if_neg h9) (Eq.mpr (if_pos h10) ⟨g24, hg24, rfl⟩)) (xk_cnt_le Ig24 (by omega)) hP hD hS
        refine lv_if_eq (pc := 69) (tgt := 92) hx hb dzM_allPulses_69 (by decide) (fun h7 => ?_) (fun h7 => ?_)
        ·
          exact K4 g20 H locs (Eq.mpr (if_pos h7) rfl) (xk_cnt_le Ig20 (by omega)) hP hD hS
        ·
          refine lv_aload_n (pc := 72) hx hb dzM_allPulses_72 rfl (lv_at hl 2 rfl) ?_
          refine xk_get (pc := 73) hx hb hts hown hK hP ffzM_13 0 rfl rfl dzM_allPulses_73 ?_
          refine lv_iload_n (pc := 76) hx hb dzM_allPulses_76 rfl (lv_at hl 1 rfl) ?_
          refine xk_zald (q0 := 2) (t0 := 1) (j := 3) (pc := 77) hx hb hK hP rfl rfl (pk_in 3 8 (by decide)) (pk_cl 3) dzM_allPulses_77 ?_
          refine lv_if_ne (pc := 78) (tgt := 92) hx hb dzM_allPulses_78 (by decide) (fun h8 => ?_) (fun h8 => ?_)
          ·
            exact K4 g20 H locs (Eq.mpr (if_neg h7) (Eq.mpr (if_neg h8) rfl)) (xk_cnt_le Ig20 (by omega)) hP hD hS
          ·
            refine lv_aload_n (pc := 81) hx hb dzM_allPulses_81 rfl (lv_at hl 2 rfl) ?_
            refine lv_iload_n (pc := 82) hx hb dzM_allPulses_82 rfl (lv_at hl 1 rfl) ?_
            refine lv_iconst (v := 4) (pc := 83) hx hb dzM_allPulses_83 (by decide) ?_
            refine lv_idiv (pc := 84) hx hb dzM_allPulses_84 (by decide) ?_
            refine xk_is (y := 0) (by decide) ?_
            refine lv_iload_n (pc := 85) hx hb dzM_allPulses_85 rfl (lv_at hl 1 rfl) ?_
            refine lv_iconst (v := 4) (pc := 86) hx hb dzM_allPulses_86 (by decide) ?_
            refine lv_irem (pc := 87) hx hb dzM_allPulses_87 (by decide) ?_
            refine xk_is (y := 3) (by decide) ?_
            refine lv_iload_n (pc := 88) hx hb dzM_allPulses_88 rfl (lv_at hl 0 rfl) ?_
            refine xk_allVV (As := [.int 0, .int 3, .int ((g19 1) 3)]) (rest := []) (H0 := s.heap) (pc := 89) hx hb hml hts hown hK hA hP hD hS (kzM_counts_0_3 l G ac ad g20 ((g19 1) 3) (B + 5) Ig20 (by omega)) vfzM_141 (fun _ => rfl) 0 rfl rfl ⟨rfl, rfl⟩ ⟨Nat.le_of_ble_eq_true rfl, Nat.le_of_ble_eq_true rfl⟩ rfl hl.1 rfl (Nat.le_of_ble_eq_true rfl) ⟨Nat.zero_le _, Nat.zero_le _⟩ dzM_allPulses_89 (fun g21 H locs hg21 hP hD hS => ?_)
            have hP : va_P G xk_cls (xk_wM ad ac g21) H := hP
            have hD : va_D A (xk_wM ad ac g21) := hD
            have Ig21 : xk_cnt (B + 6) g21 := xk_cnt_le (iczM_counts_0_3 (B + 5) _ _ _ hg21 Ig20) (by omega)
            exact K4 g21 H locs (Eq.mpr (if_neg h7) (Eq.mpr (if_pos h8) ⟨g21, hg21, rfl⟩)) (xk_cnt_le Ig21 (by omega)) hP hD hS
      refine lv_if_eq (pc := 69) (tgt := 92) hx hb dzM_allPulses_69 (by decide) (fun h5 => ?_) (fun h5 => ?_)
      ·
        exact K3 g17 H locs (Eq.mpr (if_pos h5) rfl) (xk_cnt_le Ig17 (by omega)) hP hD hS
      ·
        refine lv_aload_n (pc := 72) hx hb dzM_allPulses_72 rfl (lv_at hl 2 rfl) ?_
        refine xk_get (pc := 73) hx hb hts hown hK hP ffzM_13 0 rfl rfl dzM_allPulses_73 ?_
        refine lv_iload_n (pc := 76) hx hb dzM_allPulses_76 rfl (lv_at hl 1 rfl) ?_
        refine xk_zald (q0 := 2) (t0 := 1) (j := 2) (pc := 77) hx hb hK hP rfl rfl (pk_in 2 8 (by decide)) (pk_cl 2) dzM_allPulses_77 ?_
        refine lv_if_ne (pc := 78) (tgt := 92) hx hb dzM_allPulses_78 (by decide) (fun h6 => ?_) (fun h6 => ?_)
        ·
          exact K3 g17 H locs (Eq.mpr (if_neg h5) (Eq.mpr (if_neg h6) rfl)) (xk_cnt_le Ig17 (by omega)) hP hD hS
        ·
          refine lv_aload_n (pc := 81) hx hb dzM_allPulses_81 rfl (lv_at hl 2 rfl) ?_
          refine lv_iload_n (pc := 82) hx hb dzM_allPulses_82 rfl (lv_at hl 1 rfl) ?_
          refine lv_iconst (v := 4) (pc := 83) hx hb dzM_allPulses_83 (by decide) ?_
          refine lv_idiv (pc := 84) hx hb dzM_allPulses_84 (by decide) ?_
          refine xk_is (y := 0) (by decide) ?_
          refine lv_iload_n (pc := 85) hx hb dzM_allPulses_85 rfl (lv_at hl 1 rfl) ?_
          refine lv_iconst (v := 4) (pc := 86) hx hb dzM_allPulses_86 (by decide) ?_
          refine lv_irem (pc := 87) hx hb dzM_allPulses_87 (by decide) ?_
          refine xk_is (y := 2) (by decide) ?_
          refine lv_iload_n (pc := 88) hx hb dzM_allPulses_88 rfl (lv_at hl 0 rfl) ?_
          refine xk_allVV (As := [.int 0, .int 2, .int ((g16 1) 2)]) (rest := []) (H0 := s.heap) (pc := 89) hx hb hml hts hown hK hA hP hD hS (kzM_counts_0_2 l G ac ad g17 ((g16 1) 2) (B + 3) Ig17 (by omega)) vfzM_141 (fun _ => rfl) 0 rfl rfl ⟨rfl, rfl⟩ ⟨Nat.le_of_ble_eq_true rfl, Nat.le_of_ble_eq_true rfl⟩ rfl hl.1 rfl (Nat.le_of_ble_eq_true rfl) ⟨Nat.zero_le _, Nat.zero_le _⟩ dzM_allPulses_89 (fun g18 H locs hg18 hP hD hS => ?_)
          have hP : va_P G xk_cls (xk_wM ad ac g18) H := hP
          have hD : va_D A (xk_wM ad ac g18) := hD
          have Ig18 : xk_cnt (B + 5) g18 := xk_cnt_le (iczM_counts_0_2 (B + 3) _ _ _ hg18 Ig17) (by omega)
          exact K3 g18 H locs (Eq.mpr (if_neg h5) (Eq.mpr (if_pos h6) ⟨g18, hg18, rfl⟩)) (xk_cnt_le Ig18 (by omega)) hP hD hS
    refine lv_if_eq (pc := 69) (tgt := 92) hx hb dzM_allPulses_69 (by decide) (fun h3 => ?_) (fun h3 => ?_)
    ·
      exact K2 g14 H locs (Eq.mpr (if_pos h3) rfl) (xk_cnt_le Ig14 (by omega)) hP hD hS
    ·
      refine lv_aload_n (pc := 72) hx hb dzM_allPulses_72 rfl (lv_at hl 2 rfl) ?_
      refine xk_get (pc := 73) hx hb hts hown hK hP ffzM_13 0 rfl rfl dzM_allPulses_73 ?_
      refine lv_iload_n (pc := 76) hx hb dzM_allPulses_76 rfl (lv_at hl 1 rfl) ?_
      refine xk_zald (q0 := 2) (t0 := 1) (j := 1) (pc := 77) hx hb hK hP rfl rfl (pk_in 1 8 (by decide)) (pk_cl 1) dzM_allPulses_77 ?_
      refine lv_if_ne (pc := 78) (tgt := 92) hx hb dzM_allPulses_78 (by decide) (fun h4 => ?_) (fun h4 => ?_)
      ·
        exact K2 g14 H locs (Eq.mpr (if_neg h3) (Eq.mpr (if_neg h4) rfl)) (xk_cnt_le Ig14 (by omega)) hP hD hS
      ·
        refine lv_aload_n (pc := 81) hx hb dzM_allPulses_81 rfl (lv_at hl 2 rfl) ?_
        refine lv_iload_n (pc := 82) hx hb dzM_allPulses_82 rfl (lv_at hl 1 rfl) ?_
        refine lv_iconst (v := 4) (pc := 83) hx hb dzM_allPulses_83 (by decide) ?_
        refine lv_idiv (pc := 84) hx hb dzM_allPulses_84 (by decide) ?_
        refine xk_is (y := 0) (by decide) ?_
        refine lv_iload_n (pc := 85) hx hb dzM_allPulses_85 rfl (lv_at hl 1 rfl) ?_
        refine lv_iconst (v := 4) (pc := 86) hx hb dzM_allPulses_86 (by decide) ?_
        refine lv_irem (pc := 87) hx hb dzM_allPulses_87 (by decide) ?_
        refine xk_is (y := 1) (by decide) ?_
        refine lv_iload_n (pc := 88) hx hb dzM_allPulses_88 rfl (lv_at hl 0 rfl) ?_
        refine xk_allVV (As := [.int 0, .int 1, .int ((g13 1) 1)]) (rest := []) (H0 := s.heap) (pc := 89) hx hb hml hts hown hK hA hP hD hS (kzM_counts_0_1 l G ac ad g14 ((g13 1) 1) (B + 1) Ig14 (by omega)) vfzM_141 (fun _ => rfl) 0 rfl rfl ⟨rfl, rfl⟩ ⟨Nat.le_of_ble_eq_true rfl, Nat.le_of_ble_eq_true rfl⟩ rfl hl.1 rfl (Nat.le_of_ble_eq_true rfl) ⟨Nat.zero_le _, Nat.zero_le _⟩ dzM_allPulses_89 (fun g15 H locs hg15 hP hD hS => ?_)
        have hP : va_P G xk_cls (xk_wM ad ac g15) H := hP
        have hD : va_D A (xk_wM ad ac g15) := hD
        have Ig15 : xk_cnt (B + 3) g15 := xk_cnt_le (iczM_counts_0_1 (B + 1) _ _ _ hg15 Ig14) (by omega)
        exact K2 g15 H locs (Eq.mpr (if_neg h3) (Eq.mpr (if_pos h4) ⟨g15, hg15, rfl⟩)) (xk_cnt_le Ig15 (by omega)) hP hD hS
  refine lv_if_eq (pc := 69) (tgt := 92) hx hb dzM_allPulses_69 (by decide) (fun h1 => ?_) (fun h1 => ?_)
  ·
    exact K1 g11 H locs (Eq.mpr (if_pos h1) rfl) (xk_cnt_le Ig11 (by omega)) hP hD hS
  ·
    refine lv_aload_n (pc := 72) hx hb dzM_allPulses_72 rfl (lv_at hl 2 rfl) ?_
    refine xk_get (pc := 73) hx hb hts hown hK hP ffzM_13 0 rfl rfl dzM_allPulses_73 ?_
    refine lv_iload_n (pc := 76) hx hb dzM_allPulses_76 rfl (lv_at hl 1 rfl) ?_
    refine xk_zald (q0 := 2) (t0 := 1) (j := 0) (pc := 77) hx hb hK hP rfl rfl (pk_in 0 8 (by decide)) (pk_cl 0) dzM_allPulses_77 ?_
    refine lv_if_ne (pc := 78) (tgt := 92) hx hb dzM_allPulses_78 (by decide) (fun h2 => ?_) (fun h2 => ?_)
    ·
      exact K1 g11 H locs (Eq.mpr (if_neg h1) (Eq.mpr (if_neg h2) rfl)) (xk_cnt_le Ig11 (by omega)) hP hD hS
    ·
      refine lv_aload_n (pc := 81) hx hb dzM_allPulses_81 rfl (lv_at hl 2 rfl) ?_
      refine lv_iload_n (pc := 82) hx hb dzM_allPulses_82 rfl (lv_at hl 1 rfl) ?_
      refine lv_iconst (v := 4) (pc := 83) hx hb dzM_allPulses_83 (by decide) ?_
      refine lv_idiv (pc := 84) hx hb dzM_allPulses_84 (by decide) ?_
      refine xk_is (y := 0) (by decide) ?_
      refine lv_iload_n (pc := 85) hx hb dzM_allPulses_85 rfl (lv_at hl 1 rfl) ?_
      refine lv_iconst (v := 4) (pc := 86) hx hb dzM_allPulses_86 (by decide) ?_
      refine lv_irem (pc := 87) hx hb dzM_allPulses_87 (by decide) ?_
      refine xk_is (y := 0) (by decide) ?_
      refine lv_iload_n (pc := 88) hx hb dzM_allPulses_88 rfl (lv_at hl 0 rfl) ?_
      refine xk_allVV (As := [.int 0, .int 0, .int ((g10 1) 0)]) (rest := []) (H0 := s.heap) (pc := 89) hx hb hml hts hown hK hA hP hD hS (kzM_counts_0_0 l G ac ad g11 ((g10 1) 0) (B + 0) Ig11 (by omega)) vfzM_141 (fun _ => rfl) 0 rfl rfl ⟨rfl, rfl⟩ ⟨Nat.le_of_ble_eq_true rfl, Nat.le_of_ble_eq_true rfl⟩ rfl hl.1 rfl (Nat.le_of_ble_eq_true rfl) ⟨Nat.zero_le _, Nat.zero_le _⟩ dzM_allPulses_89 (fun g12 H locs hg12 hP hD hS => ?_)
      have hP : va_P G xk_cls (xk_wM ad ac g12) H := hP
      have hD : va_D A (xk_wM ad ac g12) := hD
      have Ig12 : xk_cnt (B + 1) g12 := xk_cnt_le (iczM_counts_0_0 (B + 0) _ _ _ hg12 Ig11) (by omega)
      exact K1 g12 H locs (Eq.mpr (if_neg h1) (Eq.mpr (if_pos h2) ⟨g12, hg12, rfl⟩)) (xk_cnt_le Ig12 (by omega)) hP hD hS
theorem frzM_allPulses (g0 : xk_St) (gz : xk_St) : relzM_allPulses g0 gz → xk_eqv [2, 6, 11, 13, 14, 15, 16, 17, 18, 19, 20, 21, 22, 23, 24] g0 gz := by
  intro h
  unfold relzM_allPulses at h
  have s0 : xk_eqv [2, 6, 11, 13, 14, 15, 16, 17, 18, 19, 20, 21, 22, 23, 24] g0 g0 := xk_eqv_rf
  obtain ⟨g1, u1, v2⟩ := h
  have s3 : xk_eqv [2, 6, 11, 13, 14, 15, 16, 17, 18, 19, 20, 21, 22, 23, 24] g0 g1 := by rw [u1]; repeat (first | exact s0 | refine xk_eqv_up (by decide) ?_)
  obtain ⟨g2, u4, v5⟩ := v2
  have s6 : xk_eqv [2, 6, 11, 13, 14, 15, 16, 17, 18, 19, 20, 21, 22, 23, 24] g0 g2 := by rw [u4]; repeat (first | exact s3 | refine xk_eqv_up (by decide) ?_)
  obtain ⟨g3, u7, v8⟩ := v5
  have s9 : xk_eqv [2, 6, 11, 13, 14, 15, 16, 17, 18, 19, 20, 21, 22, 23, 24] g0 g3 := by rw [u7]; repeat (first | exact s6 | refine xk_eqv_up (by decide) ?_)
  obtain ⟨g4, u10, v11⟩ := v8
  have s12 : xk_eqv [2, 6, 11, 13, 14, 15, 16, 17, 18, 19, 20, 21, 22, 23, 24] g0 g4 := by rw [u10]; repeat (first | exact s9 | refine xk_eqv_up (by decide) ?_)
  obtain ⟨g5, u13, v14⟩ := v11
  have s15 : xk_eqv [2, 6, 11, 13, 14, 15, 16, 17, 18, 19, 20, 21, 22, 23, 24] g0 g5 := by rw [u13]; repeat (first | exact s12 | refine xk_eqv_up (by decide) ?_)
  obtain ⟨g6, u16, v17⟩ := v14
  have s18 : xk_eqv [2, 6, 11, 13, 14, 15, 16, 17, 18, 19, 20, 21, 22, 23, 24] g0 g6 := by rw [u16]; repeat (first | exact s15 | refine xk_eqv_up (by decide) ?_)
  obtain ⟨g7, u19, v20⟩ := v17
  have s21 : xk_eqv [2, 6, 11, 13, 14, 15, 16, 17, 18, 19, 20, 21, 22, 23, 24] g0 g7 := by rw [u19]; repeat (first | exact s18 | refine xk_eqv_up (by decide) ?_)
  obtain ⟨g8, u22, v23⟩ := v20
  have s24 : xk_eqv [2, 6, 11, 13, 14, 15, 16, 17, 18, 19, 20, 21, 22, 23, 24] g0 g8 := by rw [u22]; repeat (first | exact s21 | refine xk_eqv_up (by decide) ?_)
  obtain ⟨g9, u25, v26⟩ := v23
  have s27 : xk_eqv [2, 6, 11, 13, 14, 15, 16, 17, 18, 19, 20, 21, 22, 23, 24] g0 g9 := by rw [u25]; repeat (first | exact s24 | refine xk_eqv_up (by decide) ?_)
  obtain ⟨g10, u28, v29⟩ := v26
  have s30 : xk_eqv [2, 6, 11, 13, 14, 15, 16, 17, 18, 19, 20, 21, 22, 23, 24] g0 g10 := by rw [u28]; repeat (first | exact s27 | refine xk_eqv_up (by decide) ?_)
  obtain ⟨g11, u31, v32⟩ := v29
  have s33 : xk_eqv [2, 6, 11, 13, 14, 15, 16, 17, 18, 19, 20, 21, 22, 23, 24] g0 g11 := by rw [u31]; repeat (first | exact s30 | refine xk_eqv_up (by decide) ?_)
  obtain ⟨g13, u34, v35⟩ := v32
  have s36 : xk_eqv [2, 6, 11, 13, 14, 15, 16, 17, 18, 19, 20, 21, 22, 23, 24] g0 g13 := by
    by_cases hc : ((g10 1) 0) = 0
    · rw [if_pos hc] at u34
      rw [u34]; exact s33
    · rw [if_neg hc] at u34
      by_cases hc : ((g11 2) 0) = 0
      · rw [if_pos hc] at u34
        obtain ⟨g12, u37, v38⟩ := u34
        have s39 : xk_eqv [2, 6, 11, 13, 14, 15, 16, 17, 18, 19, 20, 21, 22, 23, 24] g0 g12 := xk_eqv_tr s33 (xk_eqv_sub (frzM_counts_0_0 _ _ _ u37) (by decide))
        rw [v38]; exact s39
      · rw [if_neg hc] at u34
        rw [u34]; exact s33
  obtain ⟨g14, u40, v41⟩ := v35
  have s42 : xk_eqv [2, 6, 11, 13, 14, 15, 16, 17, 18, 19, 20, 21, 22, 23, 24] g0 g14 := by rw [u40]; repeat (first | exact s36 | refine xk_eqv_up (by decide) ?_)
  obtain ⟨g16, u43, v44⟩ := v41
  have s45 : xk_eqv [2, 6, 11, 13, 14, 15, 16, 17, 18, 19, 20, 21, 22, 23, 24] g0 g16 := by
    by_cases hc : ((g13 1) 1) = 0
    · rw [if_pos hc] at u43
      rw [u43]; exact s42
    · rw [if_neg hc] at u43
      by_cases hc : ((g14 2) 1) = 0
      · rw [if_pos hc] at u43
        obtain ⟨g15, u46, v47⟩ := u43
        have s48 : xk_eqv [2, 6, 11, 13, 14, 15, 16, 17, 18, 19, 20, 21, 22, 23, 24] g0 g15 := xk_eqv_tr s42 (xk_eqv_sub (frzM_counts_0_1 _ _ _ u46) (by decide))
        rw [v47]; exact s48
      · rw [if_neg hc] at u43
        rw [u43]; exact s42
  obtain ⟨g17, u49, v50⟩ := v44
  have s51 : xk_eqv [2, 6, 11, 13, 14, 15, 16, 17, 18, 19, 20, 21, 22, 23, 24] g0 g17 := by rw [u49]; repeat (first | exact s45 | refine xk_eqv_up (by decide) ?_)
  obtain ⟨g19, u52, v53⟩ := v50
  have s54 : xk_eqv [2, 6, 11, 13, 14, 15, 16, 17, 18, 19, 20, 21, 22, 23, 24] g0 g19 := by
    by_cases hc : ((g16 1) 2) = 0
    · rw [if_pos hc] at u52
      rw [u52]; exact s51
    · rw [if_neg hc] at u52
      by_cases hc : ((g17 2) 2) = 0
      · rw [if_pos hc] at u52
        obtain ⟨g18, u55, v56⟩ := u52
        have s57 : xk_eqv [2, 6, 11, 13, 14, 15, 16, 17, 18, 19, 20, 21, 22, 23, 24] g0 g18 := xk_eqv_tr s51 (xk_eqv_sub (frzM_counts_0_2 _ _ _ u55) (by decide))
        rw [v56]; exact s57
      · rw [if_neg hc] at u52
        rw [u52]; exact s51
  obtain ⟨g20, u58, v59⟩ := v53
  have s60 : xk_eqv [2, 6, 11, 13, 14, 15, 16, 17, 18, 19, 20, 21, 22, 23, 24] g0 g20 := by rw [u58]; repeat (first | exact s54 | refine xk_eqv_up (by decide) ?_)
  obtain ⟨g22, u61, v62⟩ := v59
  have s63 : xk_eqv [2, 6, 11, 13, 14, 15, 16, 17, 18, 19, 20, 21, 22, 23, 24] g0 g22 := by
    by_cases hc : ((g19 1) 3) = 0
    · rw [if_pos hc] at u61
      rw [u61]; exact s60
    · rw [if_neg hc] at u61
      by_cases hc : ((g20 2) 3) = 0
      · rw [if_pos hc] at u61
        obtain ⟨g21, u64, v65⟩ := u61
        have s66 : xk_eqv [2, 6, 11, 13, 14, 15, 16, 17, 18, 19, 20, 21, 22, 23, 24] g0 g21 := xk_eqv_tr s60 (xk_eqv_sub (frzM_counts_0_3 _ _ _ u64) (by decide))
        rw [v65]; exact s66
      · rw [if_neg hc] at u61
        rw [u61]; exact s60
  obtain ⟨g23, u67, v68⟩ := v62
  have s69 : xk_eqv [2, 6, 11, 13, 14, 15, 16, 17, 18, 19, 20, 21, 22, 23, 24] g0 g23 := by rw [u67]; repeat (first | exact s63 | refine xk_eqv_up (by decide) ?_)
  obtain ⟨g25, u70, v71⟩ := v68
  have s72 : xk_eqv [2, 6, 11, 13, 14, 15, 16, 17, 18, 19, 20, 21, 22, 23, 24] g0 g25 := by
    by_cases hc : ((g22 1) 4) = 0
    · rw [if_pos hc] at u70
      rw [u70]; exact s69
    · rw [if_neg hc] at u70
      by_cases hc : ((g23 2) 4) = 0
      · rw [if_pos hc] at u70
        obtain ⟨g24, u73, v74⟩ := u70
        have s75 : xk_eqv [2, 6, 11, 13, 14, 15, 16, 17, 18, 19, 20, 21, 22, 23, 24] g0 g24 := xk_eqv_tr s69 (xk_eqv_sub (frzM_counts_1_0 _ _ _ u73) (by decide))
        rw [v74]; exact s75
      · rw [if_neg hc] at u70
        rw [u70]; exact s69
  obtain ⟨g26, u76, v77⟩ := v71
  have s78 : xk_eqv [2, 6, 11, 13, 14, 15, 16, 17, 18, 19, 20, 21, 22, 23, 24] g0 g26 := by rw [u76]; repeat (first | exact s72 | refine xk_eqv_up (by decide) ?_)
  obtain ⟨g28, u79, v80⟩ := v77
  have s81 : xk_eqv [2, 6, 11, 13, 14, 15, 16, 17, 18, 19, 20, 21, 22, 23, 24] g0 g28 := by
    by_cases hc : ((g25 1) 5) = 0
    · rw [if_pos hc] at u79
      rw [u79]; exact s78
    · rw [if_neg hc] at u79
      by_cases hc : ((g26 2) 5) = 0
      · rw [if_pos hc] at u79
        obtain ⟨g27, u82, v83⟩ := u79
        have s84 : xk_eqv [2, 6, 11, 13, 14, 15, 16, 17, 18, 19, 20, 21, 22, 23, 24] g0 g27 := xk_eqv_tr s78 (xk_eqv_sub (frzM_counts_1_1 _ _ _ u82) (by decide))
        rw [v83]; exact s84
      · rw [if_neg hc] at u79
        rw [u79]; exact s78
  obtain ⟨g29, u85, v86⟩ := v80
  have s87 : xk_eqv [2, 6, 11, 13, 14, 15, 16, 17, 18, 19, 20, 21, 22, 23, 24] g0 g29 := by rw [u85]; repeat (first | exact s81 | refine xk_eqv_up (by decide) ?_)
  obtain ⟨g31, u88, v89⟩ := v86
  have s90 : xk_eqv [2, 6, 11, 13, 14, 15, 16, 17, 18, 19, 20, 21, 22, 23, 24] g0 g31 := by
    by_cases hc : ((g28 1) 6) = 0
    · rw [if_pos hc] at u88
      rw [u88]; exact s87
    · rw [if_neg hc] at u88
      by_cases hc : ((g29 2) 6) = 0
      · rw [if_pos hc] at u88
        obtain ⟨g30, u91, v92⟩ := u88
        have s93 : xk_eqv [2, 6, 11, 13, 14, 15, 16, 17, 18, 19, 20, 21, 22, 23, 24] g0 g30 := xk_eqv_tr s87 (xk_eqv_sub (frzM_counts_1_2 _ _ _ u91) (by decide))
        rw [v92]; exact s93
      · rw [if_neg hc] at u88
        rw [u88]; exact s87
  obtain ⟨g32, u94, v95⟩ := v89
  have s96 : xk_eqv [2, 6, 11, 13, 14, 15, 16, 17, 18, 19, 20, 21, 22, 23, 24] g0 g32 := by rw [u94]; repeat (first | exact s90 | refine xk_eqv_up (by decide) ?_)
  obtain ⟨g34, u97, v98⟩ := v95
  have s99 : xk_eqv [2, 6, 11, 13, 14, 15, 16, 17, 18, 19, 20, 21, 22, 23, 24] g0 g34 := by
    by_cases hc : ((g31 1) 7) = 0
    · rw [if_pos hc] at u97
      rw [u97]; exact s96
    · rw [if_neg hc] at u97
      by_cases hc : ((g32 2) 7) = 0
      · rw [if_pos hc] at u97
        obtain ⟨g33, u100, v101⟩ := u97
        have s102 : xk_eqv [2, 6, 11, 13, 14, 15, 16, 17, 18, 19, 20, 21, 22, 23, 24] g0 g33 := xk_eqv_tr s96 (xk_eqv_sub (frzM_counts_1_3 _ _ _ u100) (by decide))
        rw [v101]; exact s102
      · rw [if_neg hc] at u97
        rw [u97]; exact s96
  rw [v98]; exact s99
theorem iczM_allPulses (B : Nat) (g0 : xk_St) (gz : xk_St) : relzM_allPulses g0 gz → xk_cnt B g0 → xk_cnt (B + 12) gz := by
  intro h Ig0
  unfold relzM_allPulses at h
  have Ig0 : xk_cnt (B + 0) g0 := Ig0
  obtain ⟨g1, u1, v2⟩ := h
  have Ig1 : xk_cnt (B + 0) g1 := by rw [u1]; repeat (first | exact Ig0 | refine xk_cnt_k (by decide) ?_ | refine xk_cnt_f (by decide) ?_ | refine xk_cnt_s ?_)
  obtain ⟨g2, u3, v4⟩ := v2
  have Ig2 : xk_cnt (B + 0) g2 := by rw [u3]; repeat (first | exact Ig1 | refine xk_cnt_k (by decide) ?_ | refine xk_cnt_f (by decide) ?_ | refine xk_cnt_s ?_)
  obtain ⟨g3, u5, v6⟩ := v4
  have Ig3 : xk_cnt (B + 0) g3 := by rw [u5]; repeat (first | exact Ig2 | refine xk_cnt_k (by decide) ?_ | refine xk_cnt_f (by decide) ?_ | refine xk_cnt_s ?_)
  obtain ⟨g4, u7, v8⟩ := v6
  have Ig4 : xk_cnt (B + 0) g4 := by rw [u7]; repeat (first | exact Ig3 | refine xk_cnt_k (by decide) ?_ | refine xk_cnt_f (by decide) ?_ | refine xk_cnt_s ?_)
  obtain ⟨g5, u9, v10⟩ := v8
  have Ig5 : xk_cnt (B + 0) g5 := by rw [u9]; repeat (first | exact Ig4 | refine xk_cnt_k (by decide) ?_ | refine xk_cnt_f (by decide) ?_ | refine xk_cnt_s ?_)
  obtain ⟨g6, u11, v12⟩ := v10
  have Ig6 : xk_cnt (B + 0) g6 := by rw [u11]; repeat (first | exact Ig5 | refine xk_cnt_k (by decide) ?_ | refine xk_cnt_f (by decide) ?_ | refine xk_cnt_s ?_)
  obtain ⟨g7, u13, v14⟩ := v12
  have Ig7 : xk_cnt (B + 0) g7 := by rw [u13]; repeat (first | exact Ig6 | refine xk_cnt_k (by decide) ?_ | refine xk_cnt_f (by decide) ?_ | refine xk_cnt_s ?_)
  obtain ⟨g8, u15, v16⟩ := v14
  have Ig8 : xk_cnt (B + 0) g8 := by rw [u15]; repeat (first | exact Ig7 | refine xk_cnt_k (by decide) ?_ | refine xk_cnt_f (by decide) ?_ | refine xk_cnt_s ?_)
  obtain ⟨g9, u17, v18⟩ := v16
  have Ig9 : xk_cnt (B + 0) g9 := by rw [u17]; repeat (first | exact Ig8 | refine xk_cnt_k (by decide) ?_ | refine xk_cnt_f (by decide) ?_ | refine xk_cnt_s ?_)
  obtain ⟨g10, u19, v20⟩ := v18
  have Ig10 : xk_cnt (B + 0) g10 := by rw [u19]; repeat (first | exact Ig9 | refine xk_cnt_k (by decide) ?_ | refine xk_cnt_f (by decide) ?_ | refine xk_cnt_s ?_)
  obtain ⟨g11, u21, v22⟩ := v20
  have Ig11 : xk_cnt (B + 0) g11 := by rw [u21]; repeat (first | exact Ig10 | refine xk_cnt_k (by decide) ?_ | refine xk_cnt_f (by decide) ?_ | refine xk_cnt_s ?_)
  obtain ⟨g13, u23, v24⟩ := v22
  have Ig13 : xk_cnt (B + 1) g13 := by
    by_cases hc : ((g10 1) 0) = 0
    · rw [if_pos hc] at u23
      rw [u23]; exact xk_cnt_le Ig11 (by omega)
    · rw [if_neg hc] at u23
      by_cases hc : ((g11 2) 0) = 0
      · rw [if_pos hc] at u23
        obtain ⟨g12, u25, v26⟩ := u23
        have Ig12 : xk_cnt (B + 1) g12 := xk_cnt_le (iczM_counts_0_0 (B + 0) _ _ _ u25 Ig11) (by omega)
        rw [v26]; exact xk_cnt_le Ig12 (by omega)
      · rw [if_neg hc] at u23
        rw [u23]; exact xk_cnt_le Ig11 (by omega)
  obtain ⟨g14, u27, v28⟩ := v24
  have Ig14 : xk_cnt (B + 1) g14 := by rw [u27]; repeat (first | exact Ig13 | refine xk_cnt_k (by decide) ?_ | refine xk_cnt_f (by decide) ?_ | refine xk_cnt_s ?_)
  obtain ⟨g16, u29, v30⟩ := v28
  have Ig16 : xk_cnt (B + 3) g16 := by
    by_cases hc : ((g13 1) 1) = 0
    · rw [if_pos hc] at u29
      rw [u29]; exact xk_cnt_le Ig14 (by omega)
    · rw [if_neg hc] at u29
      by_cases hc : ((g14 2) 1) = 0
      · rw [if_pos hc] at u29
        obtain ⟨g15, u31, v32⟩ := u29
        have Ig15 : xk_cnt (B + 3) g15 := xk_cnt_le (iczM_counts_0_1 (B + 1) _ _ _ u31 Ig14) (by omega)
        rw [v32]; exact xk_cnt_le Ig15 (by omega)
      · rw [if_neg hc] at u29
        rw [u29]; exact xk_cnt_le Ig14 (by omega)
  obtain ⟨g17, u33, v34⟩ := v30
  have Ig17 : xk_cnt (B + 3) g17 := by rw [u33]; repeat (first | exact Ig16 | refine xk_cnt_k (by decide) ?_ | refine xk_cnt_f (by decide) ?_ | refine xk_cnt_s ?_)
  obtain ⟨g19, u35, v36⟩ := v34
  have Ig19 : xk_cnt (B + 5) g19 := by
    by_cases hc : ((g16 1) 2) = 0
    · rw [if_pos hc] at u35
      rw [u35]; exact xk_cnt_le Ig17 (by omega)
    · rw [if_neg hc] at u35
      by_cases hc : ((g17 2) 2) = 0
      · rw [if_pos hc] at u35
        obtain ⟨g18, u37, v38⟩ := u35
        have Ig18 : xk_cnt (B + 5) g18 := xk_cnt_le (iczM_counts_0_2 (B + 3) _ _ _ u37 Ig17) (by omega)
        rw [v38]; exact xk_cnt_le Ig18 (by omega)
      · rw [if_neg hc] at u35
        rw [u35]; exact xk_cnt_le Ig17 (by omega)
  obtain ⟨g20, u39, v40⟩ := v36
  have Ig20 : xk_cnt (B + 5) g20 := by rw [u39]; repeat (first | exact Ig19 | refine xk_cnt_k (by decide) ?_ | refine xk_cnt_f (by decide) ?_ | refine xk_cnt_s ?_)
  obtain ⟨g22, u41, v42⟩ := v40
  have Ig22 : xk_cnt (B + 6) g22 := by
    by_cases hc : ((g19 1) 3) = 0
    · rw [if_pos hc] at u41
      rw [u41]; exact xk_cnt_le Ig20 (by omega)
    · rw [if_neg hc] at u41
      by_cases hc : ((g20 2) 3) = 0
      · rw [if_pos hc] at u41
        obtain ⟨g21, u43, v44⟩ := u41
        have Ig21 : xk_cnt (B + 6) g21 := xk_cnt_le (iczM_counts_0_3 (B + 5) _ _ _ u43 Ig20) (by omega)
        rw [v44]; exact xk_cnt_le Ig21 (by omega)
      · rw [if_neg hc] at u41
        rw [u41]; exact xk_cnt_le Ig20 (by omega)
  obtain ⟨g23, u45, v46⟩ := v42
  have Ig23 : xk_cnt (B + 6) g23 := by rw [u45]; repeat (first | exact Ig22 | refine xk_cnt_k (by decide) ?_ | refine xk_cnt_f (by decide) ?_ | refine xk_cnt_s ?_)
  obtain ⟨g25, u47, v48⟩ := v46
  have Ig25 : xk_cnt (B + 7) g25 := by
    by_cases hc : ((g22 1) 4) = 0
    · rw [if_pos hc] at u47
      rw [u47]; exact xk_cnt_le Ig23 (by omega)
    · rw [if_neg hc] at u47
      by_cases hc : ((g23 2) 4) = 0
      · rw [if_pos hc] at u47
        obtain ⟨g24, u49, v50⟩ := u47
        have Ig24 : xk_cnt (B + 7) g24 := xk_cnt_le (iczM_counts_1_0 (B + 6) _ _ _ u49 Ig23) (by omega)
        rw [v50]; exact xk_cnt_le Ig24 (by omega)
      · rw [if_neg hc] at u47
        rw [u47]; exact xk_cnt_le Ig23 (by omega)
  obtain ⟨g26, u51, v52⟩ := v48
  have Ig26 : xk_cnt (B + 7) g26 := by rw [u51]; repeat (first | exact Ig25 | refine xk_cnt_k (by decide) ?_ | refine xk_cnt_f (by decide) ?_ | refine xk_cnt_s ?_)
  obtain ⟨g28, u53, v54⟩ := v52
  have Ig28 : xk_cnt (B + 9) g28 := by
    by_cases hc : ((g25 1) 5) = 0
    · rw [if_pos hc] at u53
      rw [u53]; exact xk_cnt_le Ig26 (by omega)
    · rw [if_neg hc] at u53
      by_cases hc : ((g26 2) 5) = 0
      · rw [if_pos hc] at u53
        obtain ⟨g27, u55, v56⟩ := u53
        have Ig27 : xk_cnt (B + 9) g27 := xk_cnt_le (iczM_counts_1_1 (B + 7) _ _ _ u55 Ig26) (by omega)
        rw [v56]; exact xk_cnt_le Ig27 (by omega)
      · rw [if_neg hc] at u53
        rw [u53]; exact xk_cnt_le Ig26 (by omega)
  obtain ⟨g29, u57, v58⟩ := v54
  have Ig29 : xk_cnt (B + 9) g29 := by rw [u57]; repeat (first | exact Ig28 | refine xk_cnt_k (by decide) ?_ | refine xk_cnt_f (by decide) ?_ | refine xk_cnt_s ?_)
  obtain ⟨g31, u59, v60⟩ := v58
  have Ig31 : xk_cnt (B + 11) g31 := by
    by_cases hc : ((g28 1) 6) = 0
    · rw [if_pos hc] at u59
      rw [u59]; exact xk_cnt_le Ig29 (by omega)
    · rw [if_neg hc] at u59
      by_cases hc : ((g29 2) 6) = 0
      · rw [if_pos hc] at u59
        obtain ⟨g30, u61, v62⟩ := u59
        have Ig30 : xk_cnt (B + 11) g30 := xk_cnt_le (iczM_counts_1_2 (B + 9) _ _ _ u61 Ig29) (by omega)
        rw [v62]; exact xk_cnt_le Ig30 (by omega)
      · rw [if_neg hc] at u59
        rw [u59]; exact xk_cnt_le Ig29 (by omega)
  obtain ⟨g32, u63, v64⟩ := v60
  have Ig32 : xk_cnt (B + 11) g32 := by rw [u63]; repeat (first | exact Ig31 | refine xk_cnt_k (by decide) ?_ | refine xk_cnt_f (by decide) ?_ | refine xk_cnt_s ?_)
  obtain ⟨g34, u65, v66⟩ := v64
  have Ig34 : xk_cnt (B + 12) g34 := by
    by_cases hc : ((g31 1) 7) = 0
    · rw [if_pos hc] at u65
      rw [u65]; exact xk_cnt_le Ig32 (by omega)
    · rw [if_neg hc] at u65
      by_cases hc : ((g32 2) 7) = 0
      · rw [if_pos hc] at u65
        obtain ⟨g33, u67, v68⟩ := u65
        have Ig33 : xk_cnt (B + 12) g33 := xk_cnt_le (iczM_counts_1_3 (B + 11) _ _ _ u67 Ig32) (by omega)
        rw [v68]; exact xk_cnt_le Ig33 (by omega)
      · rw [if_neg hc] at u65
        rw [u65]; exact xk_cnt_le Ig32 (by omega)
  rw [v66]; exact xk_cnt_le Ig34 (by omega)

