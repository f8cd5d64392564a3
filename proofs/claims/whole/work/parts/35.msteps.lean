def relzM_allComings (g0 : xk_St) (gz : xk_St) : Prop := ∃ (g5 : xk_St), (if ((g0 12) 0) = 0 then (if ((g0 11) 0) = (-1) then (g5 = g0) else (∃ (x1 : Int32), (if ((g0 3) 0) = 0 then (x1 = (-1)) else (if ((g0 11) 0) ≤ 0 then (x1 = 0) else (x1 = ((g0 11) 0) - 1))) ∧ (∃ (g1 : xk_St), g1 = va_up g0 11 (upd (g0 11) 0 x1) ∧ (g5 = g1)))) else (if ((g0 4) 0) = 0 then (if ((g0 11) 0) = (-1) then (∃ (g4 : xk_St), g4 = va_up g0 11 (upd (g0 11) 0 214) ∧ (g5 = g4)) else (∃ (x3 : Int32), (if ((g0 3) 0) = 0 then (x3 = (-1)) else (if ((g0 11) 0) ≤ 0 then (x3 = 0) else (x3 = ((g0 11) 0) - 1))) ∧ (∃ (g3 : xk_St), g3 = va_up g0 11 (upd (g0 11) 0 x3) ∧ (g5 = g3)))) else (if ((g0 11) 0) = (-1) then (g5 = g0) else (∃ (x2 : Int32), (if ((g0 3) 0) = 0 then (x2 = (-1)) else (if ((g0 11) 0) ≤ 0 then (x2 = 0) else (x2 = ((g0 11) 0) - 1))) ∧ (∃ (g2 : xk_St), g2 = va_up g0 11 (upd (g0 11) 0 x2) ∧ (g5 = g2)))))) ∧ (∃ (g10 : xk_St), (if ((g5 12) 1) = 0 then (if ((g5 11) 1) = (-1) then (g10 = g5) else (∃ (x4 : Int32), (if ((g5 3) 2) = 0 then (x4 = (-1)) else (if ((g5 11) 1) ≤ 0 then (x4 = 0) else (x4 = ((g5 11) 1) - 1))) ∧ (∃ (g6 : xk_St), g6 = va_up g5 11 (upd (g5 11) 1 x4) ∧ (g10 = g6)))) else (if ((g5 4) 2) = 0 then (if ((g5 11) 1) = (-1) then (∃ (g9 : xk_St), g9 = va_up g5 11 (upd (g5 11) 1 214) ∧ (g10 = g9)) else (∃ (x6 : Int32), (if ((g5 3) 2) = 0 then (x6 = (-1)) else (if ((g5 11) 1) ≤ 0 then (x6 = 0) else (x6 = ((g5 11) 1) - 1))) ∧ (∃ (g8 : xk_St), g8 = va_up g5 11 (upd (g5 11) 1 x6) ∧ (g10 = g8)))) else (if ((g5 11) 1) = (-1) then (g10 = g5) else (∃ (x5 : Int32), (if ((g5 3) 2) = 0 then (x5 = (-1)) else (if ((g5 11) 1) ≤ 0 then (x5 = 0) else (x5 = ((g5 11) 1) - 1))) ∧ (∃ (g7 : xk_St), g7 = va_up g5 11 (upd (g5 11) 1 x5) ∧ (g10 = g7)))))) ∧ (∃ (g15 : xk_St), (if ((g10 12) 2) = 0 then (if ((g10 11) 2) = (-1) then (g15 = g10) else (∃ (x7 : Int32), (if ((g10 3) 3) = 0 then (x7 = (-1)) else (if ((g10 11) 2) ≤ 0 then (x7 = 0) else (x7 = ((g10 11) 2) - 1))) ∧ (∃ (g11 : xk_St), g11 = va_up g10 11 (upd (g10 11) 2 x7) ∧ (g15 = g11)))) else (if ((g10 4) 3) = 0 then (if ((g10 11) 2) = (-1) then (∃ (g14 : xk_St), g14 = va_up g10 11 (upd (g10 11) 2 214) ∧ (g15 = g14)) else (∃ (x9 : Int32), (if ((g10 3) 3) = 0 then (x9 = (-1)) else (if ((g10 11) 2) ≤ 0 then (x9 = 0) else (x9 = ((g10 11) 2) - 1))) ∧ (∃ (g13 : xk_St), g13 = va_up g10 11 (upd (g10 11) 2 x9) ∧ (g15 = g13)))) else (if ((g10 11) 2) = (-1) then (g15 = g10) else (∃ (x8 : Int32), (if ((g10 3) 3) = 0 then (x8 = (-1)) else (if ((g10 11) 2) ≤ 0 then (x8 = 0) else (x8 = ((g10 11) 2) - 1))) ∧ (∃ (g12 : xk_St), g12 = va_up g10 11 (upd (g10 11) 2 x8) ∧ (g15 = g12)))))) ∧ (∃ (g20 : xk_St), (if ((g15 12) 3) = 0 then (if ((g15 11) 3) = (-1) then (g20 = g15) else (∃ (x10 : Int32), (if ((g15 3) 5) = 0 then (x10 = (-1)) else (if ((g15 11) 3) ≤ 0 then (x10 = 0) else (x10 = ((g15 11) 3) - 1))) ∧ (∃ (g16 : xk_St), g16 = va_up g15 11 (upd (g15 11) 3 x10) ∧ (g20 = g16)))) else (if ((g15 4) 5) = 0 then (if ((g15 11) 3) = (-1) then (∃ (g19 : xk_St), g19 = va_up g15 11 (upd (g15 11) 3 214) ∧ (g20 = g19)) else (∃ (x12 : Int32), (if ((g15 3) 5) = 0 then (x12 = (-1)) else (if ((g15 11) 3) ≤ 0 then (x12 = 0) else (x12 = ((g15 11) 3) - 1))) ∧ (∃ (g18 : xk_St), g18 = va_up g15 11 (upd (g15 11) 3 x12) ∧ (g20 = g18)))) else (if ((g15 11) 3) = (-1) then (g20 = g15) else (∃ (x11 : Int32), (if ((g15 3) 5) = 0 then (x11 = (-1)) else (if ((g15 11) 3) ≤ 0 then (x11 = 0) else (x11 = ((g15 11) 3) - 1))) ∧ (∃ (g17 : xk_St), g17 = va_up g15 11 (upd (g15 11) 3 x11) ∧ (g20 = g17)))))) ∧ (gz = g20))))
set_option maxHeartbeats 4000000 in
set_option maxRecDepth 100000 in
theorem kzM_allComings (l : Launch) (G : va_G) (ac : Nat → ClassId) (ad : Nat → Nat) (g0 : xk_St) (B : Nat) (Ig0 : xk_cnt B g0) (hB : B + 1 < 2147483648) : xk_CV l yzM_allComings czM_allComings 3 xk_WS xk_r0 G xk_cls (xk_tys ac) [.ref (ad 0)] (xk_wM ad ac g0) (fun (gz : xk_St) => relzM_allComings g0 gz) (fun gz => xk_wM ad ac gz) := by
  refine xk_ofV (by decide) (Nat.le_of_ble_eq_true rfl) ?_
  intro p e s m args below meth c A Q H locs ls C0 hret hP hD hS hl
  obtain ⟨hx, hb, hml, hts, hown, hK, hA⟩ := C0
  have hl : lv_has ls 3 [(0, .ref (ad 0))] := hl
  have Ig0 : xk_cnt (B + 0) g0 := Ig0
  refine lv_iconst (v := 0) (pc := 0) hx hb dzM_allComings_0 (by decide) ?_
  refine lv_istore_n (lv' := [(1, .int 0), (0, .ref (ad 0))]) (pc := 1) hx hb dzM_allComings_1 rfl hl (by decide) rfl (fun ls hl => ?_)
  refine lv_iload_n (pc := 2) hx hb dzM_allComings_2 rfl (lv_at hl 0 rfl) ?_
  refine lv_iconst (v := 4) (pc := 3) hx hb dzM_allComings_3 (by decide) ?_
  refine lv_icmp_ge (pc := 4) (tgt := 115) hx hb dzM_allComings_4 (by decide) (fun hq9 => absurd hq9 (by decide)) (fun _ => ?_)
  refine lv_iconst (v := 3) (pc := 7) hx hb dzM_allComings_7 (by decide) ?_
  refine lv_iload_n (pc := 8) hx hb dzM_allComings_8 rfl (lv_at hl 0 rfl) ?_
  refine lv_iconst (v := 2) (pc := 9) hx hb dzM_allComings_9 (by decide) ?_
  refine lv_idiv (pc := 10) hx hb dzM_allComings_10 (by decide) ?_
  refine xk_is (y := 0) (by decide) ?_
  refine lv_imul (pc := 11) hx hb dzM_allComings_11 ?_
  refine xk_is (y := 0) (by decide) ?_
  refine lv_iconst (v := 2) (pc := 12) hx hb dzM_allComings_12 (by decide) ?_
  refine lv_iload_n (pc := 13) hx hb dzM_allComings_13 rfl (lv_at hl 0 rfl) ?_
  refine lv_iconst (v := 2) (pc := 14) hx hb dzM_allComings_14 (by decide) ?_
  refine lv_irem (pc := 15) hx hb dzM_allComings_15 (by decide) ?_
  refine xk_is (y := 0) (by decide) ?_
  refine lv_imul (pc := 16) hx hb dzM_allComings_16 ?_
  refine xk_is (y := 0) (by decide) ?_
  refine lv_iadd (pc := 17) hx hb dzM_allComings_17 ?_
  refine xk_is (y := 0) (by decide) ?_
  refine lv_istore_n (lv' := [(2, .int 0), (1, .int 0), (0, .ref (ad 0))]) (pc := 18) hx hb dzM_allComings_18 rfl hl (by decide) rfl (fun ls hl => ?_)
  refine lv_aload_n (pc := 19) hx hb dzM_allComings_19 rfl (lv_at hl 2 rfl) ?_
  refine xk_get (pc := 20) hx hb hts hown hK hP ffzM_44 0 rfl rfl dzM_allComings_20 ?_
  refine lv_iload_n (pc := 23) hx hb dzM_allComings_23 rfl (lv_at hl 1 rfl) ?_
  refine xk_zald (q0 := 12) (t0 := 1) (j := 0) (pc := 24) hx hb hK hP rfl rfl (pk_in 0 4 (by decide)) (pk_cl 0) dzM_allComings_24 ?_
  have K4 : ∀ (g5 : xk_St) (H : Heap) (locs : List Loc), (if ((g0 12) 0) = 0 then (if ((g0 11) 0) = (-1) then (g5 = g0) else (∃ (x1 : Int32), (if ((g0 3) 0) = 0 then (x1 = (-1)) else (if ((g0 11) 0) ≤ 0 then (x1 = 0) else (x1 = ((g0 11) 0) - 1))) ∧ (∃ (g1 : xk_St), g1 = va_up g0 11 (upd (g0 11) 0 x1) ∧ (g5 = g1)))) else (if ((g0 4) 0) = 0 then (if ((g0 11) 0) = (-1) then (∃ (g4 : xk_St), g4 = va_up g0 11 (upd (g0 11) 0 214) ∧ (g5 = g4)) else (∃ (x3 : Int32), (if ((g0 3) 0) = 0 then (x3 = (-1)) else (if ((g0 11) 0) ≤ 0 then (x3 = 0) else (x3 = ((g0 11) 0) - 1))) ∧ (∃ (g3 : xk_St), g3 = va_up g0 11 (upd (g0 11) 0 x3) ∧ (g5 = g3)))) else (if ((g0 11) 0) = (-1) then (g5 = g0) else (∃ (x2 : Int32), (if ((g0 3) 0) = 0 then (x2 = (-1)) else (if ((g0 11) 0) ≤ 0 then (x2 = 0) else (x2 = ((g0 11) 0) - 1))) ∧ (∃ (g2 : xk_St), g2 = va_up g0 11 (upd (g0 11) 0 x2) ∧ (g5 = g2)))))) → (xk_cnt (B + 0) g5) → (va_P G xk_cls (xk_wM ad ac g5) H) → (va_D A (xk_wM ad ac g5)) → (va_S A s.heap H locs) → W p l e xk_r0 s m args below meth c H locs 0 0 Q (F0 m 109 ls []) := by
    intro g5 H locs R4 Ig5 hP hD hS
    refine lv_iinc (k := 1) (x := 0) (v := 1) (lv' := [(1, .int 1), (2, .int 0), (0, .ref (ad 0))]) (pc := 109) hx hb dzM_allComings_109 hl rfl (by decide) (by decide) rfl (fun ls hl => ?_)
    refine lv_goto (tgt := 2) (pc := 112) hx hb dzM_allComings_112 (by decide) ?_
    refine lv_iload_n (pc := 2) hx hb dzM_allComings_2 rfl (lv_at hl 0 rfl) ?_
    refine lv_iconst (v := 4) (pc := 3) hx hb dzM_allComings_3 (by decide) ?_
    refine lv_icmp_ge (pc := 4) (tgt := 115) hx hb dzM_allComings_4 (by decide) (fun hq9 => absurd hq9 (by decide)) (fun _ => ?_)
    refine lv_iconst (v := 3) (pc := 7) hx hb dzM_allComings_7 (by decide) ?_
    refine lv_iload_n (pc := 8) hx hb dzM_allComings_8 rfl (lv_at hl 0 rfl) ?_
    refine lv_iconst (v := 2) (pc := 9) hx hb dzM_allComings_9 (by decide) ?_
    refine lv_idiv (pc := 10) hx hb dzM_allComings_10 (by decide) ?_
    refine xk_is (y := 0) (by decide) ?_
    refine lv_imul (pc := 11) hx hb dzM_allComings_11 ?_
    refine xk_is (y := 0) (by decide) ?_
    refine lv_iconst (v := 2) (pc := 12) hx hb dzM_allComings_12 (by decide) ?_
    refine lv_iload_n (pc := 13) hx hb dzM_allComings_13 rfl (lv_at hl 0 rfl) ?_
    refine lv_iconst (v := 2) (pc := 14) hx hb dzM_allComings_14 (by decide) ?_
    refine lv_irem (pc := 15) hx hb dzM_allComings_15 (by decide) ?_
    refine xk_is (y := 1) (by decide) ?_
    refine lv_imul (pc := 16) hx hb dzM_allComings_16 ?_
    refine xk_is (y := 2) (by decide) ?_
    refine lv_iadd (pc := 17) hx hb dzM_allComings_17 ?_
    refine xk_is (y := 2) (by decide) ?_
    refine lv_istore_n (lv' := [(2, .int 2), (1, .int 1), (0, .ref (ad 0))]) (pc := 18) hx hb dzM_allComings_18 rfl hl (by decide) rfl (fun ls hl => ?_)
    refine lv_aload_n (pc := 19) hx hb dzM_allComings_19 rfl (lv_at hl 2 rfl) ?_
    refine xk_get (pc := 20) hx hb hts hown hK hP ffzM_44 0 rfl rfl dzM_allComings_20 ?_
    refine lv_iload_n (pc := 23) hx hb dzM_allComings_23 rfl (lv_at hl 1 rfl) ?_
    refine xk_zald (q0 := 12) (t0 := 1) (j := 1) (pc := 24) hx hb hK hP rfl rfl (pk_in 1 4 (by decide)) (pk_cl 1) dzM_allComings_24 ?_
    have K8 : ∀ (g10 : xk_St) (H : Heap) (locs : List Loc), (if ((g5 12) 1) = 0 then (if ((g5 11) 1) = (-1) then (g10 = g5) else (∃ (x4 : Int32), (if ((g5 3) 2) = 0 then (x4 = (-1)) else (if ((g5 11) 1) ≤ 0 then (x4 = 0) else (x4 = ((g5 11) 1) - 1))) ∧ (∃ (g6 : xk_St), g6 = va_up g5 11 (upd (g5 11) 1 x4) ∧ (g10 = g6)))) else (if ((g5 4) 2) = 0 then (if ((g5 11) 1) = (-1) then (∃ (g9 : xk_St), g9 = va_up g5 11 (upd (g5 11) 1 214) ∧ (g10 = g9)) else (∃ (x6 : Int32), (if ((g5 3) 2) = 0 then (x6 = (-1)) else (if ((g5 11) 1) ≤ 0 then (x6 = 0) else (x6 = ((g5 11) 1) - 1))) ∧ (∃ (g8 : xk_St), g8 = va_up g5 11 (upd (g5 11) 1 x6) ∧ (g10 = g8)))) else (if ((g5 11) 1) = (-1) then (g10 = g5) else (∃ (x5 : Int32), (if ((g5 3) 2) = 0 then (x5 = (-1)) else (if ((g5 11) 1) ≤ 0 then (x5 = 0) else (x5 = ((g5 11) 1) - 1))) ∧ (∃ (g7 : xk_St), g7 = va_up g5 11 (upd (g5 11) 1 x5) ∧ (g10 = g7)))))) → (xk_cnt (B + 0) g10) → (va_P G xk_cls (xk_wM ad ac g10) H) → (va_D A (xk_wM ad ac g10)) → (va_S A s.heap H locs) → W p l e xk_r0 s m args below meth c H locs 0 0 Q (F0 m 109 ls []) := by
      intro g10 H locs R8 Ig10 hP hD hS
      refine lv_iinc (k := 1) (x := 1) (v := 2) (lv' := [(1, .int 2), (2, .int 2), (0, .ref (ad 0))]) (pc := 109) hx hb dzM_allComings_109 hl rfl (by decide) (by decide) rfl (fun ls hl => ?_)
      refine lv_goto (tgt := 2) (pc := 112) hx hb dzM_allComings_112 (by decide) ?_
      refine lv_iload_n (pc := 2) hx hb dzM_allComings_2 rfl (lv_at hl 0 rfl) ?_
      refine lv_iconst (v := 4) (pc := 3) hx hb dzM_allComings_3 (by decide) ?_
      refine lv_icmp_ge (pc := 4) (tgt := 115) hx hb dzM_allComings_4 (by decide) (fun hq9 => absurd hq9 (by decide)) (fun _ => ?_)
      refine lv_iconst (v := 3) (pc := 7) hx hb dzM_allComings_7 (by decide) ?_
      refine lv_iload_n (pc := 8) hx hb dzM_allComings_8 rfl (lv_at hl 0 rfl) ?_
      refine lv_iconst (v := 2) (pc := 9) hx hb dzM_allComings_9 (by decide) ?_
      refine lv_idiv (pc := 10) hx hb dzM_allComings_10 (by decide) ?_
      refine xk_is (y := 1) (by decide) ?_
      refine lv_imul (pc := 11) hx hb dzM_allComings_11 ?_
      refine xk_is (y := 3) (by decide) ?_
      refine lv_iconst (v := 2) (pc := 12) hx hb dzM_allComings_12 (by decide) ?_
      refine lv_iload_n (pc := 13) hx hb dzM_allComings_13 rfl (lv_at hl 0 rfl) ?_
      refine lv_iconst (v := 2) (pc := 14) hx hb dzM_allComings_14 (by decide) ?_
      refine lv_irem (pc := 15) hx hb dzM_allComings_15 (by decide) ?_
      refine xk_is (y := 0) (by decide) ?_
      refine lv_imul (pc := 16) hx hb dzM_allComings_16 ?_
      refine xk_is (y := 0) (by decide) ?_
      refine lv_iadd (pc := 17) hx hb dzM_allComings_17 ?_
      refine xk_is (y := 3) (by decide) ?_
      refine lv_istore_n (lv' := [(2, .int 3), (1, .int 2), (0, .ref (ad 0))]) (pc := 18) hx hb dzM_allComings_18 rfl hl (by decide) rfl (fun ls hl => ?_)
      refine lv_aload_n (pc := 19) hx hb dzM_allComings_19 rfl (lv_at hl 2 rfl) ?_
      refine xk_get (pc := 20) hx hb hts hown hK hP ffzM_44 0 rfl rfl dzM_allComings_20 ?_
      refine lv_iload_n (pc := 23) hx hb dzM_allComings_23 rfl (lv_at hl 1 rfl) ?_
      refine xk_zald (q0 := 12) (t0 := 1) (j := 2) (pc := 24) hx hb hK hP rfl rfl (pk_in 2 4 (by decide)) (pk_cl 2) dzM_allComings_24 ?_
      have K12 : ∀ (g15 : xk_St) (H : Heap) (locs : List Loc), (if ((g10 12) 2) = 0 then (if ((g10 11) 2) = (-1) then (g15 = g10) else (∃ (x7 : Int32), (if ((g10 3) 3) = 0 then (x7 = (-1)) else (if ((g10 11) 2) ≤ 0 then (x7 = 0) else (x7 = ((g10 11) 2) - 1))) ∧ (∃ (g11 : xk_St), g11 = va_up g10 11 (upd (g10 11) 2 x7) ∧ (g15 = g11)))) else (if ((g10 4) 3) = 0 then (if ((g10 11) 2) = (-1) then (∃ (g14 : xk_St), g14 = va_up g10 11 (upd (g10 11) 2 214) ∧ (g15 = g14)) else (∃ (x9 : Int32), (if ((g10 3) 3) = 0 then (x9 = (-1)) else (if ((g10 11) 2) ≤ 0 then (x9 = 0) else (x9 = ((g10 11) 2) - 1))) ∧ (∃ (g13 : xk_St), g13 = va_up g10 11 (upd (g10 11) 2 x9) ∧ (g15 = g13)))) else (if ((g10 11) 2) = (-1) then (g15 = g10) else (∃ (x8 : Int32), (if ((g10 3) 3) = 0 then (x8 = (-1)) else (if ((g10 11) 2) ≤ 0 then (x8 = 0) else (x8 = ((g10 11) 2) - 1))) ∧ (∃ (g12 : xk_St), g12 = va_up g10 11 (upd (g10 11) 2 x8) ∧ (g15 = g12)))))) → (xk_cnt (B + 0) g15) → (va_P G xk_cls (xk_wM ad ac g15) H) → (va_D A (xk_wM ad ac g15)) → (va_S A s.heap H locs) → W p l e xk_r0 s m args below meth c H locs 0 0 Q (F0 m 109 ls []) := by
        intro g15 H locs R12 Ig15 hP hD hS
        refine lv_iinc (k := 1) (x := 2) (v := 3) (lv' := [(1, .int 3), (2, .int 3), (0, .ref (ad 0))]) (pc := 109) hx hb dzM_allComings_109 hl rfl (by decide) (by decide) rfl (fun ls hl => ?_)
        refine lv_goto (tgt := 2) (pc := 112) hx hb dzM_allComings_112 (by decide) ?_
        refine lv_iload_n (pc := 2) hx hb dzM_allComings_2 rfl (lv_at hl 0 rfl) ?_
        refine lv_iconst (v := 4) (pc := 3) hx hb dzM_allComings_3 (by decide) ?_
        refine lv_icmp_ge (pc := 4) (tgt := 115) hx hb dzM_allComings_4 (by decide) (fun hq9 => absurd hq9 (by decide)) (fun _ => ?_)
        refine lv_iconst (v := 3) (pc := 7) hx hb dzM_allComings_7 (by decide) ?_
        refine lv_iload_n (pc := 8) hx hb dzM_allComings_8 rfl (lv_at hl 0 rfl) ?_
        refine lv_iconst (v := 2) (pc := 9) hx hb dzM_allComings_9 (by decide) ?_
        refine lv_idiv (pc := 10) hx hb dzM_allComings_10 (by decide) ?_
        refine xk_is (y := 1) (by decide) ?_
        refine lv_imul (pc := 11) hx hb dzM_allComings_11 ?_
        refine xk_is (y := 3) (by decide) ?_
        refine lv_iconst (v := 2) (pc := 12) hx hb dzM_allComings_12 (by decide) ?_
        refine lv_iload_n (pc := 13) hx hb dzM_allComings_13 rfl (lv_at hl 0 rfl) ?_
        refine lv_iconst (v := 2) (pc := 14) hx hb dzM_allComings_14 (by decide) ?_
        refine lv_irem (pc := 15) hx hb dzM_allComings_15 (by decide) ?_
        refine xk_is (y := 1) (by decide) ?_
        refine lv_imul (pc := 16) hx hb dzM_allComings_16 ?_
        refine xk_is (y := 2) (by decide) ?_
        refine lv_iadd (pc := 17) hx hb dzM_allComings_17 ?_
        refine xk_is (y := 5) (by decide) ?_
        refine lv_istore_n (lv' := [(2, .int 5), (1, .int 3), (0, .ref (ad 0))]) (pc := 18) hx hb dzM_allComings_18 rfl hl (by decide) rfl (fun ls hl => ?_)
        refine lv_aload_n (pc := 19) hx hb dzM_allComings_19 rfl (lv_at hl 2 rfl) ?_
        refine xk_get (pc := 20) hx hb hts hown hK hP ffzM_44 0 rfl rfl dzM_allComings_20 ?_
        refine lv_iload_n (pc := 23) hx hb dzM_allComings_23 rfl (lv_at hl 1 rfl) ?_
        refine xk_zald (q0 := 12) (t0 := 1) (j := 3) (pc := 24) hx hb hK hP rfl rfl (pk_in 3 4 (by decide)) (pk_cl 3) dzM_allComings_24 ?_
        have K16 : ∀ (g20 : xk_St) (H : Heap) (locs : List Loc), (if ((g15 12) 3) = 0 then (if ((g15 11) 3) = (-1) then (g20 = g15) else (∃ (x10 : Int32), (if ((g15 3) 5) = 0 then (x10 = (-1)) else (if ((g15 11) 3) ≤ 0 then (x10 = 0) else (x10 = ((g15 11) 3) - 1))) ∧ (∃ (g16 : xk_St), g16 = va_up g15 11 (upd (g15 11) 3 x10) ∧ (g20 = g16)))) else (if ((g15 4) 5) = 0 then (if ((g15 11) 3) = (-1) then (∃ (g19 : xk_St), g19 = va_up g15 11 (upd (g15 11) 3 214) ∧ (g20 = g19)) else (∃ (x12 : Int32), (if ((g15 3) 5) = 0 then (x12 = (-1)) else (if ((g15 11) 3) ≤ 0 then (x12 = 0) else (x12 = ((g15 11) 3) - 1))) ∧ (∃ (g18 : xk_St), g18 = va_up g15 11 (upd (g15 11) 3 x12) ∧ (g20 = g18)))) else (if ((g15 11) 3) = (-1) then (g20 = g15) else (∃ (x11 : Int32), (if ((g15 3) 5) = 0 then (x11 = (-1)) else (if ((g15 11) 3) ≤ 0 then (x11 = 0) else (x11 = ((g15 11) 3) - 1))) ∧ (∃ (g17 : xk_St), g17 = va_up g15 11 (upd (g15 11) 3 x11) ∧ (g20 = g17)))))) → (xk_cnt (B + 0) g20) → (va_P G xk_cls (xk_wM ad ac g20) H) → (va_D A (xk_wM ad ac g20)) → (va_S A s.heap H locs) → W p l e xk_r0 s m args below meth c H locs 0 0 Q (F0 m 109 ls []) := by
          intro g20 H locs R16 Ig20 hP hD hS
          refine lv_iinc (k := 1) (x := 3) (v := 4) (lv' := [(1, .int 4), (2, .int 5), (0, .ref (ad 0))]) (pc := 109) hx hb dzM_allComings_109 hl rfl (by decide) (by decide) rfl (fun ls hl => ?_)
          refine lv_goto (tgt := 2) (pc := 112) hx hb dzM_allComings_112 (by decide) ?_
          refine lv_iload_n (pc := 2) hx hb dzM_allComings_2 rfl (lv_at hl 0 rfl) ?_
          refine lv_iconst (v := 4) (pc := 3) hx hb dzM_allComings_3 (by decide) ?_
          refine lv_icmp_ge (pc := 4) (tgt := 115) hx hb dzM_allComings_4 (by decide) (fun _ => ?_) (fun hq9 => absurd (by decide) hq9)
          exact hret g20 H locs 115 ls hP hS (by unfold relzM_allComings; exact ⟨g5, R4, ⟨g10, R8, ⟨g15, R12, ⟨g20, R16, rfl⟩⟩⟩⟩) dzM_allComings_115
        refine lv_if_eq (pc := 25) (tgt := 59) hx hb dzM_allComings_25 (by decide) (fun h34 => ?_) (fun h34 => ?_)
        ·
          refine lv_aload_n (pc := 59) hx hb dzM_allComings_59 rfl (lv_at hl 2 rfl) ?_
          refine xk_get (pc := 60) hx hb hts hown hK hP ffzM_41 0 rfl rfl dzM_allComings_60 ?_
          refine lv_iload_n (pc := 63) hx hb dzM_allComings_63 rfl (lv_at hl 1 rfl) ?_
          refine xk_iald (q0 := 11) (t0 := 0) (j := 3) (pc := 64) hx hb hK hP rfl rfl (pk_in 3 4 (by decide)) (pk_cl 3) dzM_allComings_64 ?_
          refine lv_iconst (v := (-1)) (pc := 65) hx hb dzM_allComings_65 (by decide) ?_
          refine lv_icmp_eq (pc := 66) (tgt := 109) hx hb dzM_allComings_66 (by decide) (fun h35 => ?_) (fun h35 => ?_)
          ·
            exact K16 g15 H locs (Eq.mpr (if_pos h34) (Eq.mpr (if_pos h35) rfl)) (xk_cnt_le Ig15 (by omega)) hP hD hS
          ·
            refine lv_aload_n (pc := 69) hx hb dzM_allComings_69 rfl (lv_at hl 2 rfl) ?_
            refine xk_get (pc := 70) hx hb hts hown hK hP ffzM_41 0 rfl rfl dzM_allComings_70 ?_
            refine lv_iload_n (pc := 73) hx hb dzM_allComings_73 rfl (lv_at hl 1 rfl) ?_
            refine lv_aload_n (pc := 74) hx hb dzM_allComings_74 rfl (lv_at hl 2 rfl) ?_
            refine xk_get (pc := 75) hx hb hts hown hK hP ffzM_17 0 rfl rfl dzM_allComings_75 ?_
            refine lv_iload_n (pc := 78) hx hb dzM_allComings_78 rfl (lv_at hl 0 rfl) ?_
            refine xk_iald (q0 := 3) (t0 := 0) (j := 5) (pc := 79) hx hb hK hP rfl rfl (pk_in 5 6 (by decide)) (pk_cl 5) dzM_allComings_79 ?_
            have K13 : ∀ (x10 : Int32), (if ((g15 3) 5) = 0 then (x10 = (-1)) else (if ((g15 11) 3) ≤ 0 then (x10 = 0) else (x10 = ((g15 11) 3) - 1))) → W p l e xk_r0 s m args below meth c H locs 0 0 Q (F0 m 108 ls [.int x10, .int 3, .ref (ad 11)]) := by
              intro x10 R13
              refine xk_iast (q0 := 11) (t0 := 0) (j := 3) (pc := 108) hx hb hK hP hD hS rfl rfl (pk_in 3 4 (by decide)) (pk_cl 3) dzM_allComings_108 (fun H locs hP hD hS => ?_)
              obtain ⟨g16, eg16⟩ : ∃ z : xk_St, z = va_up g15 11 (upd (g15 11) 3 x10) := ⟨_, rfl⟩
              have hP : va_P G xk_cls (xk_wM ad ac g16) H := by rw [eg16]; exact hP
              have hD : va_D A (xk_wM ad ac g16) := by rw [eg16]; exact hD
              have Ig16 : xk_cnt (B + 0) g16 := by rw [eg16]; repeat (first | exact Ig15 | refine xk_cnt_k (by decide) ?_ | refine xk_cnt_f (by decide) ?_ | refine xk_cnt_s ?_)
              exact K16 g16 H locs (Eq.mpr (if_pos h34) (Eq.mpr (if_neg h35) ⟨x10, R13, ⟨g16, eg16, rfl⟩⟩)) (xk_cnt_le Ig16 (by omega)) hP hD hS
            refine lv_if_ne (pc := 80) (tgt := 87) hx hb dzM_allComings_80 (by decide) (fun h36 => ?_) (fun h36 => ?_)
            ·
              refine lv_aload_n (pc := 87) hx hb dzM_allComings_87 rfl (lv_at hl 2 rfl) ?_
              refine xk_get (pc := 88) hx hb hts hown hK hP ffzM_41 0 rfl rfl dzM_allComings_88 ?_
              refine lv_iload_n (pc := 91) hx hb dzM_allComings_91 rfl (lv_at hl 1 rfl) ?_
              refine xk_iald (q0 := 11) (t0 := 0) (j := 3) (pc := 92) hx hb hK hP rfl rfl (pk_in 3 4 (by decide)) (pk_cl 3) dzM_allComings_92 ?_
              refine lv_if_le (pc := 93) (tgt := 107) hx hb dzM_allComings_93 (by decide) (fun h37 => ?_) (fun h37 => ?_)
              ·
                refine lv_iconst (v := 0) (pc := 107) hx hb dzM_allComings_107 (by decide) ?_
                exact K13 0 (Eq.mpr (if_neg h36) (Eq.mpr (if_pos h37) rfl))
              ·
                refine lv_aload_n (pc := 96) hx hb dzM_allComings_96 rfl (lv_at hl 2 rfl) ?_
                refine xk_get (pc := 97) hx hb hts hown hK hP ffzM_41 0 rfl rfl dzM_allComings_97 ?_
                refine lv_iload_n (pc := 100) hx hb dzM_allComings_100 rfl (lv_at hl 1 rfl) ?_
                refine xk_iald (q0 := 11) (t0 := 0) (j := 3) (pc := 101) hx hb hK hP rfl rfl (pk_in 3 4 (by decide)) (pk_cl 3) dzM_allComings_101 ?_
                refine lv_iconst (v := 1) (pc := 102) hx hb dzM_allComings_102 (by decide) ?_
                refine lv_isub (pc := 103) hx hb dzM_allComings_103 ?_
                refine lv_goto (tgt := 108) (pc := 104) hx hb dzM_allComings_104 (by decide) ?_
                exact K13 (((g15 11) 3) - 1) (Eq.mpr (if_neg h36) (Eq.mpr (if_neg h37) rfl))
            ·
              refine lv_iconst (v := (-1)) (pc := 83) hx hb dzM_allComings_83 (by decide) ?_
              refine lv_goto (tgt := 108) (pc := 84) hx hb dzM_allComings_84 (by decide) ?_
              exact K13 (-1) (Eq.mpr (if_pos h36) rfl)
        ·
          refine lv_aload_n (pc := 28) hx hb dzM_allComings_28 rfl (lv_at hl 2 rfl) ?_
          refine xk_get (pc := 29) hx hb hts hown hK hP ffzM_20 0 rfl rfl dzM_allComings_29 ?_
          refine lv_iload_n (pc := 32) hx hb dzM_allComings_32 rfl (lv_at hl 0 rfl) ?_
          refine xk_iald (q0 := 4) (t0 := 0) (j := 5) (pc := 33) hx hb hK hP rfl rfl (pk_in 5 6 (by decide)) (pk_cl 5) dzM_allComings_33 ?_
          refine lv_if_ne (pc := 34) (tgt := 59) hx hb dzM_allComings_34 (by decide) (fun h38 => ?_) (fun h38 => ?_)
          ·
            refine lv_aload_n (pc := 59) hx hb dzM_allComings_59 rfl (lv_at hl 2 rfl) ?_
            refine xk_get (pc := 60) hx hb hts hown hK hP ffzM_41 0 rfl rfl dzM_allComings_60 ?_
            refine lv_iload_n (pc := 63) hx hb dzM_allComings_63 rfl (lv_at hl 1 rfl) ?_
            refine xk_iald (q0 := 11) (t0 := 0) (j := 3) (pc := 64) hx hb hK hP rfl rfl (pk_in 3 4 (by decide)) (pk_cl 3) dzM_allComings_64 ?_
            refine lv_iconst (v := (-1)) (pc := 65) hx hb dzM_allComings_65 (by decide) ?_
            refine lv_icmp_eq (pc := 66) (tgt := 109) hx hb dzM_allComings_66 (by decide) (fun h39 => ?_) (fun h39 => ?_)
            ·
              exact K16 g15 H locs (Eq.mpr (if_neg h34) (Eq.mpr (if_neg h38) (Eq.mpr (if_pos h39) rfl))) (xk_cnt_le Ig15 (by omega)) hP hD hS
            ·
              refine lv_aload_n (pc := 69) hx hb dzM_allComings_69 rfl (lv_at hl 2 rfl) ?_
              refine xk_get (pc := 70) hx hb hts hown hK hP ffzM_41 0 rfl rfl dzM_allComings_70 ?_
              refine lv_iload_n (pc := 73) hx hb dzM_allComings_73 rfl (lv_at hl 1 rfl) ?_
              refine lv_aload_n (pc := 74) hx hb dzM_allComings_74 rfl (lv_at hl 2 rfl) ?_
              refine xk_get (pc := 75) hx hb hts hown hK hP ffzM_17 0 rfl rfl dzM_allComings_75 ?_
              refine lv_iload_n (pc := 78) hx hb dzM_allComings_78 rfl (lv_at hl 0 rfl) ?_
              refine xk_iald (q0 := 3) (t0 := 0) (j := 5) (pc := 79) hx hb hK hP rfl rfl (pk_in 5 6 (by decide)) (pk_cl 5) dzM_allComings_79 ?_
              have K14 : ∀ (x11 : Int32), (if ((g15 3) 5) = 0 then (x11 = (-1)) else (if ((g15 11) 3) ≤ 0 then (x11 = 0) else (x11 = ((g15 11) 3) - 1))) → W p l e xk_r0 s m args below meth c H locs 0 0 Q (F0 m 108 ls [.int x11, .int 3, .ref (ad 11)]) := by
                intro x11 R14
                refine xk_iast (q0 := 11) (t0 := 0) (j := 3) (pc := 108) hx hb hK hP hD hS rfl rfl (pk_in 3 4 (by decide)) (pk_cl 3) dzM_allComings_108 (fun H locs hP hD hS => ?_)
                obtain ⟨g17, eg17⟩ : ∃ z : xk_St, z = va_up g15 11 (upd (g15 11) 3 x11) := ⟨_, rfl⟩
                have hP : va_P G xk_cls (xk_wM ad ac g17) H := by rw [eg17]; exact hP
                have hD : va_D A (xk_wM ad ac g17) := by rw [eg17]; exact hD
                have Ig17 : xk_cnt (B + 0) g17 := by rw [eg17]; repeat (first | exact Ig15 | refine xk_cnt_k (by decide) ?_ | refine xk_cnt_f (by decide) ?_ | refine xk_cnt_s ?_)
                exact K16 g17 H locs (Eq.mpr (if_neg h34) (Eq.mpr (if_neg h38) (Eq.mpr (if_neg h39) ⟨x11, R14, ⟨g17, eg17, rfl⟩⟩))) (xk_cnt_le Ig17 (by omega)) hP hD hS
              refine lv_if_ne (pc := 80) (tgt := 87) hx hb dzM_allComings_80 (by decide) (fun h40 => ?_) (fun h40 => ?_)
              ·
                refine lv_aload_n (pc := 87) hx hb dzM_allComings_87 rfl (lv_at hl 2 rfl) ?_
                refine xk_get (pc := 88) hx hb hts hown hK hP ffzM_41 0 rfl rfl dzM_allComings_88 ?_
                refine lv_iload_n (pc := 91) hx hb dzM_allComings_91 rfl (lv_at hl 1 rfl) ?_
                refine xk_iald (q0 := 11) (t0 := 0) (j := 3) (pc := 92) hx hb hK hP rfl rfl (pk_in 3 4 (by decide)) (pk_cl 3) dzM_allComings_92 ?_
                refine lv_if_le (pc := 93) (tgt := 107) hx hb dzM_allComings_93 (by decide) (fun h41 => ?_) (fun h41 => ?_)
                ·
                  refine lv_iconst (v := 0) (pc := 107) hx hb dzM_allComings_107 (by decide) ?_
                  exact K14 0 (Eq.mpr (if_neg h40) (Eq.mpr (if_pos h41) rfl))
                ·
                  refine lv_aload_n (pc := 96) hx hb dzM_allComings_96 rfl (lv_at hl 2 rfl) ?_
                  refine xk_get (pc := 97) hx hb hts hown hK hP ffzM_41 0 rfl rfl dzM_allComings_97 ?_
                  refine lv_iload_n (pc := 100) hx hb dzM_allComings_100 rfl (lv_at hl 1 rfl) ?_
                  refine xk_iald (q0 := 11) (t0 := 0) (j := 3) (pc := 101) hx hb hK hP rfl rfl (pk_in 3 4 (by decide)) (pk_cl 3) dzM_allComings_101 ?_
                  refine lv_iconst (v := 1) (pc := 102) hx hb dzM_allComings_102 (by decide) ?_
                  refine lv_isub (pc := 103) hx hb dzM_allComings_103 ?_
                  refine lv_goto (tgt := 108) (pc := 104) hx hb dzM_allComings_104 (by decide) ?_
                  exact K14 (((g15 11) 3) - 1) (Eq.mpr (if_neg h40) (Eq.mpr (if_neg h41) rfl))
              ·
                refine lv_iconst (v := (-1)) (pc := 83) hx hb dzM_allComings_83 (by decide) ?_
                refine lv_goto (tgt := 108) (pc := 84) hx hb dzM_allComings_84 (by decide) ?_
                exact K14 (-1) (Eq.mpr (if_pos h40) rfl)
          ·
            refine lv_aload_n (pc := 37) hx hb dzM_allComings_37 rfl (lv_at hl 2 rfl) ?_
            refine xk_get (pc := 38) hx hb hts hown hK hP ffzM_41 0 rfl rfl dzM_allComings_38 ?_
            refine lv_iload_n (pc := 41) hx hb dzM_allComings_41 rfl (lv_at hl 1 rfl) ?_
            refine xk_iald (q0 := 11) (t0 := 0) (j := 3) (pc := 42) hx hb hK hP rfl rfl (pk_in 3 4 (by decide)) (pk_cl 3) dzM_allComings_42 ?_
            refine lv_iconst (v := (-1)) (pc := 43) hx hb dzM_allComings_43 (by decide) ?_
            refine lv_icmp_ne (pc := 44) (tgt := 59) hx hb dzM_allComings_44 (by decide) (fun h42 => ?_) (fun h42 => ?_)
            ·
              refine lv_aload_n (pc := 59) hx hb dzM_allComings_59 rfl (lv_at hl 2 rfl) ?_
              refine xk_get (pc := 60) hx hb hts hown hK hP ffzM_41 0 rfl rfl dzM_allComings_60 ?_
              refine lv_iload_n (pc := 63) hx hb dzM_allComings_63 rfl (lv_at hl 1 rfl) ?_
              refine xk_iald (q0 := 11) (t0 := 0) (j := 3) (pc := 64) hx hb hK hP rfl rfl (pk_in 3 4 (by decide)) (pk_cl 3) dzM_allComings_64 ?_
              refine lv_iconst (v := (-1)) (pc := 65) hx hb dzM_allComings_65 (by decide) ?_
              refine lv_icmp_eq (pc := 66) (tgt := 109) hx hb dzM_allComings_66 (by decide) (fun hq9 => absurd hq9 h42) (fun _ => ?_)
              refine lv_aload_n (pc := 69) hx hb dzM_allComings_69 rfl (lv_at hl 2 rfl) ?_
              refine xk_get (pc := 70) hx hb hts hown hK hP ffzM_41 0 rfl rfl dzM_allComings_70 ?_
              refine lv_iload_n (pc := 73) hx hb dzM_allComings_73 rfl (lv_at hl 1 rfl) ?_
              refine lv_aload_n (pc := 74) hx hb dzM_allComings_74 rfl (lv_at hl 2 rfl) ?_
              refine xk_get (pc := 75) hx hb hts hown hK hP ffzM_17 0 rfl rfl dzM_allComings_75 ?_
              refine lv_iload_n (pc := 78) hx hb dzM_allComings_78 rfl (lv_at hl 0 rfl) ?_
              refine xk_iald (q0 := 3) (t0 := 0) (j := 5) (pc := 79) hx hb hK hP rfl rfl (pk_in 5 6 (by decide)) (pk_cl 5) dzM_allComings_79 ?_
              have K15 : ∀ (x12 : Int32), (if ((g15 3) 5) = 0 then (x12 = (-1)) else (if ((g15 11) 3) ≤ 0 then (x12 = 0) else (x12 = ((g15 11) 3) - 1))) → W p l e xk_r0 s m args below meth c H locs 0 0 Q (F0 m 108 ls [.int x12, .int 3, .ref (ad 11)]) := by
                intro x12 R15
                refine xk_iast (q0 := 11) (t0 := 0) (j := 3) (pc := 108) hx hb hK hP hD hS rfl rfl (pk_in 3 4 (by decide)) (pk_cl 3) dzM_allComings_108 (fun H locs hP hD hS => ?_)
                obtain ⟨g18, eg18⟩ : ∃ z : xk_St, z = va_up g15 11 (upd (g15 11) 3 x12) := ⟨_, rfl⟩
                have hP : va_P G xk_cls (xk_wM ad ac g18) H := by rw [eg18]; exact hP
                have hD : va_D A (xk_wM ad ac g18) := by rw [eg18]; exact hD
                have Ig18 : xk_cnt (B + 0) g18 := by rw [eg18]; repeat (first | exact Ig15 | refine xk_cnt_k (by decide) ?_ | refine xk_cnt_f (by decide) ?_ | refine xk_cnt_s ?_)
                exact K16 g18 H locs (Eq.mpr (if_neg h34) (Eq.mpr (if_pos h38) (Eq.mpr (if_neg h42) ⟨x12, R15, ⟨g18, eg18, rfl⟩⟩))) (xk_cnt_le Ig18 (by omega)) hP hD hS
              refine lv_if_ne (pc := 80) (tgt := 87) hx hb dzM_allComings_80 (by decide) (fun h43 => ?_) (fun h43 => ?_)
              ·
                refine lv_aload_n (pc := 87) hx hb dzM_allComings_87 rfl (lv_at hl 2 rfl) ?_
                refine xk_get (pc := 88) hx hb hts hown hK hP ffzM_41 0 rfl rfl dzM_allComings_88 ?_
                refine lv_iload_n (pc := 91) hx hb dzM_allComings_91 rfl (lv_at hl 1 rfl) ?_
                refine xk_iald (q0 := 11) (t0 := 0) (j := 3) (pc := 92) hx hb hK hP rfl rfl (pk_in 3 4 (by decide)) (pk_cl 3) dzM_allComings_92 ?_
                refine lv_if_le (pc := 93) (tgt := 107) hx hb dzM_allComings_93 (by decide) (fun h44 => ?_) (fun h44 => ?_)
                ·
                  refine lv_iconst (v := 0) (pc := 107) hx hb dzM_allComings_107 (by decide) ?_
                  exact K15 0 (Eq.mpr (if_neg h43) (Eq.mpr (if_pos h44) rfl))
                ·
                  refine lv_aload_n (pc := 96) hx hb dzM_allComings_96 rfl (lv_at hl 2 rfl) ?_
                  refine xk_get (pc := 97) hx hb hts hown hK hP ffzM_41 0 rfl rfl dzM_allComings_97 ?_
                  refine lv_iload_n (pc := 100) hx hb dzM_allComings_100 rfl (lv_at hl 1 rfl) ?_
                  refine xk_iald (q0 := 11) (t0 := 0) (j := 3) (pc := 101) hx hb hK hP rfl rfl (pk_in 3 4 (by decide)) (pk_cl 3) dzM_allComings_101 ?_
                  refine lv_iconst (v := 1) (pc := 102) hx hb dzM_allComings_102 (by decide) ?_
                  refine lv_isub (pc := 103) hx hb dzM_allComings_103 ?_
                  refine lv_goto (tgt := 108) (pc := 104) hx hb dzM_allComings_104 (by decide) ?_
                  exact K15 (((g15 11) 3) - 1) (Eq.mpr (if_neg h43) (Eq.mpr (if_neg h44) rfl))
              ·
                refine lv_iconst (v := (-1)) (pc := 83) hx hb dzM_allComings_83 (by decide) ?_
                refine lv_goto (tgt := 108) (pc := 84) hx hb dzM_allComings_84 (by decide) ?_
                exact K15 (-1) (Eq.mpr (if_pos h43) rfl)
            ·
              refine lv_aload_n (pc := 47) hx hb dzM_allComings_47 rfl (lv_at hl 2 rfl) ?_
              refine xk_get (pc := 48) hx hb hts hown hK hP ffzM_41 0 rfl rfl dzM_allComings_48 ?_
              refine lv_iload_n (pc := 51) hx hb dzM_allComings_51 rfl (lv_at hl 1 rfl) ?_
              refine lv_sipush (v := 214) (pc := 52) hx hb dzM_allComings_52 (by decide) ?_
              refine xk_iast (q0 := 11) (t0 := 0) (j := 3) (pc := 55) hx hb hK hP hD hS rfl rfl (pk_in 3 4 (by decide)) (pk_cl 3) dzM_allComings_55 (fun H locs hP hD hS => ?_)
              obtain ⟨g19, eg19⟩ : ∃ z : xk_St, z = va_up g15 11 (upd (g15 11) 3 214) := ⟨_, rfl⟩
              have hP : va_P G xk_cls (xk_wM ad ac g19) H := by rw [eg19]; exact hP
              have hD : va_D A (xk_wM ad ac g19) := by rw [eg19]; exact hD
              have Ig19 : xk_cnt (B + 0) g19 := by rw [eg19]; repeat (first | exact Ig15 | refine xk_cnt_k (by decide) ?_ | refine xk_cnt_f (by decide) ?_ | refine xk_cnt_s ?_)
              refine lv_goto (tgt := 109) (pc := 56) hx hb dzM_allComings_56 (by decide) ?_
              exact K16 g19 H locs (Eq.mpr (if_neg h34) (Eq.mpr (if_pos h38) (Eq.mpr (if_pos h42) ⟨g19, eg19, rfl⟩))) (xk_cnt_le Ig19 (by omega)) hP hD hS
      refine lv_if_eq (pc := 25) (tgt := 59) hx hb dzM_allComings_25 (by decide) (fun h23 => ?_) (fun h23 => ?_)
      ·
        refine lv_aload_n (pc := 59) hx hb dzM_allComings_59 rfl (lv_at hl 2 rfl) ?_
        refine xk_get (pc := 60) hx hb hts hown hK hP ffzM_41 0 rfl rfl dzM_allComings_60 ?_
        refine lv_iload_n (pc := 63) hx hb dzM_allComings_63 rfl (lv_at hl 1 rfl) ?_
        refine xk_iald (q0 := 11) (t0 := 0) (j := 2) (pc := 64) hx hb hK hP rfl rfl (pk_in 2 4 (by decide)) (pk_cl 2) dzM_allComings_64 ?_
        refine lv_iconst (v := (-1)) (pc := 65) hx hb dzM_allComings_65 (by decide) ?_
        refine lv_icmp_eq (pc := 66) (tgt := 109) hx hb dzM_allComings_66 (by decide) (fun h24 => ?_) (fun h24 => ?_)
        ·
          exact K12 g10 H locs (Eq.mpr (if_pos h23) (Eq.mpr (if_pos h24) rfl)) (xk_cnt_le Ig10 (by omega)) hP hD hS
        ·
          refine lv_aload_n (pc := 69) hx hb dzM_allComings_69 rfl (lv_at hl 2 rfl) ?_
          refine xk_get (pc := 70) hx hb hts hown hK hP ffzM_41 0 rfl rfl dzM_allComings_70 ?_
          refine lv_iload_n (pc := 73) hx hb dzM_allComings_73 rfl (lv_at hl 1 rfl) ?_
          refine lv_aload_n (pc := 74) hx hb dzM_allComings_74 rfl (lv_at hl 2 rfl) ?_
          refine xk_get (pc := 75) hx hb hts hown hK hP ffzM_17 0 rfl rfl dzM_allComings_75 ?_
          refine lv_iload_n (pc := 78) hx hb dzM_allComings_78 rfl (lv_at hl 0 rfl) ?_
          refine xk_iald (q0 := 3) (t0 := 0) (j := 3) (pc := 79) hx hb hK hP rfl rfl (pk_in 3 6 (by decide)) (pk_cl 3) dzM_allComings_79 ?_
          have K9 : ∀ (x7 : Int32), (if ((g10 3) 3) = 0 then (x7 = (-1)) else (if ((g10 11) 2) ≤ 0 then (x7 = 0) else (x7 = ((g10 11) 2) - 1))) → W p l e xk_r0 s m args below meth c H locs 0 0 Q (F0 m 108 ls [.int x7, .int 2, .ref (ad 11)]) := by
            intro x7 R9
            refine xk_iast (q0 := 11) (t0 := 0) (j := 2) (pc := 108) hx hb hK hP hD hS rfl rfl (pk_in 2 4 (by decide)) (pk_cl 2) dzM_allComings_108 (fun H locs hP hD hS => ?_)
            obtain ⟨g11, eg11⟩ : ∃ z : xk_St, z = va_up g10 11 (upd (g10 11) 2 x7) := ⟨_, rfl⟩
            have hP : va_P G xk_cls (xk_wM ad ac g11) H := by rw [eg11]; exact hP
            have hD : va_D A (xk_wM ad ac g11) := by rw [eg11]; exact hD
            have Ig11 : xk_cnt (B + 0) g11 := by rw [eg11]; repeat (first | exact Ig10 | refine xk_cnt_k (by decide) ?_ | refine xk_cnt_f (by decide) ?_ | refine xk_cnt_s ?_)
            exact K12 g11 H locs (Eq.mpr (if_pos h23) (Eq.mpr (if_neg h24) ⟨x7, R9, ⟨g11, eg11, rfl⟩⟩)) (xk_cnt_le Ig11 (by omega)) hP hD hS
          refine lv_if_ne (pc := 80) (tgt := 87) hx hb dzM_allComings_80 (by decide) (fun h25 => ?_) (fun h25 => ?_)
          ·
            refine lv_aload_n (pc := 87) hx hb dzM_allComings_87 rfl (lv_at hl 2 rfl) ?_
            refine xk_get (pc := 88) hx hb hts hown hK hP ffzM_41 0 rfl rfl dzM_allComings_88 ?_
            refine lv_iload_n (pc := 91) hx hb dzM_allComings_91 rfl (lv_at hl 1 rfl) ?_
            refine xk_iald (q0 := 11) (t0 := 0) (j := 2) (pc := 92) hx hb hK hP rfl rfl (pk_in 2 4 (by decide)) (pk_cl 2) dzM_allComings_92 ?_
            refine lv_if_le (pc := 93) (tgt := 107) hx hb dzM_allComings_93 (by decide) (fun h26 => ?_) (fun h26 => ?_)
            ·
              refine lv_iconst (v := 0) (pc := 107) hx hb dzM_allComings_107 (by decide) ?_
              exact K9 0 (Eq.mpr (if_neg h25) (Eq.mpr (if_pos h26) rfl))
            ·
              refine lv_aload_n (pc := 96) hx hb dzM_allComings_96 rfl (lv_at hl 2 rfl) ?_
              refine xk_get (pc := 97) hx hb hts hown hK hP ffzM_41 0 rfl rfl dzM_allComings_97 ?_
              refine lv_iload_n (pc := 100) hx hb dzM_allComings_100 rfl (lv_at hl 1 rfl) ?_
              refine xk_iald (q0 := 11) (t0 := 0) (j := 2) (pc := 101) hx hb hK hP rfl rfl (pk_in 2 4 (by decide)) (pk_cl 2) dzM_allComings_101 ?_
              refine lv_iconst (v := 1) (pc := 102) hx hb dzM_allComings_102 (by decide) ?_
              refine lv_isub (pc := 103) hx hb dzM_allComings_103 ?_
              refine lv_goto (tgt := 108) (pc := 104) hx hb dzM_allComings_104 (by decide) ?_
              exact K9 (((g10 11) 2) - 1) (Eq.mpr (if_neg h25) (Eq.mpr (if_neg h26) rfl))
          ·
            refine lv_iconst (v := (-1)) (pc := 83) hx hb dzM_allComings_83 (by decide) ?_
            refine lv_goto (tgt := 108) (pc := 84) hx hb dzM_allComings_84 (by decide) ?_
            exact K9 (-1) (Eq.mpr (if_pos h25) rfl)
      ·
        refine lv_aload_n (pc := 28) hx hb dzM_allComings_28 rfl (lv_at hl 2 rfl) ?_
        refine xk_get (pc := 29) hx hb hts hown hK hP ffzM_20 0 rfl rfl dzM_allComings_29 ?_
        refine lv_iload_n (pc := 32) hx hb dzM_allComings_32 rfl (lv_at hl 0 rfl) ?_
        refine xk_iald (q0 := 4) (t0 := 0) (j := 3) (pc := 33) hx hb hK hP rfl rfl (pk_in 3 6 (by decide)) (pk_cl 3) dzM_allComings_33 ?_
        refine lv_if_ne (pc := 34) (tgt := 59) hx hb dzM_allComings_34 (by decide) (fun h27 => ?_) (fun h27 => ?_)
        ·
          refine lv_aload_n (pc := 59) hx hb dzM_allComings_59 rfl (lv_at hl 2 rfl) ?_
          refine xk_get (pc := 60) hx hb hts hown hK hP ffzM_41 0 rfl rfl dzM_allComings_60 ?_
          refine lv_iload_n (pc := 63) hx hb dzM_allComings_63 rfl (lv_at hl 1 rfl) ?_
          refine xk_iald (q0 := 11) (t0 := 0) (j := 2) (pc := 64) hx hb hK hP rfl rfl (pk_in 2 4 (by decide)) (pk_cl 2) dzM_allComings_64 ?_
          refine lv_iconst (v := (-1)) (pc := 65) hx hb dzM_allComings_65 (by decide) ?_
          refine lv_icmp_eq (pc := 66) (tgt := 109) hx hb dzM_allComings_66 (by decide) (fun h28 => ?_) (fun h28 => ?_)
          ·
            exact K12 g10 H locs (Eq.mpr (if_neg h23) (Eq.mpr (if_neg h27) (Eq.mpr (if_pos h28) rfl))) (xk_cnt_le Ig10 (by omega)) hP hD hS
          ·
            refine lv_aload_n (pc := 69) hx hb dzM_allComings_69 rfl (lv_at hl 2 rfl) ?_
            refine xk_get (pc := 70) hx hb hts hown hK hP ffzM_41 0 rfl rfl dzM_allComings_70 ?_
            refine lv_iload_n (pc := 73) hx hb dzM_allComings_73 rfl (lv_at hl 1 rfl) ?_
            refine lv_aload_n (pc := 74) hx hb dzM_allComings_74 rfl (lv_at hl 2 rfl) ?_
            refine xk_get (pc := 75) hx hb hts hown hK hP ffzM_17 0 rfl rfl dzM_allComings_75 ?_
            refine lv_iload_n (pc := 78) hx hb dzM_allComings_78 rfl (lv_at hl 0 rfl) ?_
            refine xk_iald (q0 := 3) (t0 := 0) (j := 3) (pc := 79) hx hb hK hP rfl rfl (pk_in 3 6 (by decide)) (pk_cl 3) dzM_allComings_79 ?_
            have K10 : ∀ (x8 : Int32), (if ((g10 3) 3) = 0 then (x8 = (-1)) else (if ((g10 11) 2) ≤ 0 then (x8 = 0) else (x8 = ((g10 11) 2) - 1))) → W p l e xk_r0 s m args below meth c H locs 0 0 Q (F0 m 108 ls [.int x8, .int 2, .ref (ad 11)]) := by
              intro x8 R10
              refine xk_iast (q0 := 11) (t0 := 0) (j := 2) (pc := 108) hx hb hK hP hD hS rfl rfl (pk_in 2 4 (by decide)) (pk_cl 2) dzM_allComings_108 (fun H locs hP hD hS => ?_)
              obtain ⟨g12, eg12⟩ : ∃ z : xk_St, z = va_up g10 11 (upd (g10 11) 2 x8) := ⟨_, rfl⟩
              have hP : va_P G xk_cls (xk_wM ad ac g12) H := by rw [eg12]; exact hP
              have hD : va_D A (xk_wM ad ac g12) := by rw [eg12]; exact hD
              have Ig12 : xk_cnt (B + 0) g12 := by rw [eg12]; repeat (first | exact Ig10 | refine xk_cnt_k (by decide) ?_ | refine xk_cnt_f (by decide) ?_ | refine xk_cnt_s ?_)
              exact K12 g12 H locs (Eq.mpr (if_neg h23) (Eq.mpr (if_neg h27) (Eq.mpr (if_neg h28) ⟨x8, R10, ⟨g12, eg12, rfl⟩⟩))) (xk_cnt_le Ig12 (by omega)) hP hD hS
            refine lv_if_ne (pc := 80) (tgt := 87) hx hb dzM_allComings_80 (by decide) (fun h29 => ?_) (fun h29 => ?_)
            ·
              refine lv_aload_n (pc := 87) hx hb dzM_allComings_87 rfl (lv_at hl 2 rfl) ?_
              refine xk_get (pc := 88) hx hb hts hown hK hP ffzM_41 0 rfl rfl dzM_allComings_88 ?_
              refine lv_iload_n (pc := 91) hx hb dzM_allComings_91 rfl (lv_at hl 1 rfl) ?_
              refine xk_iald (q0 := 11) (t0 := 0) (j := 2) (pc := 92) hx hb hK hP rfl rfl (pk_in 2 4 (by decide)) (pk_cl 2) dzM_allComings_92 ?_
              refine lv_if_le (pc := 93) (tgt := 107) hx hb dzM_allComings_93 (by decide) (fun h30 => ?_) (fun h30 => ?_)
              ·
                refine lv_iconst (v := 0) (pc := 107) hx hb dzM_allComings_107 (by decide) ?_
                exact K10 0 (Eq.mpr (if_neg h29) (Eq.mpr (if_pos h30) rfl))
              ·
                refine lv_aload_n (pc := 96) hx hb dzM_allComings_96 rfl (lv_at hl 2 rfl) ?_
                refine xk_get (pc := 97) hx hb hts hown hK hP ffzM_41 0 rfl rfl dzM_allComings_97 ?_
                refine lv_iload_n (pc := 100) hx hb dzM_allComings_100 rfl (lv_at hl 1 rfl) ?_
                refine xk_iald (q0 := 11) (t0 := 0) (j := 2) (pc := 101) hx hb hK hP rfl rfl (pk_in 2 4 (by decide)) (pk_cl 2) dzM_allComings_101 ?_
                refine lv_iconst (v := 1) (pc := 102) hx hb dzM_allComings_102 (by decide) ?_
                refine lv_isub (pc := 103) hx hb dzM_allComings_103 ?_
                refine lv_goto (tgt := 108) (pc := 104) hx hb dzM_allComings_104 (by decide) ?_
                exact K10 (((g10 11) 2) - 1) (Eq.mpr (if_neg h29) (Eq.mpr (if_neg h30) rfl))
            ·
              refine lv_iconst (v := (-1)) (pc := 83) hx hb dzM_allComings_83 (by decide) ?_
              refine lv_goto (tgt := 108) (pc := 84) hx hb dzM_allComings_84 (by decide) ?_
              exact K10 (-1) (Eq.mpr (if_pos h29) rfl)
        ·
          refine lv_aload_n (pc := 37) hx hb dzM_allComings_37 rfl (lv_at hl 2 rfl) ?_
          refine xk_get (pc := 38) hx hb hts hown hK hP ffzM_41 0 rfl rfl dzM_allComings_38 ?_
          refine lv_iload_n (pc := 41) hx hb dzM_allComings_41 rfl (lv_at hl 1 rfl) ?_
          refine xk_iald (q0 := 11) (t0 := 0) (j := 2) (pc := 42) hx hb hK hP rfl rfl (pk_in 2 4 (by decide)) (pk_cl 2) dzM_allComings_42 ?_
          refine lv_iconst (v := (-1)) (pc := 43) hx hb dzM_allComings_43 (by decide) ?_
          refine lv_icmp_ne (pc := 44) (tgt := 59) hx hb dzM_allComings_44 (by decide) (fun h31 => ?_) (fun h31 => ?_)
          ·
            refine lv_aload_n (pc := 59) hx hb dzM_allComings_59 rfl (lv_at hl 2 rfl) ?_
            refine xk_get (pc := 60) hx hb hts hown hK hP ffzM_41 0 rfl rfl dzM_allComings_60 ?_
            refine lv_iload_n (pc := 63) hx hb dzM_allComings_63 rfl (lv_at hl 1 rfl) ?_
            refine xk_iald (q0 := 11) (t0 := 0) (j := 2) (pc := 64) hx hb hK hP rfl rfl (pk_in 2 4 (by decide)) (pk_cl 2) dzM_allComings_64 ?_
            refine lv_iconst (v := (-1)) (pc := 65) hx hb dzM_allComings_65 (by decide) ?_
            refine lv_icmp_eq (pc := 66) (tgt := 109) hx hb dzM_allComings_66 (by decide) (fun hq9 => absurd hq9 h31) (fun _ => ?_)
            refine lv_aload_n (pc := 69) hx hb dzM_allComings_69 rfl (lv_at hl 2 rfl) ?_
            refine xk_get (pc := 70) hx hb hts hown hK hP ffzM_41 0 rfl rfl dzM_allComings_70 ?_
            refine lv_iload_n (pc := 73) hx hb dzM_allComings_73 rfl (lv_at hl 1 rfl) ?_
            refine lv_aload_n (pc := 74) hx hb dzM_allComings_74 rfl (lv_at hl 2 rfl) ?_
            refine xk_get (pc := 75) hx hb hts hown hK hP ffzM_17 0 rfl rfl dzM_allComings_75 ?_
            refine lv_iload_n (pc := 78) hx hb dzM_allComings_78 rfl (lv_at hl 0 rfl) ?_
            refine xk_iald (q0 := 3) (t0 := 0) (j := 3) (pc := 79) hx hb hK hP rfl rfl (pk_in 3 6 (by decide)) (pk_cl 3) dzM_allComings_79 ?_
            have K11 : ∀ (x9 : Int32), (if ((g10 3) 3) = 0 then (x9 = (-1)) else (if ((g10 11) 2) ≤ 0 then (x9 = 0) else (x9 = ((g10 11) 2) - 1))) → W p l e xk_r0 s m args below meth c H locs 0 0 Q (F0 m 108 ls [.int x9, .int 2, .ref (ad 11)]) := by
              intro x9 R11
              refine xk_iast (q0 := 11) (t0 := 0) (j := 2) (pc := 108) hx hb hK hP hD hS rfl rfl (pk_in 2 4 (by decide)) (pk_cl 2) dzM_allComings_108 (fun H locs hP hD hS => ?_)
              obtain ⟨g13, eg13⟩ : ∃ z : xk_St, z = va_up g10 11 (upd (g10 11) 2 x9) := ⟨_, rfl⟩
              have hP : va_P G xk_cls (xk_wM ad ac g13) H := by rw [eg13]; exact hP
              have hD : va_D A (xk_wM ad ac g13) := by rw [eg13]; exact hD
              have Ig13 : xk_cnt (B + 0) g13 := by rw [eg13]; repeat (first | exact Ig10 | refine xk_cnt_k (by decide) ?_ | refine xk_cnt_f (by decide) ?_ | refine xk_cnt_s ?_)
              exact K12 g13 H locs (Eq.mpr (if_neg h23) (Eq.mpr (if_pos h27) (Eq.mpr (if_neg h31) ⟨x9, R11, ⟨g13, eg13, rfl⟩⟩))) (xk_cnt_le Ig13 (by omega)) hP hD hS
            refine lv_if_ne (pc := 80) (tgt := 87) hx hb dzM_allComings_80 (by decide) (fun h32 => ?_) (fun h32 => ?_)
            ·
              refine lv_aload_n (pc := 87) hx hb dzM_allComings_87 rfl (lv_at hl 2 rfl) ?_
              refine xk_get (pc := 88) hx hb hts hown hK hP ffzM_41 0 rfl rfl dzM_allComings_88 ?_
              refine lv_iload_n (pc := 91) hx hb dzM_allComings_91 rfl (lv_at hl 1 rfl) ?_
              refine xk_iald (q0 := 11) (t0 := 0) (j := 2) (pc := 92) hx hb hK hP rfl rfl (pk_in 2 4 (by decide)) (pk_cl 2) dzM_allComings_92 ?_
              refine lv_if_le (pc := 93) (tgt := 107) hx hb dzM_allComings_93 (by decide) (fun h33 => ?_) (fun h33 => ?_)
              ·
                refine lv_iconst (v := 0) (pc := 107) hx hb dzM_allComings_107 (by decide) ?_
                exact K11 0 (Eq.mpr (if_neg h32) (Eq.mpr (if_pos h33) rfl))
              ·
                refine lv_aload_n (pc := 96) hx hb dzM_allComings_96 rfl (lv_at hl 2 rfl) ?_
                refine xk_get (pc := 97) hx hb hts hown hK hP ffzM_41 0 rfl rfl dzM_allComings_97 ?_
                refine lv_iload_n (pc := 100) hx hb dzM_allComings_100 rfl (lv_at hl 1 rfl) ?_
                refine xk_iald (q0 := 11) (t0 := 0) (j := 2) (pc := 101) hx hb hK hP rfl rfl (pk_in 2 4 (by decide)) (pk_cl 2) dzM_allComings_101 ?_
                refine lv_iconst (v := 1) (pc := 102) hx hb dzM_allComings_102 (by decide) ?_
                refine lv_isub (pc := 103) hx hb dzM_allComings_103 ?_
                refine lv_goto (tgt := 108) (pc := 104) hx hb dzM_allComings_104 (by decide) ?_
                exact K11 (((g10 11) 2) - 1) (Eq.mpr (if_neg h32) (Eq.mpr (if_neg h33) rfl))
            ·
              refine lv_iconst (v := (-1)) (pc := 83) hx hb dzM_allComings_83 (by decide) ?_
              refine lv_goto (tgt := 108) (pc := 84) hx hb dzM_allComings_84 (by decide) ?_
              exact K11 (-1) (Eq.mpr (if_pos h32) rfl)
          ·
            refine lv_aload_n (pc := 47) hx hb dzM_allComings_47 rfl (lv_at hl 2 rfl) ?_
            refine xk_get (pc := 48) hx hb hts hown hK hP ffzM_41 0 rfl rfl dzM_allComings_48 ?_
            refine lv_iload_n (pc := 51) hx hb dzM_allComings_51 rfl (lv_at hl 1 rfl) ?_
            refine lv_sipush (v := 214) (pc := 52) hx hb dzM_allComings_52 (by decide) ?_
            refine xk_iast (q0 := 11) (t0 := 0) (j := 2) (pc := 55) hx hb hK hP hD hS rfl rfl (pk_in 2 4 (by decide)) (pk_cl 2) dzM_allComings_55 (fun H locs hP hD hS => ?_)
            obtain ⟨g14, eg14⟩ : ∃ z : xk_St, z = va_up g10 11 (upd (g10 11) 2 214) := ⟨_, rfl⟩
            have hP : va_P G xk_cls (xk_wM ad ac g14) H := by rw [eg14]; exact hP
            have hD : va_D A (xk_wM ad ac g14) := by rw [eg14]; exact hD
            have Ig14 : xk_cnt (B + 0) g14 := by rw [eg14]; repeat (first | exact Ig10 | refine xk_cnt_k (by decide) ?_ | refine xk_cnt_f (by decide) ?_ | refine xk_cnt_s ?_)
            refine lv_goto (tgt := 109) (pc := 56) hx hb dzM_allComings_56 (by decide) ?_
            exact K12 g14 H locs (Eq.mpr (if_neg h23) (Eq.mpr (if_pos h27) (Eq.mpr (if_pos h31) ⟨g14, eg14, rfl⟩))) (xk_cnt_le Ig14 (by omega)) hP hD hS
    refine lv_if_eq (pc := 25) (tgt := 59) hx hb dzM_allComings_25 (by decide) (fun h12 => ?_) (fun h12 => ?_)
    ·
      refine lv_aload_n (pc := 59) hx hb dzM_allComings_59 rfl (lv_at hl 2 rfl) ?_
      refine xk_get (pc := 60) hx hb hts hown hK hP ffzM_41 0 rfl rfl dzM_allComings_60 ?_
      refine lv_iload_n (pc := 63) hx hb dzM_allComings_63 rfl (lv_at hl 1 rfl) ?_
      refine xk_iald (q0 := 11) (t0 := 0) (j := 1) (pc := 64) hx hb hK hP rfl rfl (pk_in 1 4 (by decide)) (pk_cl 1) dzM_allComings_64 ?_
      refine lv_iconst (v := (-1)) (pc := 65) hx hb dzM_allComings_65 (by decide) ?_
      refine lv_icmp_eq (pc := 66) (tgt := 109) hx hb dzM_allComings_66 (by decide) (fun h13 => ?_) (fun h13 => ?_)
      ·
        exact K8 g5 H locs (Eq.mpr (if_pos h12) (Eq.mpr (if_pos h13) rfl)) (xk_cnt_le Ig5 (by omega)) hP hD hS
      ·
        refine lv_aload_n (pc := 69) hx hb dzM_allComings_69 rfl (lv_at hl 2 rfl) ?_
        refine xk_get (pc := 70) hx hb hts hown hK hP ffzM_41 0 rfl rfl dzM_allComings_70 ?_
        refine lv_iload_n (pc := 73) hx hb dzM_allComings_73 rfl (lv_at hl 1 rfl) ?_
        refine lv_aload_n (pc := 74) hx hb dzM_allComings_74 rfl (lv_at hl 2 rfl) ?_
        refine xk_get (pc := 75) hx hb hts hown hK hP ffzM_17 0 rfl rfl dzM_allComings_75 ?_
        refine lv_iload_n (pc := 78) hx hb dzM_allComings_78 rfl (lv_at hl 0 rfl) ?_
        refine xk_iald (q0 := 3) (t0 := 0) (j := 2) (pc := 79) hx hb hK hP rfl rfl (pk_in 2 6 (by decide)) (pk_cl 2) dzM_allComings_79 ?_
        have K5 : ∀ (x4 : Int32), (if ((g5 3) 2) = 0 then (x4 = (-1)) else (if ((g5 11) 1) ≤ 0 then (x4 = 0) else (x4 = ((g5 11) 1) - 1))) → W p l e xk_r0 s m args below meth c H locs 0 0 Q (F0 m 108 ls [.int x4, .int 1, .ref (ad 11)]) := by
          intro x4 R5
          refine xk_iast (q0 := 11) (t0 := 0) (j := 1) (pc := 108) hx hb hK hP hD hS rfl rfl (pk_in 1 4 (by decide)) (pk_cl 1) dzM_allComings_108 (fun H locs hP hD hS => ?_)
          obtain ⟨g6, eg6⟩ : ∃ z : xk_St, z = va_up g5 11 (upd (g5 11) 1 x4) := ⟨_, rfl⟩
          have hP : va_P G xk_cls (xk_wM ad ac g6) H := by rw [eg6]; exact hP
          have hD : va_D A (xk_wM ad ac g6) := by rw [eg6]; exact hD
          have Ig6 : xk_cnt (B + 0) g6 := by rw [eg6]; repeat (first | exact Ig5 | refine xk_cnt_k (by decide) ?_ | refine xk_cnt_f (by decide) ?_ | refine xk_cnt_s ?_)
          exact K8 g6 H locs (Eq.mpr (if_pos h12) (Eq.mpr (if_neg h13) ⟨x4, R5, ⟨g6, eg6, rfl⟩⟩)) (xk_cnt_le Ig6 (by omega)) hP hD hS
        refine lv_if_ne (pc := 80) (tgt := 87) hx hb dzM_allComings_80 (by decide) (fun h14 => ?_) (fun h14 => ?_)
        ·
          refine lv_aload_n (pc := 87) hx hb dzM_allComings_87 rfl (lv_at hl 2 rfl) ?_
          refine xk_get (pc := 88) hx hb hts hown hK hP ffzM_41 0 rfl rfl dzM_allComings_88 ?_
          refine lv_iload_n (pc := 91) hx hb dzM_allComings_91 rfl (lv_at hl 1 rfl) ?_
          refine xk_iald (q0 := 11) (t0 := 0) (j := 1) (pc := 92) hx hb hK hP rfl rfl (pk_in 1 4 (by decide)) (pk_cl 1) dzM_allComings_92 ?_
          refine lv_if_le (pc := 93) (tgt := 107) hx hb dzM_allComings_93 (by decide) (fun h15 => ?_) (fun h15 => ?_)
          ·
            refine lv_iconst (v := 0) (pc := 107) hx hb dzM_allComings_107 (by decide) ?_
            exact K5 0 (Eq.mpr (if_neg h14) (Eq.mpr (if_pos h15) rfl))
          ·
            refine lv_aload_n (pc := 96) hx hb dzM_allComings_96 rfl (lv_at hl 2 rfl) ?_
            refine xk_get (pc := 97) hx hb hts hown hK hP ffzM_41 0 rfl rfl dzM_allComings_97 ?_
            refine lv_iload_n (pc := 100) hx hb dzM_allComings_100 rfl (lv_at hl 1 rfl) ?_
            refine xk_iald (q0 := 11) (t0 := 0) (j := 1) (pc := 101) hx hb hK hP rfl rfl (pk_in 1 4 (by decide)) (pk_cl 1) dzM_allComings_101 ?_
            refine lv_iconst (v := 1) (pc := 102) hx hb dzM_allComings_102 (by decide) ?_
            refine lv_isub (pc := 103) hx hb dzM_allComings_103 ?_
            refine lv_goto (tgt := 108) (pc := 104) hx hb dzM_allComings_104 (by decide) ?_
            exact K5 (((g5 11) 1) - 1) (Eq.mpr (if_neg h14) (Eq.mpr (if_neg h15) rfl))
        ·
          refine lv_iconst (v := (-1)) (pc := 83) hx hb dzM_allComings_83 (by decide) ?_
          refine lv_goto (tgt := 108) (pc := 84) hx hb dzM_allComings_84 (by decide) ?_
          exact K5 (-1) (Eq.mpr (if_pos h14) rfl)
    ·
      refine lv_aload_n (pc := 28) hx hb dzM_allComings_28 rfl (lv_at hl 2 rfl) ?_
      refine xk_get (pc := 29) hx hb hts hown hK hP ffzM_20 0 rfl rfl dzM_allComings_29 ?_
      refine lv_iload_n (pc := 32) hx hb dzM_allComings_32 rfl (lv_at hl 0 rfl) ?_
      refine xk_iald (q0 := 4) (t0 := 0) (j := 2) (pc := 33) hx hb hK hP rfl rfl (pk_in 2 6 (by decide)) (pk_cl 2) dzM_allComings_33 ?_
      refine lv_if_ne (pc := 34) (tgt := 59) hx hb dzM_allComings_34 (by decide) (fun h16 => ?_) (fun h16 => ?_)
      ·
        refine lv_aload_n (pc := 59) hx hb dzM_allComings_59 rfl (lv_at hl 2 rfl) ?_
        refine xk_get (pc := 60) hx hb hts hown hK hP ffzM_41 0 rfl rfl dzM_allComings_60 ?_
        refine lv_iload_n (pc := 63) hx hb dzM_allComings_63 rfl (lv_at hl 1 rfl) ?_
        refine xk_iald (q0 := 11) (t0 := 0) (j := 1) (pc := 64) hx hb hK hP rfl rfl (pk_in 1 4 (by decide)) (pk_cl 1) dzM_allComings_64 ?_
        refine lv_iconst (v := (-1)) (pc := 65) hx hb dzM_allComings_65 (by decide) ?_
        refine lv_icmp_eq (pc := 66) (tgt := 109) hx hb dzM_allComings_66 (by decide) (fun h17 => ?_) (fun h17 => ?_)
        ·
          exact K8 g5 H locs (Eq.mpr (if_neg h12) (Eq.mpr (if_neg h16) (Eq.mpr (if_pos h17) rfl))) (xk_cnt_le Ig5 (by omega)) hP hD hS
        ·
          refine lv_aload_n (pc := 69) hx hb dzM_allComings_69 rfl (lv_at hl 2 rfl) ?_
          refine xk_get (pc := 70) hx hb hts hown hK hP ffzM_41 0 rfl rfl dzM_allComings_70 ?_
          refine lv_iload_n (pc := 73) hx hb dzM_allComings_73 rfl (lv_at hl 1 rfl) ?_
          refine lv_aload_n (pc := 74) hx hb dzM_allComings_74 rfl (lv_at hl 2 rfl) ?_
          refine xk_get (pc := 75) hx hb hts hown hK hP ffzM_17 0 rfl rfl dzM_allComings_75 ?_
          refine lv_iload_n (pc := 78) hx hb dzM_allComings_78 rfl (lv_at hl 0 rfl) ?_
          refine xk_iald (q0 := 3) (t0 := 0) (j := 2) (pc := 79) hx hb hK hP rfl rfl (pk_in 2 6 (by decide)) (pk_cl 2) dzM_allComings_79 ?_
          have K6 : ∀ (x5 : Int32), (if ((g5 3) 2) = 0 then (x5 = (-1)) else (if ((g5 11) 1) ≤ 0 then (x5 = 0) else (x5 = ((g5 11) 1) - 1))) → W p l e xk_r0 s m args below meth c H locs 0 0 Q (F0 m 108 ls [.int x5, .int 1, .ref (ad 11)]) := by
            intro x5 R6
            refine xk_iast (q0 := 11) (t0 := 0) (j := 1) (pc := 108) hx hb hK hP hD hS rfl rfl (pk_in 1 4 (by decide)) (pk_cl 1) dzM_allComings_108 (fun H locs hP hD hS => ?_)
            obtain ⟨g7, eg7⟩ : ∃ z : xk_St, z = va_up g5 11 (upd (g5 11) 1 x5) := ⟨_, rfl⟩
            have hP : va_P G xk_cls (xk_wM ad ac g7) H := by rw [eg7]; exact hP
            have hD : va_D A (xk_wM ad ac g7) := by rw [eg7]; exact hD
            have Ig7 : xk_cnt (B + 0) g7 := by rw [eg7]; repeat (first | exact Ig5 | refine xk_cnt_k (by decide) ?_ | refine xk_cnt_f (by decide) ?_ | refine xk_cnt_s ?_)
            exact K8 g7 H locs (Eq.mpr (if_neg h12) (Eq.mpr (if_neg h16) (Eq.mpr (if_neg h17) ⟨x5, R6, ⟨g7, eg7, rfl⟩⟩))) (xk_cnt_le Ig7 (by omega)) hP hD hS
          refine lv_if_ne (pc := 80) (tgt := 87) hx hb dzM_allComings_80 (by decide) (fun h18 => ?_) (fun h18 => ?_)
          ·
            refine lv_aload_n (pc := 87) hx hb dzM_allComings_87 rfl (lv_at hl 2 rfl) ?_
            refine xk_get (pc := 88) hx hb hts hown hK hP ffzM_41 0 rfl rfl dzM_allComings_88 ?_
            refine lv_iload_n (pc := 91) hx hb dzM_allComings_91 rfl (lv_at hl 1 rfl) ?_
            refine xk_iald (q0 := 11) (t0 := 0) (j := 1) (pc := 92) hx hb hK hP rfl rfl (pk_in 1 4 (by decide)) (pk_cl 1) dzM_allComings_92 ?_
            refine lv_if_le (pc := 93) (tgt := 107) hx hb dzM_allComings_93 (by decide) (fun h19 => ?_) (fun h19 => ?_)
            ·
              refine lv_iconst (v := 0) (pc := 107) hx hb dzM_allComings_107 (by decide) ?_
              exact K6 0 (Eq.mpr (if_neg h18) (Eq.mpr (if_pos h19) rfl))
            ·
              refine lv_aload_n (pc := 96) hx hb dzM_allComings_96 rfl (lv_at hl 2 rfl) ?_
              refine xk_get (pc := 97) hx hb hts hown hK hP ffzM_41 0 rfl rfl dzM_allComings_97 ?_
              refine lv_iload_n (pc := 100) hx hb dzM_allComings_100 rfl (lv_at hl 1 rfl) ?_
              refine xk_iald (q0 := 11) (t0 := 0) (j := 1) (pc := 101) hx hb hK hP rfl rfl (pk_in 1 4 (by decide)) (pk_cl 1) dzM_allComings_101 ?_
              refine lv_iconst (v := 1) (pc := 102) hx hb dzM_allComings_102 (by decide) ?_
              refine lv_isub (pc := 103) hx hb dzM_allComings_103 ?_
              refine lv_goto (tgt := 108) (pc := 104) hx hb dzM_allComings_104 (by decide) ?_
              exact K6 (((g5 11) 1) - 1) (Eq.mpr (if_neg h18) (Eq.mpr (if_neg h19) rfl))
          ·
            refine lv_iconst (v := (-1)) (pc := 83) hx hb dzM_allComings_83 (by decide) ?_
            refine lv_goto (tgt := 108) (pc := 84) hx hb dzM_allComings_84 (by decide) ?_
            exact K6 (-1) (Eq.mpr (if_pos h18) rfl)
      ·
        refine lv_aload_n (pc := 37) hx hb dzM_allComings_37 rfl (lv_at hl 2 rfl) ?_
        refine xk_get (pc := 38) hx hb hts hown hK hP ffzM_41 0 rfl rfl dzM_allComings_38 ?_
        refine lv_iload_n (pc := 41) hx hb dzM_allComings_41 rfl (lv_at hl 1 rfl) ?_
        refine xk_iald (q0 := 11) (t0 := 0) (j := 1) (pc := 42) hx hb hK hP rfl rfl (pk_in 1 4 (by decide)) (pk_cl 1) dzM_allComings_42 ?_
        refine lv_iconst (v := (-1)) (pc := 43) hx hb dzM_allComings_43 (by decide) ?_
        refine lv_icmp_ne (pc := 44) (tgt := 59) hx hb dzM_allComings_44 (by decide) (fun h20 => ?_) (fun h20 => ?_)
        ·
          refine lv_aload_n (pc := 59) hx hb dzM_allComings_59 rfl (lv_at hl 2 rfl) ?_
          refine xk_get (pc := 60) hx hb hts hown hK hP ffzM_41 0 rfl rfl dzM_allComings_60 ?_
          refine lv_iload_n (pc := 63) hx hb dzM_allComings_63 rfl (lv_at hl 1 rfl) ?_
          refine xk_iald (q0 := 11) (t0 := 0) (j := 1) (pc := 64) hx hb hK hP rfl rfl (pk_in 1 4 (by decide)) (pk_cl 1) dzM_allComings_64 ?_
          refine lv_iconst (v := (-1)) (pc := 65) hx hb dzM_allComings_65 (by decide) ?_
          refine lv_icmp_eq (pc := 66) (tgt := 109) hx hb dzM_allComings_66 (by decide) (fun hq9 => absurd hq9 h20) (fun _ => ?_)
          refine lv_aload_n (pc := 69) hx hb dzM_allComings_69 rfl (lv_at hl 2 rfl) ?_
          refine xk_get (pc := 70) hx hb hts hown hK hP ffzM_41 0 rfl rfl dzM_allComings_70 ?_
          refine lv_iload_n (pc := 73) hx hb dzM_allComings_73 rfl (lv_at hl 1 rfl) ?_
          refine lv_aload_n (pc := 74) hx hb dzM_allComings_74 rfl (lv_at hl 2 rfl) ?_
          refine xk_get (pc := 75) hx hb hts hown hK hP ffzM_17 0 rfl rfl dzM_allComings_75 ?_
          refine lv_iload_n (pc := 78) hx hb dzM_allComings_78 rfl (lv_at hl 0 rfl) ?_
          refine xk_iald (q0 := 3) (t0 := 0) (j := 2) (pc := 79) hx hb hK hP rfl rfl (pk_in 2 6 (by decide)) (pk_cl 2) dzM_allComings_79 ?_
          have K7 : ∀ (x6 : Int32), (if ((g5 3) 2) = 0 then (x6 = (-1)) else (if ((g5 11) 1) ≤ 0 then (x6 = 0) else (x6 = ((g5 11) 1) - 1))) → W p l e xk_r0 s m args below meth c H locs 0 0 Q (F0 m 108 ls [.int x6, .int 1, .ref (ad 11)]) := by
            intro x6 R7
            refine xk_iast (q0 := 11) (t0 := 0) (j := 1) (pc := 108) hx hb hK hP hD hS rfl rfl (pk_in 1 4 (by decide)) (pk_cl 1) dzM_allComings_108 (fun H locs hP hD hS => ?_)
            obtain ⟨g8, eg8⟩ : ∃ z : xk_St, z = va_up g5 11 (upd (g5 11) 1 x6) := ⟨_, rfl⟩
            have hP : va_P G xk_cls (xk_wM ad ac g8) H := by rw [eg8]; exact hP
            have hD : va_D A (xk_wM ad ac g8) := by rw [eg8]; exact hD
            have Ig8 : xk_cnt (B + 0) g8 := by rw [eg8]; repeat (first | exact Ig5 | refine xk_cnt_k (by decide) ?_ | refine xk_cnt_f (by decide) ?_ | refine xk_cnt_s ?_)
            exact K8 g8 H locs (Eq.mpr (if_neg h12) (Eq.mpr (if_pos h16) (Eq.mpr (if_neg h20) ⟨x6, R7, ⟨g8, eg8, rfl⟩⟩))) (xk_cnt_le Ig8 (by omega)) hP hD hS
          refine lv_if_ne (pc := 80) (tgt := 87) hx hb dzM_allComings_80 (by decide) (fun h21 => ?_) (fun h21 => ?_)
          ·
            refine lv_aload_n (pc := 87) hx hb dzM_allComings_87 rfl (lv_at hl 2 rfl) ?_
            refine xk_get (pc := 88) hx hb hts hown hK hP ffzM_41 0 rfl rfl dzM_allComings_88 ?_
            refine lv_iload_n (pc := 91) hx hb dzM_allComings_91 rfl (lv_at hl 1 rfl) ?_
            refine xk_iald (q0 := 11) (t0 := 0) (j := 1) (pc := 92) hx hb hK hP rfl rfl (pk_in 1 4 (by decide)) (pk_cl 1) dzM_allComings_92 ?_
            refine lv_if_le (pc := 93) (tgt := 107) hx hb dzM_allComings_93 (by decide) (fun h22 => ?_) (fun h22 => ?_)
            ·
              refine lv_iconst (v := 0) (pc := 107) hx hb dzM_allComings_107 (by decide) ?_
              exact K7 0 (Eq.mpr (if_neg h21) (Eq.mpr (if_pos h22) rfl))
            ·
              refine lv_aload_n (pc := 96) hx hb dzM_allComings_96 rfl (lv_at hl 2 rfl) ?_
              refine xk_get (pc := 97) hx hb hts hown hK hP ffzM_41 0 rfl rfl dzM_allComings_97 ?_
              refine lv_iload_n (pc := 100) hx hb dzM_allComings_100 rfl (lv_at hl 1 rfl) ?_
              refine xk_iald (q0 := 11) (t0 := 0) (j := 1) (pc := 101) hx hb hK hP rfl rfl (pk_in 1 4 (by decide)) (pk_cl 1) dzM_allComings_101 ?_
              refine lv_iconst (v := 1) (pc := 102) hx hb dzM_allComings_102 (by decide) ?_
              refine lv_isub (pc := 103) hx hb dzM_allComings_103 ?_
              refine lv_goto (tgt := 108) (pc := 104) hx hb dzM_allComings_104 (by decide) ?_
              exact K7 (((g5 11) 1) - 1) (Eq.mpr (if_neg h21) (Eq.mpr (if_neg h22) rfl))
          ·
            refine lv_iconst (v := (-1)) (pc := 83) hx hb dzM_allComings_83 (by decide) ?_
            refine lv_goto (tgt := 108) (pc := 84) hx hb dzM_allComings_84 (by decide) ?_
            exact K7 (-1) (Eq.mpr (if_pos h21) rfl)
        ·
          refine lv_aload_n (pc := 47) hx hb dzM_allComings_47 rfl (lv_at hl 2 rfl) ?_
          refine xk_get (pc := 48) hx hb hts hown hK hP ffzM_41 0 rfl rfl dzM_allComings_48 ?_
          refine lv_iload_n (pc := 51) hx hb dzM_allComings_51 rfl (lv_at hl 1 rfl) ?_
          refine lv_sipush (v := 214) (pc := 52) hx hb dzM_allComings_52 (by decide) ?_
          refine xk_iast (q0 := 11) (t0 := 0) (j := 1) (pc := 55) hx hb hK hP hD hS rfl rfl (pk_in 1 4 (by decide)) (pk_cl 1) dzM_allComings_55 (fun H locs hP hD hS => ?_)
          obtain ⟨g9, eg9⟩ : ∃ z : xk_St, z = va_up g5 11 (upd (g5 11) 1 214) := ⟨_, rfl⟩
          have hP : va_P G xk_cls (xk_wM ad ac g9) H := by rw [eg9]; exact hP
          have hD : va_D A (xk_wM ad ac g9) := by rw [eg9]; exact hD
          have Ig9 : xk_cnt (B + 0) g9 := by rw [eg9]; repeat (first | exact Ig5 | refine xk_cnt_k (by decide) ?_ | refine xk_cnt_f (by decide) ?_ | refine xk_cnt_s ?_)
          refine lv_goto (tgt := 109) (pc := 56) hx hb dzM_allComings_56 (by decide) ?_
          exact K8 g9 H locs (Eq.mpr (if_neg h12) (Eq.mpr (if_pos h16) (Eq.mpr (if_pos h20) ⟨g9, eg9, rfl⟩))) (xk_cnt_le Ig9 (by omega)) hP hD hS
  refine lv_if_eq (pc := 25) (tgt := 59) hx hb dzM_allComings_25 (by decide) (fun h1 => ?_) (fun h1 => ?_)
  ·
    refine lv_aload_n (pc := 59) hx hb dzM_allComings_59 rfl (lv_at hl 2 rfl) ?_
    refine xk_get (pc := 60) hx hb hts hown hK hP ffzM_41 0 rfl rfl dzM_allComings_60 ?_
    refine lv_iload_n (pc := 63) hx hb dzM_allComings_63 rfl (lv_at hl 1 rfl) ?_
    refine xk_iald (q0 := 11) (t0 := 0) (j := 0) (pc := 64) hx hb hK hP rfl rfl (pk_in 0 4 (by decide)) (pk_cl 0) dzM_allComings_64 ?_
    refine lv_iconst (v := (-1)) (pc := 65) hx hb dzM_allComings_65 (by decide) ?_
    refine lv_icmp_eq (pc := 66) (tgt := 109) hx hb dzM_allComings_66 (by decide) (fun h2 => ?_) (fun h2 => ?_)
    ·
      exact K4 g0 H locs (Eq.mpr (if_pos h1) (Eq.mpr (if_pos h2) rfl)) (xk_cnt_le Ig0 (by omega)) hP hD hS
    ·
      refine lv_aload_n (pc := 69) hx hb dzM_allComings_69 rfl (lv_at hl 2 rfl) ?_
      refine xk_get (pc := 70) hx hb hts hown hK hP ffzM_41 0 rfl rfl dzM_allComings_70 ?_
      refine lv_iload_n (pc := 73) hx hb dzM_allComings_73 rfl (lv_at hl 1 rfl) ?_
      refine lv_aload_n (pc := 74) hx hb dzM_allComings_74 rfl (lv_at hl 2 rfl) ?_
      refine xk_get (pc := 75) hx hb hts hown hK hP ffzM_17 0 rfl rfl dzM_allComings_75 ?_
      refine lv_iload_n (pc := 78) hx hb dzM_allComings_78 rfl (lv_at hl 0 rfl) ?_
      refine xk_iald (q0 := 3) (t0 := 0) (j := 0) (pc := 79) hx hb hK hP rfl rfl (pk_in 0 6 (by decide)) (pk_cl 0) dzM_allComings_79 ?_
      have K1 : ∀ (x1 : Int32), (if ((g0 3) 0) = 0 then (x1 = (-1)) else (if ((g0 11) 0) ≤ 0 then (x1 = 0) else (x1 = ((g0 11) 0) - 1))) → W p l e xk_r0 s m args below meth c H locs 0 0 Q (F0 m 108 ls [.int x1, .int 0, .ref (ad 11)]) := by
        intro x1 R1
        refine xk_iast (q0 := 11) (t0 := 0) (j := 0) (pc := 108) hx hb hK hP hD hS rfl rfl (pk_in 0 4 (by decide)) (pk_cl 0) dzM_allComings_108 (fun H locs hP hD hS => ?_)
        obtain ⟨g1, eg1⟩ : ∃ z : xk_St, z = va_up g0 11 (upd (g0 11) 0 x1) := ⟨_, rfl⟩
        have hP : va_P G xk_cls (xk_wM ad ac g1) H := by rw [eg1]; exact hP
        have hD : va_D A (xk_wM ad ac g1) := by rw [eg1]; exact hD
        have Ig1 : xk_cnt (B + 0) g1 := by rw [eg1]; repeat (first | exact Ig0 | refine xk_cnt_k (by decide) ?_ | refine xk_cnt_f (by decide) ?_ | refine xk_cnt_s ?_)
        exact K4 g1 H locs (Eq.mpr (if_pos h1) (Eq.mpr (if_neg h2) ⟨x1, R1, ⟨g1, eg1, rfl⟩⟩)) (xk_cnt_le Ig1 (by omega)) hP hD hS
      refine lv_if_ne (pc := 80) (tgt := 87) hx hb dzM_allComings_80 (by decide) (fun h3 => ?_) (fun h3 => ?_)
      ·
        refine lv_aload_n (pc := 87) hx hb dzM_allComings_87 rfl (lv_at hl 2 rfl) ?_
        refine xk_get (pc := 88) hx hb hts hown hK hP ffzM_41 0 rfl rfl dzM_allComings_88 ?_
        refine lv_iload_n (pc := 91) hx hb dzM_allComings_91 rfl (lv_at hl 1 rfl) ?_
        refine xk_iald (q0 := 11) (t0 := 0) (j := 0) (pc := 92) hx hb hK hP rfl rfl (pk_in 0 4 (by decide)) (pk_cl 0) dzM_allComings_92 ?_
        refine lv_if_le (pc := 93) (tgt := 107) hx hb dzM_allComings_93 (by decide) (fun h4 => ?_) (fun h4 => ?_)
        ·
          refine lv_iconst (v := 0) (pc := 107) hx hb dzM_allComings_107 (by decide) ?_
          exact K1 0 (Eq.mpr (if_neg h3) (Eq.mpr (if_pos h4) rfl))
        ·
          refine lv_aload_n (pc := 96) hx hb dzM_allComings_96 rfl (lv_at hl 2 rfl) ?_
          refine xk_get (pc := 97) hx hb hts hown hK hP ffzM_41 0 rfl rfl dzM_allComings_97 ?_
          refine lv_iload_n (pc := 100) hx hb dzM_allComings_100 rfl (lv_at hl 1 rfl) ?_
          refine xk_iald (q0 := 11) (t0 := 0) (j := 0) (pc := 101) hx hb hK hP rfl rfl (pk_in 0 4 (by decide)) (pk_cl 0) dzM_allComings_101 ?_
          refine lv_iconst (v := 1) (pc := 102) hx hb dzM_allComings_102 (by decide) ?_
          refine lv_isub (pc := 103) hx hb dzM_allComings_103 ?_
          refine lv_goto (tgt := 108) (pc := 104) hx hb dzM_allComings_104 (by decide) ?_
          exact K1 (((g0 11) 0) - 1) (Eq.mpr (if_neg h3) (Eq.mpr (if_neg h4) rfl))
      ·
        refine lv_iconst (v := (-1)) (pc := 83) hx hb dzM_allComings_83 (by decide) ?_
        refine lv_goto (tgt := 108) (pc := 84) hx hb dzM_allComings_84 (by decide) ?_
        exact K1 (-1) (Eq.mpr (if_pos h3) rfl)
  ·
    refine lv_aload_n (pc := 28) hx hb dzM_allComings_28 rfl (lv_at hl 2 rfl) ?_
    refine xk_get (pc := 29) hx hb hts hown hK hP ffzM_20 0 rfl rfl dzM_allComings_29 ?_
    refine lv_iload_n (pc := 32) hx hb dzM_allComings_32 rfl (lv_at hl 0 rfl) ?_
    refine xk_iald (q0 := 4) (t0 := 0) (j := 0) (pc := 33) hx hb hK hP rfl rfl (pk_in 0 6 (by decide)) (pk_cl 0) dzM_allComings_33 ?_
    refine lv_if_ne (pc := 34) (tgt := 59) hx hb dzM_allComings_34 (by decide) (fun h5 => ?_) (fun h5 => ?_)
    ·
      refine lv_aload_n (pc := 59) hx hb dzM_allComings_59 rfl (lv_at hl 2 rfl) ?_
      refine xk_get (pc := 60) hx hb hts hown hK hP ffzM_41 0 rfl rfl dzM_allComings_60 ?_
      refine lv_iload_n (pc := 63) hx hb dzM_allComings_63 rfl (lv_at hl 1 rfl) ?_
      refine xk_iald (q0 := 11) (t0 := 0) (j := 0) (pc := 64) hx hb hK hP rfl rfl (pk_in 0 4 (by decide)) (pk_cl 0) dzM_allComings_64 ?_
      refine lv_iconst (v := (-1)) (pc := 65) hx hb dzM_allComings_65 (by decide) ?_
      refine lv_icmp_eq (pc := 66) (tgt := 109) hx hb dzM_allComings_66 (by decide) (fun h6 => ?_) (fun h6 => ?_)
      ·
        exact K4 g0 H locs (Eq.mpr (if_neg h1) (Eq.mpr (if_neg h5) (Eq.mpr (if_pos h6) rfl))) (xk_cnt_le Ig0 (by omega)) hP hD hS
      ·
        refine lv_aload_n (pc := 69) hx hb dzM_allComings_69 rfl (lv_at hl 2 rfl) ?_
        refine xk_get (pc := 70) hx hb hts hown hK hP ffzM_41 0 rfl rfl dzM_allComings_70 ?_
        refine lv_iload_n (pc := 73) hx hb dzM_allComings_73 rfl (lv_at hl 1 rfl) ?_
        refine lv_aload_n (pc := 74) hx hb dzM_allComings_74 rfl (lv_at hl 2 rfl) ?_
        refine xk_get (pc := 75) hx hb hts hown hK hP ffzM_17 0 rfl rfl dzM_allComings_75 ?_
        refine lv_iload_n (pc := 78) hx hb dzM_allComings_78 rfl (lv_at hl 0 rfl) ?_
        refine xk_iald (q0 := 3) (t0 := 0) (j := 0) (pc := 79) hx hb hK hP rfl rfl (pk_in 0 6 (by decide)) (pk_cl 0) dzM_allComings_79 ?_
        have K2 : ∀ (x2 : Int32), (if ((g0 3) 0) = 0 then (x2 = (-1)) else (if ((g0 11) 0) ≤ 0 then (x2 = 0) else (x2 = ((g0 11) 0) - 1))) → W p l e xk_r0 s m args below meth c H locs 0 0 Q (F0 m 108 ls [.int x2, .int 0, .ref (ad 11)]) := by
          intro x2 R2
          refine xk_iast (q0 := 11) (t0 := 0) (j := 0) (pc := 108) hx hb hK hP hD hS rfl rfl (pk_in 0 4 (by decide)) (pk_cl 0) dzM_allComings_108 (fun H locs hP hD hS => ?_)
          obtain ⟨g2, eg2⟩ : ∃ z : xk_St, z = va_up g0 11 (upd (g0 11) 0 x2) := ⟨_, rfl⟩
          have hP : va_P G xk_cls (xk_wM ad ac g2) H := by rw [eg2]; exact hP
          have hD : va_D A (xk_wM ad ac g2) := by rw [eg2]; exact hD
          have Ig2 : xk_cnt (B + 0) g2 := by rw [eg2]; repeat (first | exact Ig0 | refine xk_cnt_k (by decide) ?_ | refine xk_cnt_f (by decide) ?_ | refine xk_cnt_s ?_)
          exact K4 g2 H locs (Eq.mpr (if_neg h1) (Eq.mpr (if_neg h5) (Eq.mpr (if_neg h6) ⟨x2, R2, ⟨g2, eg2, rfl⟩⟩))) (xk_cnt_le Ig2 (by omega)) hP hD hS
        refine lv_if_ne (pc := 80) (tgt := 87) hx hb dzM_allComings_80 (by decide) (fun h7 => ?_) (fun h7 => ?_)
        ·
          refine lv_aload_n (pc := 87) hx hb dzM_allComings_87 rfl (lv_at hl 2 rfl) ?_
          refine xk_get (pc := 88) hx hb hts hown hK hP ffzM_41 0 rfl rfl dzM_allComings_88 ?_
          refine lv_iload_n (pc := 91) hx hb dzM_allComings_91 rfl (lv_at hl 1 rfl) ?_
          refine xk_iald (q0 := 11) (t0 := 0) (j := 0) (pc := 92) hx hb hK hP rfl rfl (pk_in 0 4 (by decide)) (pk_cl 0) dzM_allComings_92 ?_
          refine lv_if_le (pc := 93) (tgt := 107) hx hb dzM_allComings_93 (by decide) (fun h8 => ?_) (fun h8 => ?_)
          ·
            refine lv_iconst (v := 0) (pc := 107) hx hb dzM_allComings_107 (by decide) ?_
            exact K2 0 (Eq.mpr (if_neg h7) (Eq.mpr (if_pos h8) rfl))
          ·
            refine lv_aload_n (pc := 96) hx hb dzM_allComings_96 rfl (lv_at hl 2 rfl) ?_
            refine xk_get (pc := 97) hx hb hts hown hK hP ffzM_41 0 rfl rfl dzM_allComings_97 ?_
            refine lv_iload_n (pc := 100) hx hb dzM_allComings_100 rfl (lv_at hl 1 rfl) ?_
            refine xk_iald (q0 := 11) (t0 := 0) (j := 0) (pc := 101) hx hb hK hP rfl rfl (pk_in 0 4 (by decide)) (pk_cl 0) dzM_allComings_101 ?_
            refine lv_iconst (v := 1) (pc := 102) hx hb dzM_allComings_102 (by decide) ?_
            refine lv_isub (pc := 103) hx hb dzM_allComings_103 ?_
            refine lv_goto (tgt := 108) (pc := 104) hx hb dzM_allComings_104 (by decide) ?_
            exact K2 (((g0 11) 0) - 1) (Eq.mpr (if_neg h7) (Eq.mpr (if_neg h8) rfl))
        ·
          refine lv_iconst (v := (-1)) (pc := 83) hx hb dzM_allComings_83 (by decide) ?_
          refine lv_goto (tgt := 108) (pc := 84) hx hb dzM_allComings_84 (by decide) ?_
          exact K2 (-1) (Eq.mpr (if_pos h7) rfl)
    ·
      refine lv_aload_n (pc := 37) hx hb dzM_allComings_37 rfl (lv_at hl 2 rfl) ?_
      refine xk_get (pc := 38) hx hb hts hown hK hP ffzM_41 0 rfl rfl dzM_allComings_38 ?_
      refine lv_iload_n (pc := 41) hx hb dzM_allComings_41 rfl (lv_at hl 1 rfl) ?_
      refine xk_iald (q0 := 11) (t0 := 0) (j := 0) (pc := 42) hx hb hK hP rfl rfl (pk_in 0 4 (by decide)) (pk_cl 0) dzM_allComings_42 ?_
      refine lv_iconst (v := (-1)) (pc := 43) hx hb dzM_allComings_43 (by decide) ?_
      refine lv_icmp_ne (pc := 44) (tgt := 59) hx hb dzM_allComings_44 (by decide) (fun h9 => ?_) (fun h9 => ?_)
      ·
        refine lv_aload_n (pc := 59) hx hb dzM_allComings_59 rfl (lv_at hl 2 rfl) ?_
        refine xk_get (pc := 60) hx hb hts hown hK hP ffzM_41 0 rfl rfl dzM_allComings_60 ?_
        refine lv_iload_n (pc := 63) hx hb dzM_allComings_63 rfl (lv_at hl 1 rfl) ?_
        refine xk_iald (q0 := 11) (t0 := 0) (j := 0) (pc := 64) hx hb hK hP rfl rfl (pk_in 0 4 (by decide)) (pk_cl 0) dzM_allComings_64 ?_
        refine lv_iconst (v := (-1)) (pc := 65) hx hb dzM_allComings_65 (by decide) ?_
        refine lv_icmp_eq (pc := 66) (tgt := 109) hx hb dzM_allComings_66 (by decide) (fun hq9 => absurd hq9 h9) (fun _ => ?_)
        refine lv_aload_n (pc := 69) hx hb dzM_allComings_69 rfl (lv_at hl 2 rfl) ?_
        refine xk_get (pc := 70) hx hb hts hown hK hP ffzM_41 0 rfl rfl dzM_allComings_70 ?_
        refine lv_iload_n (pc := 73) hx hb dzM_allComings_73 rfl (lv_at hl 1 rfl) ?_
        refine lv_aload_n (pc := 74) hx hb dzM_allComings_74 rfl (lv_at hl 2 rfl) ?_
        refine xk_get (pc := 75) hx hb hts hown hK hP ffzM_17 0 rfl rfl dzM_allComings_75 ?_
        refine lv_iload_n (pc := 78) hx hb dzM_allComings_78 rfl (lv_at hl 0 rfl) ?_
        refine xk_iald (q0 := 3) (t0 := 0) (j := 0) (pc := 79) hx hb hK hP rfl rfl (pk_in 0 6 (by decide)) (pk_cl 0) dzM_allComings_79 ?_
        have K3 : ∀ (x3 : Int32), (if ((g0 3) 0) = 0 then (x3 = (-1)) else (if ((g0 11) 0) ≤ 0 then (x3 = 0) else (x3 = ((g0 11) 0) - 1))) → W p l e xk_r0 s m args below meth c H locs 0 0 Q (F0 m 108 ls [.int x3, .int 0, .ref (ad 11)]) := by
          intro x3 R3
          refine xk_iast (q0 := 11) (t0 := 0) (j := 0) (pc := 108) hx hb hK hP hD hS rfl rfl (pk_in 0 4 (by decide)) (pk_cl 0) dzM_allComings_108 (fun H locs hP hD hS => ?_)
          obtain ⟨g3, eg3⟩ : ∃ z : xk_St, z = va_up g0 11 (upd (g0 11) 0 x3) := ⟨_, rfl⟩
          have hP : va_P G xk_cls (xk_wM ad ac g3) H := by rw [eg3]; exact hP
          have hD : va_D A (xk_wM ad ac g3) := by rw [eg3]; exact hD
          have Ig3 : xk_cnt (B + 0) g3 := by rw [eg3]; repeat (first | exact Ig0 | refine xk_cnt_k (by decide) ?_ | refine xk_cnt_f (by decide) ?_ | refine xk_cnt_s ?_)
          exact K4 g3 H locs (Eq.mpr (if_neg h1) (Eq.mpr (if_pos h5) (Eq.mpr (if_neg h9) ⟨x3, R3, ⟨g3, eg3, rfl⟩⟩))) (xk_cnt_le Ig3 (by omega)) hP hD hS
        refine lv_if_ne (pc := 80) (tgt := 87) hx hb dzM_allComings_80 (by decide) (fun h10 => ?_) (fun h10 => ?_)
        ·
          refine lv_aload_n (pc := 87) hx hb dzM_allComings_87 rfl (lv_at hl 2 rfl) ?_
          refine xk_get (pc := 88) hx hb hts hown hK hP ffzM_41 0 rfl rfl dzM_allComings_88 ?_
          refine lv_iload_n (pc := 91) hx hb dzM_allComings_91 rfl (lv_at hl 1 rfl) ?_
          refine xk_iald (q0 := 11) (t0 := 0) (j := 0) (pc := 92) hx hb hK hP rfl rfl (pk_in 0 4 (by decide)) (pk_cl 0) dzM_allComings_92 ?_
          refine lv_if_le (pc := 93) (tgt := 107) hx hb dzM_allComings_93 (by decide) (fun h11 => ?_) (fun h11 => ?_)
          ·
            refine lv_iconst (v := 0) (pc := 107) hx hb dzM_allComings_107 (by decide) ?_
            exact K3 0 (Eq.mpr (if_neg h10) (Eq.mpr (if_pos h11) rfl))
          ·
            refine lv_aload_n (pc := 96) hx hb dzM_allComings_96 rfl (lv_at hl 2 rfl) ?_
            refine xk_get (pc := 97) hx hb hts hown hK hP ffzM_41 0 rfl rfl dzM_allComings_97 ?_
            refine lv_iload_n (pc := 100) hx hb dzM_allComings_100 rfl (lv_at hl 1 rfl) ?_
            refine xk_iald (q0 := 11) (t0 := 0) (j := 0) (pc := 101) hx hb hK hP rfl rfl (pk_in 0 4 (by decide)) (pk_cl 0) dzM_allComings_101 ?_
            refine lv_iconst (v := 1) (pc := 102) hx hb dzM_allComings_102 (by decide) ?_
            refine lv_isub (pc := 103) hx hb dzM_allComings_103 ?_
            refine lv_goto (tgt := 108) (pc := 104) hx hb dzM_allComings_104 (by decide) ?_
            exact K3 (((g0 11) 0) - 1) (Eq.mpr (if_neg h10) (Eq.mpr (if_neg h11) rfl))
        ·
          refine lv_iconst (v := (-1)) (pc := 83) hx hb dzM_allComings_83 (by decide) ?_
          refine lv_goto (tgt := 108) (pc := 84) hx hb dzM_allComings_84 (by decide) ?_
          exact K3 (-1) (Eq.mpr (if_pos h10) rfl)
      ·
        refine lv_aload_n (pc := 47) hx hb dzM_allComings_47 rfl (lv_at hl 2 rfl) ?_
        refine xk_get (pc := 48) hx hb hts hown hK hP ffzM_41 0 rfl rfl dzM_allComings_48 ?_
        refine lv_iload_n (pc := 51) hx hb dzM_allComings_51 rfl (lv_at hl 1 rfl) ?_
        refine lv_sipush (v := 214) (pc := 52) hx hb dzM_allComings_52 (by decide) ?_
        refine xk_iast (q0 := 11) (t0 := 0) (j := 0) (pc := 55) hx hb hK hP hD hS rfl rfl (pk_in 0 4 (by decide)) (pk_cl 0) dzM_allComings_55 (fun H locs hP hD hS => ?_)
        obtain ⟨g4, eg4⟩ : ∃ z : xk_St, z = va_up g0 11 (upd (g0 11) 0 214) := ⟨_, rfl⟩
        have hP : va_P G xk_cls (xk_wM ad ac g4) H := by rw [eg4]; exact hP
        have hD : va_D A (xk_wM ad ac g4) := by rw [eg4]; exact hD
        have Ig4 : xk_cnt (B + 0) g4 := by rw [eg4]; repeat (first | exact Ig0 | refine xk_cnt_k (by decide) ?_ | refine xk_cnt_f (by decide) ?_ | refine xk_cnt_s ?_)
        refine lv_goto (tgt := 109) (pc := 56) hx hb dzM_allComings_56 (by decide) ?_
        exact K4 g4 H locs (Eq.mpr (if_neg h1) (Eq.mpr (if_pos h5) (Eq.mpr (if_pos h9) ⟨g4, eg4, rfl⟩))) (xk_cnt_le Ig4 (by omega)) hP hD hS
theorem frzM_allComings (g0 : xk_St) (gz : xk_St) : relzM_allComings g0 gz → xk_eqv [0, 1, 2, 3, 4, 5, 6, 7, 8, 9, 10, 12, 13, 14, 15, 16, 17, 18, 19, 20, 21, 22, 23, 24, 25, 26, 27] g0 gz := by
  intro h
  unfold relzM_allComings at h
  have s0 : xk_eqv [0, 1, 2, 3, 4, 5, 6, 7, 8, 9, 10, 12, 13, 14, 15, 16, 17, 18, 19, 20, 21, 22, 23, 24, 25, 26, 27] g0 g0 := xk_eqv_rf
  obtain ⟨g5, u1, v2⟩ := h
  have s3 : xk_eqv [0, 1, 2, 3, 4, 5, 6, 7, 8, 9, 10, 12, 13, 14, 15, 16, 17, 18, 19, 20, 21, 22, 23, 24, 25, 26, 27] g0 g5 := by
    by_cases hc : ((g0 12) 0) = 0
    · rw [if_pos hc] at u1
      by_cases hc : ((g0 11) 0) = (-1)
      · rw [if_pos hc] at u1
        rw [u1]; exact s0
      · rw [if_neg hc] at u1
        obtain ⟨x1, u4, v5⟩ := u1
        obtain ⟨g1, u6, v7⟩ := v5
        have s8 : xk_eqv [0, 1, 2, 3, 4, 5, 6, 7, 8, 9, 10, 12, 13, 14, 15, 16, 17, 18, 19, 20, 21, 22, 23, 24, 25, 26, 27] g0 g1 := by rw [u6]; repeat (first | exact s0 | refine xk_eqv_up (by decide) ?_)
        rw [v7]; exact s8
    · rw [if_neg hc] at u1
      by_cases hc : ((g0 4) 0) = 0
      · rw [if_pos hc] at u1
        by_cases hc : ((g0 11) 0) = (-1)
        · rw [if_pos hc] at u1
          obtain ⟨g4, u9, v10⟩ := u1
          have s11 : xk_eqv [0, 1, 2, 3, 4, 5, 6, 7, 8, 9, 10, 12, 13, 14, 15, 16, 17, 18, 19, 20, 21, 22, 23, 24, 25, 26, 27] g0 g4 := by rw [u9]; repeat (first | exact s0 | refine xk_eqv_up (by decide) ?_)
          rw [v10]; exact s11
        · rw [if_neg hc] at u1
          obtain ⟨x3, u12, v13⟩ := u1
          obtain ⟨g3, u14, v15⟩ := v13
          have s16 : xk_eqv [0, 1, 2, 3, 4, 5, 6, 7, 8, 9, 10, 12, 13, 14, 15, 16, 17, 18, 19, 20, 21, 22, 23, 24, 25, 26, 27] g0 g3 := by rw [u14]; repeat (first | exact s0 | refine xk_eqv_up (by decide) ?_)
          rw [v15]; exact s16
      · rw [if_neg hc] at u1
        by_cases hc : ((g0 11) 0) = (-1)
        · rw [if_pos hc] at u1
          rw [u1]; exact s0
        · rw [if_neg hc] at u1
          obtain ⟨x2, u17, v18⟩ := u1
          obtain ⟨g2, u19, v20⟩ := v18
          have s21 : xk_eqv [0, 1, 2, 3, 4, 5, 6, 7, 8, 9, 10, 12, 13, 14, 15, 16, 17, 18, 19, 20, 21, 22, 23, 24, 25, 26, 27] g0 g2 := by rw [u19]; repeat (first | exact s0 | refine xk_eqv_up (by decide) ?_)
          rw [v20]; exact s21
  obtain ⟨g10, u22, v23⟩ := v2
  have s24 : xk_eqv [0, 1, 2, 3, 4, 5, 6, 7, 8, 9, 10, 12, 13, 14, 15, 16, 17, 18, 19, 20, 21, 22, 23, 24, 25, 26, 27] g0 g10 := by
    by_cases hc : ((g5 12) 1) = 0
    · rw [if_pos hc] at u22
      by_cases hc : ((g5 11) 1) = (-1)
      · rw [if_pos hc] at u22
        rw [u22]; exact s3
      · rw [if_neg hc] at u22
        obtain ⟨x4, u25, v26⟩ := u22
        obtain ⟨g6, u27, v28⟩ := v26
        have s29 : xk_eqv [0, 1, 2, 3, 4, 5, 6, 7, 8, 9, 10, 12, 13, 14, 15, 16, 17, 18, 19, 20, 21, 22, 23, 24, 25, 26, 27] g0 g6 := by rw [u27]; repeat (first | exact s3 | refine xk_eqv_up (by decide) ?_)
        rw [v28]; exact s29
    · rw [if_neg hc] at u22
      by_cases hc : ((g5 4) 2) = 0
      · rw [if_pos hc] at u22
        by_cases hc : ((g5 11) 1) = (-1)
        · rw [if_pos hc] at u22
          obtain ⟨g9, u30, v31⟩ := u22
          have s32 : xk_eqv [0, 1, 2, 3, 4, 5, 6, 7, 8, 9, 10, 12, 13, 14, 15, 16, 17, 18, 19, 20, 21, 22, 23, 24, 25, 26, 27] g0 g9 := by rw [u30]; repeat (first | exact s3 | refine xk_eqv_up (by decide) ?_)
          rw [v31]; exact s32
        · rw [if_neg hc] at u22
          obtain ⟨x6, u33, v34⟩ := u22
          obtain ⟨g8, u35, v36⟩ := v34
          have s37 : xk_eqv [0, 1, 2, 3, 4, 5, 6, 7, 8, 9, 10, 12, 13, 14, 15, 16, 17, 18, 19, 20, 21, 22, 23, 24, 25, 26, 27] g0 g8 := by rw [u35]; repeat (first | exact s3 | refine xk_eqv_up (by decide) ?_)
          rw [v36]; exact s37
      · rw [if_neg hc] at u22
        by_cases hc : ((g5 11) 1) = (-1)
        · rw [if_pos hc] at u22
          rw [u22]; exact s3
        · rw [if_neg hc] at u22
          obtain ⟨x5, u38, v39⟩ := u22
          obtain ⟨g7, u40, v41⟩ := v39
          have s42 : xk_eqv [0, 1, 2, 3, 4, 5, 6, 7, 8, 9, 10, 12, 13, 14, 15, 16, 17, 18, 19, 20, 21, 22, 23, 24, 25, 26, 27] g0 g7 := by rw [u40]; repeat (first | exact s3 | refine xk_eqv_up (by decide) ?_)
          rw [v41]; exact s42
  obtain ⟨g15, u43, v44⟩ := v23
  have s45 : xk_eqv [0, 1, 2, 3, 4, 5, 6, 7, 8, 9, 10, 12, 13, 14, 15, 16, 17, 18, 19, 20, 21, 22, 23, 24, 25, 26, 27] g0 g15 := by
    by_cases hc : ((g10 12) 2) = 0
    · rw [if_pos hc] at u43
      by_cases hc : ((g10 11) 2) = (-1)
      · rw [if_pos hc] at u43
        rw [u43]; exact s24
      · rw [if_neg hc] at u43
        obtain ⟨x7, u46, v47⟩ := u43
        obtain ⟨g11, u48, v49⟩ := v47
        have s50 : xk_eqv [0, 1, 2, 3, 4, 5, 6, 7, 8, 9, 10, 12, 13, 14, 15, 16, 17, 18, 19, 20, 21, 22, 23, 24, 25, 26, 27] g0 g11 := by rw [u48]; repeat (first | exact s24 | refine xk_eqv_up (by decide) ?_)
        rw [v49]; exact s50
    · rw [if_neg hc] at u43
      by_cases hc : ((g10 4) 3) = 0
      · rw [if_pos hc] at u43
        by_cases hc : ((g10 11) 2) = (-1)
        · rw [if_pos hc] at u43
          obtain ⟨g14, u51, v52⟩ := u43
          have s53 : xk_eqv [0, 1, 2, 3, 4, 5, 6, 7, 8, 9, 10, 12, 13, 14, 15, 16, 17, 18, 19, 20, 21, 22, 23, 24, 25, 26, 27] g0 g14 := by rw [u51]; repeat (first | exact s24 | refine xk_eqv_up (by decide) ?_)
          rw [v52]; exact s53
        · rw [if_neg hc] at u43
          obtain ⟨x9, u54, v55⟩ := u43
          obtain ⟨g13, u56, v57⟩ := v55
          have s58 : xk_eqv [0, 1, 2, 3, 4, 5, 6, 7, 8, 9, 10, 12, 13, 14, 15, 16, 17, 18, 19, 20, 21, 22, 23, 24, 25, 26, 27] g0 g13 := by rw [u56]; repeat (first | exact s24 | refine xk_eqv_up (by decide) ?_)
          rw [v57]; exact s58
      · rw [if_neg hc] at u43
        by_cases hc : ((g10 11) 2) = (-1)
        · rw [if_pos hc] at u43
          rw [u43]; exact s24
        · rw [if_neg hc] at u43
          obtain ⟨x8, u59, v60⟩ := u43
          obtain ⟨g12, u61, v62⟩ := v60
          have s63 : xk_eqv [0, 1, 2, 3, 4, 5, 6, 7, 8, 9, 10, 12, 13, 14, 15, 16, 17, 18, 19, 20, 21, 22, 23, 24, 25, 26, 27] g0 g12 := by rw [u61]; repeat (first | exact s24 | refine xk_eqv_up (by decide) ?_)
          rw [v62]; exact s63
  obtain ⟨g20, u64, v65⟩ := v44
  have s66 : xk_eqv [0, 1, 2, 3, 4, 5, 6, 7, 8, 9, 10, 12, 13, 14, 15, 16, 17, 18, 19, 20, 21, 22, 23, 24, 25, 26, 27] g0 g20 := by
    by_cases hc : ((g15 12) 3) = 0
    · rw [if_pos hc] at u64
      by_cases hc : ((g15 11) 3) = (-1)
      · rw [if_pos hc] at u64
        rw [u64]; exact s45
      · rw [if_neg hc] at u64
        obtain ⟨x10, u67, v68⟩ := u64
        obtain ⟨g16, u69, v70⟩ := v68
        have s71 : xk_eqv [0, 1, 2, 3, 4, 5, 6, 7, 8, 9, 10, 12, 13, 14, 15, 16, 17, 18, 19, 20, 21, 22, 23, 24, 25, 26, 27] g0 g16 := by rw [u69]; repeat (first | exact s45 | refine xk_eqv_up (by decide) ?_)
        rw [v70]; exact s71
    · rw [if_neg hc] at u64
      by_cases hc : ((g15 4) 5) = 0
      · rw [if_pos hc] at u64
        by_cases hc : ((g15 11) 3) = (-1)
        · rw [if_pos hc] at u64
          obtain ⟨g19, u72, v73⟩ := u64
          have s74 : xk_eqv [0, 1, 2, 3, 4, 5, 6, 7, 8, 9, 10, 12, 13, 14, 15, 16, 17, 18, 19, 20, 21, 22, 23, 24, 25, 26, 27] g0 g19 := by rw [u72]; repeat (first | exact s45 | refine xk_eqv_up (by decide) ?_)
          rw [v73]; exact s74
        · rw [if_neg hc] at u64
          obtain ⟨x12, u75, v76⟩ := u64
          obtain ⟨g18, u77, v78⟩ := v76
          have s79 : xk_eqv [0, 1, 2, 3, 4, 5, 6, 7, 8, 9, 10, 12, 13, 14, 15, 16, 17, 18, 19, 20, 21, 22, 23, 24, 25, 26, 27] g0 g18 := by rw [u77]; repeat (first | exact s45 | refine xk_eqv_up (by decide) ?_)
          rw [v78]; exact s79
      · rw [if_neg hc] at u64
        by_cases hc : ((g15 11) 3) = (-1)
        · rw [if_pos hc] at u64
          rw [u64]; exact s45
        · rw [if_neg hc] at u64
          obtain ⟨x11, u80, v81⟩ := u64
          obtain ⟨g17, u82, v83⟩ := v81
          have s84 : xk_eqv [0, 1, 2, 3, 4, 5, 6, 7, 8, 9, 10, 12, 13, 14, 15, 16, 17, 18, 19, 20, 21, 22, 23, 24, 25, 26, 27] g0 g17 := by rw [u82]; repeat (first | exact s45 | refine xk_eqv_up (by decide) ?_)
          rw [v83]; exact s84
  rw [v65]; exact s66
theorem iczM_allComings (B : Nat) (g0 : xk_St) (gz : xk_St) : relzM_allComings g0 gz → xk_cnt B g0 → xk_cnt (B + 0) gz := by
  intro h Ig0
  unfold relzM_allComings at h
  have Ig0 : xk_cnt (B + 0) g0 := Ig0
  obtain ⟨g5, u1, v2⟩ := h
  have Ig5 : xk_cnt (B + 0) g5 := by
    by_cases hc : ((g0 12) 0) = 0
    · rw [if_pos hc] at u1
      by_cases hc : ((g0 11) 0) = (-1)
      · rw [if_pos hc] at u1
        rw [u1]; exact xk_cnt_le Ig0 (by omega)
      · rw [if_neg hc] at u1
        obtain ⟨x1, u3, v4⟩ := u1
        obtain ⟨g1, u5, v6⟩ := v4
        have Ig1 : xk_cnt (B + 0) g1 := by rw [u5]; repeat (first | exact Ig0 | refine xk_cnt_k (by decide) ?_ | refine xk_cnt_f (by decide) ?_ | refine xk_cnt_s ?_)
        rw [v6]; exact xk_cnt_le Ig1 (by omega)
    · rw [if_neg hc] at u1
      by_cases hc : ((g0 4) 0) = 0
      · rw [if_pos hc] at u1
        by_cases hc : ((g0 11) 0) = (-1)
        · rw [if_pos hc] at u1
          obtain ⟨g4, u7, v8⟩ := u1
          have Ig4 : xk_cnt (B + 0) g4 := by rw [u7]; repeat (first | exact Ig0 | refine xk_cnt_k (by decide) ?_ | refine xk_cnt_f (by decide) ?_ | refine xk_cnt_s ?_)
          rw [v8]; exact xk_cnt_le Ig4 (by omega)
        · rw [if_neg hc] at u1
          obtain ⟨x3, u9, v10⟩ := u1
          obtain ⟨g3, u11, v12⟩ := v10
          have Ig3 : xk_cnt (B + 0) g3 := by rw [u11]; repeat (first | exact Ig0 | refine xk_cnt_k (by decide) ?_ | refine xk_cnt_f (by decide) ?_ | refine xk_cnt_s ?_)
          rw [v12]; exact xk_cnt_le Ig3 (by omega)
      · rw [if_neg hc] at u1
        by_cases hc : ((g0 11) 0) = (-1)
        · rw [if_pos hc] at u1
          rw [u1]; exact xk_cnt_le Ig0 (by omega)
        · rw [if_neg hc] at u1
          obtain ⟨x2, u13, v14⟩ := u1
          obtain ⟨g2, u15, v16⟩ := v14
          have Ig2 : xk_cnt (B + 0) g2 := by rw [u15]; repeat (first | exact Ig0 | refine xk_cnt_k (by decide) ?_ | refine xk_cnt_f (by decide) ?_ | refine xk_cnt_s ?_)
          rw [v16]; exact xk_cnt_le Ig2 (by omega)
  obtain ⟨g10, u17, v18⟩ := v2
  have Ig10 : xk_cnt (B + 0) g10 := by
    by_cases hc : ((g5 12) 1) = 0
    · rw [if_pos hc] at u17
      by_cases hc : ((g5 11) 1) = (-1)
      · rw [if_pos hc] at u17
        rw [u17]; exact xk_cnt_le Ig5 (by omega)
      · rw [if_neg hc] at u17
        obtain ⟨x4, u19, v20⟩ := u17
        obtain ⟨g6, u21, v22⟩ := v20
        have Ig6 : xk_cnt (B + 0) g6 := by rw [u21]; repeat (first | exact Ig5 | refine xk_cnt_k (by decide) ?_ | refine xk_cnt_f (by decide) ?_ | refine xk_cnt_s ?_)
        rw [v22]; exact xk_cnt_le Ig6 (by omega)
    · rw [if_neg hc] at u17
      by_cases hc : ((g5 4) 2) = 0
      · rw [if_pos hc] at u17
        by_cases hc : ((g5 11) 1) = (-1)
        · rw [if_pos hc] at u17
          obtain ⟨g9, u23, v24⟩ := u17
          have Ig9 : xk_cnt (B + 0) g9 := by rw [u23]; repeat (first | exact Ig5 | refine xk_cnt_k (by decide) ?_ | refine xk_cnt_f (by decide) ?_ | refine xk_cnt_s ?_)
          rw [v24]; exact xk_cnt_le Ig9 (by omega)
        · rw [if_neg hc] at u17
          obtain ⟨x6, u25, v26⟩ := u17
          obtain ⟨g8, u27, v28⟩ := v26
          have Ig8 : xk_cnt (B + 0) g8 := by rw [u27]; repeat (first | exact Ig5 | refine xk_cnt_k (by decide) ?_ | refine xk_cnt_f (by decide) ?_ | refine xk_cnt_s ?_)
          rw [v28]; exact xk_cnt_le Ig8 (by omega)
      · rw [if_neg hc] at u17
        by_cases hc : ((g5 11) 1) = (-1)
        · rw [if_pos hc] at u17
          rw [u17]; exact xk_cnt_le Ig5 (by omega)
        · rw [if_neg hc] at u17
          obtain ⟨x5, u29, v30⟩ := u17
          obtain ⟨g7, u31, v32⟩ := v30
          have Ig7 : xk_cnt (B + 0) g7 := by rw [u31]; repeat (first | exact Ig5 | refine xk_cnt_k (by decide) ?_ | refine xk_cnt_f (by decide) ?_ | refine xk_cnt_s ?_)
          rw [v32]; exact xk_cnt_le Ig7 (by omega)
  obtain ⟨g15, u33, v34⟩ := v18
  have Ig15 : xk_cnt (B + 0) g15 := by
    by_cases hc : ((g10 12) 2) = 0
    · rw [if_pos hc] at u33
      by_cases hc : ((g10 11) 2) = (-1)
      · rw [if_pos hc] at u33
        rw [u33]; exact xk_cnt_le Ig10 (by omega)
      · rw [if_neg hc] at u33
        obtain ⟨x7, u35, v36⟩ := u33
        obtain ⟨g11, u37, v38⟩ := v36
        have Ig11 : xk_cnt (B + 0) g11 := by rw [u37]; repeat (first | exact Ig10 | refine xk_cnt_k (by decide) ?_ | refine xk_cnt_f (by decide) ?_ | refine xk_cnt_s ?_)
        rw [v38]; exact xk_cnt_le Ig11 (by omega)
    · rw [if_neg hc] at u33
      by_cases hc : ((g10 4) 3) = 0
      · rw [if_pos hc] at u33
        by_cases hc : ((g10 11) 2) = (-1)
        · rw [if_pos hc] at u33
          obtain ⟨g14, u39, v40⟩ := u33
          have Ig14 : xk_cnt (B + 0) g14 := by rw [u39]; repeat (first | exact Ig10 | refine xk_cnt_k (by decide) ?_ | refine xk_cnt_f (by decide) ?_ | refine xk_cnt_s ?_)
          rw [v40]; exact xk_cnt_le Ig14 (by omega)
        · rw [if_neg hc] at u33
          obtain ⟨x9, u41, v42⟩ := u33
          obtain ⟨g13, u43, v44⟩ := v42
          have Ig13 : xk_cnt (B + 0) g13 := by rw [u43]; repeat (first | exact Ig10 | refine xk_cnt_k (by decide) ?_ | refine xk_cnt_f (by decide) ?_ | refine xk_cnt_s ?_)
          rw [v44]; exact xk_cnt_le Ig13 (by omega)
      · rw [if_neg hc] at u33
        by_cases hc : ((g10 11) 2) = (-1)
        · rw [if_pos hc] at u33
          rw [u33]; exact xk_cnt_le Ig10 (by omega)
        · rw [if_neg hc] at u33
          obtain ⟨x8, u45, v46⟩ := u33
          obtain ⟨g12, u47, v48⟩ := v46
          have Ig12 : xk_cnt (B + 0) g12 := by rw [u47]; repeat (first | exact Ig10 | refine xk_cnt_k (by decide) ?_ | refine xk_cnt_f (by decide) ?_ | refine xk_cnt_s ?_)
          rw [v48]; exact xk_cnt_le Ig12 (by omega)
  obtain ⟨g20, u49, v50⟩ := v34
  have Ig20 : xk_cnt (B + 0) g20 := by
    by_cases hc : ((g15 12) 3) = 0
    · rw [if_pos hc] at u49
      by_cases hc : ((g15 11) 3) = (-1)
      · rw [if_pos hc] at u49
        rw [u49]; exact xk_cnt_le Ig15 (by omega)
      · rw [if_neg hc] at u49
        obtain ⟨x10, u51, v52⟩ := u49
        obtain ⟨g16, u53, v54⟩ := v52
        have Ig16 : xk_cnt (B + 0) g16 := by rw [u53]; repeat (first | exact Ig15 | refine xk_cnt_k (by decide) ?_ | refine xk_cnt_f (by decide) ?_ | refine xk_cnt_s ?_)
        rw [v54]; exact xk_cnt_le Ig16 (by omega)
    · rw [if_neg hc] at u49
      by_cases hc : ((g15 4) 5) = 0
      · rw [if_pos hc] at u49
        by_cases hc : ((g15 11) 3) = (-1)
        · rw [if_pos hc] at u49
          obtain ⟨g19, u55, v56⟩ := u49
          have Ig19 : xk_cnt (B + 0) g19 := by rw [u55]; repeat (first | exact Ig15 | refine xk_cnt_k (by decide) ?_ | refine xk_cnt_f (by decide) ?_ | refine xk_cnt_s ?_)
          rw [v56]; exact xk_cnt_le Ig19 (by omega)
        · rw [if_neg hc] at u49
          obtain ⟨x12, u57, v58⟩ := u49
          obtain ⟨g18, u59, v60⟩ := v58
          have Ig18 : xk_cnt (B + 0) g18 := by rw [u59]; repeat (first | exact Ig15 | refine xk_cnt_k (by decide) ?_ | refine xk_cnt_f (by decide) ?_ | refine xk_cnt_s ?_)
          rw [v60]; exact xk_cnt_le Ig18 (by omega)
      · rw [if_neg hc] at u49
        by_cases hc : ((g15 11) 3) = (-1)
        · rw [if_pos hc] at u49
          rw [u49]; exact xk_cnt_le Ig15 (by omega)
        · rw [if_neg hc] at u49
          obtain ⟨x11, u61, v62⟩ := u49
          obtain ⟨g17, u63, v64⟩ := v62
          have Ig17 : xk_cnt (B + 0) g17 := by rw [u63]; repeat (first | exact Ig15 | refine xk_cnt_k (by decide) ?_ | refine xk_cnt_f (by decide) ?_ | refine xk_cnt_s ?_)
          rw [v64]; exact xk_cnt_le Ig17 (by omega)
  rw [v50]; exact xk_cnt_le Ig20 (by omega)

def relzM_useOrders (g0 : xk_St) (gz : xk_St) : Prop := ∃ (g3 : xk_St), (if ((g0 13) 0) = 0 then (g3 = g0) else (if ((g0 3) 1) ≤ 0 then (g3 = g0) else (if ((g0 4) 1) = 0 then (∃ (g1 : xk_St), g1 = va_up g0 13 (upd (g0 13) 0 0) ∧ (∃ (g2 : xk_St), relzM_note g1 9 0 g2 ∧ (g3 = g2))) else (g3 = g0)))) ∧ (∃ (g6 : xk_St), (if ((g3 13) 1) = 0 then (g6 = g3) else (if ((g3 3) 4) ≤ 0 then (g6 = g3) else (if ((g3 4) 4) = 0 then (∃ (g4 : xk_St), g4 = va_up g3 13 (upd (g3 13) 1 0) ∧ (∃ (g5 : xk_St), relzM_note g4 9 1 g5 ∧ (g6 = g5))) else (g6 = g3)))) ∧ (gz = g6))
set_option maxHeartbeats 4000000 in
set_option maxRecDepth 100000 in
theorem kzM_useOrders (l : Launch) (G : va_G) (ac : Nat → ClassId) (ad : Nat → Nat) (g0 : xk_St) (B : Nat) (Ig0 : xk_cnt B g0) (hB : B + 3 < 2147483648) : xk_CV l yzM_useOrders czM_useOrders 2 xk_WS xk_r1 G xk_cls (xk_tys ac) [.ref (ad 0)] (xk_wM ad ac g0) (fun (gz : xk_St) => relzM_useOrders g0 gz) (fun gz => xk_wM ad ac gz) := by
  refine xk_ofV (by decide) (Nat.le_of_ble_eq_true rfl) ?_
  intro p e s m args below meth c A Q H locs ls C0 hret hP hD hS hl
  obtain ⟨hx, hb, hml, hts, hown, hK, hA⟩ := C0
  have hl : lv_has ls 2 [(0, .ref (ad 0))] := hl
  have Ig0 : xk_cnt (B + 0) g0 := Ig0
  refine lv_iconst (v := 0) (pc := 0) hx hb dzM_useOrders_0 (by decide) ?_
  refine lv_istore_n (lv' := [(1, .int 0), (0, .ref (ad 0))]) (pc := 1) hx hb dzM_useOrders_1 rfl hl (by decide) rfl (fun ls hl => ?_)
  refine lv_iload_n (pc := 2) hx hb dzM_useOrders_2 rfl (lv_at hl 0 rfl) ?_
  refine lv_iconst (v := 2) (pc := 3) hx hb dzM_useOrders_3 (by decide) ?_
  refine lv_icmp_ge (pc := 4) (tgt := 62) hx hb dzM_useOrders_4 (by decide) (fun hq9 => absurd hq9 (by decide)) (fun _ => ?_)
  refine lv_aload_n (pc := 7) hx hb dzM_useOrders_7 rfl (lv_at hl 1 rfl) ?_
  refine xk_get (pc := 8) hx hb hts hown hK hP ffzM_47 0 rfl rfl dzM_useOrders_8 ?_
  refine lv_iload_n (pc := 11) hx hb dzM_useOrders_11 rfl (lv_at hl 0 rfl) ?_
  refine xk_zald (q0 := 13) (t0 := 1) (j := 0) (pc := 12) hx hb hK hP rfl rfl (pk_in 0 2 (by decide)) (pk_cl 0) dzM_useOrders_12 ?_
  have K1 : ∀ (g3 : xk_St) (H : Heap) (locs : List Loc), (if ((g0 13) 0) = 0 then (g3 = g0) else (if ((g0 3) 1) ≤ 0 then (g3 = g0) else (if ((g0 4) 1) = 0 then (∃ (g1 : xk_St), g1 = va_up g0 13 (upd (g0 13) 0 0) ∧ (∃ (g2 : xk_St), relzM_note g1 9 0 g2 ∧ (g3 = g2))) else (g3 = g0)))) → (xk_cnt (B + 1) g3) → (va_P G xk_cls (xk_wM ad ac g3) H) → (va_D A (xk_wM ad ac g3)) → (va_S A s.heap H locs) → W p l e xk_r1 s m args below meth c H locs 0 0 Q (F0 m 56 ls []) := by
    intro g3 H locs R1 Ig3 hP hD hS
    refine lv_iinc (k := 0) (x := 0) (v := 1) (lv' := [(1, .int 1), (0, .ref (ad 0))]) (pc := 56) hx hb dzM_useOrders_56 hl rfl (by decide) (by decide) rfl (fun ls hl => ?_)
    refine lv_goto (tgt := 2) (pc := 59) hx hb dzM_useOrders_59 (by decide) ?_
    refine lv_iload_n (pc := 2) hx hb dzM_useOrders_2 rfl (lv_at hl 0 rfl) ?_
    refine lv_iconst (v := 2) (pc := 3) hx hb dzM_useOrders_3 (by decide) ?_
    refine lv_icmp_ge (pc := 4) (tgt := 62) hx hb dzM_useOrders_4 (by decide) (fun hq9 => absurd hq9 (by decide)) (fun _ => ?_)
    refine lv_aload_n (pc := 7) hx hb dzM_useOrders_7 rfl (lv_at hl 1 rfl) ?_
    refine xk_get (pc := 8) hx hb hts hown hK hP ffzM_47 0 rfl rfl dzM_useOrders_8 ?_
    refine lv_iload_n (pc := 11) hx hb dzM_useOrders_11 rfl (lv_at hl 0 rfl) ?_
    refine xk_zald (q0 := 13) (t0 := 1) (j := 1) (pc := 12) hx hb hK hP rfl rfl (pk_in 1 2 (by decide)) (pk_cl 1) dzM_useOrders_12 ?_
    have K2 : ∀ (g6 : xk_St) (H : Heap) (locs : List Loc), (if ((g3 13) 1) = 0 then (g6 = g3) else (if ((g3 3) 4) ≤ 0 then (g6 = g3) else (if ((g3 4) 4) = 0 then (∃ (g4 : xk_St), g4 = va_up g3 13 (upd (g3 13) 1 0) ∧ (∃ (g5 : xk_St), relzM_note g4 9 1 g5 ∧ (g6 = g5))) else (g6 = g3)))) → (xk_cnt (B + 2) g6) → (va_P G xk_cls (xk_wM ad ac g6) H) → (va_D A (xk_wM ad ac g6)) → (va_S A s.heap H locs) → W p l e xk_r1 s m args below meth c H locs 0 0 Q (F0 m 56 ls []) := by
      intro g6 H locs R2 Ig6 hP hD hS
      refine lv_iinc (k := 0) (x := 1) (v := 2) (lv' := [(1, .int 2), (0, .ref (ad 0))]) (pc := 56) hx hb dzM_useOrders_56 hl rfl (by decide) (by decide) rfl (fun ls hl => ?_)
      refine lv_goto (tgt := 2) (pc := 59) hx hb dzM_useOrders_59 (by decide) ?_
      refine lv_iload_n (pc := 2) hx hb dzM_useOrders_2 rfl (lv_at hl 0 rfl) ?_
      refine lv_iconst (v := 2) (pc := 3) hx hb dzM_useOrders_3 (by decide) ?_
      refine lv_icmp_ge (pc := 4) (tgt := 62) hx hb dzM_useOrders_4 (by decide) (fun _ => ?_) (fun hq9 => absurd (by decide) hq9)
      exact hret g6 H locs 62 ls hP hS (by unfold relzM_useOrders; exact ⟨g3, R1, ⟨g6, R2, rfl⟩⟩) dzM_useOrders_62
    refine lv_if_eq (pc := 13) (tgt := 56) hx hb dzM_useOrders_13 (by decide) (fun h4 => ?_) (fun h4 => ?_)
    ·
      exact K2 g3 H locs (Eq.mpr (if_pos h4) rfl) (xk_cnt_le Ig3 (by omega)) hP hD hS
    ·
      refine lv_aload_n (pc := 16) hx hb dzM_useOrders_16 rfl (lv_at hl 1 rfl) ?_
      refine xk_get (pc := 17) hx hb hts hown hK hP ffzM_17 0 rfl rfl dzM_useOrders_17 ?_
      refine lv_iconst (v := 3) (pc := 20) hx hb dzM_useOrders_20 (by decide) ?_
      refine lv_iload_n (pc := 21) hx hb dzM_useOrders_21 rfl (lv_at hl 0 rfl) ?_
      refine lv_imul (pc := 22) hx hb dzM_useOrders_22 ?_
      refine xk_is (y := 3) (by decide) ?_
      refine lv_iconst (v := 1) (pc := 23) hx hb dzM_useOrders_23 (by decide) ?_
      refine lv_iadd (pc := 24) hx hb dzM_useOrders_24 ?_
      refine xk_is (y := 4) (by decide) ?_
      refine xk_iald (q0 := 3) (t0 := 0) (j := 4) (pc := 25) hx hb hK hP rfl rfl (pk_in 4 6 (by decide)) (pk_cl 4) dzM_useOrders_25 ?_
      refine lv_if_le (pc := 26) (tgt := 56) hx hb dzM_useOrders_26 (by decide) (fun h5 => ?_) (fun h5 => ?_)
      ·
        exact K2 g3 H locs (Eq.mpr (if_neg h4) (Eq.mpr (if_pos h5) rfl)) (xk_cnt_le Ig3 (by omega)) hP hD hS
      ·
        refine lv_aload_n (pc := 29) hx hb dzM_useOrders_29 rfl (lv_at hl 1 rfl) ?_
        refine xk_get (pc := 30) hx hb hts hown hK hP ffzM_20 0 rfl rfl dzM_useOrders_30 ?_
        refine lv_iconst (v := 3) (pc := 33) hx hb dzM_useOrders_33 (by decide) ?_
        refine lv_iload_n (pc := 34) hx hb dzM_useOrders_34 rfl (lv_at hl 0 rfl) ?_
        refine lv_imul (pc := 35) hx hb dzM_useOrders_35 ?_
        refine xk_is (y := 3) (by decide) ?_
        refine lv_iconst (v := 1) (pc := 36) hx hb dzM_useOrders_36 (by decide) ?_
        refine lv_iadd (pc := 37) hx hb dzM_useOrders_37 ?_
        refine xk_is (y := 4) (by decide) ?_
        refine xk_iald (q0 := 4) (t0 := 0) (j := 4) (pc := 38) hx hb hK hP rfl rfl (pk_in 4 6 (by decide)) (pk_cl 4) dzM_useOrders_38 ?_
        refine lv_if_ne (pc := 39) (tgt := 56) hx hb dzM_useOrders_39 (by decide) (fun h6 => ?_) (fun h6 => ?_)
        ·
          exact K2 g3 H locs (Eq.mpr (if_neg h4) (Eq.mpr (if_neg h5) (Eq.mpr (if_neg h6) rfl))) (xk_cnt_le Ig3 (by omega)) hP hD hS
        ·
          refine lv_aload_n (pc := 42) hx hb dzM_useOrders_42 rfl (lv_at hl 1 rfl) ?_
          refine xk_get (pc := 43) hx hb hts hown hK hP ffzM_47 0 rfl rfl dzM_useOrders_43 ?_
          refine lv_iload_n (pc := 46) hx hb dzM_useOrders_46 rfl (lv_at hl 0 rfl) ?_
          refine lv_iconst (v := 0) (pc := 47) hx hb dzM_useOrders_47 (by decide) ?_
          refine xk_zast (q0 := 13) (t0 := 1) (j := 1) (pc := 48) hx hb hK hP hD hS rfl rfl (pk_in 1 2 (by decide)) (pk_cl 1) xk_b0 dzM_useOrders_48 (fun H locs hP hD hS => ?_)
          obtain ⟨g4, eg4⟩ : ∃ z : xk_St, z = va_up g3 13 (upd (g3 13) 1 0) := ⟨_, rfl⟩
          have hP : va_P G xk_cls (xk_wM ad ac g4) H := by rw [eg4]; exact hP
          have hD : va_D A (xk_wM ad ac g4) := by rw [eg4]; exact hD
          have Ig4 : xk_cnt (B + 1) g4 := by rw [eg4]; repeat (first | exact Ig3 | refine xk_cnt_k (by decide) ?_ | refine xk_cnt_f (by decide) ?_ | refine xk_cnt_s ?_)
          refine lv_aload_n (pc := 49) hx hb dzM_useOrders_49 rfl (lv_at hl 1 rfl) ?_
          refine lv_bipush (v := 9) (pc := 50) hx hb dzM_useOrders_50 (by decide) ?_
          refine lv_iload_n (pc := 52) hx hb dzM_useOrders_52 rfl (lv_at hl 0 rfl) ?_
          refine xk_allVV (As := [.int 9, .int 1]) (rest := []) (H0 := s.heap) (pc := 53) hx hb hml hts hown hK hA hP hD hS (kzM_note l G ac ad g4 9 1 (B + 1) Ig4 (by omega)) vfzM_106 (fun _ => rfl) 0 rfl rfl ⟨rfl, rfl⟩ ⟨Nat.le_of_ble_eq_true rfl, Nat.le_of_ble_eq_true rfl⟩ rfl hl.1 rfl (Nat.le_of_ble_eq_true rfl) ⟨Nat.zero_le _, Nat.zero_le _⟩ dzM_useOrders_53 (fun g5 H locs hg5 hP hD hS => ?_)
          have hP : va_P G xk_cls (xk_wM ad ac g5) H := hP
          have hD : va_D A (xk_wM ad ac g5) := hD
          have Ig5 : xk_cnt (B + 2) g5 := xk_cnt_le (iczM_note (B + 1) _ _ _ _ hg5 Ig4) (by omega)
          exact K2 g5 H locs (Eq.mpr (if_neg h4) (Eq.mpr (if_neg h5) (Eq.mpr (if_pos h6) ⟨g4, eg4, ⟨g5, hg5, rfl⟩⟩))) (xk_cnt_le Ig5 (by omega)) hP hD hS
  refine lv_if_eq (pc := 13) (tgt := 56) hx hb dzM_useOrders_13 (by decide) (fun h1 => ?_) (fun h1 => ?_)
  ·
    exact K1 g0 H locs (Eq.mpr (if_pos h1) rfl) (xk_cnt_le Ig0 (by omega)) hP hD hS
  ·
    refine lv_aload_n (pc := 16) hx hb dzM_useOrders_16 rfl (lv_at hl 1 rfl) ?_
    refine xk_get (pc := 17) hx hb hts hown hK hP ffzM_17 0 rfl rfl dzM_useOrders_17 ?_
    refine lv_iconst (v := 3) (pc := 20) hx hb dzM_useOrders_20 (by decide) ?_
    refine lv_iload_n (pc := 21) hx hb dzM_useOrders_21 rfl (lv_at hl 0 rfl) ?_
    refine lv_imul (pc := 22) hx hb dzM_useOrders_22 ?_
    refine xk_is (y := 0) (by decide) ?_
    refine lv_iconst (v := 1) (pc := 23) hx hb dzM_useOrders_23 (by decide) ?_
    refine lv_iadd (pc := 24) hx hb dzM_useOrders_24 ?_
    refine xk_is (y := 1) (by decide) ?_
    refine xk_iald (q0 := 3) (t0 := 0) (j := 1) (pc := 25) hx hb hK hP rfl rfl (pk_in 1 6 (by decide)) (pk_cl 1) dzM_useOrders_25 ?_
    refine lv_if_le (pc := 26) (tgt := 56) hx hb dzM_useOrders_26 (by decide) (fun h2 => ?_) (fun h2 => ?_)
    ·
      exact K1 g0 H locs (Eq.mpr (if_neg h1) (Eq.mpr (if_pos h2) rfl)) (xk_cnt_le Ig0 (by omega)) hP hD hS
    ·
      refine lv_aload_n (pc := 29) hx hb dzM_useOrders_29 rfl (lv_at hl 1 rfl) ?_
      refine xk_get (pc := 30) hx hb hts hown hK hP ffzM_20 0 rfl rfl dzM_useOrders_30 ?_
      refine lv_iconst (v := 3) (pc := 33) hx hb dzM_useOrders_33 (by decide) ?_
      refine lv_iload_n (pc := 34) hx hb dzM_useOrders_34 rfl (lv_at hl 0 rfl) ?_
      refine lv_imul (pc := 35) hx hb dzM_useOrders_35 ?_
      refine xk_is (y := 0) (by decide) ?_
      refine lv_iconst (v := 1) (pc := 36) hx hb dzM_useOrders_36 (by decide) ?_
      refine lv_iadd (pc := 37) hx hb dzM_useOrders_37 ?_
      refine xk_is (y := 1) (by decide) ?_
      refine xk_iald (q0 := 4) (t0 := 0) (j := 1) (pc := 38) hx hb hK hP rfl rfl (pk_in 1 6 (by decide)) (pk_cl 1) dzM_useOrders_38 ?_
      refine lv_if_ne (pc := 39) (tgt := 56) hx hb dzM_useOrders_39 (by decide) (fun h3 => ?_) (fun h3 => ?_)
      ·
        exact K1 g0 H locs (Eq.mpr (if_neg h1) (Eq.mpr (if_neg h2) (Eq.mpr (if_neg h3) rfl))) (xk_cnt_le Ig0 (by omega)) hP hD hS
      ·
        refine lv_aload_n (pc := 42) hx hb dzM_useOrders_42 rfl (lv_at hl 1 rfl) ?_
        refine xk_get (pc := 43) hx hb hts hown hK hP ffzM_47 0 rfl rfl dzM_useOrders_43 ?_
        refine lv_iload_n (pc := 46) hx hb dzM_useOrders_46 rfl (lv_at hl 0 rfl) ?_
        refine lv_iconst (v := 0) (pc := 47) hx hb dzM_useOrders_47 (by decide) ?_
        refine xk_zast (q0 := 13) (t0 := 1) (j := 0) (pc := 48) hx hb hK hP hD hS rfl rfl (pk_in 0 2 (by decide)) (pk_cl 0) xk_b0 dzM_useOrders_48 (fun H locs hP hD hS => ?_)
        obtain ⟨g1, eg1⟩ : ∃ z : xk_St, z = va_up g0 13 (upd (g0 13) 0 0) := ⟨_, rfl⟩
        have hP : va_P G xk_cls (xk_wM ad ac g1) H := by rw [eg1]; exact hP
        have hD : va_D A (xk_wM ad ac g1) := by rw [eg1]; exact hD
        have Ig1 : xk_cnt (B + 0) g1 := by rw [eg1]; repeat (first | exact Ig0 | refine xk_cnt_k (by decide) ?_ | refine xk_cnt_f (by decide) ?_ | refine xk_cnt_s ?_)
        refine lv_aload_n (pc := 49) hx hb dzM_useOrders_49 rfl (lv_at hl 1 rfl) ?_
        refine lv_bipush (v := 9) (pc := 50) hx hb dzM_useOrders_50 (by decide) ?_
        refine lv_iload_n (pc := 52) hx hb dzM_useOrders_52 rfl (lv_at hl 0 rfl) ?_
        refine xk_allVV (As := [.int 9, .int 0]) (rest := []) (H0 := s.heap) (pc := 53) hx hb hml hts hown hK hA hP hD hS (kzM_note l G ac ad g1 9 0 (B + 0) Ig1 (by omega)) vfzM_106 (fun _ => rfl) 0 rfl rfl ⟨rfl, rfl⟩ ⟨Nat.le_of_ble_eq_true rfl, Nat.le_of_ble_eq_true rfl⟩ rfl hl.1 rfl (Nat.le_of_ble_eq_true rfl) ⟨Nat.zero_le _, Nat.zero_le _⟩ dzM_useOrders_53 (fun g2 H locs hg2 hP hD hS => ?_)
        have hP : va_P G xk_cls (xk_wM ad ac g2) H := hP
        have hD : va_D A (xk_wM ad ac g2) := hD
        have Ig2 : xk_cnt (B + 1) g2 := xk_cnt_le (iczM_note (B + 0) _ _ _ _ hg2 Ig1) (by omega)
        exact K1 g2 H locs (Eq.mpr (if_neg h1) (Eq.mpr (if_neg h2) (Eq.mpr (if_pos h3) ⟨g1, eg1, ⟨g2, hg2, rfl⟩⟩))) (xk_cnt_le Ig2 (by omega)) hP hD hS
theorem frzM_useOrders (g0 : xk_St) (gz : xk_St) : relzM_useOrders g0 gz → xk_eqv [1, 2, 3, 4, 5, 6, 7, 8, 9, 10, 11, 12, 14, 15, 16, 17, 18, 19, 20, 21, 22, 23, 24] g0 gz := by
  intro h
  unfold relzM_useOrders at h
  have s0 : xk_eqv [1, 2, 3, 4, 5, 6, 7, 8, 9, 10, 11, 12, 14, 15, 16, 17, 18, 19, 20, 21, 22, 23, 24] g0 g0 := xk_eqv_rf
  obtain ⟨g3, u1, v2⟩ := h
  have s3 : xk_eqv [1, 2, 3, 4, 5, 6, 7, 8, 9, 10, 11, 12, 14, 15, 16, 17, 18, 19, 20, 21, 22, 23, 24] g0 g3 := by
    by_cases hc : ((g0 13) 0) = 0
    · rw [if_pos hc] at u1
      rw [u1]; exact s0
    · rw [if_neg hc] at u1
      by_cases hc : ((g0 3) 1) ≤ 0
      · rw [if_pos hc] at u1
        rw [u1]; exact s0
      · rw [if_neg hc] at u1
        by_cases hc : ((g0 4) 1) = 0
        · rw [if_pos hc] at u1
          obtain ⟨g1, u4, v5⟩ := u1
          have s6 : xk_eqv [1, 2, 3, 4, 5, 6, 7, 8, 9, 10, 11, 12, 14, 15, 16, 17, 18, 19, 20, 21, 22, 23, 24] g0 g1 := by rw [u4]; repeat (first | exact s0 | refine xk_eqv_up (by decide) ?_)
          obtain ⟨g2, u7, v8⟩ := v5
          have s9 : xk_eqv [1, 2, 3, 4, 5, 6, 7, 8, 9, 10, 11, 12, 14, 15, 16, 17, 18, 19, 20, 21, 22, 23, 24] g0 g2 := xk_eqv_tr s6 (xk_eqv_sub (frzM_note _ _ _ _ u7) (by decide))
          rw [v8]; exact s9
        · rw [if_neg hc] at u1
          rw [u1]; exact s0
  obtain ⟨g6, u10, v11⟩ := v2
  have s12 : xk_eqv [1, 2, 3, 4, 5, 6, 7, 8, 9, 10, 11, 12, 14, 15, 16, 17, 18, 19, 20, 21, 22, 23, 24] g0 g6 := by
    by_cases hc : ((g3 13) 1) = 0
    · rw [if_pos hc] at u10
      rw [u10]; exact s3
    · rw [if_neg hc] at u10
      by_cases hc : ((g3 3) 4) ≤ 0
      · rw [if_pos hc] at u10
        rw [u10]; exact s3
      · rw [if_neg hc] at u10
        by_cases hc : ((g3 4) 4) = 0
        · rw [if_pos hc] at u10
          obtain ⟨g4, u13, v14⟩ := u10
          have s15 : xk_eqv [1, 2, 3, 4, 5, 6, 7, 8, 9, 10, 11, 12, 14, 15, 16, 17, 18, 19, 20, 21, 22, 23, 24] g0 g4 := by rw [u13]; repeat (first | exact s3 | refine xk_eqv_up (by decide) ?_)
          obtain ⟨g5, u16, v17⟩ := v14
          have s18 : xk_eqv [1, 2, 3, 4, 5, 6, 7, 8, 9, 10, 11, 12, 14, 15, 16, 17, 18, 19, 20, 21, 22, 23, 24] g0 g5 := xk_eqv_tr s15 (xk_eqv_sub (frzM_note _ _ _ _ u16) (by decide))
          rw [v17]; exact s18
        · rw [if_neg hc] at u10
          rw [u10]; exact s3
  rw [v11]; exact s12
theorem iczM_useOrders (B : Nat) (g0 : xk_St) (gz : xk_St) : relzM_useOrders g0 gz → xk_cnt B g0 → xk_cnt (B + 2) gz := by
  intro h Ig0
  unfold relzM_useOrders at h
  have Ig0 : xk_cnt (B + 0) g0 := Ig0
  obtain ⟨g3, u1, v2⟩ := h
  have Ig3 : xk_cnt (B + 1) g3 := by
    by_cases hc : ((g0 13) 0) = 0
    · rw [if_pos hc] at u1
      rw [u1]; exact xk_cnt_le Ig0 (by omega)
    · rw [if_neg hc] at u1
      by_cases hc : ((g0 3) 1) ≤ 0
      · rw [if_pos hc] at u1
        rw [u1]; exact xk_cnt_le Ig0 (by omega)
      · rw [if_neg hc] at u1
        by_cases hc : ((g0 4) 1) = 0
        · rw [if_pos hc] at u1
          obtain ⟨g1, u3, v4⟩ := u1
          have Ig1 : xk_cnt (B + 0) g1 := by rw [u3]; repeat (first | exact Ig0 | refine xk_cnt_k (by decide) ?_ | refine xk_cnt_f (by decide) ?_ | refine xk_cnt_s ?_)
          obtain ⟨g2, u5, v6⟩ := v4
          have Ig2 : xk_cnt (B + 1) g2 := xk_cnt_le (iczM_note (B + 0) _ _ _ _ u5 Ig1) (by omega)
          rw [v6]; exact xk_cnt_le Ig2 (by omega)
        · rw [if_neg hc] at u1
          rw [u1]; exact xk_cnt_le Ig0 (by omega)
  obtain ⟨g6, u7, v8⟩ := v2
  have Ig6 : xk_cnt (B + 2) g6 := by
    by_cases hc : ((g3 13) 1) = 0
    · rw [if_pos hc] at u7
      rw [u7]; exact xk_cnt_le Ig3 (by omega)
    · rw [if_neg hc] at u7
      by_cases hc : ((g3 3) 4) ≤ 0
      · rw [if_pos hc] at u7
        rw [u7]; exact xk_cnt_le Ig3 (by omega)
      · rw [if_neg hc] at u7
        by_cases hc : ((g3 4) 4) = 0
        · rw [if_pos hc] at u7
          obtain ⟨g4, u9, v10⟩ := u7
          have Ig4 : xk_cnt (B + 1) g4 := by rw [u9]; repeat (first | exact Ig3 | refine xk_cnt_k (by decide) ?_ | refine xk_cnt_f (by decide) ?_ | refine xk_cnt_s ?_)
          obtain ⟨g5, u11, v12⟩ := v10
          have Ig5 : xk_cnt (B + 2) g5 := xk_cnt_le (iczM_note (B + 1) _ _ _ _ u11 Ig4) (by omega)
          rw [v12]; exact xk_cnt_le Ig5 (by omega)
        · rw [if_neg hc] at u7
          rw [u7]; exact xk_cnt_le Ig3 (by omega)
  rw [v8]; exact xk_cnt_le Ig6 (by omega)

def relzM_watchLamps (g0 : xk_St) (gz : xk_St) : Prop := ∃ (g6 : xk_St), (if ((g0 21) 0) = 0 then (g6 = g0) else (if ((g0 20) 0) = 0 then (∃ (g1 : xk_St), g1 = va_up g0 22 (upd (g0 22) 0 0) ∧ (∃ (g2 : xk_St), g2 = va_up g1 23 (upd (g1 23) 0 0) ∧ (g6 = g2))) else (∃ (g3 : xk_St), g3 = va_up g0 22 (upd (g0 22) 0 (((g0 22) 0) + 1)) ∧ (if ((g3 22) 0) < 3 then (g6 = g3) else (if ((g3 23) 0) = 0 then (∃ (g4 : xk_St), g4 = va_up g3 23 (upd (g3 23) 0 1) ∧ (∃ (g5 : xk_St), relzM_note g4 7 0 g5 ∧ (g6 = g5))) else (g6 = g3)))))) ∧ (∃ (g12 : xk_St), (if ((g6 21) 1) = 0 then (g12 = g6) else (if ((g6 20) 1) = 0 then (∃ (g7 : xk_St), g7 = va_up g6 22 (upd (g6 22) 1 0) ∧ (∃ (g8 : xk_St), g8 = va_up g7 23 (upd (g7 23) 1 0) ∧ (g12 = g8))) else (∃ (g9 : xk_St), g9 = va_up g6 22 (upd (g6 22) 1 (((g6 22) 1) + 1)) ∧ (if ((g9 22) 1) < 3 then (g12 = g9) else (if ((g9 23) 1) = 0 then (∃ (g10 : xk_St), g10 = va_up g9 23 (upd (g9 23) 1 1) ∧ (∃ (g11 : xk_St), relzM_note g10 7 1 g11 ∧ (g12 = g11))) else (g12 = g9)))))) ∧ (∃ (g18 : xk_St), (if ((g12 21) 2) = 0 then (g18 = g12) else (if ((g12 20) 2) = 0 then (∃ (g13 : xk_St), g13 = va_up g12 22 (upd (g12 22) 2 0) ∧ (∃ (g14 : xk_St), g14 = va_up g13 23 (upd (g13 23) 2 0) ∧ (g18 = g14))) else (∃ (g15 : xk_St), g15 = va_up g12 22 (upd (g12 22) 2 (((g12 22) 2) + 1)) ∧ (if ((g15 22) 2) < 3 then (g18 = g15) else (if ((g15 23) 2) = 0 then (∃ (g16 : xk_St), g16 = va_up g15 23 (upd (g15 23) 2 1) ∧ (∃ (g17 : xk_St), relzM_note g16 7 2 g17 ∧ (g18 = g17))) else (g18 = g15)))))) ∧ (gz = g18)))
set_option maxHeartbeats 4000000 in
set_option maxRecDepth 100000 in
theorem kzM_watchLamps (l : Launch) (G : va_G) (ac : Nat → ClassId) (ad : Nat → Nat) (g0 : xk_St) (B : Nat) (Ig0 : xk_cnt B g0) (hB : B + 4 < 2147483648) : xk_CV l yzM_watchLamps czM_watchLamps 2 xk_WS xk_r1 G xk_cls (xk_tys ac) [.ref (ad 0)] (xk_wM ad ac g0) (fun (gz : xk_St) => relzM_watchLamps g0 gz) (fun gz => xk_wM ad ac gz) := by
  refine xk_ofV (by decide) (Nat.le_of_ble_eq_true rfl) ?_
  intro p e s m args below meth c A Q H locs ls C0 hret hP hD hS hl
  obtain ⟨hx, hb, hml, hts, hown, hK, hA⟩ := C0
  have hl : lv_has ls 2 [(0, .ref (ad 0))] := hl
  have Ig0 : xk_cnt (B + 0) g0 := Ig0
  refine lv_iconst (v := 0) (pc := 0) hx hb dzM_watchLamps_0 (by decide) ?_
  refine lv_istore_n (lv' := [(1, .int 0), (0, .ref (ad 0))]) (pc := 1) hx hb dzM_watchLamps_1 rfl hl (by decide) rfl (fun ls hl => ?_)
  refine lv_iload_n (pc := 2) hx hb dzM_watchLamps_2 rfl (lv_at hl 0 rfl) ?_
  refine lv_iconst (v := 3) (pc := 3) hx hb dzM_watchLamps_3 (by decide) ?_
  refine lv_icmp_ge (pc := 4) (tgt := 100) hx hb dzM_watchLamps_4 (by decide) (fun hq9 => absurd hq9 (by decide)) (fun _ => ?_)
  refine lv_aload_n (pc := 7) hx hb dzM_watchLamps_7 rfl (lv_at hl 1 rfl) ?_
  refine xk_get (pc := 8) hx hb hts hown hK hP ffzM_71 0 rfl rfl dzM_watchLamps_8 ?_
  refine lv_iload_n (pc := 11) hx hb dzM_watchLamps_11 rfl (lv_at hl 0 rfl) ?_
  refine xk_zald (q0 := 21) (t0 := 1) (j := 0) (pc := 12) hx hb hK hP rfl rfl (pk_in 0 3 (by decide)) (pk_cl 0) dzM_watchLamps_12 ?_
  have K1 : ∀ (g6 : xk_St) (H : Heap) (locs : List Loc), (if ((g0 21) 0) = 0 then (g6 = g0) else (if ((g0 20) 0) = 0 then (∃ (g1 : xk_St), g1 = va_up g0 22 (upd (g0 22) 0 0) ∧ (∃ (g2 : xk_St), g2 = va_up g1 23 (upd (g1 23) 0 0) ∧ (g6 = g2))) else (∃ (g3 : xk_St), g3 = va_up g0 22 (upd (g0 22) 0 (((g0 22) 0) + 1)) ∧ (if ((g3 22) 0) < 3 then (g6 = g3) else (if ((g3 23) 0) = 0 then (∃ (g4 : xk_St), g4 = va_up g3 23 (upd (g3 23) 0 1) ∧ (∃ (g5 : xk_St), relzM_note g4 7 0 g5 ∧ (g6 = g5))) else (g6 = g3)))))) → (xk_cnt (B + 1) g6) → (va_P G xk_cls (xk_wM ad ac g6) H) → (va_D A (xk_wM ad ac g6)) → (va_S A s.heap H locs) → W p l e xk_r1 s m args below meth c H locs 0 0 Q (F0 m 94 ls []) := by
    intro g6 H locs R1 Ig6 hP hD hS
    refine lv_iinc (k := 0) (x := 0) (v := 1) (lv' := [(1, .int 1), (0, .ref (ad 0))]) (pc := 94) hx hb dzM_watchLamps_94 hl rfl (by decide) (by decide) rfl (fun ls hl => ?_)
    refine lv_goto (tgt := 2) (pc := 97) hx hb dzM_watchLamps_97 (by decide) ?_
    refine lv_iload_n (pc := 2) hx hb dzM_watchLamps_2 rfl (lv_at hl 0 rfl) ?_
    refine lv_iconst (v := 3) (pc := 3) hx hb dzM_watchLamps_3 (by decide) ?_
    refine lv_icmp_ge (pc := 4) (tgt := 100) hx hb dzM_watchLamps_4 (by decide) (fun hq9 => absurd hq9 (by decide)) (fun _ => ?_)
    refine lv_aload_n (pc := 7) hx hb dzM_watchLamps_7 rfl (lv_at hl 1 rfl) ?_
    refine xk_get (pc := 8) hx hb hts hown hK hP ffzM_71 0 rfl rfl dzM_watchLamps_8 ?_
    refine lv_iload_n (pc := 11) hx hb dzM_watchLamps_11 rfl (lv_at hl 0 rfl) ?_
    refine xk_zald (q0 := 21) (t0 := 1) (j := 1) (pc := 12) hx hb hK hP rfl rfl (pk_in 1 3 (by decide)) (pk_cl 1) dzM_watchLamps_12 ?_
    have K2 : ∀ (g12 : xk_St) (H : Heap) (locs : List Loc), (if ((g6 21) 1) = 0 then (g12 = g6) else (if ((g6 20) 1) = 0 then (∃ (g7 : xk_St), g7 = va_up g6 22 (upd (g6 22) 1 0) ∧ (∃ (g8 : xk_St), g8 = va_up g7 23 (upd (g7 23) 1 0) ∧ (g12 = g8))) else (∃ (g9 : xk_St), g9 = va_up g6 22 (upd (g6 22) 1 (((g6 22) 1) + 1)) ∧ (if ((g9 22) 1) < 3 then (g12 = g9) else (if ((g9 23) 1) = 0 then (∃ (g10 : xk_St), g10 = va_up g9 23 (upd (g9 23) 1 1) ∧ (∃ (g11 : xk_St), relzM_note g10 7 1 g11 ∧ (g12 = g11))) else (g12 = g9)))))) → (xk_cnt (B + 2) g12) → (va_P G xk_cls (xk_wM ad ac g12) H) → (va_D A (xk_wM ad ac g12)) → (va_S A s.heap H locs) → W p l e xk_r1 s m args below meth c H locs 0 0 Q (F0 m 94 ls []) := by
      intro g12 H locs R2 Ig12 hP hD hS
      refine lv_iinc (k := 0) (x := 1) (v := 2) (lv' := [(1, .int 2), (0, .ref (ad 0))]) (pc := 94) hx hb dzM_watchLamps_94 hl rfl (by decide) (by decide) rfl (fun ls hl => ?_)
      refine lv_goto (tgt := 2) (pc := 97) hx hb dzM_watchLamps_97 (by decide) ?_
      refine lv_iload_n (pc := 2) hx hb dzM_watchLamps_2 rfl (lv_at hl 0 rfl) ?_
      refine lv_iconst (v := 3) (pc := 3) hx hb dzM_watchLamps_3 (by decide) ?_
      refine lv_icmp_ge (pc := 4) (tgt := 100) hx hb dzM_watchLamps_4 (by decide) (fun hq9 => absurd hq9 (by decide)) (fun _ => ?_)
      refine lv_aload_n (pc := 7) hx hb dzM_watchLamps_7 rfl (lv_at hl 1 rfl) ?_
      refine xk_get (pc := 8) hx hb hts hown hK hP ffzM_71 0 rfl rfl dzM_watchLamps_8 ?_
      refine lv_iload_n (pc := 11) hx hb dzM_watchLamps_11 rfl (lv_at hl 0 rfl) ?_
      refine xk_zald (q0 := 21) (t0 := 1) (j := 2) (pc := 12) hx hb hK hP rfl rfl (pk_in 2 3 (by decide)) (pk_cl 2) dzM_watchLamps_12 ?_
      have K3 : ∀ (g18 : xk_St) (H : Heap) (locs : List Loc), (if ((g12 21) 2) = 0 then (g18 = g12) else (if ((g12 20) 2) = 0 then (∃ (g13 : xk_St), g13 = va_up g12 22 (upd (g12 22) 2 0) ∧ (∃ (g14 : xk_St), g14 = va_up g13 23 (upd (g13 23) 2 0) ∧ (g18 = g14))) else (∃ (g15 : xk_St), g15 = va_up g12 22 (upd (g12 22) 2 (((g12 22) 2) + 1)) ∧ (if ((g15 22) 2) < 3 then (g18 = g15) else (if ((g15 23) 2) = 0 then (∃ (g16 : xk_St), g16 = va_up g15 23 (upd (g15 23) 2 1) ∧ (∃ (g17 : xk_St), relzM_note g16 7 2 g17 ∧ (g18 = g17))) else (g18 = g15)))))) → (xk_cnt (B + 3) g18) → (va_P G xk_cls (xk_wM ad ac g18) H) → (va_D A (xk_wM ad ac g18)) → (va_S A s.heap H locs) → W p l e xk_r1 s m args below meth c H locs 0 0 Q (F0 m 94 ls []) := by
        intro g18 H locs R3 Ig18 hP hD hS
        refine lv_iinc (k := 0) (x := 2) (v := 3) (lv' := [(1, .int 3), (0, .ref (ad 0))]) (pc := 94) hx hb dzM_watchLamps_94 hl rfl (by decide) (by decide) rfl (fun ls hl => ?_)
        refine lv_goto (tgt := 2) (pc := 97) hx hb dzM_watchLamps_97 (by decide) ?_
        refine lv_iload_n (pc := 2) hx hb dzM_watchLamps_2 rfl (lv_at hl 0 rfl) ?_
        refine lv_iconst (v := 3) (pc := 3) hx hb dzM_watchLamps_3 (by decide) ?_
        refine lv_icmp_ge (pc := 4) (tgt := 100) hx hb dzM_watchLamps_4 (by decide) (fun _ => ?_) (fun hq9 => absurd (by decide) hq9)
        exact hret g18 H locs 100 ls hP hS (by unfold relzM_watchLamps; exact ⟨g6, R1, ⟨g12, R2, ⟨g18, R3, rfl⟩⟩⟩) dzM_watchLamps_100
      refine lv_if_eq (pc := 13) (tgt := 71) hx hb dzM_watchLamps_13 (by decide) (fun h9 => ?_) (fun h9 => ?_)
      ·
        refine lv_aload_n (pc := 71) hx hb dzM_watchLamps_71 rfl (lv_at hl 1 rfl) ?_
        refine xk_get (pc := 72) hx hb hts hown hK hP ffzM_71 0 rfl rfl dzM_watchLamps_72 ?_
        refine lv_iload_n (pc := 75) hx hb dzM_watchLamps_75 rfl (lv_at hl 0 rfl) ?_
        refine xk_zald (q0 := 21) (t0 := 1) (j := 2) (pc := 76) hx hb hK hP rfl rfl (pk_in 2 3 (by decide)) (pk_cl 2) dzM_watchLamps_76 ?_
        refine lv_if_eq (pc := 77) (tgt := 94) hx hb dzM_watchLamps_77 (by decide) (fun _ => ?_) (fun hq9 => absurd h9 hq9)
        exact K3 g12 H locs (Eq.mpr (if_pos h9) rfl) (xk_cnt_le Ig12 (by omega)) hP hD hS
      ·
        refine lv_aload_n (pc := 16) hx hb dzM_watchLamps_16 rfl (lv_at hl 1 rfl) ?_
        refine xk_get (pc := 17) hx hb hts hown hK hP ffzM_68 0 rfl rfl dzM_watchLamps_17 ?_
        refine lv_iload_n (pc := 20) hx hb dzM_watchLamps_20 rfl (lv_at hl 0 rfl) ?_
        refine xk_zald (q0 := 20) (t0 := 1) (j := 2) (pc := 21) hx hb hK hP rfl rfl (pk_in 2 3 (by decide)) (pk_cl 2) dzM_watchLamps_21 ?_
        refine lv_if_eq (pc := 22) (tgt := 71) hx hb dzM_watchLamps_22 (by decide) (fun h10 => ?_) (fun h10 => ?_)
        ·
          refine lv_aload_n (pc := 71) hx hb dzM_watchLamps_71 rfl (lv_at hl 1 rfl) ?_
          refine xk_get (pc := 72) hx hb hts hown hK hP ffzM_71 0 rfl rfl dzM_watchLamps_72 ?_
          refine lv_iload_n (pc := 75) hx hb dzM_watchLamps_75 rfl (lv_at hl 0 rfl) ?_
          refine xk_zald (q0 := 21) (t0 := 1) (j := 2) (pc := 76) hx hb hK hP rfl rfl (pk_in 2 3 (by decide)) (pk_cl 2) dzM_watchLamps_76 ?_
          refine lv_if_eq (pc := 77) (tgt := 94) hx hb dzM_watchLamps_77 (by decide) (fun hq9 => absurd hq9 h9) (fun _ => ?_)
          refine lv_aload_n (pc := 80) hx hb dzM_watchLamps_80 rfl (lv_at hl 1 rfl) ?_
          refine xk_get (pc := 81) hx hb hts hown hK hP ffzM_74 0 rfl rfl dzM_watchLamps_81 ?_
          refine lv_iload_n (pc := 84) hx hb dzM_watchLamps_84 rfl (lv_at hl 0 rfl) ?_
          refine lv_iconst (v := 0) (pc := 85) hx hb dzM_watchLamps_85 (by decide) ?_
          refine xk_iast (q0 := 22) (t0 := 0) (j := 2) (pc := 86) hx hb hK hP hD hS rfl rfl (pk_in 2 3 (by decide)) (pk_cl 2) dzM_watchLamps_86 (fun H locs hP hD hS => ?_)
          obtain ⟨g13, eg13⟩ : ∃ z : xk_St, z = va_up g12 22 (upd (g12 22) 2 0) := ⟨_, rfl⟩
          have hP : va_P G xk_cls (xk_wM ad ac g13) H := by rw [eg13]; exact hP
          have hD : va_D A (xk_wM ad ac g13) := by rw [eg13]; exact hD
          have Ig13 : xk_cnt (B + 2) g13 := by rw [eg13]; repeat (first | exact Ig12 | refine xk_cnt_k (by decide) ?_ | refine xk_cnt_f (by decide) ?_ | refine xk_cnt_s ?_)
          refine lv_aload_n (pc := 87) hx hb dzM_watchLamps_87 rfl (lv_at hl 1 rfl) ?_
          refine xk_get (pc := 88) hx hb hts hown hK hP ffzM_77 0 rfl rfl dzM_watchLamps_88 ?_
          refine lv_iload_n (pc := 91) hx hb dzM_watchLamps_91 rfl (lv_at hl 0 rfl) ?_
          refine lv_iconst (v := 0) (pc := 92) hx hb dzM_watchLamps_92 (by decide) ?_
          refine xk_zast (q0 := 23) (t0 := 1) (j := 2) (pc := 93) hx hb hK hP hD hS rfl rfl (pk_in 2 3 (by decide)) (pk_cl 2) xk_b0 dzM_watchLamps_93 (fun H locs hP hD hS => ?_)
          obtain ⟨g14, eg14⟩ : ∃ z : xk_St, z = va_up g13 23 (upd (g13 23) 2 0) := ⟨_, rfl⟩
          have hP : va_P G xk_cls (xk_wM ad ac g14) H := by rw [eg14]; exact hP
          have hD : va_D A (xk_wM ad ac g14) := by rw [eg14]; exact hD
          have Ig14 : xk_cnt (B + 2) g14 := by rw [eg14]; repeat (first | exact Ig13 | refine xk_cnt_k (by decide) ?_ | refine xk_cnt_f (by decide) ?_ | refine xk_cnt_s ?_)
          exact K3 g14 H locs (Eq.mpr (if_neg h9) (Eq.mpr (if_pos h10) ⟨g13, eg13, ⟨g14, eg14, rfl⟩⟩)) (xk_cnt_le Ig14 (by omega)) hP hD hS
        ·
          refine lv_aload_n (pc := 25) hx hb dzM_watchLamps_25 rfl (lv_at hl 1 rfl) ?_
          refine xk_get (pc := 26) hx hb hts hown hK hP ffzM_74 0 rfl rfl dzM_watchLamps_26 ?_
          refine lv_iload_n (pc := 29) hx hb dzM_watchLamps_29 rfl (lv_at hl 0 rfl) ?_
          refine lv_dup2_11 (pc := 30) hx hb dzM_watchLamps_30 rfl rfl ?_
          refine xk_iald (q0 := 22) (t0 := 0) (j := 2) (pc := 31) hx hb hK hP rfl rfl (pk_in 2 3 (by decide)) (pk_cl 2) dzM_watchLamps_31 ?_
          refine lv_iconst (v := 1) (pc := 32) hx hb dzM_watchLamps_32 (by decide) ?_
          refine lv_iadd (pc := 33) hx hb dzM_watchLamps_33 ?_
          refine xk_iast (q0 := 22) (t0 := 0) (j := 2) (pc := 34) hx hb hK hP hD hS rfl rfl (pk_in 2 3 (by decide)) (pk_cl 2) dzM_watchLamps_34 (fun H locs hP hD hS => ?_)
          obtain ⟨g15, eg15⟩ : ∃ z : xk_St, z = va_up g12 22 (upd (g12 22) 2 (((g12 22) 2) + 1)) := ⟨_, rfl⟩
          have hP : va_P G xk_cls (xk_wM ad ac g15) H := by rw [eg15]; exact hP
          have hD : va_D A (xk_wM ad ac g15) := by rw [eg15]; exact hD
          have Ig15 : xk_cnt (B + 2) g15 := by rw [eg15]; repeat (first | exact Ig12 | refine xk_cnt_k (by decide) ?_ | refine xk_cnt_f (by decide) ?_ | refine xk_cnt_s ?_)
          refine lv_aload_n (pc := 35) hx hb dzM_watchLamps_35 rfl (lv_at hl 1 rfl) ?_
          refine xk_get (pc := 36) hx hb hts hown hK hP ffzM_74 0 rfl rfl dzM_watchLamps_36 ?_
          refine lv_iload_n (pc := 39) hx hb dzM_watchLamps_39 rfl (lv_at hl 0 rfl) ?_
          refine xk_iald (q0 := 22) (t0 := 0) (j := 2) (pc := 40) hx hb hK hP rfl rfl (pk_in 2 3 (by decide)) (pk_cl 2) dzM_watchLamps_40 ?_
          refine lv_iconst (v := 3) (pc := 41) hx hb dzM_watchLamps_41 (by decide) ?_
          refine lv_icmp_lt (pc := 42) (tgt := 94) hx hb dzM_watchLamps_42 (by decide) (fun h11 => ?_) (fun h11 => ?_)
          ·
            exact K3 g15 H locs (Eq.mpr (if_neg h9) (Eq.mpr (if_neg h10) ⟨g15, eg15, (Eq.mpr (if_pos h11) rfl)⟩)) (xk_cnt_le Ig15 (by omega)) hP hD hS
          ·
            refine lv_aload_n (pc := 45) hx hb dzM_watchLamps_45 rfl (lv_at hl 1 rfl) ?_
            refine xk_get (pc := 46) hx hb hts hown hK hP ffzM_77 0 rfl rfl dzM_watchLamps_46 ?_
            refine lv_iload_n (pc := 49) hx hb dzM_watchLamps_49 rfl (lv_at hl 0 rfl) ?_
            refine xk_zald (q0 := 23) (t0 := 1) (j := 2) (pc := 50) hx hb hK hP rfl rfl (pk_in 2 3 (by decide)) (pk_cl 2) dzM_watchLamps_50 ?_
            refine lv_if_ne (pc := 51) (tgt := 94) hx hb dzM_watchLamps_51 (by decide) (fun h12 => ?_) (fun h12 => ?_)
            ·
              exact K3 g15 H locs (Eq.mpr (if_neg h9) (Eq.mpr (if_neg h10) ⟨g15, eg15, (Eq.mpr (if_neg h11) (Eq.mpr (if_neg h12) rfl))⟩)) (xk_cnt_le Ig15 (by omega)) hP hD hS
            ·
              refine lv_aload_n (pc := 54) hx hb dzM_watchLamps_54 rfl (lv_at hl 1 rfl) ?_
              refine xk_get (pc := 55) hx hb hts hown hK hP ffzM_77 0 rfl rfl dzM_watchLamps_55 ?_
              refine lv_iload_n (pc := 58) hx hb dzM_watchLamps_58 rfl (lv_at hl 0 rfl) ?_
              refine lv_iconst (v := 1) (pc := 59) hx hb dzM_watchLamps_59 (by decide) ?_
              refine xk_zast (q0 := 23) (t0 := 1) (j := 2) (pc := 60) hx hb hK hP hD hS rfl rfl (pk_in 2 3 (by decide)) (pk_cl 2) xk_b1 dzM_watchLamps_60 (fun H locs hP hD hS => ?_)
              obtain ⟨g16, eg16⟩ : ∃ z : xk_St, z = va_up g15 23 (upd (g15 23) 2 1) := ⟨_, rfl⟩
              have hP : va_P G xk_cls (xk_wM ad ac g16) H := by rw [eg16]; exact hP
              have hD : va_D A (xk_wM ad ac g16) := by rw [eg16]; exact hD
              have Ig16 : xk_cnt (B + 2) g16 := by rw [eg16]; repeat (first | exact Ig15 | refine xk_cnt_k (by decide) ?_ | refine xk_cnt_f (by decide) ?_ | refine xk_cnt_s ?_)
              refine lv_aload_n (pc := 61) hx hb dzM_watchLamps_61 rfl (lv_at hl 1 rfl) ?_
              refine lv_bipush (v := 7) (pc := 62) hx hb dzM_watchLamps_62 (by decide) ?_
              refine lv_iload_n (pc := 64) hx hb dzM_watchLamps_64 rfl (lv_at hl 0 rfl) ?_
              refine xk_allVV (As := [.int 7, .int 2]) (rest := []) (H0 := s.heap) (pc := 65) hx hb hml hts hown hK hA hP hD hS (kzM_note l G ac ad g16 7 2 (B + 2) Ig16 (by omega)) vfzM_106 (fun _ => rfl) 0 rfl rfl ⟨rfl, rfl⟩ ⟨Nat.le_of_ble_eq_true rfl, Nat.le_of_ble_eq_true rfl⟩ rfl hl.1 rfl (Nat.le_of_ble_eq_true rfl) ⟨Nat.zero_le _, Nat.zero_le _⟩ dzM_watchLamps_65 (fun g17 H locs hg17 hP hD hS => ?_)
              have hP : va_P G xk_cls (xk_wM ad ac g17) H := hP
              have hD : va_D A (xk_wM ad ac g17) := hD
              have Ig17 : xk_cnt (B + 3) g17 := xk_cnt_le (iczM_note (B + 2) _ _ _ _ hg17 Ig16) (by omega)
              refine lv_goto (tgt := 94) (pc := 68) hx hb dzM_watchLamps_68 (by decide) ?_
              exact K3 g17 H locs (Eq.mpr (if_neg h9) (Eq.mpr (if_neg h10) ⟨g15, eg15, (Eq.mpr (if_neg h11) (Eq.mpr (if_pos h12) ⟨g16, eg16, ⟨g17, hg17, rfl⟩⟩))⟩)) (xk_cnt_le Ig17 (by omega)) hP hD hS
    refine lv_if_eq (pc := 13) (tgt := 71) hx hb dzM_watchLamps_13 (by decide) (fun h5 => ?_) (fun h5 => ?_)
    ·
      refine lv_aload_n (pc := 71) hx hb dzM_watchLamps_71 rfl (lv_at hl 1 rfl) ?_
      refine xk_get (pc := 72) hx hb hts hown hK hP ffzM_71 0 rfl rfl dzM_watchLamps_72 ?_
      refine lv_iload_n (pc := 75) hx hb dzM_watchLamps_75 rfl (lv_at hl 0 rfl) ?_
      refine xk_zald (q0 := 21) (t0 := 1) (j := 1) (pc := 76) hx hb hK hP rfl rfl (pk_in 1 3 (by decide)) (pk_cl 1) dzM_watchLamps_76 ?_
      refine lv_if_eq (pc := 77) (tgt := 94) hx hb dzM_watchLamps_77 (by decide) (fun _ => ?_) (fun hq9 => absurd h5 hq9)
      exact K2 g6 H locs (Eq.mpr (if_pos h5) rfl) (xk_cnt_le Ig6 (by omega)) hP hD hS
    ·
      refine lv_aload_n (pc := 16) hx hb dzM_watchLamps_16 rfl (lv_at hl 1 rfl) ?_
      refine xk_get (pc := 17) hx hb hts hown hK hP ffzM_68 0 rfl rfl dzM_watchLamps_17 ?_
      refine lv_iload_n (pc := 20) hx hb dzM_watchLamps_20 rfl (lv_at hl 0 rfl) ?_
      refine xk_zald (q0 := 20) (t0 := 1) (j := 1) (pc := 21) hx hb hK hP rfl rfl (pk_in 1 3 (by decide)) (pk_cl 1) dzM_watchLamps_21 ?_
      refine lv_if_eq (pc := 22) (tgt := 71) hx hb dzM_watchLamps_22 (by decide) (fun h6 => ?_) (fun h6 => ?_)
      ·
        refine lv_aload_n (pc := 71) hx hb dzM_watchLamps_71 rfl (lv_at hl 1 rfl) ?_
        refine xk_get (pc := 72) hx hb hts hown hK hP ffzM_71 0 rfl rfl dzM_watchLamps_72 ?_
        refine lv_iload_n (pc := 75) hx hb dzM_watchLamps_75 rfl (lv_at hl 0 rfl) ?_
        refine xk_zald (q0 := 21) (t0 := 1) (j := 1) (pc := 76) hx hb hK hP rfl rfl (pk_in 1 3 (by decide)) (pk_cl 1) dzM_watchLamps_76 ?_
        refine lv_if_eq (pc := 77) (tgt := 94) hx hb dzM_watchLamps_77 (by decide) (fun hq9 => absurd hq9 h5) (fun _ => ?_)
        refine lv_aload_n (pc := 80) hx hb dzM_watchLamps_80 rfl (lv_at hl 1 rfl) ?_
        refine xk_get (pc := 81) hx hb hts hown hK hP ffzM_74 0 rfl rfl dzM_watchLamps_81 ?_
        refine lv_iload_n (pc := 84) hx hb dzM_watchLamps_84 rfl (lv_at hl 0 rfl) ?_
        refine lv_iconst (v := 0) (pc := 85) hx hb dzM_watchLamps_85 (by decide) ?_
        refine xk_iast (q0 := 22) (t0 := 0) (j := 1) (pc := 86) hx hb hK hP hD hS rfl rfl (pk_in 1 3 (by decide)) (pk_cl 1) dzM_watchLamps_86 (fun H locs hP hD hS => ?_)
        obtain ⟨g7, eg7⟩ : ∃ z : xk_St, z = va_up g6 22 (upd (g6 22) 1 0) := ⟨_, rfl⟩
        have hP : va_P G xk_cls (xk_wM ad ac g7) H := by rw [eg7]; exact hP
        have hD : va_D A (xk_wM ad ac g7) := by rw [eg7]; exact hD
        have Ig7 : xk_cnt (B + 1) g7 := by rw [eg7]; repeat (first | exact Ig6 | refine xk_cnt_k (by decide) ?_ | refine xk_cnt_f (by decide) ?_ | refine xk_cnt_s ?_)
        refine lv_aload_n (pc := 87) hx hb dzM_watchLamps_87 rfl (lv_at hl 1 rfl) ?_
        refine xk_get (pc := 88) hx hb hts hown hK hP ffzM_77 0 rfl rfl dzM_watchLamps_88 ?_
        refine lv_iload_n (pc := 91) hx hb dzM_watchLamps_91 rfl (lv_at hl 0 rfl) ?_
        refine lv_iconst (v := 0) (pc := 92) hx hb dzM_watchLamps_92 (by decide) ?_
        refine xk_zast (q0 := 23) (t0 := 1) (j := 1) (pc := 93) hx hb hK hP hD hS rfl rfl (pk_in 1 3 (by decide)) (pk_cl 1) xk_b0 dzM_watchLamps_93 (fun H locs hP hD hS => ?_)
        obtain ⟨g8, eg8⟩ : ∃ z : xk_St, z = va_up g7 23 (upd (g7 23) 1 0) := ⟨_, rfl⟩
        have hP : va_P G xk_cls (xk_wM ad ac g8) H := by rw [eg8]; exact hP
        have hD : va_D A (xk_wM ad ac g8) := by rw [eg8]; exact hD
        have Ig8 : xk_cnt (B + 1) g8 := by rw [eg8]; repeat (first | exact Ig7 | refine xk_cnt_k (by decide) ?_ | refine xk_cnt_f (by decide) ?_ | refine xk_cnt_s ?_)
        exact K2 g8 H locs (Eq.mpr (if_neg h5) (Eq.mpr (if_pos h6) ⟨g7, eg7, ⟨g8, eg8, rfl⟩⟩)) (xk_cnt_le Ig8 (by omega)) hP hD hS
      ·
        refine lv_aload_n (pc := 25) hx hb dzM_watchLamps_25 rfl (lv_at hl 1 rfl) ?_
        refine xk_get (pc := 26) hx hb hts hown hK hP ffzM_74 0 rfl rfl dzM_watchLamps_26 ?_
        refine lv_iload_n (pc := 29) hx hb dzM_watchLamps_29 rfl (lv_at hl 0 rfl) ?_
        refine lv_dup2_11 (pc := 30) hx hb dzM_watchLamps_30 rfl rfl ?_
        refine xk_iald (q0 := 22) (t0 := 0) (j := 1) (pc := 31) hx hb hK hP rfl rfl (pk_in 1 3 (by decide)) (pk_cl 1) dzM_watchLamps_31 ?_
        refine lv_iconst (v := 1) (pc := 32) hx hb dzM_watchLamps_32 (by decide) ?_
        refine lv_iadd (pc := 33) hx hb dzM_watchLamps_33 ?_
        refine xk_iast (q0 := 22) (t0 := 0) (j := 1) (pc := 34) hx hb hK hP hD hS rfl rfl (pk_in 1 3 (by decide)) (pk_cl 1) dzM_watchLamps_34 (fun H locs hP hD hS => ?_)
        obtain ⟨g9, eg9⟩ : ∃ z : xk_St, z = va_up g6 22 (upd (g6 22) 1 (((g6 22) 1) + 1)) := ⟨_, rfl⟩
        have hP : va_P G xk_cls (xk_wM ad ac g9) H := by rw [eg9]; exact hP
        have hD : va_D A (xk_wM ad ac g9) := by rw [eg9]; exact hD
        have Ig9 : xk_cnt (B + 1) g9 := by rw [eg9]; repeat (first | exact Ig6 | refine xk_cnt_k (by decide) ?_ | refine xk_cnt_f (by decide) ?_ | refine xk_cnt_s ?_)
        refine lv_aload_n (pc := 35) hx hb dzM_watchLamps_35 rfl (lv_at hl 1 rfl) ?_
        refine xk_get (pc := 36) hx hb hts hown hK hP ffzM_74 0 rfl rfl dzM_watchLamps_36 ?_
        refine lv_iload_n (pc := 39) hx hb dzM_watchLamps_39 rfl (lv_at hl 0 rfl) ?_
        refine xk_iald (q0 := 22) (t0 := 0) (j := 1) (pc := 40) hx hb hK hP rfl rfl (pk_in 1 3 (by decide)) (pk_cl 1) dzM_watchLamps_40 ?_
        refine lv_iconst (v := 3) (pc := 41) hx hb dzM_watchLamps_41 (by decide) ?_
        refine lv_icmp_lt (pc := 42) (tgt := 94) hx hb dzM_watchLamps_42 (by decide) (fun h7 => ?_) (fun h7 => ?_)
        ·
          exact K2 g9 H locs (Eq.mpr (if_neg h5) (Eq.mpr (if_neg h6) ⟨g9, eg9, (Eq.mpr (if_pos h7) rfl)⟩)) (xk_cnt_le Ig9 (by omega)) hP hD hS
        ·
          refine lv_aload_n (pc := 45) hx hb dzM_watchLamps_45 rfl (lv_at hl 1 rfl) ?_
          refine xk_get (pc := 46) hx hb hts hown hK hP ffzM_77 0 rfl rfl dzM_watchLamps_46 ?_
          refine lv_iload_n (pc := 49) hx hb dzM_watchLamps_49 rfl (lv_at hl 0 rfl) ?_
          refine xk_zald (q0 := 23) (t0 := 1) (j := 1) (pc := 50) hx hb hK hP rfl rfl (pk_in 1 3 (by decide)) (pk_cl 1) dzM_watchLamps_50 ?_
          refine lv_if_ne (pc := 51) (tgt := 94) hx hb dzM_watchLamps_51 (by decide) (fun h8 => ?_) (fun h8 => ?_)
          ·
            exact K2 g9 H locs (Eq.mpr (if_neg h5) (Eq.mpr (if_neg h6) ⟨g9, eg9, (Eq.mpr (if_neg h7) (Eq.mpr (if_neg h8) rfl))⟩)) (xk_cnt_le Ig9 (by omega)) hP hD hS
          ·
            refine lv_aload_n (pc := 54) hx hb dzM_watchLamps_54 rfl (lv_at hl 1 rfl) ?_
            refine xk_get (pc := 55) hx hb hts hown hK hP ffzM_77 0 rfl rfl dzM_watchLamps_55 ?_
            refine lv_iload_n (pc := 58) hx hb dzM_watchLamps_58 rfl (lv_at hl 0 rfl) ?_
            refine lv_iconst (v := 1) (pc := 59) hx hb dzM_watchLamps_59 (by decide) ?_
            refine xk_zast (q0 := 23) (t0 := 1) (j := 1) (pc := 60) hx hb hK hP hD hS rfl rfl (pk_in 1 3 (by decide)) (pk_cl 1) xk_b1 dzM_watchLamps_60 (fun H locs hP hD hS => ?_)
            obtain ⟨g10, eg10⟩ : ∃ z : xk_St, z = va_up g9 23 (upd (g9 23) 1 1) := ⟨_, rfl⟩
            have hP : va_P G xk_cls (xk_wM ad ac g10) H := by rw [eg10]; exact hP
            have hD : va_D A (xk_wM ad ac g10) := by rw [eg10]; exact hD
            have Ig10 : xk_cnt (B + 1) g10 := by rw [eg10]; repeat (first | exact Ig9 | refine xk_cnt_k (by decide) ?_ | refine xk_cnt_f (by decide) ?_ | refine xk_cnt_s ?_)
            refine lv_aload_n (pc := 61) hx hb dzM_watchLamps_61 rfl (lv_at hl 1 rfl) ?_
            refine lv_bipush (v := 7) (pc := 62) hx hb dzM_watchLamps_62 (by decide) ?_
            refine lv_iload_n (pc := 64) hx hb dzM_watchLamps_64 rfl (lv_at hl 0 rfl) ?_
            refine xk_allVV (As := [.int 7, .int 1]) (rest := []) (H0 := s.heap) (pc := 65) hx hb hml hts hown hK hA hP hD hS (kzM_note l G ac ad g10 7 1 (B + 1) Ig10 (by omega)) vfzM_106 (fun _ => rfl) 0 rfl rfl ⟨rfl, rfl⟩ ⟨Nat.le_of_ble_eq_true rfl, Nat.le_of_ble_eq_true rfl⟩ rfl hl.1 rfl (Nat.le_of_ble_eq_true rfl) ⟨Nat.zero_le _, Nat.zero_le _⟩ dzM_watchLamps_65 (fun g11 H locs hg11 hP hD hS => ?_)
            have hP : va_P G xk_cls (xk_wM ad ac g11) H := hP
            have hD : va_D A (xk_wM ad ac g11) := hD
            have Ig11 : xk_cnt (B + 2) g11 := xk_cnt_le (iczM_note (B + 1) _ _ _ _ hg11 Ig10) (by omega)
            refine lv_goto (tgt := 94) (pc := 68) hx hb dzM_watchLamps_68 (by decide) ?_
            exact K2 g11 H locs (Eq.mpr (if_neg h5) (Eq.mpr (if_neg h6) ⟨g9, eg9, (Eq.mpr (if_neg h7) (Eq.mpr (if_pos h8) ⟨g10, eg10, ⟨g11, hg11, rfl⟩⟩))⟩)) (xk_cnt_le Ig11 (by omega)) hP hD hS
  refine lv_if_eq (pc := 13) (tgt := 71) hx hb dzM_watchLamps_13 (by decide) (fun h1 => ?_) (fun h1 => ?_)
  ·
    refine lv_aload_n (pc := 71) hx hb dzM_watchLamps_71 rfl (lv_at hl 1 rfl) ?_
    refine xk_get (pc := 72) hx hb hts hown hK hP ffzM_71 0 rfl rfl dzM_watchLamps_72 ?_
    refine lv_iload_n (pc := 75) hx hb dzM_watchLamps_75 rfl (lv_at hl 0 rfl) ?_
    refine xk_zald (q0 := 21) (t0 := 1) (j := 0) (pc := 76) hx hb hK hP rfl rfl (pk_in 0 3 (by decide)) (pk_cl 0) dzM_watchLamps_76 ?_
    refine lv_if_eq (pc := 77) (tgt := 94) hx hb dzM_watchLamps_77 (by decide) (fun _ => ?_) (fun hq9 => absurd h1 hq9)
    exact K1 g0 H locs (Eq.mpr (if_pos h1) rfl) (xk_cnt_le Ig0 (by omega)) hP hD hS
  ·
    refine lv_aload_n (pc := 16) hx hb dzM_watchLamps_16 rfl (lv_at hl 1 rfl) ?_
    refine xk_get (pc := 17) hx hb hts hown hK hP ffzM_68 0 rfl rfl dzM_watchLamps_17 ?_
    refine lv_iload_n (pc := 20) hx hb dzM_watchLamps_20 rfl (lv_at hl 0 rfl) ?_
    refine xk_zald (q0 := 20) (t0 := 1) (j := 0) (pc := 21) hx hb hK hP rfl rfl (pk_in 0 3 (by decide)) (pk_cl 0) dzM_watchLamps_21 ?_
    refine lv_if_eq (pc := 22) (tgt := 71) hx hb dzM_watchLamps_22 (by decide) (fun h2 => ?_) (fun h2 => ?_)
    ·
      refine lv_aload_n (pc := 71) hx hb dzM_watchLamps_71 rfl (lv_at hl 1 rfl) ?_
      refine xk_get (pc := 72) hx hb hts hown hK hP ffzM_71 0 rfl rfl dzM_watchLamps_72 ?_
      refine lv_iload_n (pc := 75) hx hb dzM_watchLamps_75 rfl (lv_at hl 0 rfl) ?_
      refine xk_zald (q0 := 21) (t0 := 1) (j := 0) (pc := 76) hx hb hK hP rfl rfl (pk_in 0 3 (by decide)) (pk_cl 0) dzM_watchLamps_76 ?_
      refine lv_if_eq (pc := 77) (tgt := 94) hx hb dzM_watchLamps_77 (by decide) (fun hq9 => absurd hq9 h1) (fun _ => ?_)
      refine lv_aload_n (pc := 80) hx hb dzM_watchLamps_80 rfl (lv_at hl 1 rfl) ?_
      refine xk_get (pc := 81) hx hb hts hown hK hP ffzM_74 0 rfl rfl dzM_watchLamps_81 ?_
      refine lv_iload_n (pc := 84) hx hb dzM_watchLamps_84 rfl (lv_at hl 0 rfl) ?_
      refine lv_iconst (v := 0) (pc := 85) hx hb dzM_watchLamps_85 (by decide) ?_
      refine xk_iast (q0 := 22) (t0 := 0) (j := 0) (pc := 86) hx hb hK hP hD hS rfl rfl (pk_in 0 3 (by decide)) (pk_cl 0) dzM_watchLamps_86 (fun H locs hP hD hS => ?_)
      obtain ⟨g1, eg1⟩ : ∃ z : xk_St, z = va_up g0 22 (upd (g0 22) 0 0) := ⟨_, rfl⟩
      have hP : va_P G xk_cls (xk_wM ad ac g1) H := by rw [eg1]; exact hP
      have hD : va_D A (xk_wM ad ac g1) := by rw [eg1]; exact hD
      have Ig1 : xk_cnt (B + 0) g1 := by rw [eg1]; repeat (first | exact Ig0 | refine xk_cnt_k (by decide) ?_ | refine xk_cnt_f (by decide) ?_ | refine xk_cnt_s ?_)
      refine lv_aload_n (pc := 87) hx hb dzM_watchLamps_87 rfl (lv_at hl 1 rfl) ?_
      refine xk_get (pc := 88) hx hb hts hown hK hP ffzM_77 0 rfl rfl dzM_watchLamps_88 ?_
      refine lv_iload_n (pc := 91) hx hb dzM_watchLamps_91 rfl (lv_at hl 0 rfl) ?_
      refine lv_iconst (v := 0) (pc := 92) hx hb dzM_watchLamps_92 (by decide) ?_
      refine xk_zast (q0 := 23) (t0 := 1) (j := 0) (pc := 93) hx hb hK hP hD hS rfl rfl (pk_in 0 3 (by decide)) (pk_cl 0) xk_b0 dzM_watchLamps_93 (fun H locs hP hD hS => ?_)
      obtain ⟨g2, eg2⟩ : ∃ z : xk_St, z = va_up g1 23 (upd (g1 23) 0 0) := ⟨_, rfl⟩
      have hP : va_P G xk_cls (xk_wM ad ac g2) H := by rw [eg2]; exact hP
      have hD : va_D A (xk_wM ad ac g2) := by rw [eg2]; exact hD
      have Ig2 : xk_cnt (B + 0) g2 := by rw [eg2]; repeat (first | exact Ig1 | refine xk_cnt_k (by decide) ?_ | refine xk_cnt_f (by decide) ?_ | refine xk_cnt_s ?_)
      exact K1 g2 H locs (Eq.mpr (if_neg h1) (Eq.mpr (if_pos h2) ⟨g1, eg1, ⟨g2, eg2, rfl⟩⟩)) (xk_cnt_le Ig2 (by omega)) hP hD hS
    ·
      refine lv_aload_n (pc := 25) hx hb dzM_watchLamps_25 rfl (lv_at hl 1 rfl) ?_
      refine xk_get (pc := 26) hx hb hts hown hK hP ffzM_74 0 rfl rfl dzM_watchLamps_26 ?_
      refine lv_iload_n (pc := 29) hx hb dzM_watchLamps_29 rfl (lv_at hl 0 rfl) ?_
      refine lv_dup2_11 (pc := 30) hx hb dzM_watchLamps_30 rfl rfl ?_
      refine xk_iald (q0 := 22) (t0 := 0) (j := 0) (pc := 31) hx hb hK hP rfl rfl (pk_in 0 3 (by decide)) (pk_cl 0) dzM_watchLamps_31 ?_
      refine lv_iconst (v := 1) (pc := 32) hx hb dzM_watchLamps_32 (by decide) ?_
      refine lv_iadd (pc := 33) hx hb dzM_watchLamps_33 ?_
      refine xk_iast (q0 := 22) (t0 := 0) (j := 0) (pc := 34) hx hb hK hP hD hS rfl rfl (pk_in 0 3 (by decide)) (pk_cl 0) dzM_watchLamps_34 (fun H locs hP hD hS => ?_)
      obtain ⟨g3, eg3⟩ : ∃ z : xk_St, z = va_up g0 22 (upd (g0 22) 0 (((g0 22) 0) + 1)) := ⟨_, rfl⟩
      have hP : va_P G xk_cls (xk_wM ad ac g3) H := by rw [eg3]; exact hP
      have hD : va_D A (xk_wM ad ac g3) := by rw [eg3]; exact hD
      have Ig3 : xk_cnt (B + 0) g3 := by rw [eg3]; repeat (first | exact Ig0 | refine xk_cnt_k (by decide) ?_ | refine xk_cnt_f (by decide) ?_ | refine xk_cnt_s ?_)
      refine lv_aload_n (pc := 35) hx hb dzM_watchLamps_35 rfl (lv_at hl 1 rfl) ?_
      refine xk_get (pc := 36) hx hb hts hown hK hP ffzM_74 0 rfl rfl dzM_watchLamps_36 ?_
      refine lv_iload_n (pc := 39) hx hb dzM_watchLamps_39 rfl (lv_at hl 0 rfl) ?_
      refine xk_iald (q0 := 22) (t0 := 0) (j := 0) (pc := 40) hx hb hK hP rfl rfl (pk_in 0 3 (by decide)) (pk_cl 0) dzM_watchLamps_40 ?_
      refine lv_iconst (v := 3) (pc := 41) hx hb dzM_watchLamps_41 (by decide) ?_
      refine lv_icmp_lt (pc := 42) (tgt := 94) hx hb dzM_watchLamps_42 (by decide) (fun h3 => ?_) (fun h3 => ?_)
      ·
        exact K1 g3 H locs (Eq.mpr (if_neg h1) (Eq.mpr (if_neg h2) ⟨g3, eg3, (Eq.mpr (if_pos h3) rfl)⟩)) (xk_cnt_le Ig3 (by omega)) hP hD hS
      ·
        refine lv_aload_n (pc := 45) hx hb dzM_watchLamps_45 rfl (lv_at hl 1 rfl) ?_
        refine xk_get (pc := 46) hx hb hts hown hK hP ffzM_77 0 rfl rfl dzM_watchLamps_46 ?_
        refine lv_iload_n (pc := 49) hx hb dzM_watchLamps_49 rfl (lv_at hl 0 rfl) ?_
        refine xk_zald (q0 := 23) (t0 := 1) (j := 0) (pc := 50) hx hb hK hP rfl rfl (pk_in 0 3 (by decide)) (pk_cl 0) dzM_watchLamps_50 ?_
        refine lv_if_ne (pc := 51) (tgt := 94) hx hb dzM_watchLamps_51 (by decide) (fun h4 => ?_) (fun h4 => ?_)
        ·
          exact K1 g3 H locs (Eq.mpr (if_neg h1) (Eq.mpr (if_neg h2) ⟨g3, eg3, (Eq.mpr (if_neg h3) (Eq.mpr (if_neg h4) rfl))⟩)) (xk_cnt_le Ig3 (by omega)) hP hD hS
        ·
          refine lv_aload_n (pc := 54) hx hb dzM_watchLamps_54 rfl (lv_at hl 1 rfl) ?_
          refine xk_get (pc := 55) hx hb hts hown hK hP ffzM_77 0 rfl rfl dzM_watchLamps_55 ?_
          refine lv_iload_n (pc := 58) hx hb dzM_watchLamps_58 rfl (lv_at hl 0 rfl) ?_
          refine lv_iconst (v := 1) (pc := 59) hx hb dzM_watchLamps_59 (by decide) ?_
          refine xk_zast (q0 := 23) (t0 := 1) (j := 0) (pc := 60) hx hb hK hP hD hS rfl rfl (pk_in 0 3 (by decide)) (pk_cl 0) xk_b1 dzM_watchLamps_60 (fun H locs hP hD hS => ?_)
          obtain ⟨g4, eg4⟩ : ∃ z : xk_St, z = va_up g3 23 (upd (g3 23) 0 1) := ⟨_, rfl⟩
          have hP : va_P G xk_cls (xk_wM ad ac g4) H := by rw [eg4]; exact hP
          have hD : va_D A (xk_wM ad ac g4) := by rw [eg4]; exact hD
          have Ig4 : xk_cnt (B + 0) g4 := by rw [eg4]; repeat (first | exact Ig3 | refine xk_cnt_k (by decide) ?_ | refine xk_cnt_f (by decide) ?_ | refine xk_cnt_s ?_)
          refine lv_aload_n (pc := 61) hx hb dzM_watchLamps_61 rfl (lv_at hl 1 rfl) ?_
          refine lv_bipush (v := 7) (pc := 62) hx hb dzM_watchLamps_62 (by decide) ?_
          refine lv_iload_n (pc := 64) hx hb dzM_watchLamps_64 rfl (lv_at hl 0 rfl) ?_
          refine xk_allVV (As := [.int 7, .int 0]) (rest := []) (H0 := s.heap) (pc := 65) hx hb hml hts hown hK hA hP hD hS (kzM_note l G ac ad g4 7 0 (B + 0) Ig4 (by omega)) vfzM_106 (fun _ => rfl) 0 rfl rfl ⟨rfl, rfl⟩ ⟨Nat.le_of_ble_eq_true rfl, Nat.le_of_ble_eq_true rfl⟩ rfl hl.1 rfl (Nat.le_of_ble_eq_true rfl) ⟨Nat.zero_le _, Nat.zero_le _⟩ dzM_watchLamps_65 (fun g5 H locs hg5 hP hD hS => ?_)
          have hP : va_P G xk_cls (xk_wM ad ac g5) H := hP
          have hD : va_D A (xk_wM ad ac g5) := hD
          have Ig5 : xk_cnt (B + 1) g5 := xk_cnt_le (iczM_note (B + 0) _ _ _ _ hg5 Ig4) (by omega)
          refine lv_goto (tgt := 94) (pc := 68) hx hb dzM_watchLamps_68 (by decide) ?_
          exact K1 g5 H locs (Eq.mpr (if_neg h1) (Eq.mpr (if_neg h2) ⟨g3, eg3, (Eq.mpr (if_neg h3) (Eq.mpr (if_pos h4) ⟨g4, eg4, ⟨g5, hg5, rfl⟩⟩))⟩)) (xk_cnt_le Ig5 (by omega)) hP hD hS
theorem frzM_watchLamps (g0 : xk_St) (gz : xk_St) : relzM_watchLamps g0 gz → xk_eqv [1, 2, 3, 4, 5, 6, 7, 8, 9, 10, 11, 12, 13, 14, 15, 16, 17, 18, 19, 20, 21, 24] g0 gz := by
  intro h
  unfold relzM_watchLamps at h
  have s0 : xk_eqv [1, 2, 3, 4, 5, 6, 7, 8, 9, 10, 11, 12, 13, 14, 15, 16, 17, 18, 19, 20, 21, 24] g0 g0 := xk_eqv_rf
  obtain ⟨g6, u1, v2⟩ := h
  have s3 : xk_eqv [1, 2, 3, 4, 5, 6, 7, 8, 9, 10, 11, 12, 13, 14, 15, 16, 17, 18, 19, 20, 21, 24] g0 g6 := by
    by_cases hc : ((g0 21) 0) = 0
    · rw [if_pos hc] at u1
      rw [u1]; exact s0
    · rw [if_neg hc] at u1
      by_cases hc : ((g0 20) 0) = 0
      · rw [if_pos hc] at u1
        obtain ⟨g1, u4, v5⟩ := u1
        have s6 : xk_eqv [1, 2, 3, 4, 5, 6, 7, 8, 9, 10, 11, 12, 13, 14, 15, 16, 17, 18, 19, 20, 21, 24] g0 g1 := by rw [u4]; repeat (first | exact s0 | refine xk_eqv_up (by decide) ?_)
        obtain ⟨g2, u7, v8⟩ := v5
        have s9 : xk_eqv [1, 2, 3, 4, 5, 6, 7, 8, 9, 10, 11, 12, 13, 14, 15, 16, 17, 18, 19, 20, 21, 24] g0 g2 := by rw [u7]; repeat (first | exact s6 | refine xk_eqv_up (by decide) ?_)
        rw [v8]; exact s9
      · rw [if_neg hc] at u1
        obtain ⟨g3, u10, v11⟩ := u1
        have s12 : xk_eqv [1, 2, 3, 4, 5, 6, 7, 8, 9, 10, 11, 12, 13, 14, 15, 16, 17, 18, 19, 20, 21, 24] g0 g3 := by rw [u10]; repeat (first | exact s0 | refine xk_eqv_up (by decide) ?_)
        by_cases hc : ((g3 22) 0) < 3
        · rw [if_pos hc] at v11
          rw [v11]; exact s12
        · rw [if_neg hc] at v11
          by_cases hc : ((g3 23) 0) = 0
          · rw [if_pos hc] at v11
            obtain ⟨g4, u13, v14⟩ := v11
            have s15 : xk_eqv [1, 2, 3, 4, 5, 6, 7, 8, 9, 10, 11, 12, 13, 14, 15, 16, 17, 18, 19, 20, 21, 24] g0 g4 := by rw [u13]; repeat (first | exact s12 | refine xk_eqv_up (by decide) ?_)
            obtain ⟨g5, u16, v17⟩ := v14
            have s18 : xk_eqv [1, 2, 3, 4, 5, 6, 7, 8, 9, 10, 11, 12, 13, 14, 15, 16, 17, 18, 19, 20, 21, 24] g0 g5 := xk_eqv_tr s15 (xk_eqv_sub (frzM_note _ _ _ _ u16) (by decide))
            rw [v17]; exact s18
          · rw [if_neg hc] at v11
            rw [v11]; exact s12
  obtain ⟨g12, u19, v20⟩ := v2
  have s21 : xk_eqv [1, 2, 3, 4, 5, 6, 7, 8, 9, 10, 11, 12, 13, 14, 15, 16, 17, 18, 19, 20, 21, 24] g0 g12 := by
    by_cases hc : ((g6 21) 1) = 0
    · rw [if_pos hc] at u19
      rw [u19]; exact s3
    · rw [if_neg hc] at u19
      by_cases hc : ((g6 20) 1) = 0
      · rw [if_pos hc] at u19
        obtain ⟨g7, u22, v23⟩ := u19
        have s24 : xk_eqv [1, 2, 3, 4, 5, 6, 7, 8, 9, 10, 11, 12, 13, 14, 15, 16, 17, 18, 19, 20, 21, 24] g0 g7 := by rw [u22]; repeat (first | exact s3 | refine xk_eqv_up (by decide) ?_)
        obtain ⟨g8, u25, v26⟩ := v23
        have s27 : xk_eqv [1, 2, 3, 4, 5, 6, 7, 8, 9, 10, 11, 12, 13, 14, 15, 16, 17, 18, 19, 20, 21, 24] g0 g8 := by rw [u25]; repeat (first | exact s24 | refine xk_eqv_up (by decide) ?_)
        rw [v26]; exact s27
      · rw [if_neg hc] at u19
        obtain ⟨g9, u28, v29⟩ := u19
        have s30 : xk_eqv [1, 2, 3, 4, 5, 6, 7, 8, 9, 10, 11, 12, 13, 14, 15, 16, 17, 18, 19, 20, 21, 24] g0 g9 := by rw [u28]; repeat (first | exact s3 | refine xk_eqv_up (by decide) ?_)
        by_cases hc : ((g9 22) 1) < 3
        · rw [if_pos hc] at v29
          rw [v29]; exact s30
        · rw [if_neg hc] at v29
          by_cases hc : ((g9 23) 1) = 0
          · rw [if_pos hc] at v29
            obtain ⟨g10, u31, v32⟩ := v29
            have s33 : xk_eqv [1, 2, 3, 4, 5, 6, 7, 8, 9, 10, 11, 12, 13, 14, 15, 16, 17, 18, 19, 20, 21, 24] g0 g10 := by rw [u31]; repeat (first | exact s30 | refine xk_eqv_up (by decide) ?_)
            obtain ⟨g11, u34, v35⟩ := v32
            have s36 : xk_eqv [1, 2, 3, 4, 5, 6, 7, 8, 9, 10, 11, 12, 13, 14, 15, 16, 17, 18, 19, 20, 21, 24] g0 g11 := xk_eqv_tr s33 (xk_eqv_sub (frzM_note _ _ _ _ u34) (by decide))
            rw [v35]; exact s36
          · rw [if_neg hc] at v29
            rw [v29]; exact s30
  obtain ⟨g18, u37, v38⟩ := v20
  have s39 : xk_eqv [1, 2, 3, 4, 5, 6, 7, 8, 9, 10, 11, 12, 13, 14, 15, 16, 17, 18, 19, 20, 21, 24] g0 g18 := by
    by_cases hc : ((g12 21) 2) = 0
    · rw [if_pos hc] at u37
      rw [u37]; exact s21
    · rw [if_neg hc] at u37
      by_cases hc : ((g12 20) 2) = 0
      · rw [if_pos hc] at u37
        obtain ⟨g13, u40, v41⟩ := u37
        have s42 : xk_eqv [1, 2, 3, 4, 5, 6, 7, 8, 9, 10, 11, 12, 13, 14, 15, 16, 17, 18, 19, 20, 21, 24] g0 g13 := by rw [u40]; repeat (first | exact s21 | refine xk_eqv_up (by decide) ?_)
        obtain ⟨g14, u43, v44⟩ := v41
        have s45 : xk_eqv [1, 2, 3, 4, 5, 6, 7, 8, 9, 10, 11, 12, 13, 14, 15, 16, 17, 18, 19, 20, 21, 24] g0 g14 := by rw [u43]; repeat (first | exact s42 | refine xk_eqv_up (by decide) ?_)
        rw [v44]; exact s45
      · rw [if_neg hc] at u37
        obtain ⟨g15, u46, v47⟩ := u37
        have s48 : xk_eqv [1, 2, 3, 4, 5, 6, 7, 8, 9, 10, 11, 12, 13, 14, 15, 16, 17, 18, 19, 20, 21, 24] g0 g15 := by rw [u46]; repeat (first | exact s21 | refine xk_eqv_up (by decide) ?_)
        by_cases hc : ((g15 22) 2) < 3
        · rw [if_pos hc] at v47
          rw [v47]; exact s48
        · rw [if_neg hc] at v47
          by_cases hc : ((g15 23) 2) = 0
          · rw [if_pos hc] at v47
            obtain ⟨g16, u49, v50⟩ := v47
            have s51 : xk_eqv [1, 2, 3, 4, 5, 6, 7, 8, 9, 10, 11, 12, 13, 14, 15, 16, 17, 18, 19, 20, 21, 24] g0 g16 := by rw [u49]; repeat (first | exact s48 | refine xk_eqv_up (by decide) ?_)
            obtain ⟨g17, u52, v53⟩ := v50
            have s54 : xk_eqv [1, 2, 3, 4, 5, 6, 7, 8, 9, 10, 11, 12, 13, 14, 15, 16, 17, 18, 19, 20, 21, 24] g0 g17 := xk_eqv_tr s51 (xk_eqv_sub (frzM_note _ _ _ _ u52) (by decide))
            rw [v53]; exact s54
          · rw [if_neg hc] at v47
            rw [v47]; exact s48
  rw [v38]; exact s39
theorem iczM_watchLamps (B : Nat) (g0 : xk_St) (gz : xk_St) : relzM_watchLamps g0 gz → xk_cnt B g0 → xk_cnt (B + 3) gz := by
  intro h Ig0
  unfold relzM_watchLamps at h
  have Ig0 : xk_cnt (B + 0) g0 := Ig0
  obtain ⟨g6, u1, v2⟩ := h
  have Ig6 : xk_cnt (B + 1) g6 := by
    by_cases hc : ((g0 21) 0) = 0
    · rw [if_pos hc] at u1
      rw [u1]; exact xk_cnt_le Ig0 (by omega)
    · rw [if_neg hc] at u1
      by_cases hc : ((g0 20) 0) = 0
      · rw [if_pos hc] at u1
        obtain ⟨g1, u3, v4⟩ := u1
        have Ig1 : xk_cnt (B + 0) g1 := by rw [u3]; repeat (first | exact Ig0 | refine xk_cnt_k (by decide) ?_ | refine xk_cnt_f (by decide) ?_ | refine xk_cnt_s ?_)
        obtain ⟨g2, u5, v6⟩ := v4
        have Ig2 : xk_cnt (B + 0) g2 := by rw [u5]; repeat (first | exact Ig1 | refine xk_cnt_k (by decide) ?_ | refine xk_cnt_f (by decide) ?_ | refine xk_cnt_s ?_)
        rw [v6]; exact xk_cnt_le Ig2 (by omega)
      · rw [if_neg hc] at u1
        obtain ⟨g3, u7, v8⟩ := u1
        have Ig3 : xk_cnt (B + 0) g3 := by rw [u7]; repeat (first | exact Ig0 | refine xk_cnt_k (by decide) ?_ | refine xk_cnt_f (by decide) ?_ | refine xk_cnt_s ?_)
        by_cases hc : ((g3 22) 0) < 3
        · rw [if_pos hc] at v8
          rw [v8]; exact xk_cnt_le Ig3 (by omega)
        · rw [if_neg hc] at v8
          by_cases hc : ((g3 23) 0) = 0
          · rw [if_pos hc] at v8
            obtain ⟨g4, u9, v10⟩ := v8
            have Ig4 : xk_cnt (B + 0) g4 := by rw [u9]; repeat (first | exact Ig3 | refine xk_cnt_k (by decide) ?_ | refine xk_cnt_f (by decide) ?_ | refine xk_cnt_s ?_)
            obtain ⟨g5, u11, v12⟩ := v10
            have Ig5 : xk_cnt (B + 1) g5 := xk_cnt_le (iczM_note (B + 0) _ _ _ _ u11 Ig4) (by omega)
            rw [v12]; exact xk_cnt_le Ig5 (by omega)
          · rw [if_neg hc] at v8
            rw [v8]; exact xk_cnt_le Ig3 (by omega)
  obtain ⟨g12, u13, v14⟩ := v2
  have Ig12 : xk_cnt (B + 2) g12 := by
    by_cases hc : ((g6 21) 1) = 0
    · rw [if_pos hc] at u13
      rw [u13]; exact xk_cnt_le Ig6 (by omega)
    · rw [if_neg hc] at u13
      by_cases hc : ((g6 20) 1) = 0
      · rw [if_pos hc] at u13
        obtain ⟨g7, u15, v16⟩ := u13
        have Ig7 : xk_cnt (B + 1) g7 := by rw [u15]; repeat (first | exact Ig6 | refine xk_cnt_k (by decide) ?_ | refine xk_cnt_f (by decide) ?_ | refine xk_cnt_s ?_)
        obtain ⟨g8, u17, v18⟩ := v16
        have Ig8 : xk_cnt (B + 1) g8 := by rw [u17]; repeat (first | exact Ig7 | refine xk_cnt_k (by decide) ?_ | refine xk_cnt_f (by decide) ?_ | refine xk_cnt_s ?_)
        rw [v18]; exact xk_cnt_le Ig8 (by omega)
      · rw [if_neg hc] at u13
        obtain ⟨g9, u19, v20⟩ := u13
        have Ig9 : xk_cnt (B + 1) g9 := by rw [u19]; repeat (first | exact Ig6 | refine xk_cnt_k (by decide) ?_ | refine xk_cnt_f (by decide) ?_ | refine xk_cnt_s ?_)
        by_cases hc : ((g9 22) 1) < 3
        · rw [if_pos hc] at v20
          rw [v20]; exact xk_cnt_le Ig9 (by omega)
        · rw [if_neg hc] at v20
          by_cases hc : ((g9 23) 1) = 0
          · rw [if_pos hc] at v20
            obtain ⟨g10, u21, v22⟩ := v20
            have Ig10 : xk_cnt (B + 1) g10 := by rw [u21]; repeat (first | exact Ig9 | refine xk_cnt_k (by decide) ?_ | refine xk_cnt_f (by decide) ?_ | refine xk_cnt_s ?_)
            obtain ⟨g11, u23, v24⟩ := v22
            have Ig11 : xk_cnt (B + 2) g11 := xk_cnt_le (iczM_note (B + 1) _ _ _ _ u23 Ig10) (by omega)
            rw [v24]; exact xk_cnt_le Ig11 (by omega)
          · rw [if_neg hc] at v20
            rw [v20]; exact xk_cnt_le Ig9 (by omega)
  obtain ⟨g18, u25, v26⟩ := v14
  have Ig18 : xk_cnt (B + 3) g18 := by
    by_cases hc : ((g12 21) 2) = 0
    · rw [if_pos hc] at u25
      rw [u25]; exact xk_cnt_le Ig12 (by omega)
    · rw [if_neg hc] at u25
      by_cases hc : ((g12 20) 2) = 0
      · rw [if_pos hc] at u25
        obtain ⟨g13, u27, v28⟩ := u25
        have Ig13 : xk_cnt (B + 2) g13 := by rw [u27]; repeat (first | exact Ig12 | refine xk_cnt_k (by decide) ?_ | refine xk_cnt_f (by decide) ?_ | refine xk_cnt_s ?_)
        obtain ⟨g14, u29, v30⟩ := v28
        have Ig14 : xk_cnt (B + 2) g14 := by rw [u29]; repeat (first | exact Ig13 | refine xk_cnt_k (by decide) ?_ | refine xk_cnt_f (by decide) ?_ | refine xk_cnt_s ?_)
        rw [v30]; exact xk_cnt_le Ig14 (by omega)
      · rw [if_neg hc] at u25
        obtain ⟨g15, u31, v32⟩ := u25
        have Ig15 : xk_cnt (B + 2) g15 := by rw [u31]; repeat (first | exact Ig12 | refine xk_cnt_k (by decide) ?_ | refine xk_cnt_f (by decide) ?_ | refine xk_cnt_s ?_)
        by_cases hc : ((g15 22) 2) < 3
        · rw [if_pos hc] at v32
          rw [v32]; exact xk_cnt_le Ig15 (by omega)
        · rw [if_neg hc] at v32
          by_cases hc : ((g15 23) 2) = 0
          · rw [if_pos hc] at v32
            obtain ⟨g16, u33, v34⟩ := v32
            have Ig16 : xk_cnt (B + 2) g16 := by rw [u33]; repeat (first | exact Ig15 | refine xk_cnt_k (by decide) ?_ | refine xk_cnt_f (by decide) ?_ | refine xk_cnt_s ?_)
            obtain ⟨g17, u35, v36⟩ := v34
            have Ig17 : xk_cnt (B + 3) g17 := xk_cnt_le (iczM_note (B + 2) _ _ _ _ u35 Ig16) (by omega)
            rw [v36]; exact xk_cnt_le Ig17 (by omega)
          · rw [if_neg hc] at v32
            rw [v32]; exact xk_cnt_le Ig15 (by omega)
  rw [v26]; exact xk_cnt_le Ig18 (by omega)

def relzM_watchBarriers (g0 : xk_St) (gz : xk_St) : Prop := ∃ (x1 : Int32), (if ((g0 14) 0) = ((g0 15) 0) then (x1 = 1) else (x1 = 0)) ∧ (∃ (x2 : Int32), (if ((g0 14) 0) = 0 then (x2 = ((g0 17) 0) + 1) else (x2 = 0)) ∧ (∃ (g1 : xk_St), g1 = va_up g0 17 (upd (g0 17) 0 x2) ∧ (∃ (x3 : Int32), (if ((g1 16) 0) = 0 then (x3 = 0) else (if x1 = 0 then (x3 = 0) else (x3 = ((g1 18) 0) + 1))) ∧ (∃ (g2 : xk_St), g2 = va_up g1 18 (upd (g1 18) 0 x3) ∧ (∃ (g5 : xk_St), (if ((g2 18) 0) < 61 then (g5 = g2) else (if ((g2 19) 0) = 0 then (∃ (g3 : xk_St), g3 = va_up g2 19 (upd (g2 19) 0 1) ∧ (∃ (g4 : xk_St), relzM_note g3 6 0 g4 ∧ (g5 = g4))) else (g5 = g2))) ∧ (∃ (x4 : Int32), (if ((g5 19) 0) = 0 then (x4 = 0) else (if x1 = 0 then (x4 = 0) else (x4 = 1))) ∧ (∃ (g6 : xk_St), g6 = va_up g5 19 (upd (g5 19) 0 x4) ∧ (∃ (g7 : xk_St), g7 = va_up g6 15 (upd (g6 15) 0 ((g6 14) 0)) ∧ (∃ (x5 : Int32), (if ((g7 14) 1) = ((g7 15) 1) then (x5 = 1) else (x5 = 0)) ∧ (∃ (x6 : Int32), (if ((g7 14) 1) = 0 then (x6 = ((g7 17) 1) + 1) else (x6 = 0)) ∧ (∃ (g8 : xk_St), g8 = va_up g7 17 (upd (g7 17) 1 x6) ∧ (∃ (x7 : Int32), (if ((g8 16) 1) = 0 then (x7 = 0) else (if x5 = 0 then (x7 = 0) else (x7 = ((g8 18) 1) + 1))) ∧ (∃ (g9 : xk_St), g9 = va_up g8 18 (upd (g8 18) 1 x7) ∧ (∃ (g12 : xk_St), (if ((g9 18) 1) < 61 then (g12 = g9) else (if ((g9 19) 1) = 0 then (∃ (g10 : xk_St), g10 = va_up g9 19 (upd (g9 19) 1 1) ∧ (∃ (g11 : xk_St), relzM_note g10 6 1 g11 ∧ (g12 = g11))) else (g12 = g9))) ∧ (∃ (x8 : Int32), (if ((g12 19) 1) = 0 then (x8 = 0) else (if x5 = 0 then (x8 = 0) else (x8 = 1))) ∧ (∃ (g13 : xk_St), g13 = va_up g12 19 (upd (g12 19) 1 x8) ∧ (∃ (g14 : xk_St), g14 = va_up g13 15 (upd (g13 15) 1 ((g13 14) 1)) ∧ (gz = g14))))))))))))))))))
set_option maxHeartbeats 4000000 in
set_option maxRecDepth 100000 in
theorem kzM_watchBarriers (l : Launch) (G : va_G) (ac : Nat → ClassId) (ad : Nat → Nat) (g0 : xk_St) (B : Nat) (Ig0 : xk_cnt B g0) (hB : B + 3 < 2147483648) : xk_CV l yzM_watchBarriers czM_watchBarriers 3 xk_WS xk_r1 G xk_cls (xk_tys ac) [.ref (ad 0)] (xk_wM ad ac g0) (fun (gz : xk_St) => relzM_watchBarriers g0 gz) (fun gz => xk_wM ad ac gz) := by
  refine xk_ofV (by decide) (Nat.le_of_ble_eq_true rfl) ?_
  intro p e s m args below meth c A Q H locs ls C0 hret hP hD hS hl
  obtain ⟨hx, hb, hml, hts, hown, hK, hA⟩ := C0
  have hl : lv_has ls 3 [(0, .ref (ad 0))] := hl
  have Ig0 : xk_cnt (B + 0) g0 := Ig0
  refine lv_iconst (v := 0) (pc := 0) hx hb dzM_watchBarriers_0 (by decide) ?_
  refine lv_istore_n (lv' := [(1, .int 0), (0, .ref (ad 0))]) (pc := 1) hx hb dzM_watchBarriers_1 rfl hl (by decide) rfl (fun ls hl => ?_)
  refine lv_iload_n (pc := 2) hx hb dzM_watchBarriers_2 rfl (lv_at hl 0 rfl) ?_
  refine lv_iconst (v := 2) (pc := 3) hx hb dzM_watchBarriers_3 (by decide) ?_
  refine lv_icmp_ge (pc := 4) (tgt := 162) hx hb dzM_watchBarriers_4 (by decide) (fun hq9 => absurd hq9 (by decide)) (fun _ => ?_)
  refine lv_aload_n (pc := 7) hx hb dzM_watchBarriers_7 rfl (lv_at hl 1 rfl) ?_
  refine xk_get (pc := 8) hx hb hts hown hK hP ffzM_50 0 rfl rfl dzM_watchBarriers_8 ?_
  refine lv_iload_n (pc := 11) hx hb dzM_watchBarriers_11 rfl (lv_at hl 0 rfl) ?_
  refine xk_iald (q0 := 14) (t0 := 0) (j := 0) (pc := 12) hx hb hK hP rfl rfl (pk_in 0 2 (by decide)) (pk_cl 0) dzM_watchBarriers_12 ?_
  refine lv_aload_n (pc := 13) hx hb dzM_watchBarriers_13 rfl (lv_at hl 1 rfl) ?_
  refine xk_get (pc := 14) hx hb hts hown hK hP ffzM_53 0 rfl rfl dzM_watchBarriers_14 ?_
  refine lv_iload_n (pc := 17) hx hb dzM_watchBarriers_17 rfl (lv_at hl 0 rfl) ?_
  refine xk_iald (q0 := 15) (t0 := 0) (j := 0) (pc := 18) hx hb hK hP rfl rfl (pk_in 0 2 (by decide)) (pk_cl 0) dzM_watchBarriers_18 ?_
  have K1 : ∀ (x1 : Int32), (if ((g0 14) 0) = ((g0 15) 0) then (x1 = 1) else (x1 = 0)) → (xk_b x1) → W p l e xk_r1 s m args below meth c H locs 0 0 Q (F0 m 27 ls [.int x1]) := by
    intro x1 R1 bx1
    refine lv_istore_n (lv' := [(2, .int x1), (1, .int 0), (0, .ref (ad 0))]) (pc := 27) hx hb dzM_watchBarriers_27 rfl hl (by decide) rfl (fun ls hl => ?_)
    refine lv_aload_n (pc := 28) hx hb dzM_watchBarriers_28 rfl (lv_at hl 2 rfl) ?_
    refine xk_get (pc := 29) hx hb hts hown hK hP ffzM_59 0 rfl rfl dzM_watchBarriers_29 ?_
    refine lv_iload_n (pc := 32) hx hb dzM_watchBarriers_32 rfl (lv_at hl 1 rfl) ?_
    refine lv_aload_n (pc := 33) hx hb dzM_watchBarriers_33 rfl (lv_at hl 2 rfl) ?_
    refine xk_get (pc := 34) hx hb hts hown hK hP ffzM_50 0 rfl rfl dzM_watchBarriers_34 ?_
    refine lv_iload_n (pc := 37) hx hb dzM_watchBarriers_37 rfl (lv_at hl 1 rfl) ?_
    refine xk_iald (q0 := 14) (t0 := 0) (j := 0) (pc := 38) hx hb hK hP rfl rfl (pk_in 0 2 (by decide)) (pk_cl 0) dzM_watchBarriers_38 ?_
    have K2 : ∀ (x2 : Int32), (if ((g0 14) 0) = 0 then (x2 = ((g0 17) 0) + 1) else (x2 = 0)) → W p l e xk_r1 s m args below meth c H locs 0 0 Q (F0 m 54 ls [.int x2, .int 0, .ref (ad 17)]) := by
      intro x2 R2
      refine xk_iast (q0 := 17) (t0 := 0) (j := 0) (pc := 54) hx hb hK hP hD hS rfl rfl (pk_in 0 2 (by decide)) (pk_cl 0) dzM_watchBarriers_54 (fun H locs hP hD hS => ?_)
      obtain ⟨g1, eg1⟩ : ∃ z : xk_St, z = va_up g0 17 (upd (g0 17) 0 x2) := ⟨_, rfl⟩
      have hP : va_P G xk_cls (xk_wM ad ac g1) H := by rw [eg1]; exact hP
      have hD : va_D A (xk_wM ad ac g1) := by rw [eg1]; exact hD
      have Ig1 : xk_cnt (B + 0) g1 := by rw [eg1]; repeat (first | exact Ig0 | refine xk_cnt_k (by decide) ?_ | refine xk_cnt_f (by decide) ?_ | refine xk_cnt_s ?_)
      refine lv_aload_n (pc := 55) hx hb dzM_watchBarriers_55 rfl (lv_at hl 2 rfl) ?_
      refine xk_get (pc := 56) hx hb hts hown hK hP ffzM_62 0 rfl rfl dzM_watchBarriers_56 ?_
      refine lv_iload_n (pc := 59) hx hb dzM_watchBarriers_59 rfl (lv_at hl 1 rfl) ?_
      refine lv_aload_n (pc := 60) hx hb dzM_watchBarriers_60 rfl (lv_at hl 2 rfl) ?_
      refine xk_get (pc := 61) hx hb hts hown hK hP ffzM_56 0 rfl rfl dzM_watchBarriers_61 ?_
      refine lv_iload_n (pc := 64) hx hb dzM_watchBarriers_64 rfl (lv_at hl 1 rfl) ?_
      refine xk_iald (q0 := 16) (t0 := 0) (j := 0) (pc := 65) hx hb hK hP rfl rfl (pk_in 0 2 (by decide)) (pk_cl 0) dzM_watchBarriers_65 ?_
      have K3 : ∀ (x3 : Int32), (if ((g1 16) 0) = 0 then (x3 = 0) else (if x1 = 0 then (x3 = 0) else (x3 = ((g1 18) 0) + 1))) → W p l e xk_r1 s m args below meth c H locs 0 0 Q (F0 m 85 ls [.int x3, .int 0, .ref (ad 18)]) := by
        intro x3 R3
        refine xk_iast (q0 := 18) (t0 := 0) (j := 0) (pc := 85) hx hb hK hP hD hS rfl rfl (pk_in 0 2 (by decide)) (pk_cl 0) dzM_watchBarriers_85 (fun H locs hP hD hS => ?_)
        obtain ⟨g2, eg2⟩ : ∃ z : xk_St, z = va_up g1 18 (upd (g1 18) 0 x3) := ⟨_, rfl⟩
        have hP : va_P G xk_cls (xk_wM ad ac g2) H := by rw [eg2]; exact hP
        have hD : va_D A (xk_wM ad ac g2) := by rw [eg2]; exact hD
        have Ig2 : xk_cnt (B + 0) g2 := by rw [eg2]; repeat (first | exact Ig1 | refine xk_cnt_k (by decide) ?_ | refine xk_cnt_f (by decide) ?_ | refine xk_cnt_s ?_)
        refine lv_aload_n (pc := 86) hx hb dzM_watchBarriers_86 rfl (lv_at hl 2 rfl) ?_
        refine xk_get (pc := 87) hx hb hts hown hK hP ffzM_62 0 rfl rfl dzM_watchBarriers_87 ?_
        refine lv_iload_n (pc := 90) hx hb dzM_watchBarriers_90 rfl (lv_at hl 1 rfl) ?_
        refine xk_iald (q0 := 18) (t0 := 0) (j := 0) (pc := 91) hx hb hK hP rfl rfl (pk_in 0 2 (by decide)) (pk_cl 0) dzM_watchBarriers_91 ?_
        refine lv_bipush (v := 61) (pc := 92) hx hb dzM_watchBarriers_92 (by decide) ?_
        have K4 : ∀ (g5 : xk_St) (H : Heap) (locs : List Loc), (if ((g2 18) 0) < 61 then (g5 = g2) else (if ((g2 19) 0) = 0 then (∃ (g3 : xk_St), g3 = va_up g2 19 (upd (g2 19) 0 1) ∧ (∃ (g4 : xk_St), relzM_note g3 6 0 g4 ∧ (g5 = g4))) else (g5 = g2))) → (xk_cnt (B + 1) g5) → (va_P G xk_cls (xk_wM ad ac g5) H) → (va_D A (xk_wM ad ac g5)) → (va_S A s.heap H locs) → W p l e xk_r1 s m args below meth c H locs 0 0 Q (F0 m 120 ls []) := by
          intro g5 H locs R4 Ig5 hP hD hS
          refine lv_aload_n (pc := 120) hx hb dzM_watchBarriers_120 rfl (lv_at hl 2 rfl) ?_
          refine xk_get (pc := 121) hx hb hts hown hK hP ffzM_65 0 rfl rfl dzM_watchBarriers_121 ?_
          refine lv_iload_n (pc := 124) hx hb dzM_watchBarriers_124 rfl (lv_at hl 1 rfl) ?_
          refine lv_aload_n (pc := 125) hx hb dzM_watchBarriers_125 rfl (lv_at hl 2 rfl) ?_
          refine xk_get (pc := 126) hx hb hts hown hK hP ffzM_65 0 rfl rfl dzM_watchBarriers_126 ?_
          refine lv_iload_n (pc := 129) hx hb dzM_watchBarriers_129 rfl (lv_at hl 1 rfl) ?_
          refine xk_zald (q0 := 19) (t0 := 1) (j := 0) (pc := 130) hx hb hK hP rfl rfl (pk_in 0 2 (by decide)) (pk_cl 0) dzM_watchBarriers_130 ?_
          have K5 : ∀ (x4 : Int32), (if ((g5 19) 0) = 0 then (x4 = 0) else (if x1 = 0 then (x4 = 0) else (x4 = 1))) → (xk_b x4) → W p l e xk_r1 s m args below meth c H locs 0 0 Q (F0 m 143 ls [.int x4, .int 0, .ref (ad 19)]) := by
            intro x4 R5 bx4
            refine xk_zast (q0 := 19) (t0 := 1) (j := 0) (pc := 143) hx hb hK hP hD hS rfl rfl (pk_in 0 2 (by decide)) (pk_cl 0) bx4 dzM_watchBarriers_143 (fun H locs hP hD hS => ?_)
            obtain ⟨g6, eg6⟩ : ∃ z : xk_St, z = va_up g5 19 (upd (g5 19) 0 x4) := ⟨_, rfl⟩
            have hP : va_P G xk_cls (xk_wM ad ac g6) H := by rw [eg6]; exact hP
            have hD : va_D A (xk_wM ad ac g6) := by rw [eg6]; exact hD
            have Ig6 : xk_cnt (B + 1) g6 := by rw [eg6]; repeat (first | exact Ig5 | refine xk_cnt_k (by decide) ?_ | refine xk_cnt_f (by decide) ?_ | refine xk_cnt_s ?_)
            refine lv_aload_n (pc := 144) hx hb dzM_watchBarriers_144 rfl (lv_at hl 2 rfl) ?_
            refine xk_get (pc := 145) hx hb hts hown hK hP ffzM_53 0 rfl rfl dzM_watchBarriers_145 ?_
            refine lv_iload_n (pc := 148) hx hb dzM_watchBarriers_148 rfl (lv_at hl 1 rfl) ?_
            refine lv_aload_n (pc := 149) hx hb dzM_watchBarriers_149 rfl (lv_at hl 2 rfl) ?_
            refine xk_get (pc := 150) hx hb hts hown hK hP ffzM_50 0 rfl rfl dzM_watchBarriers_150 ?_
            refine lv_iload_n (pc := 153) hx hb dzM_watchBarriers_153 rfl (lv_at hl 1 rfl) ?_
            refine xk_iald (q0 := 14) (t0 := 0) (j := 0) (pc := 154) hx hb hK hP rfl rfl (pk_in 0 2 (by decide)) (pk_cl 0) dzM_watchBarriers_154 ?_
            refine xk_iast (q0 := 15) (t0 := 0) (j := 0) (pc := 155) hx hb hK hP hD hS rfl rfl (pk_in 0 2 (by decide)) (pk_cl 0) dzM_watchBarriers_155 (fun H locs hP hD hS => ?_)
            obtain ⟨g7, eg7⟩ : ∃ z : xk_St, z = va_up g6 15 (upd (g6 15) 0 ((g6 14) 0)) := ⟨_, rfl⟩
            have hP : va_P G xk_cls (xk_wM ad ac g7) H := by rw [eg7]; exact hP
            have hD : va_D A (xk_wM ad ac g7) := by rw [eg7]; exact hD
            have Ig7 : xk_cnt (B + 1) g7 := by rw [eg7]; repeat (first | exact Ig6 | refine xk_cnt_k (by decide) ?_ | refine xk_cnt_f (by decide) ?_ | refine xk_cnt_s ?_)
            refine lv_iinc (k := 1) (x := 0) (v := 1) (lv' := [(1, .int 1), (2, .int x1), (0, .ref (ad 0))]) (pc := 156) hx hb dzM_watchBarriers_156 hl rfl (by decide) (by decide) rfl (fun ls hl => ?_)
            refine lv_goto (tgt := 2) (pc := 159) hx hb dzM_watchBarriers_159 (by decide) ?_
            refine lv_iload_n (pc := 2) hx hb dzM_watchBarriers_2 rfl (lv_at hl 0 rfl) ?_
            refine lv_iconst (v := 2) (pc := 3) hx hb dzM_watchBarriers_3 (by decide) ?_
            refine lv_icmp_ge (pc := 4) (tgt := 162) hx hb dzM_watchBarriers_4 (by decide) (fun hq9 => absurd hq9 (by decide)) (fun _ => ?_)
            refine lv_aload_n (pc := 7) hx hb dzM_watchBarriers_7 rfl (lv_at hl 2 rfl) ?_
            refine xk_get (pc := 8) hx hb hts hown hK hP ffzM_50 0 rfl rfl dzM_watchBarriers_8 ?_
            refine lv_iload_n (pc := 11) hx hb dzM_watchBarriers_11 rfl (lv_at hl 0 rfl) ?_
            refine xk_iald (q0 := 14) (t0 := 0) (j := 1) (pc := 12) hx hb hK hP rfl rfl (pk_in 1 2 (by decide)) (pk_cl 1) dzM_watchBarriers_12 ?_
            refine lv_aload_n (pc := 13) hx hb dzM_watchBarriers_13 rfl (lv_at hl 2 rfl) ?_
            refine xk_get (pc := 14) hx hb hts hown hK hP ffzM_53 0 rfl rfl dzM_watchBarriers_14 ?_
            refine lv_iload_n (pc := 17) hx hb dzM_watchBarriers_17 rfl (lv_at hl 0 rfl) ?_
            refine xk_iald (q0 := 15) (t0 := 0) (j := 1) (pc := 18) hx hb hK hP rfl rfl (pk_in 1 2 (by decide)) (pk_cl 1) dzM_watchBarriers_18 ?_
            have K6 : ∀ (x5 : Int32), (if ((g7 14) 1) = ((g7 15) 1) then (x5 = 1) else (x5 = 0)) → (xk_b x5) → W p l e xk_r1 s m args below meth c H locs 0 0 Q (F0 m 27 ls [.int x5]) := by
              intro x5 R6 bx5
              refine lv_istore_n (lv' := [(2, .int x5), (1, .int 1), (0, .ref (ad 0))]) (pc := 27) hx hb dzM_watchBarriers_27 rfl hl (by decide) rfl (fun ls hl => ?_)
              refine lv_aload_n (pc := 28) hx hb dzM_watchBarriers_28 rfl (lv_at hl 2 rfl) ?_
              refine xk_get (pc := 29) hx hb hts hown hK hP ffzM_59 0 rfl rfl dzM_watchBarriers_29 ?_
              refine lv_iload_n (pc := 32) hx hb dzM_watchBarriers_32 rfl (lv_at hl 1 rfl) ?_
              refine lv_aload_n (pc := 33) hx hb dzM_watchBarriers_33 rfl (lv_at hl 2 rfl) ?_
              refine xk_get (pc := 34) hx hb hts hown hK hP ffzM_50 0 rfl rfl dzM_watchBarriers_34 ?_
              refine lv_iload_n (pc := 37) hx hb dzM_watchBarriers_37 rfl (lv_at hl 1 rfl) ?_
              refine xk_iald (q0 := 14) (t0 := 0) (j := 1) (pc := 38) hx hb hK hP rfl rfl (pk_in 1 2 (by decide)) (pk_cl 1) dzM_watchBarriers_38 ?_
              have K7 : ∀ (x6 : Int32), (if ((g7 14) 1) = 0 then (x6 = ((g7 17) 1) + 1) else (x6 = 0)) → W p l e xk_r1 s m args below meth c H locs 0 0 Q (F0 m 54 ls [.int x6, .int 1, .ref (ad 17)]) := by
                intro x6 R7
                refine xk_iast (q0 := 17) (t0 := 0) (j := 1) (pc := 54) hx hb hK hP hD hS rfl rfl (pk_in 1 2 (by decide)) (pk_cl 1) dzM_watchBarriers_54 (fun H locs hP hD hS => ?_)
                obtain ⟨g8, eg8⟩ : ∃ z : xk_St, z = va_up g7 17 (upd (g7 17) 1 x6) := ⟨_, rfl⟩
                have hP : va_P G xk_cls (xk_wM ad ac g8) H := by rw [eg8]; exact hP
                have hD : va_D A (xk_wM ad ac g8) := by rw [eg8]; exact hD
                have Ig8 : xk_cnt (B + 1) g8 := by rw [eg8]; repeat (first | exact Ig7 | refine xk_cnt_k (by decide) ?_ | refine xk_cnt_f (by decide) ?_ | refine xk_cnt_s ?_)
                refine lv_aload_n (pc := 55) hx hb dzM_watchBarriers_55 rfl (lv_at hl 2 rfl) ?_
                refine xk_get (pc := 56) hx hb hts hown hK hP ffzM_62 0 rfl rfl dzM_watchBarriers_56 ?_
                refine lv_iload_n (pc := 59) hx hb dzM_watchBarriers_59 rfl (lv_at hl 1 rfl) ?_
                refine lv_aload_n (pc := 60) hx hb dzM_watchBarriers_60 rfl (lv_at hl 2 rfl) ?_
                refine xk_get (pc := 61) hx hb hts hown hK hP ffzM_56 0 rfl rfl dzM_watchBarriers_61 ?_
                refine lv_iload_n (pc := 64) hx hb dzM_watchBarriers_64 rfl (lv_at hl 1 rfl) ?_
                refine xk_iald (q0 := 16) (t0 := 0) (j := 1) (pc := 65) hx hb hK hP rfl rfl (pk_in 1 2 (by decide)) (pk_cl 1) dzM_watchBarriers_65 ?_
                have K8 : ∀ (x7 : Int32), (if ((g8 16) 1) = 0 then (x7 = 0) else (if x5 = 0 then (x7 = 0) else (x7 = ((g8 18) 1) + 1))) → W p l e xk_r1 s m args below meth c H locs 0 0 Q (F0 m 85 ls [.int x7, .int 1, .ref (ad 18)]) := by
                  intro x7 R8
                  refine xk_iast (q0 := 18) (t0 := 0) (j := 1) (pc := 85) hx hb hK hP hD hS rfl rfl (pk_in 1 2 (by decide)) (pk_cl 1) dzM_watchBarriers_85 (fun H locs hP hD hS => ?_)
                  obtain ⟨g9, eg9⟩ : ∃ z : xk_St, z = va_up g8 18 (upd (g8 18) 1 x7) := ⟨_, rfl⟩
                  have hP : va_P G xk_cls (xk_wM ad ac g9) H := by rw [eg9]; exact hP
                  have hD : va_D A (xk_wM ad ac g9) := by rw [eg9]; exact hD
                  have Ig9 : xk_cnt (B + 1) g9 := by rw [eg9]; repeat (first | exact Ig8 | refine xk_cnt_k (by decide) ?_ | refine xk_cnt_f (by decide) ?_ | refine xk_cnt_s ?_)
                  refine lv_aload_n (pc := 86) hx hb dzM_watchBarriers_86 rfl (lv_at hl 2 rfl) ?_
                  refine xk_get (pc := 87) hx hb hts hown hK hP ffzM_62 0 rfl rfl dzM_watchBarriers_87 ?_
                  refine lv_iload_n (pc := 90) hx hb dzM_watchBarriers_90 rfl (lv_at hl 1 rfl) ?_
                  refine xk_iald (q0 := 18) (t0 := 0) (j := 1) (pc := 91) hx hb hK hP rfl rfl (pk_in 1 2 (by decide)) (pk_cl 1) dzM_watchBarriers_91 ?_
                  refine lv_bipush (v := 61) (pc := 92) hx hb dzM_watchBarriers_92 (by decide) ?_
                  have K9 : ∀ (g12 : xk_St) (H : Heap) (locs : List Loc), (if ((g9 18) 1) < 61 then (g12 = g9) else (if ((g9 19) 1) = 0 then (∃ (g10 : xk_St), g10 = va_up g9 19 (upd (g9 19) 1 1) ∧ (∃ (g11 : xk_St), relzM_note g10 6 1 g11 ∧ (g12 = g11))) else (g12 = g9))) → (xk_cnt (B + 2) g12) → (va_P G xk_cls (xk_wM ad ac g12) H) → (va_D A (xk_wM ad ac g12)) → (va_S A s.heap H locs) → W p l e xk_r1 s m args below meth c H locs 0 0 Q (F0 m 120 ls []) := by
                    intro g12 H locs R9 Ig12 hP hD hS
                    refine lv_aload_n (pc := 120) hx hb dzM_watchBarriers_120 rfl (lv_at hl 2 rfl) ?_
                    refine xk_get (pc := 121) hx hb hts hown hK hP ffzM_65 0 rfl rfl dzM_watchBarriers_121 ?_
                    refine lv_iload_n (pc := 124) hx hb dzM_watchBarriers_124 rfl (lv_at hl 1 rfl) ?_
                    refine lv_aload_n (pc := 125) hx hb dzM_watchBarriers_125 rfl (lv_at hl 2 rfl) ?_
                    refine xk_get (pc := 126) hx hb hts hown hK hP ffzM_65 0 rfl rfl dzM_watchBarriers_126 ?_
                    refine lv_iload_n (pc := 129) hx hb dzM_watchBarriers_129 rfl (lv_at hl 1 rfl) ?_
                    refine xk_zald (q0 := 19) (t0 := 1) (j := 1) (pc := 130) hx hb hK hP rfl rfl (pk_in 1 2 (by decide)) (pk_cl 1) dzM_watchBarriers_130 ?_
                    have K10 : ∀ (x8 : Int32), (if ((g12 19) 1) = 0 then (x8 = 0) else (if x5 = 0 then (x8 = 0) else (x8 = 1))) → (xk_b x8) → W p l e xk_r1 s m args below meth c H locs 0 0 Q (F0 m 143 ls [.int x8, .int 1, .ref (ad 19)]) := by
                      intro x8 R10 bx8
                      refine xk_zast (q0 := 19) (t0 := 1) (j := 1) (pc := 143) hx hb hK hP hD hS rfl rfl (pk_in 1 2 (by decide)) (pk_cl 1) bx8 dzM_watchBarriers_143 (fun H locs hP hD hS => ?_)
                      obtain ⟨g13, eg13⟩ : ∃ z : xk_St, z = va_up g12 19 (upd (g12 19) 1 x8) := ⟨_, rfl⟩
                      have hP : va_P G xk_cls (xk_wM ad ac g13) H := by rw [eg13]; exact hP
                      have hD : va_D A (xk_wM ad ac g13) := by rw [eg13]; exact hD
                      have Ig13 : xk_cnt (B + 2) g13 := by rw [eg13]; repeat (first | exact Ig12 | refine xk_cnt_k (by decide) ?_ | refine xk_cnt_f (by decide) ?_ | refine xk_cnt_s ?_)
                      refine lv_aload_n (pc := 144) hx hb dzM_watchBarriers_144 rfl (lv_at hl 2 rfl) ?_
                      refine xk_get (pc := 145) hx hb hts hown hK hP ffzM_53 0 rfl rfl dzM_watchBarriers_145 ?_
                      refine lv_iload_n (pc := 148) hx hb dzM_watchBarriers_148 rfl (lv_at hl 1 rfl) ?_
                      refine lv_aload_n (pc := 149) hx hb dzM_watchBarriers_149 rfl (lv_at hl 2 rfl) ?_
                      refine xk_get (pc := 150) hx hb hts hown hK hP ffzM_50 0 rfl rfl dzM_watchBarriers_150 ?_
                      refine lv_iload_n (pc := 153) hx hb dzM_watchBarriers_153 rfl (lv_at hl 1 rfl) ?_
                      refine xk_iald (q0 := 14) (t0 := 0) (j := 1) (pc := 154) hx hb hK hP rfl rfl (pk_in 1 2 (by decide)) (pk_cl 1) dzM_watchBarriers_154 ?_
                      refine xk_iast (q0 := 15) (t0 := 0) (j := 1) (pc := 155) hx hb hK hP hD hS rfl rfl (pk_in 1 2 (by decide)) (pk_cl 1) dzM_watchBarriers_155 (fun H locs hP hD hS => ?_)
                      obtain ⟨g14, eg14⟩ : ∃ z : xk_St, z = va_up g13 15 (upd (g13 15) 1 ((g13 14) 1)) := ⟨_, rfl⟩
                      have hP : va_P G xk_cls (xk_wM ad ac g14) H := by rw [eg14]; exact hP
                      have hD : va_D A (xk_wM ad ac g14) := by rw [eg14]; exact hD
                      have Ig14 : xk_cnt (B + 2) g14 := by rw [eg14]; repeat (first | exact Ig13 | refine xk_cnt_k (by decide) ?_ | refine xk_cnt_f (by decide) ?_ | refine xk_cnt_s ?_)
                      refine lv_iinc (k := 1) (x := 1) (v := 2) (lv' := [(1, .int 2), (2, .int x5), (0, .ref (ad 0))]) (pc := 156) hx hb dzM_watchBarriers_156 hl rfl (by decide) (by decide) rfl (fun ls hl => ?_)
                      refine lv_goto (tgt := 2) (pc := 159) hx hb dzM_watchBarriers_159 (by decide) ?_
                      refine lv_iload_n (pc := 2) hx hb dzM_watchBarriers_2 rfl (lv_at hl 0 rfl) ?_
                      refine lv_iconst (v := 2) (pc := 3) hx hb dzM_watchBarriers_3 (by decide) ?_
                      refine lv_icmp_ge (pc := 4) (tgt := 162) hx hb dzM_watchBarriers_4 (by decide) (fun _ => ?_) (fun hq9 => absurd (by decide) hq9)
                      exact hret g14 H locs 162 ls hP hS (by unfold relzM_watchBarriers; exact ⟨x1, R1, ⟨x2, R2, ⟨g1, eg1, ⟨x3, R3, ⟨g2, eg2, ⟨g5, R4, ⟨x4, R5, ⟨g6, eg6, ⟨g7, eg7, ⟨x5, R6, ⟨x6, R7, ⟨g8, eg8, ⟨x7, R8, ⟨g9, eg9, ⟨g12, R9, ⟨x8, R10, ⟨g13, eg13, ⟨g14, eg14, rfl⟩⟩⟩⟩⟩⟩⟩⟩⟩⟩⟩⟩⟩⟩⟩⟩⟩⟩) dzM_watchBarriers_162
                    refine lv_if_eq (pc := 131) (tgt := 142) hx hb dzM_watchBarriers_131 (by decide) (fun h15 => ?_) (fun h15 => ?_)
                    ·
                      refine lv_iconst (v := 0) (pc := 142) hx hb dzM_watchBarriers_142 (by decide) ?_
                      exact K10 0 (Eq.mpr (if_pos h15) rfl) xk_b0
                    ·
                      refine lv_iload_n (pc := 134) hx hb dzM_watchBarriers_134 rfl (lv_at hl 0 rfl) ?_
                      refine lv_if_eq (pc := 135) (tgt := 142) hx hb dzM_watchBarriers_135 (by decide) (fun h16 => ?_) (fun h16 => ?_)
                      ·
                        refine lv_iconst (v := 0) (pc := 142) hx hb dzM_watchBarriers_142 (by decide) ?_
                        exact K10 0 (Eq.mpr (if_neg h15) (Eq.mpr (if_pos h16) rfl)) xk_b0
                      ·
                        refine lv_iconst (v := 1) (pc := 138) hx hb dzM_watchBarriers_138 (by decide) ?_
                        refine lv_goto (tgt := 143) (pc := 139) hx hb dzM_watchBarriers_139 (by decide) ?_
                        exact K10 1 (Eq.mpr (if_neg h15) (Eq.mpr (if_neg h16) rfl)) xk_b1
                  refine lv_icmp_lt (pc := 94) (tgt := 120) hx hb dzM_watchBarriers_94 (by decide) (fun h13 => ?_) (fun h13 => ?_)
                  ·
                    exact K9 g9 H locs (Eq.mpr (if_pos h13) rfl) (xk_cnt_le Ig9 (by omega)) hP hD hS
                  ·
                    refine lv_aload_n (pc := 97) hx hb dzM_watchBarriers_97 rfl (lv_at hl 2 rfl) ?_
                    refine xk_get (pc := 98) hx hb hts hown hK hP ffzM_65 0 rfl rfl dzM_watchBarriers_98 ?_
                    refine lv_iload_n (pc := 101) hx hb dzM_watchBarriers_101 rfl (lv_at hl 1 rfl) ?_
                    refine xk_zald (q0 := 19) (t0 := 1) (j := 1) (pc := 102) hx hb hK hP rfl rfl (pk_in 1 2 (by decide)) (pk_cl 1) dzM_watchBarriers_102 ?_
                    refine lv_if_ne (pc := 103) (tgt := 120) hx hb dzM_watchBarriers_103 (by decide) (fun h14 => ?_) (fun h14 => ?_)
                    ·
                      exact K9 g9 H locs (Eq.mpr (if_neg h13) (Eq.mpr (if_neg h14) rfl)) (xk_cnt_le Ig9 (by omega)) hP hD hS
                    ·
                      refine lv_aload_n (pc := 106) hx hb dzM_watchBarriers_106 rfl (lv_at hl 2 rfl) ?_
                      refine xk_get (pc := 107) hx hb hts hown hK hP ffzM_65 0 rfl rfl dzM_watchBarriers_107 ?_
                      refine lv_iload_n (pc := 110) hx hb dzM_watchBarriers_110 rfl (lv_at hl 1 rfl) ?_
                      refine lv_iconst (v := 1) (pc := 111) hx hb dzM_watchBarriers_111 (by decide) ?_
                      refine xk_zast (q0 := 19) (t0 := 1) (j := 1) (pc := 112) hx hb hK hP hD hS rfl rfl (pk_in 1 2 (by decide)) (pk_cl 1) xk_b1 dzM_watchBarriers_112 (fun H locs hP hD hS => ?_)
                      obtain ⟨g10, eg10⟩ : ∃ z : xk_St, z = va_up g9 19 (upd (g9 19) 1 1) := ⟨_, rfl⟩
                      have hP : va_P G xk_cls (xk_wM ad ac g10) H := by rw [eg10]; exact hP
                      have hD : va_D A (xk_wM ad ac g10) := by rw [eg10]; exact hD
                      have Ig10 : xk_cnt (B + 1) g10 := by rw [eg10]; repeat (first | exact Ig9 | refine xk_cnt_k (by decide) ?_ | refine xk_cnt_f (by decide) ?_ | refine xk_cnt_s ?_)
                      refine lv_aload_n (pc := 113) hx hb dzM_watchBarriers_113 rfl (lv_at hl 2 rfl) ?_
                      refine lv_bipush (v := 6) (pc := 114) hx hb dzM_watchBarriers_114 (by decide) ?_
                      refine lv_iload_n (pc := 116) hx hb dzM_watchBarriers_116 rfl (lv_at hl 1 rfl) ?_
                      refine xk_allVV (As := [.int 6, .int 1]) (rest := []) (H0 := s.heap) (pc := 117) hx hb hml hts hown hK hA hP hD hS (kzM_note l G ac ad g10 6 1 (B + 1) Ig10 (by omega)) vfzM_106 (fun _ => rfl) 0 rfl rfl ⟨rfl, rfl⟩ ⟨Nat.le_of_ble_eq_true rfl, Nat.le_of_ble_eq_true rfl⟩ rfl hl.1 rfl (Nat.le_of_ble_eq_true rfl) ⟨Nat.zero_le _, Nat.zero_le _⟩ dzM_watchBarriers_117 (fun g11 H locs hg11 hP hD hS => ?_)
                      have hP : va_P G xk_cls (xk_wM ad ac g11) H := hP
                      have hD : va_D A (xk_wM ad ac g11) := hD
                      have Ig11 : xk_cnt (B + 2) g11 := xk_cnt_le (iczM_note (B + 1) _ _ _ _ hg11 Ig10) (by omega)
                      exact K9 g11 H locs (Eq.mpr (if_neg h13) (Eq.mpr (if_pos h14) ⟨g10, eg10, ⟨g11, hg11, rfl⟩⟩)) (xk_cnt_le Ig11 (by omega)) hP hD hS
                refine lv_if_eq (pc := 66) (tgt := 84) hx hb dzM_watchBarriers_66 (by decide) (fun h11 => ?_) (fun h11 => ?_)
                ·
                  refine lv_iconst (v := 0) (pc := 84) hx hb dzM_watchBarriers_84 (by decide) ?_
                  exact K8 0 (Eq.mpr (if_pos h11) rfl)
                ·
                  refine lv_iload_n (pc := 69) hx hb dzM_watchBarriers_69 rfl (lv_at hl 0 rfl) ?_
                  refine lv_if_eq (pc := 70) (tgt := 84) hx hb dzM_watchBarriers_70 (by decide) (fun h12 => ?_) (fun h12 => ?_)
                  ·
                    refine lv_iconst (v := 0) (pc := 84) hx hb dzM_watchBarriers_84 (by decide) ?_
                    exact K8 0 (Eq.mpr (if_neg h11) (Eq.mpr (if_pos h12) rfl))
                  ·
                    refine lv_aload_n (pc := 73) hx hb dzM_watchBarriers_73 rfl (lv_at hl 2 rfl) ?_
                    refine xk_get (pc := 74) hx hb hts hown hK hP ffzM_62 0 rfl rfl dzM_watchBarriers_74 ?_
                    refine lv_iload_n (pc := 77) hx hb dzM_watchBarriers_77 rfl (lv_at hl 1 rfl) ?_
                    refine xk_iald (q0 := 18) (t0 := 0) (j := 1) (pc := 78) hx hb hK hP rfl rfl (pk_in 1 2 (by decide)) (pk_cl 1) dzM_watchBarriers_78 ?_
                    refine lv_iconst (v := 1) (pc := 79) hx hb dzM_watchBarriers_79 (by decide) ?_
                    refine lv_iadd (pc := 80) hx hb dzM_watchBarriers_80 ?_
                    refine lv_goto (tgt := 85) (pc := 81) hx hb dzM_watchBarriers_81 (by decide) ?_
                    exact K8 (((g8 18) 1) + 1) (Eq.mpr (if_neg h11) (Eq.mpr (if_neg h12) rfl))
              refine lv_if_ne (pc := 39) (tgt := 53) hx hb dzM_watchBarriers_39 (by decide) (fun h10 => ?_) (fun h10 => ?_)
              ·
                refine lv_iconst (v := 0) (pc := 53) hx hb dzM_watchBarriers_53 (by decide) ?_
                exact K7 0 (Eq.mpr (if_neg h10) rfl)
              ·
                refine lv_aload_n (pc := 42) hx hb dzM_watchBarriers_42 rfl (lv_at hl 2 rfl) ?_
                refine xk_get (pc := 43) hx hb hts hown hK hP ffzM_59 0 rfl rfl dzM_watchBarriers_43 ?_
                refine lv_iload_n (pc := 46) hx hb dzM_watchBarriers_46 rfl (lv_at hl 1 rfl) ?_
                refine xk_iald (q0 := 17) (t0 := 0) (j := 1) (pc := 47) hx hb hK hP rfl rfl (pk_in 1 2 (by decide)) (pk_cl 1) dzM_watchBarriers_47 ?_
                refine lv_iconst (v := 1) (pc := 48) hx hb dzM_watchBarriers_48 (by decide) ?_
                refine lv_iadd (pc := 49) hx hb dzM_watchBarriers_49 ?_
                refine lv_goto (tgt := 54) (pc := 50) hx hb dzM_watchBarriers_50 (by decide) ?_
                exact K7 (((g7 17) 1) + 1) (Eq.mpr (if_pos h10) rfl)
            refine lv_icmp_ne (pc := 19) (tgt := 26) hx hb dzM_watchBarriers_19 (by decide) (fun h9 => ?_) (fun h9 => ?_)
            ·
              refine lv_iconst (v := 0) (pc := 26) hx hb dzM_watchBarriers_26 (by decide) ?_
              exact K6 0 (Eq.mpr (if_neg h9) rfl) xk_b0
            ·
              refine lv_iconst (v := 1) (pc := 22) hx hb dzM_watchBarriers_22 (by decide) ?_
              refine lv_goto (tgt := 27) (pc := 23) hx hb dzM_watchBarriers_23 (by decide) ?_
              exact K6 1 (Eq.mpr (if_pos h9) rfl) xk_b1
          refine lv_if_eq (pc := 131) (tgt := 142) hx hb dzM_watchBarriers_131 (by decide) (fun h7 => ?_) (fun h7 => ?_)
          ·
            refine lv_iconst (v := 0) (pc := 142) hx hb dzM_watchBarriers_142 (by decide) ?_
            exact K5 0 (Eq.mpr (if_pos h7) rfl) xk_b0
          ·
            refine lv_iload_n (pc := 134) hx hb dzM_watchBarriers_134 rfl (lv_at hl 0 rfl) ?_
            refine lv_if_eq (pc := 135) (tgt := 142) hx hb dzM_watchBarriers_135 (by decide) (fun h8 => ?_) (fun h8 => ?_)
            ·
              refine lv_iconst (v := 0) (pc := 142) hx hb dzM_watchBarriers_142 (by decide) ?_
              exact K5 0 (Eq.mpr (if_neg h7) (Eq.mpr (if_pos h8) rfl)) xk_b0
            ·
              refine lv_iconst (v := 1) (pc := 138) hx hb dzM_watchBarriers_138 (by decide) ?_
              refine lv_goto (tgt := 143) (pc := 139) hx hb dzM_watchBarriers_139 (by decide) ?_
              exact K5 1 (Eq.mpr (if_neg h7) (Eq.mpr (if_neg h8) rfl)) xk_b1
        refine lv_icmp_lt (pc := 94) (tgt := 120) hx hb dzM_watchBarriers_94 (by decide) (fun h5 => ?_) (fun h5 => ?_)
        ·
          exact K4 g2 H locs (Eq.mpr (if_pos h5) rfl) (xk_cnt_le Ig2 (by omega)) hP hD hS
        ·
          refine lv_aload_n (pc := 97) hx hb dzM_watchBarriers_97 rfl (lv_at hl 2 rfl) ?_
          refine xk_get (pc := 98) hx hb hts hown hK hP ffzM_65 0 rfl rfl dzM_watchBarriers_98 ?_
          refine lv_iload_n (pc := 101) hx hb dzM_watchBarriers_101 rfl (lv_at hl 1 rfl) ?_
          refine xk_zald (q0 := 19) (t0 := 1) (j := 0) (pc := 102) hx hb hK hP rfl rfl (pk_in 0 2 (by decide)) (pk_cl 0) dzM_watchBarriers_102 ?_
          refine lv_if_ne (pc := 103) (tgt := 120) hx hb dzM_watchBarriers_103 (by decide) (fun h6 => ?_) (fun h6 => ?_)
          ·
            exact K4 g2 H locs (Eq.mpr (if_neg h5) (Eq.mpr (if_neg h6) rfl)) (xk_cnt_le Ig2 (by omega)) hP hD hS
          ·
            refine lv_aload_n (pc := 106) hx hb dzM_watchBarriers_106 rfl (lv_at hl 2 rfl) ?_
            refine xk_get (pc := 107) hx hb hts hown hK hP ffzM_65 0 rfl rfl dzM_watchBarriers_107 ?_
            refine lv_iload_n (pc := 110) hx hb dzM_watchBarriers_110 rfl (lv_at hl 1 rfl) ?_
            refine lv_iconst (v := 1) (pc := 111) hx hb dzM_watchBarriers_111 (by decide) ?_
            refine xk_zast (q0 := 19) (t0 := 1) (j := 0) (pc := 112) hx hb hK hP hD hS rfl rfl (pk_in 0 2 (by decide)) (pk_cl 0) xk_b1 dzM_watchBarriers_112 (fun H locs hP hD hS => ?_)
            obtain ⟨g3, eg3⟩ : ∃ z : xk_St, z = va_up g2 19 (upd (g2 19) 0 1) := ⟨_, rfl⟩
            have hP : va_P G xk_cls (xk_wM ad ac g3) H := by rw [eg3]; exact hP
            have hD : va_D A (xk_wM ad ac g3) := by rw [eg3]; exact hD
            have Ig3 : xk_cnt (B + 0) g3 := by rw [eg3]; repeat (first | exact Ig2 | refine xk_cnt_k (by decide) ?_ | refine xk_cnt_f (by decide) ?_ | refine xk_cnt_s ?_)
            refine lv_aload_n (pc := 113) hx hb dzM_watchBarriers_113 rfl (lv_at hl 2 rfl) ?_
            refine lv_bipush (v := 6) (pc := 114) hx hb dzM_watchBarriers_114 (by decide) ?_
            refine lv_iload_n (pc := 116) hx hb dzM_watchBarriers_116 rfl (lv_at hl 1 rfl) ?_
            refine xk_allVV (As := [.int 6, .int 0]) (rest := []) (H0 := s.heap) (pc := 117) hx hb hml hts hown hK hA hP hD hS (kzM_note l G ac ad g3 6 0 (B + 0) Ig3 (by omega)) vfzM_106 (fun _ => rfl) 0 rfl rfl ⟨rfl, rfl⟩ ⟨Nat.le_of_ble_eq_true rfl, Nat.le_of_ble_eq_true rfl⟩ rfl hl.1 rfl (Nat.le_of_ble_eq_true rfl) ⟨Nat.zero_le _, Nat.zero_le _⟩ dzM_watchBarriers_117 (fun g4 H locs hg4 hP hD hS => ?_)
            have hP : va_P G xk_cls (xk_wM ad ac g4) H := hP
            have hD : va_D A (xk_wM ad ac g4) := hD
            have Ig4 : xk_cnt (B + 1) g4 := xk_cnt_le (iczM_note (B + 0) _ _ _ _ hg4 Ig3) (by omega)
            exact K4 g4 H locs (Eq.mpr (if_neg h5) (Eq.mpr (if_pos h6) ⟨g3, eg3, ⟨g4, hg4, rfl⟩⟩)) (xk_cnt_le Ig4 (by omega)) hP hD hS
      refine lv_if_eq (pc := 66) (tgt := 84) hx hb dzM_watchBarriers_66 (by decide) (fun h3 => ?_) (fun h3 => ?_)
      ·
        refine lv_iconst (v := 0) (pc := 84) hx hb dzM_watchBarriers_84 (by decide) ?_
        exact K3 0 (Eq.mpr (if_pos h3) rfl)
      ·
        refine lv_iload_n (pc := 69) hx hb dzM_watchBarriers_69 rfl (lv_at hl 0 rfl) ?_
        refine lv_if_eq (pc := 70) (tgt := 84) hx hb dzM_watchBarriers_70 (by decide) (fun h4 => ?_) (fun h4 => ?_)
        ·
          refine lv_iconst (v := 0) (pc := 84) hx hb dzM_watchBarriers_84 (by decide) ?_
          exact K3 0 (Eq.mpr (if_neg h3) (Eq.mpr (if_pos h4) rfl))
        ·
          refine lv_aload_n (pc := 73) hx hb dzM_watchBarriers_73 rfl (lv_at hl 2 rfl) ?_
          refine xk_get (pc := 74) hx hb hts hown hK hP ffzM_62 0 rfl rfl dzM_watchBarriers_74 ?_
          refine lv_iload_n (pc := 77) hx hb dzM_watchBarriers_77 rfl (lv_at hl 1 rfl) ?_
          refine xk_iald (q0 := 18) (t0 := 0) (j := 0) (pc := 78) hx hb hK hP rfl rfl (pk_in 0 2 (by decide)) (pk_cl 0) dzM_watchBarriers_78 ?_
          refine lv_iconst (v := 1) (pc := 79) hx hb dzM_watchBarriers_79 (by decide) ?_
          refine lv_iadd (pc := 80) hx hb dzM_watchBarriers_80 ?_
          refine lv_goto (tgt := 85) (pc := 81) hx hb dzM_watchBarriers_81 (by decide) ?_
          exact K3 (((g1 18) 0) + 1) (Eq.mpr (if_neg h3) (Eq.mpr (if_neg h4) rfl))
    refine lv_if_ne (pc := 39) (tgt := 53) hx hb dzM_watchBarriers_39 (by decide) (fun h2 => ?_) (fun h2 => ?_)
    ·
      refine lv_iconst (v := 0) (pc := 53) hx hb dzM_watchBarriers_53 (by decide) ?_
      exact K2 0 (Eq.mpr (if_neg h2) rfl)
    ·
      refine lv_aload_n (pc := 42) hx hb dzM_watchBarriers_42 rfl (lv_at hl 2 rfl) ?_
      refine xk_get (pc := 43) hx hb hts hown hK hP ffzM_59 0 rfl rfl dzM_watchBarriers_43 ?_
      refine lv_iload_n (pc := 46) hx hb dzM_watchBarriers_46 rfl (lv_at hl 1 rfl) ?_
      refine xk_iald (q0 := 17) (t0 := 0) (j := 0) (pc := 47) hx hb hK hP rfl rfl (pk_in 0 2 (by decide)) (pk_cl 0) dzM_watchBarriers_47 ?_
      refine lv_iconst (v := 1) (pc := 48) hx hb dzM_watchBarriers_48 (by decide) ?_
      refine lv_iadd (pc := 49) hx hb dzM_watchBarriers_49 ?_
      refine lv_goto (tgt := 54) (pc := 50) hx hb dzM_watchBarriers_50 (by decide) ?_
      exact K2 (((g0 17) 0) + 1) (Eq.mpr (if_pos h2) rfl)
  refine lv_icmp_ne (pc := 19) (tgt := 26) hx hb dzM_watchBarriers_19 (by decide) (fun h1 => ?_) (fun h1 => ?_)
  ·
    refine lv_iconst (v := 0) (pc := 26) hx hb dzM_watchBarriers_26 (by decide) ?_
    exact K1 0 (Eq.mpr (if_neg h1) rfl) xk_b0
  ·
    refine lv_iconst (v := 1) (pc := 22) hx hb dzM_watchBarriers_22 (by decide) ?_
    refine lv_goto (tgt := 27) (pc := 23) hx hb dzM_watchBarriers_23 (by decide) ?_
    exact K1 1 (Eq.mpr (if_pos h1) rfl) xk_b1
theorem frzM_watchBarriers (g0 : xk_St) (gz : xk_St) : relzM_watchBarriers g0 gz → xk_eqv [1, 2, 3, 4, 5, 6, 7, 8, 9, 10, 11, 12, 13, 14, 16, 20, 21, 22, 23, 24] g0 gz := by
  intro h
  unfold relzM_watchBarriers at h
  have s0 : xk_eqv [1, 2, 3, 4, 5, 6, 7, 8, 9, 10, 11, 12, 13, 14, 16, 20, 21, 22, 23, 24] g0 g0 := xk_eqv_rf
  obtain ⟨x1, u1, v2⟩ := h
  obtain ⟨x2, u3, v4⟩ := v2
  obtain ⟨g1, u5, v6⟩ := v4
  have s7 : xk_eqv [1, 2, 3, 4, 5, 6, 7, 8, 9, 10, 11, 12, 13, 14, 16, 20, 21, 22, 23, 24] g0 g1 := by rw [u5]; repeat (first | exact s0 | refine xk_eqv_up (by decide) ?_)
  obtain ⟨x3, u8, v9⟩ := v6
  obtain ⟨g2, u10, v11⟩ := v9
  have s12 : xk_eqv [1, 2, 3, 4, 5, 6, 7, 8, 9, 10, 11, 12, 13, 14, 16, 20, 21, 22, 23, 24] g0 g2 := by rw [u10]; repeat (first | exact s7 | refine xk_eqv_up (by decide) ?_)
  obtain ⟨g5, u13, v14⟩ := v11
  have s15 : xk_eqv [1, 2, 3, 4, 5, 6, 7, 8, 9, 10, 11, 12, 13, 14, 16, 20, 21, 22, 23, 24] g0 g5 := by
    by_cases hc : ((g2 18) 0) < 61
    · rw [if_pos hc] at u13
      rw [u13]; exact s12
    · rw [if_neg hc] at u13
      by_cases hc : ((g2 19) 0) = 0
      · rw [if_pos hc] at u13
        obtain ⟨g3, u16, v17⟩ := u13
        have s18 : xk_eqv [1, 2, 3, 4, 5, 6, 7, 8, 9, 10, 11, 12, 13, 14, 16, 20, 21, 22, 23, 24] g0 g3 := by rw [u16]; repeat (first | exact s12 | refine xk_eqv_up (by decide) ?_)
        obtain ⟨g4, u19, v20⟩ := v17
        have s21 : xk_eqv [1, 2, 3, 4, 5, 6, 7, 8, 9, 10, 11, 12, 13, 14, 16, 20, 21, 22, 23, 24] g0 g4 := xk_eqv_tr s18 (xk_eqv_sub (frzM_note _ _ _ _ u19) (by decide))
        rw [v20]; exact s21
      · rw [if_neg hc] at u13
        rw [u13]; exact s12
  obtain ⟨x4, u22, v23⟩ := v14
  obtain ⟨g6, u24, v25⟩ := v23
  have s26 : xk_eqv [1, 2, 3, 4, 5, 6, 7, 8, 9, 10, 11, 12, 13, 14, 16, 20, 21, 22, 23, 24] g0 g6 := by rw [u24]; repeat (first | exact s15 | refine xk_eqv_up (by decide) ?_)
  obtain ⟨g7, u27, v28⟩ := v25
  have s29 : xk_eqv [1, 2, 3, 4, 5, 6, 7, 8, 9, 10, 11, 12, 13, 14, 16, 20, 21, 22, 23, 24] g0 g7 := by rw [u27]; repeat (first | exact s26 | refine xk_eqv_up (by decide) ?_)
  obtain ⟨x5, u30, v31⟩ := v28
  obtain ⟨x6, u32, v33⟩ := v31
  obtain ⟨g8, u34, v35⟩ := v33
  have s36 : xk_eqv [1, 2, 3, 4, 5, 6, 7, 8, 9, 10, 11, 12, 13, 14, 16, 20, 21, 22, 23, 24] g0 g8 := by rw [u34]; repeat (first | exact s29 | refine xk_eqv_up (by decide) ?_)
  obtain ⟨x7, u37, v38⟩ := v35
  obtain ⟨g9, u39, v40⟩ := v38
  have s41 : xk_eqv [1, 2, 3, 4, 5, 6, 7, 8, 9, 10, 11, 12, 13, 14, 16, 20, 21, 22, 23, 24] g0 g9 := by rw [u39]; repeat (first | exact s36 | refine xk_eqv_up (by decide) ?_)
  obtain ⟨g12, u42, v43⟩ := v40
  have s44 : xk_eqv [1, 2, 3, 4, 5, 6, 7, 8, 9, 10, 11, 12, 13, 14, 16, 20, 21, 22, 23, 24] g0 g12 := by
    by_cases hc : ((g9 18) 1) < 61
    · rw [if_pos hc] at u42
      rw [u42]; exact s41
    · rw [if_neg hc] at u42
      by_cases hc : ((g9 19) 1) = 0
      · rw [if_pos hc] at u42
        obtain ⟨g10, u45, v46⟩ := u42
        have s47 : xk_eqv [1, 2, 3, 4, 5, 6, 7, 8, 9, 10, 11, 12, 13, 14, 16, 20, 21, 22, 23, 24] g0 g10 := by rw [u45]; repeat (first | exact s41 | refine xk_eqv_up (by decide) ?_)
        obtain ⟨g11, u48, v49⟩ := v46
        have s50 : xk_eqv [1, 2, 3, 4, 5, 6, 7, 8, 9, 10, 11, 12, 13, 14, 16, 20, 21, 22, 23, 24] g0 g11 := xk_eqv_tr s47 (xk_eqv_sub (frzM_note _ _ _ _ u48) (by decide))
        rw [v49]; exact s50
      · rw [if_neg hc] at u42
        rw [u42]; exact s41
  obtain ⟨x8, u51, v52⟩ := v43
  obtain ⟨g13, u53, v54⟩ := v52
  have s55 : xk_eqv [1, 2, 3, 4, 5, 6, 7, 8, 9, 10, 11, 12, 13, 14, 16, 20, 21, 22, 23, 24] g0 g13 := by rw [u53]; repeat (first | exact s44 | refine xk_eqv_up (by decide) ?_)
  obtain ⟨g14, u56, v57⟩ := v54
  have s58 : xk_eqv [1, 2, 3, 4, 5, 6, 7, 8, 9, 10, 11, 12, 13, 14, 16, 20, 21, 22, 23, 24] g0 g14 := by rw [u56]; repeat (first | exact s55 | refine xk_eqv_up (by decide) ?_)
  rw [v57]; exact s58
theorem iczM_watchBarriers (B : Nat) (g0 : xk_St) (gz : xk_St) : relzM_watchBarriers g0 gz → xk_cnt B g0 → xk_cnt (B + 2) gz := by
  intro h Ig0
  unfold relzM_watchBarriers at h
  have Ig0 : xk_cnt (B + 0) g0 := Ig0
  obtain ⟨x1, u1, v2⟩ := h
  obtain ⟨x2, u3, v4⟩ := v2
  obtain ⟨g1, u5, v6⟩ := v4
  have Ig1 : xk_cnt (B + 0) g1 := by rw [u5]; repeat (first | exact Ig0 | refine xk_cnt_k (by decide) ?_ | refine xk_cnt_f (by decide) ?_ | refine xk_cnt_s ?_)
  obtain ⟨x3, u7, v8⟩ := v6
  obtain ⟨g2, u9, v10⟩ := v8
  have Ig2 : xk_cnt (B + 0) g2 := by rw [u9]; repeat (first | exact Ig1 | refine xk_cnt_k (by decide) ?_ | refine xk_cnt_f (by decide) ?_ | refine xk_cnt_s ?_)
  obtain ⟨g5, u11, v12⟩ := v10
  have Ig5 : xk_cnt (B + 1) g5 := by
    by_cases hc : ((g2 18) 0) < 61
    · rw [if_pos hc] at u11
      rw [u11]; exact xk_cnt_le Ig2 (by omega)
    · rw [if_neg hc] at u11
      by_cases hc : ((g2 19) 0) = 0
      · rw [if_pos hc] at u11
        obtain ⟨g3, u13, v14⟩ := u11
        have Ig3 : xk_cnt (B + 0) g3 := by rw [u13]; repeat (first | exact Ig2 | refine xk_cnt_k (by decide) ?_ | refine xk_cnt_f (by decide) ?_ | refine xk_cnt_s ?_)
        obtain ⟨g4, u15, v16⟩ := v14
        have Ig4 : xk_cnt (B + 1) g4 := xk_cnt_le (iczM_note (B + 0) _ _ _ _ u15 Ig3) (by omega)
        rw [v16]; exact xk_cnt_le Ig4 (by omega)
      · rw [if_neg hc] at u11
        rw [u11]; exact xk_cnt_le Ig2 (by omega)
  obtain ⟨x4, u17, v18⟩ := v12
  obtain ⟨g6, u19, v20⟩ := v18
  have Ig6 : xk_cnt (B + 1) g6 := by rw [u19]; repeat (first | exact Ig5 | refine xk_cnt_k (by decide) ?_ | refine xk_cnt_f (by decide) ?_ | refine xk_cnt_s ?_)
  obtain ⟨g7, u21, v22⟩ := v20
  have Ig7 : xk_cnt (B + 1) g7 := by rw [u21]; repeat (first | exact Ig6 | refine xk_cnt_k (by decide) ?_ | refine xk_cnt_f (by decide) ?_ | refine xk_cnt_s ?_)
  obtain ⟨x5, u23, v24⟩ := v22
  obtain ⟨x6, u25, v26⟩ := v24
  obtain ⟨g8, u27, v28⟩ := v26
  have Ig8 : xk_cnt (B + 1) g8 := by rw [u27]; repeat (first | exact Ig7 | refine xk_cnt_k (by decide) ?_ | refine xk_cnt_f (by decide) ?_ | refine xk_cnt_s ?_)
  obtain ⟨x7, u29, v30⟩ := v28
  obtain ⟨g9, u31, v32⟩ := v30
  have Ig9 : xk_cnt (B + 1) g9 := by rw [u31]; repeat (first | exact Ig8 | refine xk_cnt_k (by decide) ?_ | refine xk_cnt_f (by decide) ?_ | refine xk_cnt_s ?_)
  obtain ⟨g12, u33, v34⟩ := v32
  have Ig12 : xk_cnt (B + 2) g12 := by
    by_cases hc : ((g9 18) 1) < 61
    · rw [if_pos hc] at u33
      rw [u33]; exact xk_cnt_le Ig9 (by omega)
    · rw [if_neg hc] at u33
      by_cases hc : ((g9 19) 1) = 0
      · rw [if_pos hc] at u33
        obtain ⟨g10, u35, v36⟩ := u33
        have Ig10 : xk_cnt (B + 1) g10 := by rw [u35]; repeat (first | exact Ig9 | refine xk_cnt_k (by decide) ?_ | refine xk_cnt_f (by decide) ?_ | refine xk_cnt_s ?_)
        obtain ⟨g11, u37, v38⟩ := v36
        have Ig11 : xk_cnt (B + 2) g11 := xk_cnt_le (iczM_note (B + 1) _ _ _ _ u37 Ig10) (by omega)
        rw [v38]; exact xk_cnt_le Ig11 (by omega)
      · rw [if_neg hc] at u33
        rw [u33]; exact xk_cnt_le Ig9 (by omega)
  obtain ⟨x8, u39, v40⟩ := v34
  obtain ⟨g13, u41, v42⟩ := v40
  have Ig13 : xk_cnt (B + 2) g13 := by rw [u41]; repeat (first | exact Ig12 | refine xk_cnt_k (by decide) ?_ | refine xk_cnt_f (by decide) ?_ | refine xk_cnt_s ?_)
  obtain ⟨g14, u43, v44⟩ := v42
  have Ig14 : xk_cnt (B + 2) g14 := by rw [u43]; repeat (first | exact Ig13 | refine xk_cnt_k (by decide) ?_ | refine xk_cnt_f (by decide) ?_ | refine xk_cnt_s ?_)
  rw [v44]; exact xk_cnt_le Ig14 (by omega)

