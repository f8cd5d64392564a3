def qzS_state (a1 : Int32) (a3 : Int32) : Int32 := (if a3 = 0 then (if a1 = 0 then 0 else 1 : Int32) else 2 : Int32)
set_option maxHeartbeats 4000000 in
set_option maxRecDepth 100000 in
theorem kzS_state (l : Launch) (G : va_G) (ac : Nat → ClassId) (oa : Nat) (a0 : Int32) (a1 : Int32) (a2 : Int32) (a3 : Int32) (a4 : Int32) (a5 : Int32) (a6 : Int32) (a7 : Int32) (a8 : Int32) : xk_CI l yzS_state czS_state 1 .int xk_WS xk_r0 G xk_cls (xk_tys ac) [.ref oa] [(oa, .inr (1, [.int a0, .int a1, .int a2, .int a3, .int a4, .int a5, .int a6, .int a7, .int a8]))] (fun r (_ : Unit) => r = qzS_state a1 a3) (fun _ => [(oa, .inr (1, [.int a0, .int a1, .int a2, .int a3, .int a4, .int a5, .int a6, .int a7, .int a8]))]) := by
  refine xk_ofI (by decide) (Nat.le_of_ble_eq_true rfl) ?_
  intro p e s m args below meth c A Q H locs ls C0 hret hP hD hS hl
  obtain ⟨hx, hb, hml, hts, hown, hK, hA⟩ := C0
  have hl : lv_has ls 1 [(0, .ref oa)] := hl
  refine lv_aload_n (pc := 0) hx hb dzS_state_0 rfl (lv_at hl 0 rfl) ?_
  refine xk_get (pc := 1) hx hb hts hown hK hP ffzS_18 0 rfl rfl dzS_state_1 ?_
  refine lv_if_eq (pc := 4) (tgt := 9) hx hb dzS_state_4 (by decide) (fun h1 => ?_) (fun h1 => ?_)
  ·
    refine lv_aload_n (pc := 9) hx hb dzS_state_9 rfl (lv_at hl 0 rfl) ?_
    refine xk_get (pc := 10) hx hb hts hown hK hP ffzS_9 0 rfl rfl dzS_state_10 ?_
    have K1 : W p l e xk_r0 s m args below meth c H locs 0 0 Q (F0 m 21 ls [.int (if a1 = 0 then 0 else 1 : Int32)]) := by
      have jr : qzS_state a1 a3 = (if a1 = 0 then 0 else 1 : Int32) := by unfold qzS_state; (first | rfl | simp only [if_pos h1])
      have hP : va_P G xk_cls [(oa, .inr (1, [.int a0, .int a1, .int a2, .int a3, .int a4, .int a5, .int a6, .int a7, .int a8]))] H := by exact hP
      exact hret _ () H locs 21 ls hP hS rfl jr.symm dzS_state_21
    refine lv_if_eq (pc := 13) (tgt := 20) hx hb dzS_state_13 (by decide) (fun h2 => ?_) (fun h2 => ?_)
    ·
      refine lv_iconst (v := 0) (pc := 20) hx hb dzS_state_20 (by decide) ?_
      have K9 := K1
      try simp only [if_pos h2] at K9
      first | exact K9 | (simp only [if_pos h2]; exact K9)
    ·
      refine lv_iconst (v := 1) (pc := 16) hx hb dzS_state_16 (by decide) ?_
      refine lv_goto (tgt := 21) (pc := 17) hx hb dzS_state_17 (by decide) ?_
      have K9 := K1
      try simp only [if_neg h2] at K9
      first | exact K9 | (simp only [if_neg h2]; exact K9)
  ·
    refine lv_iconst (v := 2) (pc := 7) hx hb dzS_state_7 (by decide) ?_
    have jr : qzS_state a1 a3 = 2 := by unfold qzS_state; (first | rfl | simp only [if_neg h1])
    have hP : va_P G xk_cls [(oa, .inr (1, [.int a0, .int a1, .int a2, .int a3, .int a4, .int a5, .int a6, .int a7, .int a8]))] H := by exact hP
    exact hret _ () H locs 8 ls hP hS rfl jr.symm dzS_state_8
def qzS_rememberBalance_a2 (a1 : Int32) : Int32 := a1
set_option maxHeartbeats 4000000 in
set_option maxRecDepth 100000 in
theorem kzS_rememberBalance (l : Launch) (G : va_G) (ac : Nat → ClassId) (oa : Nat) (a0 : Int32) (a1 : Int32) (a2 : Int32) (a3 : Int32) (a4 : Int32) (a5 : Int32) (a6 : Int32) (a7 : Int32) (a8 : Int32) : xk_CV l yzS_rememberBalance czS_rememberBalance 1 xk_WS xk_r0 G xk_cls (xk_tys ac) [.ref oa] [(oa, .inr (1, [.int a0, .int a1, .int a2, .int a3, .int a4, .int a5, .int a6, .int a7, .int a8]))] (fun _ : Unit => True) (fun _ => [(oa, .inr (1, [.int a0, .int a1, .int (qzS_rememberBalance_a2 a1), .int a3, .int a4, .int a5, .int a6, .int a7, .int a8]))]) := by
  refine xk_ofV (by decide) (Nat.le_of_ble_eq_true rfl) ?_
  intro p e s m args below meth c A Q H locs ls C0 hret hP hD hS hl
  obtain ⟨hx, hb, hml, hts, hown, hK, hA⟩ := C0
  have hl : lv_has ls 1 [(0, .ref oa)] := hl
  refine lv_aload_n (pc := 0) hx hb dzS_rememberBalance_0 rfl (lv_at hl 0 rfl) ?_
  refine lv_aload_n (pc := 1) hx hb dzS_rememberBalance_1 rfl (lv_at hl 0 rfl) ?_
  refine xk_get (pc := 2) hx hb hts hown hK hP ffzS_9 0 rfl rfl dzS_rememberBalance_2 ?_
  refine xk_putf (pc := 5) hx hb hts hown hK hP hD hS pfzS_15 0 rfl rfl rfl (Nat.le_of_ble_eq_true rfl) dzS_rememberBalance_5 (fun H locs hP hD hS => ?_)
  have hP : va_P G xk_cls [(oa, .inr (1, [.int a0, .int a1, .int a1, .int a3, .int a4, .int a5, .int a6, .int a7, .int a8]))] H := hP
  have hD : va_D A [(oa, .inr (1, [.int a0, .int a1, .int a1, .int a3, .int a4, .int a5, .int a6, .int a7, .int a8]))] := hD
  have j0 : qzS_rememberBalance_a2 a1 = a1 := by unfold qzS_rememberBalance_a2; rfl
  have hP : va_P G xk_cls [(oa, .inr (1, [.int a0, .int a1, .int (qzS_rememberBalance_a2 a1), .int a3, .int a4, .int a5, .int a6, .int a7, .int a8]))] H := by rw [j0]; exact hP
  exact hret () H locs 8 ls hP hS trivial dzS_rememberBalance_8
def qzS_countIn_a1 (a1 : Int32) : Int32 := a1 + 1
def qzS_countIn_a5 (a5 : Int32) (k0 : Int32) : Int32 := (if k0 = 1 then a5 + 1 else a5 : Int32)
def qzS_countIn_a7 (a7 : Int32) (k0 : Int32) : Int32 := (if k0 = 1 then a7 else a7 + 1 : Int32)
set_option maxHeartbeats 4000000 in
set_option maxRecDepth 100000 in
theorem kzS_countIn (l : Launch) (G : va_G) (ac : Nat → ClassId) (oa : Nat) (a0 : Int32) (a1 : Int32) (a2 : Int32) (a3 : Int32) (a4 : Int32) (a5 : Int32) (a6 : Int32) (a7 : Int32) (a8 : Int32) (k0 : Int32) : xk_CV l yzS_countIn czS_countIn 2 xk_WS xk_r0 G xk_cls (xk_tys ac) [.ref oa, .int k0] [(oa, .inr (1, [.int a0, .int a1, .int a2, .int a3, .int a4, .int a5, .int a6, .int a7, .int a8]))] (fun _ : Unit => True) (fun _ => [(oa, .inr (1, [.int a0, .int (qzS_countIn_a1 a1), .int a2, .int a3, .int a4, .int (qzS_countIn_a5 a5 k0), .int a6, .int (qzS_countIn_a7 a7 k0), .int a8]))]) := by
  refine xk_ofV (by decide) (Nat.le_of_ble_eq_true rfl) ?_
  intro p e s m args below meth c A Q H locs ls C0 hret hP hD hS hl
  obtain ⟨hx, hb, hml, hts, hown, hK, hA⟩ := C0
  have hl : lv_has ls 2 [(0, .ref oa), (1, .int k0)] := hl
  refine lv_aload_n (pc := 0) hx hb dzS_countIn_0 rfl (lv_at hl 0 rfl) ?_
  refine lv_dup (pc := 1) hx hb dzS_countIn_1 rfl ?_
  refine xk_get (pc := 2) hx hb hts hown hK hP ffzS_9 0 rfl rfl dzS_countIn_2 ?_
  refine lv_iconst (v := 1) (pc := 5) hx hb dzS_countIn_5 (by decide) ?_
  refine lv_iadd (pc := 6) hx hb dzS_countIn_6 ?_
  refine xk_putf (pc := 7) hx hb hts hown hK hP hD hS pfzS_9 0 rfl rfl rfl (Nat.le_of_ble_eq_true rfl) dzS_countIn_7 (fun H locs hP hD hS => ?_)
  have hP : va_P G xk_cls [(oa, .inr (1, [.int a0, .int (a1 + 1), .int a2, .int a3, .int a4, .int a5, .int a6, .int a7, .int a8]))] H := hP
  have hD : va_D A [(oa, .inr (1, [.int a0, .int (a1 + 1), .int a2, .int a3, .int a4, .int a5, .int a6, .int a7, .int a8]))] := hD
  refine lv_iload_n (pc := 10) hx hb dzS_countIn_10 rfl (lv_at hl 1 rfl) ?_
  refine lv_iconst (v := 1) (pc := 11) hx hb dzS_countIn_11 (by decide) ?_
  have K1 : ∀ (H : Heap) (locs : List Loc), (va_P G xk_cls [(oa, .inr (1, [.int a0, .int (a1 + 1), .int a2, .int a3, .int a4, .int (if k0 = 1 then a5 + 1 else a5 : Int32), .int a6, .int (if k0 = 1 then a7 else a7 + 1 : Int32), .int a8]))] H) → (va_D A [(oa, .inr (1, [.int a0, .int (a1 + 1), .int a2, .int a3, .int a4, .int (if k0 = 1 then a5 + 1 else a5 : Int32), .int a6, .int (if k0 = 1 then a7 else a7 + 1 : Int32), .int a8]))]) → (va_S A s.heap H locs) → W p l e xk_r0 s m args below meth c H locs 0 0 Q (F0 m 38 ls []) := by
    intro H locs hP hD hS
    have j0 : qzS_countIn_a1 a1 = a1 + 1 := by unfold qzS_countIn_a1; rfl
    have j1 : qzS_countIn_a5 a5 k0 = (if k0 = 1 then a5 + 1 else a5 : Int32) := by unfold qzS_countIn_a5; rfl
    have j2 : qzS_countIn_a7 a7 k0 = (if k0 = 1 then a7 else a7 + 1 : Int32) := by unfold qzS_countIn_a7; rfl
    have hP : va_P G xk_cls [(oa, .inr (1, [.int a0, .int (qzS_countIn_a1 a1), .int a2, .int a3, .int a4, .int (qzS_countIn_a5 a5 k0), .int a6, .int (qzS_countIn_a7 a7 k0), .int a8]))] H := by rw [j0, j1, j2]; exact hP
    exact hret () H locs 38 ls hP hS trivial dzS_countIn_38
  refine lv_icmp_ne (pc := 12) (tgt := 28) hx hb dzS_countIn_12 (by decide) (fun h1 => ?_) (fun h1 => ?_)
  ·
    refine lv_aload_n (pc := 28) hx hb dzS_countIn_28 rfl (lv_at hl 0 rfl) ?_
    refine lv_dup (pc := 29) hx hb dzS_countIn_29 rfl ?_
    refine xk_get (pc := 30) hx hb hts hown hK hP ffzS_31 0 rfl rfl dzS_countIn_30 ?_
    refine lv_iconst (v := 1) (pc := 33) hx hb dzS_countIn_33 (by decide) ?_
    refine lv_iadd (pc := 34) hx hb dzS_countIn_34 ?_
    refine xk_putf (pc := 35) hx hb hts hown hK hP hD hS pfzS_31 0 rfl rfl rfl (Nat.le_of_ble_eq_true rfl) dzS_countIn_35 (fun H locs hP hD hS => ?_)
    have hP : va_P G xk_cls [(oa, .inr (1, [.int a0, .int (a1 + 1), .int a2, .int a3, .int a4, .int a5, .int a6, .int (a7 + 1), .int a8]))] H := hP
    have hD : va_D A [(oa, .inr (1, [.int a0, .int (a1 + 1), .int a2, .int a3, .int a4, .int a5, .int a6, .int (a7 + 1), .int a8]))] := hD
    have K9 := K1
    try simp only [if_neg h1] at K9
    first | exact K9 H locs hP hD hS | (simp only [if_neg h1] at hP hD; exact K9 H locs hP hD hS) | (simp only [if_neg h1] at hP hD ⊢; exact K9 H locs hP hD hS)
  ·
    refine lv_aload_n (pc := 15) hx hb dzS_countIn_15 rfl (lv_at hl 0 rfl) ?_
    refine lv_dup (pc := 16) hx hb dzS_countIn_16 rfl ?_
    refine xk_get (pc := 17) hx hb hts hown hK hP ffzS_25 0 rfl rfl dzS_countIn_17 ?_
    refine lv_iconst (v := 1) (pc := 20) hx hb dzS_countIn_20 (by decide) ?_
    refine lv_iadd (pc := 21) hx hb dzS_countIn_21 ?_
    refine xk_putf (pc := 22) hx hb hts hown hK hP hD hS pfzS_25 0 rfl rfl rfl (Nat.le_of_ble_eq_true rfl) dzS_countIn_22 (fun H locs hP hD hS => ?_)
    have hP : va_P G xk_cls [(oa, .inr (1, [.int a0, .int (a1 + 1), .int a2, .int a3, .int a4, .int (a5 + 1), .int a6, .int a7, .int a8]))] H := hP
    have hD : va_D A [(oa, .inr (1, [.int a0, .int (a1 + 1), .int a2, .int a3, .int a4, .int (a5 + 1), .int a6, .int a7, .int a8]))] := hD
    refine lv_goto (tgt := 38) (pc := 25) hx hb dzS_countIn_25 (by decide) ?_
    have K9 := K1
    try simp only [if_pos h1] at K9
    first | exact K9 H locs hP hD hS | (simp only [if_pos h1] at hP hD; exact K9 H locs hP hD hS) | (simp only [if_pos h1] at hP hD ⊢; exact K9 H locs hP hD hS)
def qzS_countOut_a1 (a1 : Int32) : Int32 := a1 - 1
def qzS_countOut_a6 (a6 : Int32) (k0 : Int32) : Int32 := (if k0 = 1 then a6 + 1 else a6 : Int32)
def qzS_countOut_a8 (a8 : Int32) (k0 : Int32) : Int32 := (if k0 = 1 then a8 else a8 + 1 : Int32)
set_option maxHeartbeats 4000000 in
set_option maxRecDepth 100000 in
theorem kzS_countOut (l : Launch) (G : va_G) (ac : Nat → ClassId) (oa : Nat) (a0 : Int32) (a1 : Int32) (a2 : Int32) (a3 : Int32) (a4 : Int32) (a5 : Int32) (a6 : Int32) (a7 : Int32) (a8 : Int32) (k0 : Int32) : xk_CV l yzS_countOut czS_countOut 2 xk_WS xk_r0 G xk_cls (xk_tys ac) [.ref oa, .int k0] [(oa, .inr (1, [.int a0, .int a1, .int a2, .int a3, .int a4, .int a5, .int a6, .int a7, .int a8]))] (fun _ : Unit => True) (fun _ => [(oa, .inr (1, [.int a0, .int (qzS_countOut_a1 a1), .int a2, .int a3, .int a4, .int a5, .int (qzS_countOut_a6 a6 k0), .int a7, .int (qzS_countOut_a8 a8 k0)]))]) := by
  refine xk_ofV (by decide) (Nat.le_of_ble_eq_true rfl) ?_
  intro p e s m args below meth c A Q H locs ls C0 hret hP hD hS hl
  obtain ⟨hx, hb, hml, hts, hown, hK, hA⟩ := C0
  have hl : lv_has ls 2 [(0, .ref oa), (1, .int k0)] := hl
  refine lv_aload_n (pc := 0) hx hb dzS_countOut_0 rfl (lv_at hl 0 rfl) ?_
  refine lv_dup (pc := 1) hx hb dzS_countOut_1 rfl ?_
  refine xk_get (pc := 2) hx hb hts hown hK hP ffzS_9 0 rfl rfl dzS_countOut_2 ?_
  refine lv_iconst (v := 1) (pc := 5) hx hb dzS_countOut_5 (by decide) ?_
  refine lv_isub (pc := 6) hx hb dzS_countOut_6 ?_
  refine xk_putf (pc := 7) hx hb hts hown hK hP hD hS pfzS_9 0 rfl rfl rfl (Nat.le_of_ble_eq_true rfl) dzS_countOut_7 (fun H locs hP hD hS => ?_)
  have hP : va_P G xk_cls [(oa, .inr (1, [.int a0, .int (a1 - 1), .int a2, .int a3, .int a4, .int a5, .int a6, .int a7, .int a8]))] H := hP
  have hD : va_D A [(oa, .inr (1, [.int a0, .int (a1 - 1), .int a2, .int a3, .int a4, .int a5, .int a6, .int a7, .int a8]))] := hD
  refine lv_iload_n (pc := 10) hx hb dzS_countOut_10 rfl (lv_at hl 1 rfl) ?_
  refine lv_iconst (v := 1) (pc := 11) hx hb dzS_countOut_11 (by decide) ?_
  have K1 : ∀ (H : Heap) (locs : List Loc), (va_P G xk_cls [(oa, .inr (1, [.int a0, .int (a1 - 1), .int a2, .int a3, .int a4, .int a5, .int (if k0 = 1 then a6 + 1 else a6 : Int32), .int a7, .int (if k0 = 1 then a8 else a8 + 1 : Int32)]))] H) → (va_D A [(oa, .inr (1, [.int a0, .int (a1 - 1), .int a2, .int a3, .int a4, .int a5, .int (if k0 = 1 then a6 + 1 else a6 : Int32), .int a7, .int (if k0 = 1 then a8 else a8 + 1 : Int32)]))]) → (va_S A s.heap H locs) → W p l e xk_r0 s m args below meth c H locs 0 0 Q (F0 m 38 ls []) := by
    intro H locs hP hD hS
    have j0 : qzS_countOut_a1 a1 = a1 - 1 := by unfold qzS_countOut_a1; rfl
    have j1 : qzS_countOut_a6 a6 k0 = (if k0 = 1 then a6 + 1 else a6 : Int32) := by unfold qzS_countOut_a6; rfl
    have j2 : qzS_countOut_a8 a8 k0 = (if k0 = 1 then a8 else a8 + 1 : Int32) := by unfold qzS_countOut_a8; rfl
    have hP : va_P G xk_cls [(oa, .inr (1, [.int a0, .int (qzS_countOut_a1 a1), .int a2, .int a3, .int a4, .int a5, .int (qzS_countOut_a6 a6 k0), .int a7, .int (qzS_countOut_a8 a8 k0)]))] H := by rw [j0, j1, j2]; exact hP
    exact hret () H locs 38 ls hP hS trivial dzS_countOut_38
  refine lv_icmp_ne (pc := 12) (tgt := 28) hx hb dzS_countOut_12 (by decide) (fun h1 => ?_) (fun h1 => ?_)
  ·
    refine lv_aload_n (pc := 28) hx hb dzS_countOut_28 rfl (lv_at hl 0 rfl) ?_
    refine lv_dup (pc := 29) hx hb dzS_countOut_29 rfl ?_
    refine xk_get (pc := 30) hx hb hts hown hK hP ffzS_34 0 rfl rfl dzS_countOut_30 ?_
    refine lv_iconst (v := 1) (pc := 33) hx hb dzS_countOut_33 (by decide) ?_
    refine lv_iadd (pc := 34) hx hb dzS_countOut_34 ?_
    refine xk_putf (pc := 35) hx hb hts hown hK hP hD hS pfzS_34 0 rfl rfl rfl (Nat.le_of_ble_eq_true rfl) dzS_countOut_35 (fun H locs hP hD hS => ?_)
    have hP : va_P G xk_cls [(oa, .inr (1, [.int a0, .int (a1 - 1), .int a2, .int a3, .int a4, .int a5, .int a6, .int a7, .int (a8 + 1)]))] H := hP
    have hD : va_D A [(oa, .inr (1, [.int a0, .int (a1 - 1), .int a2, .int a3, .int a4, .int a5, .int a6, .int a7, .int (a8 + 1)]))] := hD
    have K9 := K1
    try simp only [if_neg h1] at K9
    first | exact K9 H locs hP hD hS | (simp only [if_neg h1] at hP hD; exact K9 H locs hP hD hS) | (simp only [if_neg h1] at hP hD ⊢; exact K9 H locs hP hD hS)
  ·
    refine lv_aload_n (pc := 15) hx hb dzS_countOut_15 rfl (lv_at hl 0 rfl) ?_
    refine lv_dup (pc := 16) hx hb dzS_countOut_16 rfl ?_
    refine xk_get (pc := 17) hx hb hts hown hK hP ffzS_28 0 rfl rfl dzS_countOut_17 ?_
    refine lv_iconst (v := 1) (pc := 20) hx hb dzS_countOut_20 (by decide) ?_
    refine lv_iadd (pc := 21) hx hb dzS_countOut_21 ?_
    refine xk_putf (pc := 22) hx hb hts hown hK hP hD hS pfzS_28 0 rfl rfl rfl (Nat.le_of_ble_eq_true rfl) dzS_countOut_22 (fun H locs hP hD hS => ?_)
    have hP : va_P G xk_cls [(oa, .inr (1, [.int a0, .int (a1 - 1), .int a2, .int a3, .int a4, .int a5, .int (a6 + 1), .int a7, .int a8]))] H := hP
    have hD : va_D A [(oa, .inr (1, [.int a0, .int (a1 - 1), .int a2, .int a3, .int a4, .int a5, .int (a6 + 1), .int a7, .int a8]))] := hD
    refine lv_goto (tgt := 38) (pc := 25) hx hb dzS_countOut_25 (by decide) ?_
    have K9 := K1
    try simp only [if_pos h1] at K9
    first | exact K9 H locs hP hD hS | (simp only [if_pos h1] at hP hD; exact K9 H locs hP hD hS) | (simp only [if_pos h1] at hP hD ⊢; exact K9 H locs hP hD hS)
def qzS_startSweep_a4 (k0 : Int32) : Int32 := k0
def qzS_startSweep_a5 : Int32 := 0
def qzS_startSweep_a6 : Int32 := 0
def qzS_startSweep_a7 : Int32 := 0
def qzS_startSweep_a8 : Int32 := 0
set_option maxHeartbeats 4000000 in
set_option maxRecDepth 100000 in
theorem kzS_startSweep (l : Launch) (G : va_G) (ac : Nat → ClassId) (oa : Nat) (a0 : Int32) (a1 : Int32) (a2 : Int32) (a3 : Int32) (a4 : Int32) (a5 : Int32) (a6 : Int32) (a7 : Int32) (a8 : Int32) (k0 : Int32) : xk_CV l yzS_startSweep czS_startSweep 2 xk_WS xk_r0 G xk_cls (xk_tys ac) [.ref oa, .int k0] [(oa, .inr (1, [.int a0, .int a1, .int a2, .int a3, .int a4, .int a5, .int a6, .int a7, .int a8]))] (fun _ : Unit => True) (fun _ => [(oa, .inr (1, [.int a0, .int a1, .int a2, .int a3, .int (qzS_startSweep_a4 k0), .int qzS_startSweep_a5, .int qzS_startSweep_a6, .int qzS_startSweep_a7, .int qzS_startSweep_a8]))]) := by
  refine xk_ofV (by decide) (Nat.le_of_ble_eq_true rfl) ?_
  intro p e s m args below meth c A Q H locs ls C0 hret hP hD hS hl
  obtain ⟨hx, hb, hml, hts, hown, hK, hA⟩ := C0
  have hl : lv_has ls 2 [(0, .ref oa), (1, .int k0)] := hl
  refine lv_aload_n (pc := 0) hx hb dzS_startSweep_0 rfl (lv_at hl 0 rfl) ?_
  refine lv_iload_n (pc := 1) hx hb dzS_startSweep_1 rfl (lv_at hl 1 rfl) ?_
  refine xk_putf (pc := 2) hx hb hts hown hK hP hD hS pfzS_22 0 rfl rfl rfl (Nat.le_of_ble_eq_true rfl) dzS_startSweep_2 (fun H locs hP hD hS => ?_)
  have hP : va_P G xk_cls [(oa, .inr (1, [.int a0, .int a1, .int a2, .int a3, .int k0, .int a5, .int a6, .int a7, .int a8]))] H := hP
  have hD : va_D A [(oa, .inr (1, [.int a0, .int a1, .int a2, .int a3, .int k0, .int a5, .int a6, .int a7, .int a8]))] := hD
  refine lv_aload_n (pc := 5) hx hb dzS_startSweep_5 rfl (lv_at hl 0 rfl) ?_
  refine lv_iconst (v := 0) (pc := 6) hx hb dzS_startSweep_6 (by decide) ?_
  refine xk_putf (pc := 7) hx hb hts hown hK hP hD hS pfzS_25 0 rfl rfl rfl (Nat.le_of_ble_eq_true rfl) dzS_startSweep_7 (fun H locs hP hD hS => ?_)
  have hP : va_P G xk_cls [(oa, .inr (1, [.int a0, .int a1, .int a2, .int a3, .int k0, .int 0, .int a6, .int a7, .int a8]))] H := hP
  have hD : va_D A [(oa, .inr (1, [.int a0, .int a1, .int a2, .int a3, .int k0, .int 0, .int a6, .int a7, .int a8]))] := hD
  refine lv_aload_n (pc := 10) hx hb dzS_startSweep_10 rfl (lv_at hl 0 rfl) ?_
  refine lv_iconst (v := 0) (pc := 11) hx hb dzS_startSweep_11 (by decide) ?_
  refine xk_putf (pc := 12) hx hb hts hown hK hP hD hS pfzS_28 0 rfl rfl rfl (Nat.le_of_ble_eq_true rfl) dzS_startSweep_12 (fun H locs hP hD hS => ?_)
  have hP : va_P G xk_cls [(oa, .inr (1, [.int a0, .int a1, .int a2, .int a3, .int k0, .int 0, .int 0, .int a7, .int a8]))] H := hP
  have hD : va_D A [(oa, .inr (1, [.int a0, .int a1, .int a2, .int a3, .int k0, .int 0, .int 0, .int a7, .int a8]))] := hD
  refine lv_aload_n (pc := 15) hx hb dzS_startSweep_15 rfl (lv_at hl 0 rfl) ?_
  refine lv_iconst (v := 0) (pc := 16) hx hb dzS_startSweep_16 (by decide) ?_
  refine xk_putf (pc := 17) hx hb hts hown hK hP hD hS pfzS_31 0 rfl rfl rfl (Nat.le_of_ble_eq_true rfl) dzS_startSweep_17 (fun H locs hP hD hS => ?_)
  have hP : va_P G xk_cls [(oa, .inr (1, [.int a0, .int a1, .int a2, .int a3, .int k0, .int 0, .int 0, .int 0, .int a8]))] H := hP
  have hD : va_D A [(oa, .inr (1, [.int a0, .int a1, .int a2, .int a3, .int k0, .int 0, .int 0, .int 0, .int a8]))] := hD
  refine lv_aload_n (pc := 20) hx hb dzS_startSweep_20 rfl (lv_at hl 0 rfl) ?_
  refine lv_iconst (v := 0) (pc := 21) hx hb dzS_startSweep_21 (by decide) ?_
  refine xk_putf (pc := 22) hx hb hts hown hK hP hD hS pfzS_34 0 rfl rfl rfl (Nat.le_of_ble_eq_true rfl) dzS_startSweep_22 (fun H locs hP hD hS => ?_)
  have hP : va_P G xk_cls [(oa, .inr (1, [.int a0, .int a1, .int a2, .int a3, .int k0, .int 0, .int 0, .int 0, .int 0]))] H := hP
  have hD : va_D A [(oa, .inr (1, [.int a0, .int a1, .int a2, .int a3, .int k0, .int 0, .int 0, .int 0, .int 0]))] := hD
  have j0 : qzS_startSweep_a4 k0 = k0 := by unfold qzS_startSweep_a4; rfl
  have j1 : qzS_startSweep_a5 = 0 := by unfold qzS_startSweep_a5; rfl
  have j2 : qzS_startSweep_a6 = 0 := by unfold qzS_startSweep_a6; rfl
  have j3 : qzS_startSweep_a7 = 0 := by unfold qzS_startSweep_a7; rfl
  have j4 : qzS_startSweep_a8 = 0 := by unfold qzS_startSweep_a8; rfl
  have hP : va_P G xk_cls [(oa, .inr (1, [.int a0, .int a1, .int a2, .int a3, .int (qzS_startSweep_a4 k0), .int qzS_startSweep_a5, .int qzS_startSweep_a6, .int qzS_startSweep_a7, .int qzS_startSweep_a8]))] H := by rw [j0, j1, j2, j3, j4]; exact hP
  exact hret () H locs 25 ls hP hS trivial dzS_startSweep_25
def qzS_reset_a1 : Int32 := 0
def qzS_reset_a3 : Int32 := 0
def qzS_reset_a4 : Int32 := 0
set_option maxHeartbeats 4000000 in
set_option maxRecDepth 100000 in
theorem kzS_reset (l : Launch) (G : va_G) (ac : Nat → ClassId) (oa : Nat) (a0 : Int32) (a1 : Int32) (a2 : Int32) (a3 : Int32) (a4 : Int32) (a5 : Int32) (a6 : Int32) (a7 : Int32) (a8 : Int32) : xk_CV l yzS_reset czS_reset 1 xk_WS xk_r0 G xk_cls (xk_tys ac) [.ref oa] [(oa, .inr (1, [.int a0, .int a1, .int a2, .int a3, .int a4, .int a5, .int a6, .int a7, .int a8]))] (fun _ : Unit => True) (fun _ => [(oa, .inr (1, [.int a0, .int qzS_reset_a1, .int a2, .int qzS_reset_a3, .int qzS_reset_a4, .int a5, .int a6, .int a7, .int a8]))]) := by
  refine xk_ofV (by decide) (Nat.le_of_ble_eq_true rfl) ?_
  intro p e s m args below meth c A Q H locs ls C0 hret hP hD hS hl
  obtain ⟨hx, hb, hml, hts, hown, hK, hA⟩ := C0
  have hl : lv_has ls 1 [(0, .ref oa)] := hl
  refine lv_aload_n (pc := 0) hx hb dzS_reset_0 rfl (lv_at hl 0 rfl) ?_
  refine lv_iconst (v := 0) (pc := 1) hx hb dzS_reset_1 (by decide) ?_
  refine xk_putf (pc := 2) hx hb hts hown hK hP hD hS pfzS_18 0 rfl (xk_bn xk_b0) (xk_bf xk_b0) (Nat.le_of_ble_eq_true rfl) dzS_reset_2 (fun H locs hP hD hS => ?_)
  have hP : va_P G xk_cls [(oa, .inr (1, [.int a0, .int a1, .int a2, .int 0, .int a4, .int a5, .int a6, .int a7, .int a8]))] H := hP
  have hD : va_D A [(oa, .inr (1, [.int a0, .int a1, .int a2, .int 0, .int a4, .int a5, .int a6, .int a7, .int a8]))] := hD
  refine lv_aload_n (pc := 5) hx hb dzS_reset_5 rfl (lv_at hl 0 rfl) ?_
  refine lv_iconst (v := 0) (pc := 6) hx hb dzS_reset_6 (by decide) ?_
  refine xk_putf (pc := 7) hx hb hts hown hK hP hD hS pfzS_9 0 rfl rfl rfl (Nat.le_of_ble_eq_true rfl) dzS_reset_7 (fun H locs hP hD hS => ?_)
  have hP : va_P G xk_cls [(oa, .inr (1, [.int a0, .int 0, .int a2, .int 0, .int a4, .int a5, .int a6, .int a7, .int a8]))] H := hP
  have hD : va_D A [(oa, .inr (1, [.int a0, .int 0, .int a2, .int 0, .int a4, .int a5, .int a6, .int a7, .int a8]))] := hD
  refine lv_aload_n (pc := 10) hx hb dzS_reset_10 rfl (lv_at hl 0 rfl) ?_
  refine lv_iconst (v := 0) (pc := 11) hx hb dzS_reset_11 (by decide) ?_
  refine xk_putf (pc := 12) hx hb hts hown hK hP hD hS pfzS_22 0 rfl rfl rfl (Nat.le_of_ble_eq_true rfl) dzS_reset_12 (fun H locs hP hD hS => ?_)
  have hP : va_P G xk_cls [(oa, .inr (1, [.int a0, .int 0, .int a2, .int 0, .int 0, .int a5, .int a6, .int a7, .int a8]))] H := hP
  have hD : va_D A [(oa, .inr (1, [.int a0, .int 0, .int a2, .int 0, .int 0, .int a5, .int a6, .int a7, .int a8]))] := hD
  have j0 : qzS_reset_a1 = 0 := by unfold qzS_reset_a1; rfl
  have j1 : qzS_reset_a3 = 0 := by unfold qzS_reset_a3; rfl
  have j2 : qzS_reset_a4 = 0 := by unfold qzS_reset_a4; rfl
  have hP : va_P G xk_cls [(oa, .inr (1, [.int a0, .int qzS_reset_a1, .int a2, .int qzS_reset_a3, .int qzS_reset_a4, .int a5, .int a6, .int a7, .int a8]))] H := by rw [j0, j1, j2]; exact hP
  exact hret () H locs 15 ls hP hS trivial dzS_reset_15
def qzS_isSweep (k0 : Int32) (k1 : Int32) (k2 : Int32) (k3 : Int32) : Int32 := (if k0 = 0 then 0 else (if k0 = k1 then (if k2 = 0 then (if k3 = 0 then 1 else 0 : Int32) else 0 : Int32) else 0 : Int32) : Int32)
theorem bzS_isSweep (k0 : Int32) (k1 : Int32) (k2 : Int32) (k3 : Int32) : xk_b (qzS_isSweep k0 k1 k2 k3) := by
  unfold qzS_isSweep
  repeat' (first | with_reducible exact xk_b0 | with_reducible exact xk_b1 | with_reducible assumption | apply xk_bi)
set_option maxHeartbeats 4000000 in
set_option maxRecDepth 100000 in
theorem kzS_isSweep (l : Launch) (G : va_G) (ac : Nat → ClassId) (k0 : Int32) (k1 : Int32) (k2 : Int32) (k3 : Int32) : xk_CI l yzS_isSweep czS_isSweep 4 .boolean xk_WS xk_r0 G xk_cls (xk_tys ac) [.int k0, .int k1, .int k2, .int k3] [] (fun r (_ : Unit) => r = qzS_isSweep k0 k1 k2 k3) (fun _ => []) := by
  refine xk_ofI (by decide) (Nat.le_of_ble_eq_true rfl) ?_
  intro p e s m args below meth c A Q H locs ls C0 hret hP hD hS hl
  obtain ⟨hx, hb, hml, hts, hown, hK, hA⟩ := C0
  have hl : lv_has ls 4 [(0, .int k0), (1, .int k1), (2, .int k2), (3, .int k3)] := hl
  refine lv_iload_n (pc := 0) hx hb dzS_isSweep_0 rfl (lv_at hl 0 rfl) ?_
  have K1 : W p l e xk_r0 s m args below meth c H locs 0 0 Q (F0 m 22 ls [.int (if k0 = 0 then 0 else (if k0 = k1 then (if k2 = 0 then (if k3 = 0 then 1 else 0 : Int32) else 0 : Int32) else 0 : Int32) : Int32)]) := by
    have jr : qzS_isSweep k0 k1 k2 k3 = (if k0 = 0 then 0 else (if k0 = k1 then (if k2 = 0 then (if k3 = 0 then 1 else 0 : Int32) else 0 : Int32) else 0 : Int32) : Int32) := by unfold qzS_isSweep; rfl
    have hP : va_P G xk_cls [] H := by exact hP
    exact hret _ () H locs 22 ls hP hS (xk_bn (by repeat' (first | with_reducible exact xk_b0 | with_reducible exact xk_b1 | apply xk_bi))) jr.symm dzS_isSweep_22
  refine lv_if_eq (pc := 1) (tgt := 21) hx hb dzS_isSweep_1 (by decide) (fun h1 => ?_) (fun h1 => ?_)
  ·
    refine lv_iconst (v := 0) (pc := 21) hx hb dzS_isSweep_21 (by decide) ?_
    have K9 := K1
    try simp only [if_pos h1] at K9
    first | exact K9 | (simp only [if_pos h1]; exact K9)
  ·
    refine lv_iload_n (pc := 4) hx hb dzS_isSweep_4 rfl (lv_at hl 0 rfl) ?_
    refine lv_iload_n (pc := 5) hx hb dzS_isSweep_5 rfl (lv_at hl 1 rfl) ?_
    refine lv_icmp_ne (pc := 6) (tgt := 21) hx hb dzS_isSweep_6 (by decide) (fun h2 => ?_) (fun h2 => ?_)
    ·
      refine lv_iconst (v := 0) (pc := 21) hx hb dzS_isSweep_21 (by decide) ?_
      have K9 := K1
      try simp only [if_neg h1, if_neg h2] at K9
      first | exact K9 | (simp only [if_neg h1, if_neg h2]; exact K9)
    ·
      refine lv_iload_n (pc := 9) hx hb dzS_isSweep_9 rfl (lv_at hl 2 rfl) ?_
      refine lv_if_ne (pc := 10) (tgt := 21) hx hb dzS_isSweep_10 (by decide) (fun h3 => ?_) (fun h3 => ?_)
      ·
        refine lv_iconst (v := 0) (pc := 21) hx hb dzS_isSweep_21 (by decide) ?_
        have K9 := K1
        try simp only [if_neg h1, if_pos h2, if_neg h3] at K9
        first | exact K9 | (simp only [if_neg h1, if_pos h2, if_neg h3]; exact K9)
      ·
        refine lv_iload_n (pc := 13) hx hb dzS_isSweep_13 rfl (lv_at hl 3 rfl) ?_
        refine lv_if_ne (pc := 14) (tgt := 21) hx hb dzS_isSweep_14 (by decide) (fun h4 => ?_) (fun h4 => ?_)
        ·
          refine lv_iconst (v := 0) (pc := 21) hx hb dzS_isSweep_21 (by decide) ?_
          have K9 := K1
          try simp only [if_neg h1, if_pos h2, if_pos h3, if_neg h4] at K9
          first | exact K9 | (simp only [if_neg h1, if_pos h2, if_pos h3, if_neg h4]; exact K9)
        ·
          refine lv_iconst (v := 1) (pc := 17) hx hb dzS_isSweep_17 (by decide) ?_
          refine lv_goto (tgt := 22) (pc := 18) hx hb dzS_isSweep_18 (by decide) ?_
          have K9 := K1
          try simp only [if_neg h1, if_pos h2, if_pos h3, if_pos h4] at K9
          first | exact K9 | (simp only [if_neg h1, if_pos h2, if_pos h3, if_pos h4]; exact K9)
def qzS_isSwept (a4 : Int32) (a5 : Int32) (a6 : Int32) (a7 : Int32) (a8 : Int32) : Int32 := (if a4 = 0 then 0 else (if (qzS_isSweep a5 a6 a7 a8) = 0 then (if (qzS_isSweep a7 a8 a5 a6) = 0 then 0 else 1 : Int32) else 1 : Int32) : Int32)
theorem bzS_isSwept (a4 : Int32) (a5 : Int32) (a6 : Int32) (a7 : Int32) (a8 : Int32) : xk_b (qzS_isSwept a4 a5 a6 a7 a8) := by
  unfold qzS_isSwept
  repeat' (first | with_reducible exact xk_b0 | with_reducible exact xk_b1 | with_reducible assumption | apply xk_bi)
set_option maxHeartbeats 4000000 in
set_option maxRecDepth 100000 in
theorem kzS_isSwept (l : Launch) (G : va_G) (ac : Nat → ClassId) (oa : Nat) (a0 : Int32) (a1 : Int32) (a2 : Int32) (a3 : Int32) (a4 : Int32) (a5 : Int32) (a6 : Int32) (a7 : Int32) (a8 : Int32) : xk_CI l yzS_isSwept czS_isSwept 1 .boolean xk_WS xk_r1 G xk_cls (xk_tys ac) [.ref oa] [(oa, .inr (1, [.int a0, .int a1, .int a2, .int a3, .int a4, .int a5, .int a6, .int a7, .int a8]))] (fun r (_ : Unit) => r = qzS_isSwept a4 a5 a6 a7 a8) (fun _ => [(oa, .inr (1, [.int a0, .int a1, .int a2, .int a3, .int a4, .int a5, .int a6, .int a7, .int a8]))]) := by
  refine xk_ofI (by decide) (Nat.le_of_ble_eq_true rfl) ?_
  intro p e s m args below meth c A Q H locs ls C0 hret hP hD hS hl
  obtain ⟨hx, hb, hml, hts, hown, hK, hA⟩ := C0
  have hl : lv_has ls 1 [(0, .ref oa)] := hl
  refine lv_aload_n (pc := 0) hx hb dzS_isSwept_0 rfl (lv_at hl 0 rfl) ?_
  refine xk_get (pc := 1) hx hb hts hown hK hP ffzS_22 0 rfl rfl dzS_isSwept_1 ?_
  have K1 : ∀ (H : Heap) (locs : List Loc), (va_P G xk_cls [(oa, .inr (1, [.int a0, .int a1, .int a2, .int a3, .int a4, .int a5, .int a6, .int a7, .int a8]))] H) → (va_D A [(oa, .inr (1, [.int a0, .int a1, .int a2, .int a3, .int a4, .int a5, .int a6, .int a7, .int a8]))]) → (va_S A s.heap H locs) → W p l e xk_r1 s m args below meth c H locs 0 0 Q (F0 m 56 ls [.int (if a4 = 0 then 0 else (if (qzS_isSweep a5 a6 a7 a8) = 0 then (if (qzS_isSweep a7 a8 a5 a6) = 0 then 0 else 1 : Int32) else 1 : Int32) : Int32)]) := by
    intro H locs hP hD hS
    have jr : qzS_isSwept a4 a5 a6 a7 a8 = (if a4 = 0 then 0 else (if (qzS_isSweep a5 a6 a7 a8) = 0 then (if (qzS_isSweep a7 a8 a5 a6) = 0 then 0 else 1 : Int32) else 1 : Int32) : Int32) := by unfold qzS_isSwept; rfl
    have hP : va_P G xk_cls [(oa, .inr (1, [.int a0, .int a1, .int a2, .int a3, .int a4, .int a5, .int a6, .int a7, .int a8]))] H := by exact hP
    exact hret _ () H locs 56 ls hP hS (xk_bn (by repeat' (first | with_reducible exact xk_b0 | with_reducible exact xk_b1 | apply xk_bi))) jr.symm dzS_isSwept_56
  refine lv_if_eq (pc := 4) (tgt := 55) hx hb dzS_isSwept_4 (by decide) (fun h1 => ?_) (fun h1 => ?_)
  ·
    refine lv_iconst (v := 0) (pc := 55) hx hb dzS_isSwept_55 (by decide) ?_
    have K9 := K1
    try simp only [if_pos h1] at K9
    first | exact K9 H locs hP hD hS | (simp only [if_pos h1] at hP hD; exact K9 H locs hP hD hS) | (simp only [if_pos h1] at hP hD ⊢; exact K9 H locs hP hD hS)
  ·
    refine lv_aload_n (pc := 7) hx hb dzS_isSwept_7 rfl (lv_at hl 0 rfl) ?_
    refine xk_get (pc := 8) hx hb hts hown hK hP ffzS_25 0 rfl rfl dzS_isSwept_8 ?_
    refine lv_aload_n (pc := 11) hx hb dzS_isSwept_11 rfl (lv_at hl 0 rfl) ?_
    refine xk_get (pc := 12) hx hb hts hown hK hP ffzS_28 0 rfl rfl dzS_isSwept_12 ?_
    refine lv_aload_n (pc := 15) hx hb dzS_isSwept_15 rfl (lv_at hl 0 rfl) ?_
    refine xk_get (pc := 16) hx hb hts hown hK hP ffzS_31 0 rfl rfl dzS_isSwept_16 ?_
    refine lv_aload_n (pc := 19) hx hb dzS_isSwept_19 rfl (lv_at hl 0 rfl) ?_
    refine xk_get (pc := 20) hx hb hts hown hK hP ffzS_34 0 rfl rfl dzS_isSwept_20 ?_
    refine xk_callSI (As := [.int a5, .int a6, .int a7, .int a8]) (rest := []) (H0 := s.heap) (pc := 23) hx hb hml hts hown hK hA hP hD hS (kzS_isSweep l G ac a5 a6 a7 a8) sfzS_40 [] (by decide) rfl (fun _ => rfl) ⟨rfl, rfl⟩ ⟨Nat.le_of_ble_eq_true rfl, Nat.le_of_ble_eq_true rfl⟩ rfl hl.1 rfl (Nat.le_of_ble_eq_true rfl) ⟨Nat.zero_le _, Nat.zero_le _⟩ dzS_isSwept_23 (fun r1 u9 H locs e9 hP hD hS => ?_)
    obtain rfl : r1 = qzS_isSweep a5 a6 a7 a8 := e9
    have hP : va_P G xk_cls [(oa, .inr (1, [.int a0, .int a1, .int a2, .int a3, .int a4, .int a5, .int a6, .int a7, .int a8]))] H := hP
    have hD : va_D A [(oa, .inr (1, [.int a0, .int a1, .int a2, .int a3, .int a4, .int a5, .int a6, .int a7, .int a8]))] := hD
    refine lv_if_ne (pc := 26) (tgt := 51) hx hb dzS_isSwept_26 (by decide) (fun h2 => ?_) (fun h2 => ?_)
    ·
      refine lv_iconst (v := 1) (pc := 51) hx hb dzS_isSwept_51 (by decide) ?_
      refine lv_goto (tgt := 56) (pc := 52) hx hb dzS_isSwept_52 (by decide) ?_
      have K9 := K1
      try simp only [if_neg h1, if_neg h2] at K9
      first | exact K9 H locs hP hD hS | (simp only [if_neg h1, if_neg h2] at hP hD; exact K9 H locs hP hD hS) | (simp only [if_neg h1, if_neg h2] at hP hD ⊢; exact K9 H locs hP hD hS)
    ·
      refine lv_aload_n (pc := 29) hx hb dzS_isSwept_29 rfl (lv_at hl 0 rfl) ?_
      refine xk_get (pc := 30) hx hb hts hown hK hP ffzS_31 0 rfl rfl dzS_isSwept_30 ?_
      refine lv_aload_n (pc := 33) hx hb dzS_isSwept_33 rfl (lv_at hl 0 rfl) ?_
      refine xk_get (pc := 34) hx hb hts hown hK hP ffzS_34 0 rfl rfl dzS_isSwept_34 ?_
      refine lv_aload_n (pc := 37) hx hb dzS_isSwept_37 rfl (lv_at hl 0 rfl) ?_
      refine xk_get (pc := 38) hx hb hts hown hK hP ffzS_25 0 rfl rfl dzS_isSwept_38 ?_
      refine lv_aload_n (pc := 41) hx hb dzS_isSwept_41 rfl (lv_at hl 0 rfl) ?_
      refine xk_get (pc := 42) hx hb hts hown hK hP ffzS_28 0 rfl rfl dzS_isSwept_42 ?_
      refine xk_callSI (As := [.int a7, .int a8, .int a5, .int a6]) (rest := []) (H0 := s.heap) (pc := 45) hx hb hml hts hown hK hA hP hD hS (kzS_isSweep l G ac a7 a8 a5 a6) sfzS_40 [] (by decide) rfl (fun _ => rfl) ⟨rfl, rfl⟩ ⟨Nat.le_of_ble_eq_true rfl, Nat.le_of_ble_eq_true rfl⟩ rfl hl.1 rfl (Nat.le_of_ble_eq_true rfl) ⟨Nat.zero_le _, Nat.zero_le _⟩ dzS_isSwept_45 (fun r2 u9 H locs e9 hP hD hS => ?_)
      obtain rfl : r2 = qzS_isSweep a7 a8 a5 a6 := e9
      have hP : va_P G xk_cls [(oa, .inr (1, [.int a0, .int a1, .int a2, .int a3, .int a4, .int a5, .int a6, .int a7, .int a8]))] H := hP
      have hD : va_D A [(oa, .inr (1, [.int a0, .int a1, .int a2, .int a3, .int a4, .int a5, .int a6, .int a7, .int a8]))] := hD
      refine lv_if_eq (pc := 48) (tgt := 55) hx hb dzS_isSwept_48 (by decide) (fun h3 => ?_) (fun h3 => ?_)
      ·
        refine lv_iconst (v := 0) (pc := 55) hx hb dzS_isSwept_55 (by decide) ?_
        have K9 := K1
        try simp only [if_neg h1, if_pos h2, if_pos h3] at K9
        first | exact K9 H locs hP hD hS | (simp only [if_neg h1, if_pos h2, if_pos h3] at hP hD; exact K9 H locs hP hD hS) | (simp only [if_neg h1, if_pos h2, if_pos h3] at hP hD ⊢; exact K9 H locs hP hD hS)
      ·
        refine lv_iconst (v := 1) (pc := 51) hx hb dzS_isSwept_51 (by decide) ?_
        refine lv_goto (tgt := 56) (pc := 52) hx hb dzS_isSwept_52 (by decide) ?_
        have K9 := K1
        try simp only [if_neg h1, if_pos h2, if_neg h3] at K9
        first | exact K9 H locs hP hD hS | (simp only [if_neg h1, if_pos h2, if_neg h3] at hP hD; exact K9 H locs hP hD hS) | (simp only [if_neg h1, if_pos h2, if_neg h3] at hP hD ⊢; exact K9 H locs hP hD hS)
