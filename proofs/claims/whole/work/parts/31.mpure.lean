def qzM_thrown (g0 : xk_St) : Int32 := g0 0 0
set_option maxHeartbeats 4000000 in
set_option maxRecDepth 100000 in
theorem kzM_thrown (l : Launch) (G : va_G) (ac : Nat → ClassId) (ad : Nat → Nat) (g0 : xk_St) : xk_CI l yzM_thrown czM_thrown 1 .int xk_WS xk_r0 G xk_cls (xk_tys ac) [.ref (ad 0)] (xk_wM ad ac g0) (fun r (_ : Unit) => r = qzM_thrown g0) (fun _ => (xk_wM ad ac g0)) := by
  refine xk_ofI (by decide) (Nat.le_of_ble_eq_true rfl) ?_
  intro p e s m args below meth c A Q H locs ls C0 hret hP hD hS hl
  obtain ⟨hx, hb, hml, hts, hown, hK, hA⟩ := C0
  have hl : lv_has ls 1 [(0, .ref (ad 0))] := hl
  refine lv_aload_n (pc := 0) hx hb dzM_thrown_0 rfl (lv_at hl 0 rfl) ?_
  refine xk_get (pc := 1) hx hb hts hown hK hP ffzM_92 0 rfl rfl dzM_thrown_1 ?_
  have jr : qzM_thrown g0 = g0 0 0 := by unfold qzM_thrown; rfl
  exact hret _ () H locs 4 ls hP hS rfl jr.symm dzM_thrown_4

def qzM_isFree_0 (g0 : xk_St) : Int32 := (if ((g0 5) 0) = 0 then (if ((g0 3) 0) = 0 then 1 else 0 : Int32) else 0 : Int32)
theorem bzM_isFree_0 (g0 : xk_St) : xk_b (qzM_isFree_0 g0) := by
  unfold qzM_isFree_0
  repeat' (first | with_reducible exact xk_b0 | with_reducible exact xk_b1 | with_reducible assumption | apply xk_bi)
set_option maxHeartbeats 4000000 in
set_option maxRecDepth 100000 in
theorem kzM_isFree_0 (l : Launch) (G : va_G) (ac : Nat → ClassId) (ad : Nat → Nat) (g0 : xk_St) : xk_CI l yzM_isFree czM_isFree 2 .boolean xk_WS xk_r0 G xk_cls (xk_tys ac) [.ref (ad 0), .int 0] (xk_wM ad ac g0) (fun r (_ : Unit) => r = qzM_isFree_0 g0) (fun _ => (xk_wM ad ac g0)) := by
  refine xk_ofI (by decide) (Nat.le_of_ble_eq_true rfl) ?_
  intro p e s m args below meth c A Q H locs ls C0 hret hP hD hS hl
  obtain ⟨hx, hb, hml, hts, hown, hK, hA⟩ := C0
  have hl : lv_has ls 2 [(0, .ref (ad 0)), (1, .int 0)] := hl
  refine lv_aload_n (pc := 0) hx hb dzM_isFree_0 rfl (lv_at hl 0 rfl) ?_
  refine xk_get (pc := 1) hx hb hts hown hK hP ffzM_23 0 rfl rfl dzM_isFree_1 ?_
  refine lv_iload_n (pc := 4) hx hb dzM_isFree_4 rfl (lv_at hl 1 rfl) ?_
  refine xk_zald (q0 := 5) (t0 := 1) (j := 0) (pc := 5) hx hb hK hP rfl rfl (pk_in 0 6 (by decide)) (pk_cl 0) dzM_isFree_5 ?_
  have K1 : W p l e xk_r0 s m args below meth c H locs 0 0 Q (F0 m 23 ls [.int (if ((g0 5) 0) = 0 then (if ((g0 3) 0) = 0 then 1 else 0 : Int32) else 0 : Int32)]) := by
    have jr : qzM_isFree_0 g0 = (if ((g0 5) 0) = 0 then (if ((g0 3) 0) = 0 then 1 else 0 : Int32) else 0 : Int32) := by unfold qzM_isFree_0; rfl
    exact hret _ () H locs 23 ls hP hS (xk_bn (by repeat' (first | with_reducible exact xk_b0 | with_reducible exact xk_b1 | apply xk_bi))) jr.symm dzM_isFree_23
  refine lv_if_ne (pc := 6) (tgt := 22) hx hb dzM_isFree_6 (by decide) (fun h1 => ?_) (fun h1 => ?_)
  ·
    refine lv_iconst (v := 0) (pc := 22) hx hb dzM_isFree_22 (by decide) ?_
    have K9 := K1
    try simp only [if_neg h1] at K9
    first | exact K9 | (simp only [if_neg h1]; exact K9)
  ·
    refine lv_aload_n (pc := 9) hx hb dzM_isFree_9 rfl (lv_at hl 0 rfl) ?_
    refine xk_get (pc := 10) hx hb hts hown hK hP ffzM_17 0 rfl rfl dzM_isFree_10 ?_
    refine lv_iload_n (pc := 13) hx hb dzM_isFree_13 rfl (lv_at hl 1 rfl) ?_
    refine xk_iald (q0 := 3) (t0 := 0) (j := 0) (pc := 14) hx hb hK hP rfl rfl (pk_in 0 6 (by decide)) (pk_cl 0) dzM_isFree_14 ?_
    refine lv_if_ne (pc := 15) (tgt := 22) hx hb dzM_isFree_15 (by decide) (fun h2 => ?_) (fun h2 => ?_)
    ·
      refine lv_iconst (v := 0) (pc := 22) hx hb dzM_isFree_22 (by decide) ?_
      have K9 := K1
      try simp only [if_pos h1, if_neg h2] at K9
      first | exact K9 | (simp only [if_pos h1, if_neg h2]; exact K9)
    ·
      refine lv_iconst (v := 1) (pc := 18) hx hb dzM_isFree_18 (by decide) ?_
      refine lv_goto (tgt := 23) (pc := 19) hx hb dzM_isFree_19 (by decide) ?_
      have K9 := K1
      try simp only [if_pos h1, if_pos h2] at K9
      first | exact K9 | (simp only [if_pos h1, if_pos h2]; exact K9)

def qzM_isFree_1 (g0 : xk_St) : Int32 := (if ((g0 5) 1) = 0 then (if ((g0 3) 1) = 0 then 1 else 0 : Int32) else 0 : Int32)
theorem bzM_isFree_1 (g0 : xk_St) : xk_b (qzM_isFree_1 g0) := by
  unfold qzM_isFree_1
  repeat' (first | with_reducible exact xk_b0 | with_reducible exact xk_b1 | with_reducible assumption | apply xk_bi)
set_option maxHeartbeats 4000000 in
set_option maxRecDepth 100000 in
theorem kzM_isFree_1 (l : Launch) (G : va_G) (ac : Nat → ClassId) (ad : Nat → Nat) (g0 : xk_St) : xk_CI l yzM_isFree czM_isFree 2 .boolean xk_WS xk_r0 G xk_cls (xk_tys ac) [.ref (ad 0), .int 1] (xk_wM ad ac g0) (fun r (_ : Unit) => r = qzM_isFree_1 g0) (fun _ => (xk_wM ad ac g0)) := by
  refine xk_ofI (by decide) (Nat.le_of_ble_eq_true rfl) ?_
  intro p e s m args below meth c A Q H locs ls C0 hret hP hD hS hl
  obtain ⟨hx, hb, hml, hts, hown, hK, hA⟩ := C0
  have hl : lv_has ls 2 [(0, .ref (ad 0)), (1, .int 1)] := hl
  refine lv_aload_n (pc := 0) hx hb dzM_isFree_0 rfl (lv_at hl 0 rfl) ?_
  refine xk_get (pc := 1) hx hb hts hown hK hP ffzM_23 0 rfl rfl dzM_isFree_1 ?_
  refine lv_iload_n (pc := 4) hx hb dzM_isFree_4 rfl (lv_at hl 1 rfl) ?_
  refine xk_zald (q0 := 5) (t0 := 1) (j := 1) (pc := 5) hx hb hK hP rfl rfl (pk_in 1 6 (by decide)) (pk_cl 1) dzM_isFree_5 ?_
  have K1 : W p l e xk_r0 s m args below meth c H locs 0 0 Q (F0 m 23 ls [.int (if ((g0 5) 1) = 0 then (if ((g0 3) 1) = 0 then 1 else 0 : Int32) else 0 : Int32)]) := by
    have jr : qzM_isFree_1 g0 = (if ((g0 5) 1) = 0 then (if ((g0 3) 1) = 0 then 1 else 0 : Int32) else 0 : Int32) := by unfold qzM_isFree_1; rfl
    exact hret _ () H locs 23 ls hP hS (xk_bn (by repeat' (first | with_reducible exact xk_b0 | with_reducible exact xk_b1 | apply xk_bi))) jr.symm dzM_isFree_23
  refine lv_if_ne (pc := 6) (tgt := 22) hx hb dzM_isFree_6 (by decide) (fun h1 => ?_) (fun h1 => ?_)
  ·
    refine lv_iconst (v := 0) (pc := 22) hx hb dzM_isFree_22 (by decide) ?_
    have K9 := K1
    try simp only [if_neg h1] at K9
    first | exact K9 | (simp only [if_neg h1]; exact K9)
  ·
    refine lv_aload_n (pc := 9) hx hb dzM_isFree_9 rfl (lv_at hl 0 rfl) ?_
    refine xk_get (pc := 10) hx hb hts hown hK hP ffzM_17 0 rfl rfl dzM_isFree_10 ?_
    refine lv_iload_n (pc := 13) hx hb dzM_isFree_13 rfl (lv_at hl 1 rfl) ?_
    refine xk_iald (q0 := 3) (t0 := 0) (j := 1) (pc := 14) hx hb hK hP rfl rfl (pk_in 1 6 (by decide)) (pk_cl 1) dzM_isFree_14 ?_
    refine lv_if_ne (pc := 15) (tgt := 22) hx hb dzM_isFree_15 (by decide) (fun h2 => ?_) (fun h2 => ?_)
    ·
      refine lv_iconst (v := 0) (pc := 22) hx hb dzM_isFree_22 (by decide) ?_
      have K9 := K1
      try simp only [if_pos h1, if_neg h2] at K9
      first | exact K9 | (simp only [if_pos h1, if_neg h2]; exact K9)
    ·
      refine lv_iconst (v := 1) (pc := 18) hx hb dzM_isFree_18 (by decide) ?_
      refine lv_goto (tgt := 23) (pc := 19) hx hb dzM_isFree_19 (by decide) ?_
      have K9 := K1
      try simp only [if_pos h1, if_pos h2] at K9
      first | exact K9 | (simp only [if_pos h1, if_pos h2]; exact K9)

def qzM_isFree_2 (g0 : xk_St) : Int32 := (if ((g0 5) 2) = 0 then (if ((g0 3) 2) = 0 then 1 else 0 : Int32) else 0 : Int32)
theorem bzM_isFree_2 (g0 : xk_St) : xk_b (qzM_isFree_2 g0) := by
  unfold qzM_isFree_2
  repeat' (first | with_reducible exact xk_b0 | with_reducible exact xk_b1 | with_reducible assumption | apply xk_bi)
set_option maxHeartbeats 4000000 in
set_option maxRecDepth 100000 in
theorem kzM_isFree_2 (l : Launch) (G : va_G) (ac : Nat → ClassId) (ad : Nat → Nat) (g0 : xk_St) : xk_CI l yzM_isFree czM_isFree 2 .boolean xk_WS xk_r0 G xk_cls (xk_tys ac) [.ref (ad 0), .int 2] (xk_wM ad ac g0) (fun r (_ : Unit) => r = qzM_isFree_2 g0) (fun _ => (xk_wM ad ac g0)) := by
  refine xk_ofI (by decide) (Nat.le_of_ble_eq_true rfl) ?_
  intro p e s m args below meth c A Q H locs ls C0 hret hP hD hS hl
  obtain ⟨hx, hb, hml, hts, hown, hK, hA⟩ := C0
  have hl : lv_has ls 2 [(0, .ref (ad 0)), (1, .int 2)] := hl
  refine lv_aload_n (pc := 0) hx hb dzM_isFree_0 rfl (lv_at hl 0 rfl) ?_
  refine xk_get (pc := 1) hx hb hts hown hK hP ffzM_23 0 rfl rfl dzM_isFree_1 ?_
  refine lv_iload_n (pc := 4) hx hb dzM_isFree_4 rfl (lv_at hl 1 rfl) ?_
  refine xk_zald (q0 := 5) (t0 := 1) (j := 2) (pc := 5) hx hb hK hP rfl rfl (pk_in 2 6 (by decide)) (pk_cl 2) dzM_isFree_5 ?_
  have K1 : W p l e xk_r0 s m args below meth c H locs 0 0 Q (F0 m 23 ls [.int (if ((g0 5) 2) = 0 then (if ((g0 3) 2) = 0 then 1 else 0 : Int32) else 0 : Int32)]) := by
    have jr : qzM_isFree_2 g0 = (if ((g0 5) 2) = 0 then (if ((g0 3) 2) = 0 then 1 else 0 : Int32) else 0 : Int32) := by unfold qzM_isFree_2; rfl
    exact hret _ () H locs 23 ls hP hS (xk_bn (by repeat' (first | with_reducible exact xk_b0 | with_reducible exact xk_b1 | apply xk_bi))) jr.symm dzM_isFree_23
  refine lv_if_ne (pc := 6) (tgt := 22) hx hb dzM_isFree_6 (by decide) (fun h1 => ?_) (fun h1 => ?_)
  ·
    refine lv_iconst (v := 0) (pc := 22) hx hb dzM_isFree_22 (by decide) ?_
    have K9 := K1
    try simp only [if_neg h1] at K9
    first | exact K9 | (simp only [if_neg h1]; exact K9)
  ·
    refine lv_aload_n (pc := 9) hx hb dzM_isFree_9 rfl (lv_at hl 0 rfl) ?_
    refine xk_get (pc := 10) hx hb hts hown hK hP ffzM_17 0 rfl rfl dzM_isFree_10 ?_
    refine lv_iload_n (pc := 13) hx hb dzM_isFree_13 rfl (lv_at hl 1 rfl) ?_
    refine xk_iald (q0 := 3) (t0 := 0) (j := 2) (pc := 14) hx hb hK hP rfl rfl (pk_in 2 6 (by decide)) (pk_cl 2) dzM_isFree_14 ?_
    refine lv_if_ne (pc := 15) (tgt := 22) hx hb dzM_isFree_15 (by decide) (fun h2 => ?_) (fun h2 => ?_)
    ·
      refine lv_iconst (v := 0) (pc := 22) hx hb dzM_isFree_22 (by decide) ?_
      have K9 := K1
      try simp only [if_pos h1, if_neg h2] at K9
      first | exact K9 | (simp only [if_pos h1, if_neg h2]; exact K9)
    ·
      refine lv_iconst (v := 1) (pc := 18) hx hb dzM_isFree_18 (by decide) ?_
      refine lv_goto (tgt := 23) (pc := 19) hx hb dzM_isFree_19 (by decide) ?_
      have K9 := K1
      try simp only [if_pos h1, if_pos h2] at K9
      first | exact K9 | (simp only [if_pos h1, if_pos h2]; exact K9)

def qzM_isFree_3 (g0 : xk_St) : Int32 := (if ((g0 5) 3) = 0 then (if ((g0 3) 3) = 0 then 1 else 0 : Int32) else 0 : Int32)
theorem bzM_isFree_3 (g0 : xk_St) : xk_b (qzM_isFree_3 g0) := by
  unfold qzM_isFree_3
  repeat' (first | with_reducible exact xk_b0 | with_reducible exact xk_b1 | with_reducible assumption | apply xk_bi)
set_option maxHeartbeats 4000000 in
set_option maxRecDepth 100000 in
theorem kzM_isFree_3 (l : Launch) (G : va_G) (ac : Nat → ClassId) (ad : Nat → Nat) (g0 : xk_St) : xk_CI l yzM_isFree czM_isFree 2 .boolean xk_WS xk_r0 G xk_cls (xk_tys ac) [.ref (ad 0), .int 3] (xk_wM ad ac g0) (fun r (_ : Unit) => r = qzM_isFree_3 g0) (fun _ => (xk_wM ad ac g0)) := by
  refine xk_ofI (by decide) (Nat.le_of_ble_eq_true rfl) ?_
  intro p e s m args below meth c A Q H locs ls C0 hret hP hD hS hl
  obtain ⟨hx, hb, hml, hts, hown, hK, hA⟩ := C0
  have hl : lv_has ls 2 [(0, .ref (ad 0)), (1, .int 3)] := hl
  refine lv_aload_n (pc := 0) hx hb dzM_isFree_0 rfl (lv_at hl 0 rfl) ?_
  refine xk_get (pc := 1) hx hb hts hown hK hP ffzM_23 0 rfl rfl dzM_isFree_1 ?_
  refine lv_iload_n (pc := 4) hx hb dzM_isFree_4 rfl (lv_at hl 1 rfl) ?_
  refine xk_zald (q0 := 5) (t0 := 1) (j := 3) (pc := 5) hx hb hK hP rfl rfl (pk_in 3 6 (by decide)) (pk_cl 3) dzM_isFree_5 ?_
  have K1 : W p l e xk_r0 s m args below meth c H locs 0 0 Q (F0 m 23 ls [.int (if ((g0 5) 3) = 0 then (if ((g0 3) 3) = 0 then 1 else 0 : Int32) else 0 : Int32)]) := by
    have jr : qzM_isFree_3 g0 = (if ((g0 5) 3) = 0 then (if ((g0 3) 3) = 0 then 1 else 0 : Int32) else 0 : Int32) := by unfold qzM_isFree_3; rfl
    exact hret _ () H locs 23 ls hP hS (xk_bn (by repeat' (first | with_reducible exact xk_b0 | with_reducible exact xk_b1 | apply xk_bi))) jr.symm dzM_isFree_23
  refine lv_if_ne (pc := 6) (tgt := 22) hx hb dzM_isFree_6 (by decide) (fun h1 => ?_) (fun h1 => ?_)
  ·
    refine lv_iconst (v := 0) (pc := 22) hx hb dzM_isFree_22 (by decide) ?_
    have K9 := K1
    try simp only [if_neg h1] at K9
    first | exact K9 | (simp only [if_neg h1]; exact K9)
  ·
    refine lv_aload_n (pc := 9) hx hb dzM_isFree_9 rfl (lv_at hl 0 rfl) ?_
    refine xk_get (pc := 10) hx hb hts hown hK hP ffzM_17 0 rfl rfl dzM_isFree_10 ?_
    refine lv_iload_n (pc := 13) hx hb dzM_isFree_13 rfl (lv_at hl 1 rfl) ?_
    refine xk_iald (q0 := 3) (t0 := 0) (j := 3) (pc := 14) hx hb hK hP rfl rfl (pk_in 3 6 (by decide)) (pk_cl 3) dzM_isFree_14 ?_
    refine lv_if_ne (pc := 15) (tgt := 22) hx hb dzM_isFree_15 (by decide) (fun h2 => ?_) (fun h2 => ?_)
    ·
      refine lv_iconst (v := 0) (pc := 22) hx hb dzM_isFree_22 (by decide) ?_
      have K9 := K1
      try simp only [if_pos h1, if_neg h2] at K9
      first | exact K9 | (simp only [if_pos h1, if_neg h2]; exact K9)
    ·
      refine lv_iconst (v := 1) (pc := 18) hx hb dzM_isFree_18 (by decide) ?_
      refine lv_goto (tgt := 23) (pc := 19) hx hb dzM_isFree_19 (by decide) ?_
      have K9 := K1
      try simp only [if_pos h1, if_pos h2] at K9
      first | exact K9 | (simp only [if_pos h1, if_pos h2]; exact K9)

def qzM_isFree_4 (g0 : xk_St) : Int32 := (if ((g0 5) 4) = 0 then (if ((g0 3) 4) = 0 then 1 else 0 : Int32) else 0 : Int32)
theorem bzM_isFree_4 (g0 : xk_St) : xk_b (qzM_isFree_4 g0) := by
  unfold qzM_isFree_4
  repeat' (first | with_reducible exact xk_b0 | with_reducible exact xk_b1 | with_reducible assumption | apply xk_bi)
set_option maxHeartbeats 4000000 in
set_option maxRecDepth 100000 in
theorem kzM_isFree_4 (l : Launch) (G : va_G) (ac : Nat → ClassId) (ad : Nat → Nat) (g0 : xk_St) : xk_CI l yzM_isFree czM_isFree 2 .boolean xk_WS xk_r0 G xk_cls (xk_tys ac) [.ref (ad 0), .int 4] (xk_wM ad ac g0) (fun r (_ : Unit) => r = qzM_isFree_4 g0) (fun _ => (xk_wM ad ac g0)) := by
  refine xk_ofI (by decide) (Nat.le_of_ble_eq_true rfl) ?_
  intro p e s m args below meth c A Q H locs ls C0 hret hP hD hS hl
  obtain ⟨hx, hb, hml, hts, hown, hK, hA⟩ := C0
  have hl : lv_has ls 2 [(0, .ref (ad 0)), (1, .int 4)] := hl
  refine lv_aload_n (pc := 0) hx hb dzM_isFree_0 rfl (lv_at hl 0 rfl) ?_
  refine xk_get (pc := 1) hx hb hts hown hK hP ffzM_23 0 rfl rfl dzM_isFree_1 ?_
  refine lv_iload_n (pc := 4) hx hb dzM_isFree_4 rfl (lv_at hl 1 rfl) ?_
  refine xk_zald (q0 := 5) (t0 := 1) (j := 4) (pc := 5) hx hb hK hP rfl rfl (pk_in 4 6 (by decide)) (pk_cl 4) dzM_isFree_5 ?_
  have K1 : W p l e xk_r0 s m args below meth c H locs 0 0 Q (F0 m 23 ls [.int (if ((g0 5) 4) = 0 then (if ((g0 3) 4) = 0 then 1 else 0 : Int32) else 0 : Int32)]) := by
    have jr : qzM_isFree_4 g0 = (if ((g0 5) 4) = 0 then (if ((g0 3) 4) = 0 then 1 else 0 : Int32) else 0 : Int32) := by unfold qzM_isFree_4; rfl
    exact hret _ () H locs 23 ls hP hS (xk_bn (by repeat' (first | with_reducible exact xk_b0 | with_reducible exact xk_b1 | apply xk_bi))) jr.symm dzM_isFree_23
  refine lv_if_ne (pc := 6) (tgt := 22) hx hb dzM_isFree_6 (by decide) (fun h1 => ?_) (fun h1 => ?_)
  ·
    refine lv_iconst (v := 0) (pc := 22) hx hb dzM_isFree_22 (by decide) ?_
    have K9 := K1
    try simp only [if_neg h1] at K9
    first | exact K9 | (simp only [if_neg h1]; exact K9)
  ·
    refine lv_aload_n (pc := 9) hx hb dzM_isFree_9 rfl (lv_at hl 0 rfl) ?_
    refine xk_get (pc := 10) hx hb hts hown hK hP ffzM_17 0 rfl rfl dzM_isFree_10 ?_
    refine lv_iload_n (pc := 13) hx hb dzM_isFree_13 rfl (lv_at hl 1 rfl) ?_
    refine xk_iald (q0 := 3) (t0 := 0) (j := 4) (pc := 14) hx hb hK hP rfl rfl (pk_in 4 6 (by decide)) (pk_cl 4) dzM_isFree_14 ?_
    refine lv_if_ne (pc := 15) (tgt := 22) hx hb dzM_isFree_15 (by decide) (fun h2 => ?_) (fun h2 => ?_)
    ·
      refine lv_iconst (v := 0) (pc := 22) hx hb dzM_isFree_22 (by decide) ?_
      have K9 := K1
      try simp only [if_pos h1, if_neg h2] at K9
      first | exact K9 | (simp only [if_pos h1, if_neg h2]; exact K9)
    ·
      refine lv_iconst (v := 1) (pc := 18) hx hb dzM_isFree_18 (by decide) ?_
      refine lv_goto (tgt := 23) (pc := 19) hx hb dzM_isFree_19 (by decide) ?_
      have K9 := K1
      try simp only [if_pos h1, if_pos h2] at K9
      first | exact K9 | (simp only [if_pos h1, if_pos h2]; exact K9)

def qzM_isFree_5 (g0 : xk_St) : Int32 := (if ((g0 5) 5) = 0 then (if ((g0 3) 5) = 0 then 1 else 0 : Int32) else 0 : Int32)
theorem bzM_isFree_5 (g0 : xk_St) : xk_b (qzM_isFree_5 g0) := by
  unfold qzM_isFree_5
  repeat' (first | with_reducible exact xk_b0 | with_reducible exact xk_b1 | with_reducible assumption | apply xk_bi)
set_option maxHeartbeats 4000000 in
set_option maxRecDepth 100000 in
theorem kzM_isFree_5 (l : Launch) (G : va_G) (ac : Nat → ClassId) (ad : Nat → Nat) (g0 : xk_St) : xk_CI l yzM_isFree czM_isFree 2 .boolean xk_WS xk_r0 G xk_cls (xk_tys ac) [.ref (ad 0), .int 5] (xk_wM ad ac g0) (fun r (_ : Unit) => r = qzM_isFree_5 g0) (fun _ => (xk_wM ad ac g0)) := by
  refine xk_ofI (by decide) (Nat.le_of_ble_eq_true rfl) ?_
  intro p e s m args below meth c A Q H locs ls C0 hret hP hD hS hl
  obtain ⟨hx, hb, hml, hts, hown, hK, hA⟩ := C0
  have hl : lv_has ls 2 [(0, .ref (ad 0)), (1, .int 5)] := hl
  refine lv_aload_n (pc := 0) hx hb dzM_isFree_0 rfl (lv_at hl 0 rfl) ?_
  refine xk_get (pc := 1) hx hb hts hown hK hP ffzM_23 0 rfl rfl dzM_isFree_1 ?_
  refine lv_iload_n (pc := 4) hx hb dzM_isFree_4 rfl (lv_at hl 1 rfl) ?_
  refine xk_zald (q0 := 5) (t0 := 1) (j := 5) (pc := 5) hx hb hK hP rfl rfl (pk_in 5 6 (by decide)) (pk_cl 5) dzM_isFree_5 ?_
  have K1 : W p l e xk_r0 s m args below meth c H locs 0 0 Q (F0 m 23 ls [.int (if ((g0 5) 5) = 0 then (if ((g0 3) 5) = 0 then 1 else 0 : Int32) else 0 : Int32)]) := by
    have jr : qzM_isFree_5 g0 = (if ((g0 5) 5) = 0 then (if ((g0 3) 5) = 0 then 1 else 0 : Int32) else 0 : Int32) := by unfold qzM_isFree_5; rfl
    exact hret _ () H locs 23 ls hP hS (xk_bn (by repeat' (first | with_reducible exact xk_b0 | with_reducible exact xk_b1 | apply xk_bi))) jr.symm dzM_isFree_23
  refine lv_if_ne (pc := 6) (tgt := 22) hx hb dzM_isFree_6 (by decide) (fun h1 => ?_) (fun h1 => ?_)
  ·
    refine lv_iconst (v := 0) (pc := 22) hx hb dzM_isFree_22 (by decide) ?_
    have K9 := K1
    try simp only [if_neg h1] at K9
    first | exact K9 | (simp only [if_neg h1]; exact K9)
  ·
    refine lv_aload_n (pc := 9) hx hb dzM_isFree_9 rfl (lv_at hl 0 rfl) ?_
    refine xk_get (pc := 10) hx hb hts hown hK hP ffzM_17 0 rfl rfl dzM_isFree_10 ?_
    refine lv_iload_n (pc := 13) hx hb dzM_isFree_13 rfl (lv_at hl 1 rfl) ?_
    refine xk_iald (q0 := 3) (t0 := 0) (j := 5) (pc := 14) hx hb hK hP rfl rfl (pk_in 5 6 (by decide)) (pk_cl 5) dzM_isFree_14 ?_
    refine lv_if_ne (pc := 15) (tgt := 22) hx hb dzM_isFree_15 (by decide) (fun h2 => ?_) (fun h2 => ?_)
    ·
      refine lv_iconst (v := 0) (pc := 22) hx hb dzM_isFree_22 (by decide) ?_
      have K9 := K1
      try simp only [if_pos h1, if_neg h2] at K9
      first | exact K9 | (simp only [if_pos h1, if_neg h2]; exact K9)
    ·
      refine lv_iconst (v := 1) (pc := 18) hx hb dzM_isFree_18 (by decide) ?_
      refine lv_goto (tgt := 23) (pc := 19) hx hb dzM_isFree_19 (by decide) ?_
      have K9 := K1
      try simp only [if_pos h1, if_pos h2] at K9
      first | exact K9 | (simp only [if_pos h1, if_pos h2]; exact K9)

def qzM_anyDisturbed_0 (g0 : xk_St) : Int32 := (if ((g0 5) 0) = 0 then (if ((g0 5) 1) = 0 then (if ((g0 5) 2) = 0 then 0 else 1 : Int32) else 1 : Int32) else 1 : Int32)
theorem bzM_anyDisturbed_0 (g0 : xk_St) : xk_b (qzM_anyDisturbed_0 g0) := by
  unfold qzM_anyDisturbed_0
  repeat' (first | with_reducible exact xk_b0 | with_reducible exact xk_b1 | with_reducible assumption | apply xk_bi)
set_option maxHeartbeats 4000000 in
set_option maxRecDepth 100000 in
theorem kzM_anyDisturbed_0 (l : Launch) (G : va_G) (ac : Nat → ClassId) (ad : Nat → Nat) (g0 : xk_St) : xk_CI l yzM_anyDisturbed czM_anyDisturbed 2 .boolean xk_WS xk_r0 G xk_cls (xk_tys ac) [.ref (ad 0), .int 0] (xk_wM ad ac g0) (fun r (_ : Unit) => r = qzM_anyDisturbed_0 g0) (fun _ => (xk_wM ad ac g0)) := by
  refine xk_ofI (by decide) (Nat.le_of_ble_eq_true rfl) ?_
  intro p e s m args below meth c A Q H locs ls C0 hret hP hD hS hl
  obtain ⟨hx, hb, hml, hts, hown, hK, hA⟩ := C0
  have hl : lv_has ls 2 [(0, .ref (ad 0)), (1, .int 0)] := hl
  refine lv_aload_n (pc := 0) hx hb dzM_anyDisturbed_0 rfl (lv_at hl 0 rfl) ?_
  refine xk_get (pc := 1) hx hb hts hown hK hP ffzM_23 0 rfl rfl dzM_anyDisturbed_1 ?_
  refine lv_iconst (v := 3) (pc := 4) hx hb dzM_anyDisturbed_4 (by decide) ?_
  refine lv_iload_n (pc := 5) hx hb dzM_anyDisturbed_5 rfl (lv_at hl 1 rfl) ?_
  refine lv_imul (pc := 6) hx hb dzM_anyDisturbed_6 ?_
  refine xk_is (y := 0) (by decide) ?_
  refine xk_zald (q0 := 5) (t0 := 1) (j := 0) (pc := 7) hx hb hK hP rfl rfl (pk_in 0 6 (by decide)) (pk_cl 0) dzM_anyDisturbed_7 ?_
  have K1 : W p l e xk_r0 s m args below meth c H locs 0 0 Q (F0 m 42 ls [.int (if ((g0 5) 0) = 0 then (if ((g0 5) 1) = 0 then (if ((g0 5) 2) = 0 then 0 else 1 : Int32) else 1 : Int32) else 1 : Int32)]) := by
    have jr : qzM_anyDisturbed_0 g0 = (if ((g0 5) 0) = 0 then (if ((g0 5) 1) = 0 then (if ((g0 5) 2) = 0 then 0 else 1 : Int32) else 1 : Int32) else 1 : Int32) := by unfold qzM_anyDisturbed_0; rfl
    exact hret _ () H locs 42 ls hP hS (xk_bn (by repeat' (first | with_reducible exact xk_b0 | with_reducible exact xk_b1 | apply xk_bi))) jr.symm dzM_anyDisturbed_42
  refine lv_if_ne (pc := 8) (tgt := 37) hx hb dzM_anyDisturbed_8 (by decide) (fun h1 => ?_) (fun h1 => ?_)
  ·
    refine lv_iconst (v := 1) (pc := 37) hx hb dzM_anyDisturbed_37 (by decide) ?_
    refine lv_goto (tgt := 42) (pc := 38) hx hb dzM_anyDisturbed_38 (by decide) ?_
    have K9 := K1
    try simp only [if_neg h1] at K9
    first | exact K9 | (simp only [if_neg h1]; exact K9)
  ·
    refine lv_aload_n (pc := 11) hx hb dzM_anyDisturbed_11 rfl (lv_at hl 0 rfl) ?_
    refine xk_get (pc := 12) hx hb hts hown hK hP ffzM_23 0 rfl rfl dzM_anyDisturbed_12 ?_
    refine lv_iconst (v := 3) (pc := 15) hx hb dzM_anyDisturbed_15 (by decide) ?_
    refine lv_iload_n (pc := 16) hx hb dzM_anyDisturbed_16 rfl (lv_at hl 1 rfl) ?_
    refine lv_imul (pc := 17) hx hb dzM_anyDisturbed_17 ?_
    refine xk_is (y := 0) (by decide) ?_
    refine lv_iconst (v := 1) (pc := 18) hx hb dzM_anyDisturbed_18 (by decide) ?_
    refine lv_iadd (pc := 19) hx hb dzM_anyDisturbed_19 ?_
    refine xk_is (y := 1) (by decide) ?_
    refine xk_zald (q0 := 5) (t0 := 1) (j := 1) (pc := 20) hx hb hK hP rfl rfl (pk_in 1 6 (by decide)) (pk_cl 1) dzM_anyDisturbed_20 ?_
    refine lv_if_ne (pc := 21) (tgt := 37) hx hb dzM_anyDisturbed_21 (by decide) (fun h2 => ?_) (fun h2 => ?_)
    ·
      refine lv_iconst (v := 1) (pc := 37) hx hb dzM_anyDisturbed_37 (by decide) ?_
      refine lv_goto (tgt := 42) (pc := 38) hx hb dzM_anyDisturbed_38 (by decide) ?_
      have K9 := K1
      try simp only [if_pos h1, if_neg h2] at K9
      first | exact K9 | (simp only [if_pos h1, if_neg h2]; exact K9)
    ·
      refine lv_aload_n (pc := 24) hx hb dzM_anyDisturbed_24 rfl (lv_at hl 0 rfl) ?_
      refine xk_get (pc := 25) hx hb hts hown hK hP ffzM_23 0 rfl rfl dzM_anyDisturbed_25 ?_
      refine lv_iconst (v := 3) (pc := 28) hx hb dzM_anyDisturbed_28 (by decide) ?_
      refine lv_iload_n (pc := 29) hx hb dzM_anyDisturbed_29 rfl (lv_at hl 1 rfl) ?_
      refine lv_imul (pc := 30) hx hb dzM_anyDisturbed_30 ?_
      refine xk_is (y := 0) (by decide) ?_
      refine lv_iconst (v := 2) (pc := 31) hx hb dzM_anyDisturbed_31 (by decide) ?_
      refine lv_iadd (pc := 32) hx hb dzM_anyDisturbed_32 ?_
      refine xk_is (y := 2) (by decide) ?_
      refine xk_zald (q0 := 5) (t0 := 1) (j := 2) (pc := 33) hx hb hK hP rfl rfl (pk_in 2 6 (by decide)) (pk_cl 2) dzM_anyDisturbed_33 ?_
      refine lv_if_eq (pc := 34) (tgt := 41) hx hb dzM_anyDisturbed_34 (by decide) (fun h3 => ?_) (fun h3 => ?_)
      ·
        refine lv_iconst (v := 0) (pc := 41) hx hb dzM_anyDisturbed_41 (by decide) ?_
        have K9 := K1
        try simp only [if_pos h1, if_pos h2, if_pos h3] at K9
        first | exact K9 | (simp only [if_pos h1, if_pos h2, if_pos h3]; exact K9)
      ·
        refine lv_iconst (v := 1) (pc := 37) hx hb dzM_anyDisturbed_37 (by decide) ?_
        refine lv_goto (tgt := 42) (pc := 38) hx hb dzM_anyDisturbed_38 (by decide) ?_
        have K9 := K1
        try simp only [if_pos h1, if_pos h2, if_neg h3] at K9
        first | exact K9 | (simp only [if_pos h1, if_pos h2, if_neg h3]; exact K9)

def qzM_anyDisturbed_1 (g0 : xk_St) : Int32 := (if ((g0 5) 3) = 0 then (if ((g0 5) 4) = 0 then (if ((g0 5) 5) = 0 then 0 else 1 : Int32) else 1 : Int32) else 1 : Int32)
theorem bzM_anyDisturbed_1 (g0 : xk_St) : xk_b (qzM_anyDisturbed_1 g0) := by
  unfold qzM_anyDisturbed_1
  repeat' (first | with_reducible exact xk_b0 | with_reducible exact xk_b1 | with_reducible assumption | apply xk_bi)
set_option maxHeartbeats 4000000 in
set_option maxRecDepth 100000 in
theorem kzM_anyDisturbed_1 (l : Launch) (G : va_G) (ac : Nat → ClassId) (ad : Nat → Nat) (g0 : xk_St) : xk_CI l yzM_anyDisturbed czM_anyDisturbed 2 .boolean xk_WS xk_r0 G xk_cls (xk_tys ac) [.ref (ad 0), .int 1] (xk_wM ad ac g0) (fun r (_ : Unit) => r = qzM_anyDisturbed_1 g0) (fun _ => (xk_wM ad ac g0)) := by
  refine xk_ofI (by decide) (Nat.le_of_ble_eq_true rfl) ?_
  intro p e s m args below meth c A Q H locs ls C0 hret hP hD hS hl
  obtain ⟨hx, hb, hml, hts, hown, hK, hA⟩ := C0
  have hl : lv_has ls 2 [(0, .ref (ad 0)), (1, .int 1)] := hl
  refine lv_aload_n (pc := 0) hx hb dzM_anyDisturbed_0 rfl (lv_at hl 0 rfl) ?_
  refine xk_get (pc := 1) hx hb hts hown hK hP ffzM_23 0 rfl rfl dzM_anyDisturbed_1 ?_
  refine lv_iconst (v := 3) (pc := 4) hx hb dzM_anyDisturbed_4 (by decide) ?_
  refine lv_iload_n (pc := 5) hx hb dzM_anyDisturbed_5 rfl (lv_at hl 1 rfl) ?_
  refine lv_imul (pc := 6) hx hb dzM_anyDisturbed_6 ?_
  refine xk_is (y := 3) (by decide) ?_
  refine xk_zald (q0 := 5) (t0 := 1) (j := 3) (pc := 7) hx hb hK hP rfl rfl (pk_in 3 6 (by decide)) (pk_cl 3) dzM_anyDisturbed_7 ?_
  have K1 : W p l e xk_r0 s m args below meth c H locs 0 0 Q (F0 m 42 ls [.int (if ((g0 5) 3) = 0 then (if ((g0 5) 4) = 0 then (if ((g0 5) 5) = 0 then 0 else 1 : Int32) else 1 : Int32) else 1 : Int32)]) := by
    have jr : qzM_anyDisturbed_1 g0 = (if ((g0 5) 3) = 0 then (if ((g0 5) 4) = 0 then (if ((g0 5) 5) = 0 then 0 else 1 : Int32) else 1 : Int32) else 1 : Int32) := by unfold qzM_anyDisturbed_1; rfl
    exact hret _ () H locs 42 ls hP hS (xk_bn (by repeat' (first | with_reducible exact xk_b0 | with_reducible exact xk_b1 | apply xk_bi))) jr.symm dzM_anyDisturbed_42
  refine lv_if_ne (pc := 8) (tgt := 37) hx hb dzM_anyDisturbed_8 (by decide) (fun h1 => ?_) (fun h1 => ?_)
  ·
    refine lv_iconst (v := 1) (pc := 37) hx hb dzM_anyDisturbed_37 (by decide) ?_
    refine lv_goto (tgt := 42) (pc := 38) hx hb dzM_anyDisturbed_38 (by decide) ?_
    have K9 := K1
    try simp only [if_neg h1] at K9
    first | exact K9 | (simp only [if_neg h1]; exact K9)
  ·
    refine lv_aload_n (pc := 11) hx hb dzM_anyDisturbed_11 rfl (lv_at hl 0 rfl) ?_
    refine xk_get (pc := 12) hx hb hts hown hK hP ffzM_23 0 rfl rfl dzM_anyDisturbed_12 ?_
    refine lv_iconst (v := 3) (pc := 15) hx hb dzM_anyDisturbed_15 (by decide) ?_
    refine lv_iload_n (pc := 16) hx hb dzM_anyDisturbed_16 rfl (lv_at hl 1 rfl) ?_
    refine lv_imul (pc := 17) hx hb dzM_anyDisturbed_17 ?_
    refine xk_is (y := 3) (by decide) ?_
    refine lv_iconst (v := 1) (pc := 18) hx hb dzM_anyDisturbed_18 (by decide) ?_
    refine lv_iadd (pc := 19) hx hb dzM_anyDisturbed_19 ?_
    refine xk_is (y := 4) (by decide) ?_
    refine xk_zald (q0 := 5) (t0 := 1) (j := 4) (pc := 20) hx hb hK hP rfl rfl (pk_in 4 6 (by decide)) (pk_cl 4) dzM_anyDisturbed_20 ?_
    refine lv_if_ne (pc := 21) (tgt := 37) hx hb dzM_anyDisturbed_21 (by decide) (fun h2 => ?_) (fun h2 => ?_)
    ·
      refine lv_iconst (v := 1) (pc := 37) hx hb dzM_anyDisturbed_37 (by decide) ?_
      refine lv_goto (tgt := 42) (pc := 38) hx hb dzM_anyDisturbed_38 (by decide) ?_
      have K9 := K1
      try simp only [if_pos h1, if_neg h2] at K9
      first | exact K9 | (simp only [if_pos h1, if_neg h2]; exact K9)
    ·
      refine lv_aload_n (pc := 24) hx hb dzM_anyDisturbed_24 rfl (lv_at hl 0 rfl) ?_
      refine xk_get (pc := 25) hx hb hts hown hK hP ffzM_23 0 rfl rfl dzM_anyDisturbed_25 ?_
      refine lv_iconst (v := 3) (pc := 28) hx hb dzM_anyDisturbed_28 (by decide) ?_
      refine lv_iload_n (pc := 29) hx hb dzM_anyDisturbed_29 rfl (lv_at hl 1 rfl) ?_
      refine lv_imul (pc := 30) hx hb dzM_anyDisturbed_30 ?_
      refine xk_is (y := 3) (by decide) ?_
      refine lv_iconst (v := 2) (pc := 31) hx hb dzM_anyDisturbed_31 (by decide) ?_
      refine lv_iadd (pc := 32) hx hb dzM_anyDisturbed_32 ?_
      refine xk_is (y := 5) (by decide) ?_
      refine xk_zald (q0 := 5) (t0 := 1) (j := 5) (pc := 33) hx hb hK hP rfl rfl (pk_in 5 6 (by decide)) (pk_cl 5) dzM_anyDisturbed_33 ?_
      refine lv_if_eq (pc := 34) (tgt := 41) hx hb dzM_anyDisturbed_34 (by decide) (fun h3 => ?_) (fun h3 => ?_)
      ·
        refine lv_iconst (v := 0) (pc := 41) hx hb dzM_anyDisturbed_41 (by decide) ?_
        have K9 := K1
        try simp only [if_pos h1, if_pos h2, if_pos h3] at K9
        first | exact K9 | (simp only [if_pos h1, if_pos h2, if_pos h3]; exact K9)
      ·
        refine lv_iconst (v := 1) (pc := 37) hx hb dzM_anyDisturbed_37 (by decide) ?_
        refine lv_goto (tgt := 42) (pc := 38) hx hb dzM_anyDisturbed_38 (by decide) ?_
        have K9 := K1
        try simp only [if_pos h1, if_pos h2, if_neg h3] at K9
        first | exact K9 | (simp only [if_pos h1, if_pos h2, if_neg h3]; exact K9)

def qzM_swept_0 (g0 : xk_St) : Int32 := (if ((g0 6) 0) = 0 then 0 else (if (if ((g0 7) 0) = ((g0 8) 0) then (if ((g0 7) 0) = 0 then 0 else (if ((g0 9) 0) = 0 then (if ((g0 10) 0) = 0 then 1 else 0 : Int32) else 0 : Int32) : Int32) else 0 : Int32) = 0 then (if (if ((g0 9) 0) = ((g0 10) 0) then (if ((g0 9) 0) = 0 then 0 else (if ((g0 7) 0) = 0 then (if ((g0 8) 0) = 0 then 1 else 0 : Int32) else 0 : Int32) : Int32) else 0 : Int32) = 0 then 0 else 1 : Int32) else 1 : Int32) : Int32)
theorem bzM_swept_0 (g0 : xk_St) : xk_b (qzM_swept_0 g0) := by
  unfold qzM_swept_0
  repeat' (first | with_reducible exact xk_b0 | with_reducible exact xk_b1 | with_reducible assumption | apply xk_bi)
set_option maxHeartbeats 4000000 in
set_option maxRecDepth 100000 in
theorem kzM_swept_0 (l : Launch) (G : va_G) (ac : Nat → ClassId) (ad : Nat → Nat) (g0 : xk_St) : xk_CI l yzM_swept czM_swept 4 .boolean xk_WS xk_r0 G xk_cls (xk_tys ac) [.ref (ad 0), .int 0] (xk_wM ad ac g0) (fun r (_ : Unit) => r = qzM_swept_0 g0) (fun _ => (xk_wM ad ac g0)) := by
  refine xk_ofI (by decide) (Nat.le_of_ble_eq_true rfl) ?_
  intro p e s m args below meth c A Q H locs ls C0 hret hP hD hS hl
  obtain ⟨hx, hb, hml, hts, hown, hK, hA⟩ := C0
  have hl : lv_has ls 4 [(0, .ref (ad 0)), (1, .int 0)] := hl
  refine lv_aload_n (pc := 0) hx hb dzM_swept_0 rfl (lv_at hl 0 rfl) ?_
  refine xk_get (pc := 1) hx hb hts hown hK hP ffzM_29 0 rfl rfl dzM_swept_1 ?_
  refine lv_iload_n (pc := 4) hx hb dzM_swept_4 rfl (lv_at hl 1 rfl) ?_
  refine xk_iald (q0 := 7) (t0 := 0) (j := 0) (pc := 5) hx hb hK hP rfl rfl (pk_in 0 6 (by decide)) (pk_cl 0) dzM_swept_5 ?_
  refine lv_aload_n (pc := 6) hx hb dzM_swept_6 rfl (lv_at hl 0 rfl) ?_
  refine xk_get (pc := 7) hx hb hts hown hK hP ffzM_32 0 rfl rfl dzM_swept_7 ?_
  refine lv_iload_n (pc := 10) hx hb dzM_swept_10 rfl (lv_at hl 1 rfl) ?_
  refine xk_iald (q0 := 8) (t0 := 0) (j := 0) (pc := 11) hx hb hK hP rfl rfl (pk_in 0 6 (by decide)) (pk_cl 0) dzM_swept_11 ?_
  have K1 : W p l e xk_r0 s m args below meth c H locs 0 0 Q (F0 m 47 ls [.int (if ((g0 7) 0) = ((g0 8) 0) then (if ((g0 7) 0) = 0 then 0 else (if ((g0 9) 0) = 0 then (if ((g0 10) 0) = 0 then 1 else 0 : Int32) else 0 : Int32) : Int32) else 0 : Int32)]) := by
    refine lv_istore_n (lv' := [(2, .int (if ((g0 7) 0) = ((g0 8) 0) then (if ((g0 7) 0) = 0 then 0 else (if ((g0 9) 0) = 0 then (if ((g0 10) 0) = 0 then 1 else 0 : Int32) else 0 : Int32) : Int32) else 0 : Int32)), (0, .ref (ad 0)), (1, .int 0)]) (pc := 47) hx hb dzM_swept_47 rfl hl (by decide) rfl (fun ls hl => ?_)
    refine lv_aload_n (pc := 48) hx hb dzM_swept_48 rfl (lv_at hl 1 rfl) ?_
    refine xk_get (pc := 49) hx hb hts hown hK hP ffzM_35 0 rfl rfl dzM_swept_49 ?_
    refine lv_iload_n (pc := 52) hx hb dzM_swept_52 rfl (lv_at hl 2 rfl) ?_
    refine xk_iald (q0 := 9) (t0 := 0) (j := 0) (pc := 53) hx hb hK hP rfl rfl (pk_in 0 6 (by decide)) (pk_cl 0) dzM_swept_53 ?_
    refine lv_aload_n (pc := 54) hx hb dzM_swept_54 rfl (lv_at hl 1 rfl) ?_
    refine xk_get (pc := 55) hx hb hts hown hK hP ffzM_38 0 rfl rfl dzM_swept_55 ?_
    refine lv_iload_n (pc := 58) hx hb dzM_swept_58 rfl (lv_at hl 2 rfl) ?_
    refine xk_iald (q0 := 10) (t0 := 0) (j := 0) (pc := 59) hx hb hK hP rfl rfl (pk_in 0 6 (by decide)) (pk_cl 0) dzM_swept_59 ?_
    have K2 : W p l e xk_r0 s m args below meth c H locs 0 0 Q (F0 m 95 ls [.int (if ((g0 9) 0) = ((g0 10) 0) then (if ((g0 9) 0) = 0 then 0 else (if ((g0 7) 0) = 0 then (if ((g0 8) 0) = 0 then 1 else 0 : Int32) else 0 : Int32) : Int32) else 0 : Int32)]) := by
      refine lv_istore_n (lv' := [(3, .int (if ((g0 9) 0) = ((g0 10) 0) then (if ((g0 9) 0) = 0 then 0 else (if ((g0 7) 0) = 0 then (if ((g0 8) 0) = 0 then 1 else 0 : Int32) else 0 : Int32) : Int32) else 0 : Int32)), (2, .int (if ((g0 7) 0) = ((g0 8) 0) then (if ((g0 7) 0) = 0 then 0 else (if ((g0 9) 0) = 0 then (if ((g0 10) 0) = 0 then 1 else 0 : Int32) else 0 : Int32) : Int32) else 0 : Int32)), (0, .ref (ad 0)), (1, .int 0)]) (pc := 95) hx hb dzM_swept_95 rfl hl (by decide) rfl (fun ls hl => ?_)
      refine lv_aload_n (pc := 96) hx hb dzM_swept_96 rfl (lv_at hl 2 rfl) ?_
      refine xk_get (pc := 97) hx hb hts hown hK hP ffzM_26 0 rfl rfl dzM_swept_97 ?_
      refine lv_iload_n (pc := 100) hx hb dzM_swept_100 rfl (lv_at hl 3 rfl) ?_
      refine xk_iald (q0 := 6) (t0 := 0) (j := 0) (pc := 101) hx hb hK hP rfl rfl (pk_in 0 6 (by decide)) (pk_cl 0) dzM_swept_101 ?_
      have K3 : W p l e xk_r0 s m args below meth c H locs 0 0 Q (F0 m 118 ls [.int (if ((g0 6) 0) = 0 then 0 else (if (if ((g0 7) 0) = ((g0 8) 0) then (if ((g0 7) 0) = 0 then 0 else (if ((g0 9) 0) = 0 then (if ((g0 10) 0) = 0 then 1 else 0 : Int32) else 0 : Int32) : Int32) else 0 : Int32) = 0 then (if (if ((g0 9) 0) = ((g0 10) 0) then (if ((g0 9) 0) = 0 then 0 else (if ((g0 7) 0) = 0 then (if ((g0 8) 0) = 0 then 1 else 0 : Int32) else 0 : Int32) : Int32) else 0 : Int32) = 0 then 0 else 1 : Int32) else 1 : Int32) : Int32)]) := by
        have jr : qzM_swept_0 g0 = (if ((g0 6) 0) = 0 then 0 else (if (if ((g0 7) 0) = ((g0 8) 0) then (if ((g0 7) 0) = 0 then 0 else (if ((g0 9) 0) = 0 then (if ((g0 10) 0) = 0 then 1 else 0 : Int32) else 0 : Int32) : Int32) else 0 : Int32) = 0 then (if (if ((g0 9) 0) = ((g0 10) 0) then (if ((g0 9) 0) = 0 then 0 else (if ((g0 7) 0) = 0 then (if ((g0 8) 0) = 0 then 1 else 0 : Int32) else 0 : Int32) : Int32) else 0 : Int32) = 0 then 0 else 1 : Int32) else 1 : Int32) : Int32) := by unfold qzM_swept_0; rfl
        exact hret _ () H locs 118 ls hP hS (xk_bn (by repeat' (first | with_reducible exact xk_b0 | with_reducible exact xk_b1 | apply xk_bi))) jr.symm dzM_swept_118
      refine lv_if_eq (pc := 102) (tgt := 117) hx hb dzM_swept_102 (by decide) (fun h9 => ?_) (fun h9 => ?_)
      ·
        refine lv_iconst (v := 0) (pc := 117) hx hb dzM_swept_117 (by decide) ?_
        have K9 := K3
        try simp only [if_pos h9] at K9
        first | exact K9 | (simp only [if_pos h9]; exact K9)
      ·
        refine lv_iload_n (pc := 105) hx hb dzM_swept_105 rfl (lv_at hl 1 rfl) ?_
        refine lv_if_ne (pc := 106) (tgt := 113) hx hb dzM_swept_106 (by decide) (fun h10 => ?_) (fun h10 => ?_)
        ·
          refine lv_iconst (v := 1) (pc := 113) hx hb dzM_swept_113 (by decide) ?_
          refine lv_goto (tgt := 118) (pc := 114) hx hb dzM_swept_114 (by decide) ?_
          have K9 := K3
          try simp only [if_neg h9, if_neg h10] at K9
          first | exact K9 | (simp only [if_neg h9, if_neg h10]; exact K9)
        ·
          refine lv_iload_n (pc := 109) hx hb dzM_swept_109 rfl (lv_at hl 0 rfl) ?_
          refine lv_if_eq (pc := 110) (tgt := 117) hx hb dzM_swept_110 (by decide) (fun h11 => ?_) (fun h11 => ?_)
          ·
            refine lv_iconst (v := 0) (pc := 117) hx hb dzM_swept_117 (by decide) ?_
            have K9 := K3
            try simp only [if_neg h9, if_pos h10, if_pos h11] at K9
            first | exact K9 | (simp only [if_neg h9, if_pos h10, if_pos h11]; exact K9)
          ·
            refine lv_iconst (v := 1) (pc := 113) hx hb dzM_swept_113 (by decide) ?_
            refine lv_goto (tgt := 118) (pc := 114) hx hb dzM_swept_114 (by decide) ?_
            have K9 := K3
            try simp only [if_neg h9, if_pos h10, if_neg h11] at K9
            first | exact K9 | (simp only [if_neg h9, if_pos h10, if_neg h11]; exact K9)
    refine lv_icmp_ne (pc := 60) (tgt := 94) hx hb dzM_swept_60 (by decide) (fun h5 => ?_) (fun h5 => ?_)
    ·
      refine lv_iconst (v := 0) (pc := 94) hx hb dzM_swept_94 (by decide) ?_
      have K9 := K2
      try simp only [if_neg h5] at K9
      first | exact K9 | (simp only [if_neg h5]; exact K9)
    ·
      refine lv_aload_n (pc := 63) hx hb dzM_swept_63 rfl (lv_at hl 1 rfl) ?_
      refine xk_get (pc := 64) hx hb hts hown hK hP ffzM_35 0 rfl rfl dzM_swept_64 ?_
      refine lv_iload_n (pc := 67) hx hb dzM_swept_67 rfl (lv_at hl 2 rfl) ?_
      refine xk_iald (q0 := 9) (t0 := 0) (j := 0) (pc := 68) hx hb hK hP rfl rfl (pk_in 0 6 (by decide)) (pk_cl 0) dzM_swept_68 ?_
      refine lv_if_eq (pc := 69) (tgt := 94) hx hb dzM_swept_69 (by decide) (fun h6 => ?_) (fun h6 => ?_)
      ·
        refine lv_iconst (v := 0) (pc := 94) hx hb dzM_swept_94 (by decide) ?_
        have K9 := K2
        try simp only [if_pos h5, if_pos h6] at K9
        first | exact K9 | (simp only [if_pos h5, if_pos h6]; exact K9)
      ·
        refine lv_aload_n (pc := 72) hx hb dzM_swept_72 rfl (lv_at hl 1 rfl) ?_
        refine xk_get (pc := 73) hx hb hts hown hK hP ffzM_29 0 rfl rfl dzM_swept_73 ?_
        refine lv_iload_n (pc := 76) hx hb dzM_swept_76 rfl (lv_at hl 2 rfl) ?_
        refine xk_iald (q0 := 7) (t0 := 0) (j := 0) (pc := 77) hx hb hK hP rfl rfl (pk_in 0 6 (by decide)) (pk_cl 0) dzM_swept_77 ?_
        refine lv_if_ne (pc := 78) (tgt := 94) hx hb dzM_swept_78 (by decide) (fun h7 => ?_) (fun h7 => ?_)
        ·
          refine lv_iconst (v := 0) (pc := 94) hx hb dzM_swept_94 (by decide) ?_
          have K9 := K2
          try simp only [if_pos h5, if_neg h6, if_neg h7] at K9
          first | exact K9 | (simp only [if_pos h5, if_neg h6, if_neg h7]; exact K9)
        ·
          refine lv_aload_n (pc := 81) hx hb dzM_swept_81 rfl (lv_at hl 1 rfl) ?_
          refine xk_get (pc := 82) hx hb hts hown hK hP ffzM_32 0 rfl rfl dzM_swept_82 ?_
          refine lv_iload_n (pc := 85) hx hb dzM_swept_85 rfl (lv_at hl 2 rfl) ?_
          refine xk_iald (q0 := 8) (t0 := 0) (j := 0) (pc := 86) hx hb hK hP rfl rfl (pk_in 0 6 (by decide)) (pk_cl 0) dzM_swept_86 ?_
          refine lv_if_ne (pc := 87) (tgt := 94) hx hb dzM_swept_87 (by decide) (fun h8 => ?_) (fun h8 => ?_)
          ·
            refine lv_iconst (v := 0) (pc := 94) hx hb dzM_swept_94 (by decide) ?_
            have K9 := K2
            try simp only [if_pos h5, if_neg h6, if_pos h7, if_neg h8] at K9
            first | exact K9 | (simp only [if_pos h5, if_neg h6, if_pos h7, if_neg h8]; exact K9)
          ·
            refine lv_iconst (v := 1) (pc := 90) hx hb dzM_swept_90 (by decide) ?_
            refine lv_goto (tgt := 95) (pc := 91) hx hb dzM_swept_91 (by decide) ?_
            have K9 := K2
            try simp only [if_pos h5, if_neg h6, if_pos h7, if_pos h8] at K9
            first | exact K9 | (simp only [if_pos h5, if_neg h6, if_pos h7, if_pos h8]; exact K9)
  refine lv_icmp_ne (pc := 12) (tgt := 46) hx hb dzM_swept_12 (by decide) (fun h1 => ?_) (fun h1 => ?_)
  ·
    refine lv_iconst (v := 0) (pc := 46) hx hb dzM_swept_46 (by decide) ?_
    have K9 := K1
    try simp only [if_neg h1] at K9
    first | exact K9 | (simp only [if_neg h1]; exact K9)
  ·
    refine lv_aload_n (pc := 15) hx hb dzM_swept_15 rfl (lv_at hl 0 rfl) ?_
    refine xk_get (pc := 16) hx hb hts hown hK hP ffzM_29 0 rfl rfl dzM_swept_16 ?_
    refine lv_iload_n (pc := 19) hx hb dzM_swept_19 rfl (lv_at hl 1 rfl) ?_
    refine xk_iald (q0 := 7) (t0 := 0) (j := 0) (pc := 20) hx hb hK hP rfl rfl (pk_in 0 6 (by decide)) (pk_cl 0) dzM_swept_20 ?_
    refine lv_if_eq (pc := 21) (tgt := 46) hx hb dzM_swept_21 (by decide) (fun h2 => ?_) (fun h2 => ?_)
    ·
      refine lv_iconst (v := 0) (pc := 46) hx hb dzM_swept_46 (by decide) ?_
      have K9 := K1
      try simp only [if_pos h1, if_pos h2] at K9
      first | exact K9 | (simp only [if_pos h1, if_pos h2]; exact K9)
    ·
      refine lv_aload_n (pc := 24) hx hb dzM_swept_24 rfl (lv_at hl 0 rfl) ?_
      refine xk_get (pc := 25) hx hb hts hown hK hP ffzM_35 0 rfl rfl dzM_swept_25 ?_
      refine lv_iload_n (pc := 28) hx hb dzM_swept_28 rfl (lv_at hl 1 rfl) ?_
      refine xk_iald (q0 := 9) (t0 := 0) (j := 0) (pc := 29) hx hb hK hP rfl rfl (pk_in 0 6 (by decide)) (pk_cl 0) dzM_swept_29 ?_
      refine lv_if_ne (pc := 30) (tgt := 46) hx hb dzM_swept_30 (by decide) (fun h3 => ?_) (fun h3 => ?_)
      ·
        refine lv_iconst (v := 0) (pc := 46) hx hb dzM_swept_46 (by decide) ?_
        have K9 := K1
        try simp only [if_pos h1, if_neg h2, if_neg h3] at K9
        first | exact K9 | (simp only [if_pos h1, if_neg h2, if_neg h3]; exact K9)
      ·
        refine lv_aload_n (pc := 33) hx hb dzM_swept_33 rfl (lv_at hl 0 rfl) ?_
        refine xk_get (pc := 34) hx hb hts hown hK hP ffzM_38 0 rfl rfl dzM_swept_34 ?_
        refine lv_iload_n (pc := 37) hx hb dzM_swept_37 rfl (lv_at hl 1 rfl) ?_
        refine xk_iald (q0 := 10) (t0 := 0) (j := 0) (pc := 38) hx hb hK hP rfl rfl (pk_in 0 6 (by decide)) (pk_cl 0) dzM_swept_38 ?_
        refine lv_if_ne (pc := 39) (tgt := 46) hx hb dzM_swept_39 (by decide) (fun h4 => ?_) (fun h4 => ?_)
        ·
          refine lv_iconst (v := 0) (pc := 46) hx hb dzM_swept_46 (by decide) ?_
          have K9 := K1
          try simp only [if_pos h1, if_neg h2, if_pos h3, if_neg h4] at K9
          first | exact K9 | (simp only [if_pos h1, if_neg h2, if_pos h3, if_neg h4]; exact K9)
        ·
          refine lv_iconst (v := 1) (pc := 42) hx hb dzM_swept_42 (by decide) ?_
          refine lv_goto (tgt := 47) (pc := 43) hx hb dzM_swept_43 (by decide) ?_
          have K9 := K1
          try simp only [if_pos h1, if_neg h2, if_pos h3, if_pos h4] at K9
          first | exact K9 | (simp only [if_pos h1, if_neg h2, if_pos h3, if_pos h4]; exact K9)

def qzM_swept_1 (g0 : xk_St) : Int32 := (if ((g0 6) 1) = 0 then 0 else (if (if ((g0 7) 1) = ((g0 8) 1) then (if ((g0 7) 1) = 0 then 0 else (if ((g0 9) 1) = 0 then (if ((g0 10) 1) = 0 then 1 else 0 : Int32) else 0 : Int32) : Int32) else 0 : Int32) = 0 then (if (if ((g0 9) 1) = ((g0 10) 1) then (if ((g0 9) 1) = 0 then 0 else (if ((g0 7) 1) = 0 then (if ((g0 8) 1) = 0 then 1 else 0 : Int32) else 0 : Int32) : Int32) else 0 : Int32) = 0 then 0 else 1 : Int32) else 1 : Int32) : Int32)
theorem bzM_swept_1 (g0 : xk_St) : xk_b (qzM_swept_1 g0) := by
  unfold qzM_swept_1
  repeat' (first | with_reducible exact xk_b0 | with_reducible exact xk_b1 | with_reducible assumption | apply xk_bi)
set_option maxHeartbeats 4000000 in
set_option maxRecDepth 100000 in
theorem kzM_swept_1 (l : Launch) (G : va_G) (ac : Nat → ClassId) (ad : Nat → Nat) (g0 : xk_St) : xk_CI l yzM_swept czM_swept 4 .boolean xk_WS xk_r0 G xk_cls (xk_tys ac) [.ref (ad 0), .int 1] (xk_wM ad ac g0) (fun r (_ : Unit) => r = qzM_swept_1 g0) (fun _ => (xk_wM ad ac g0)) := by
  refine xk_ofI (by decide) (Nat.le_of_ble_eq_true rfl) ?_
  intro p e s m args below meth c A Q H locs ls C0 hret hP hD hS hl
  obtain ⟨hx, hb, hml, hts, hown, hK, hA⟩ := C0
  have hl : lv_has ls 4 [(0, .ref (ad 0)), (1, .int 1)] := hl
  refine lv_aload_n (pc := 0) hx hb dzM_swept_0 rfl (lv_at hl 0 rfl) ?_
  refine xk_get (pc := 1) hx hb hts hown hK hP ffzM_29 0 rfl rfl dzM_swept_1 ?_
  refine lv_iload_n (pc := 4) hx hb dzM_swept_4 rfl (lv_at hl 1 rfl) ?_
  refine xk_iald (q0 := 7) (t0 := 0) (j := 1) (pc := 5) hx hb hK hP rfl rfl (pk_in 1 6 (by decide)) (pk_cl 1) dzM_swept_5 ?_
  refine lv_aload_n (pc := 6) hx hb dzM_swept_6 rfl (lv_at hl 0 rfl) ?_
  refine xk_get (pc := 7) hx hb hts hown hK hP ffzM_32 0 rfl rfl dzM_swept_7 ?_
  refine lv_iload_n (pc := 10) hx hb dzM_swept_10 rfl (lv_at hl 1 rfl) ?_
  refine xk_iald (q0 := 8) (t0 := 0) (j := 1) (pc := 11) hx hb hK hP rfl rfl (pk_in 1 6 (by decide)) (pk_cl 1) dzM_swept_11 ?_
  have K1 : W p l e xk_r0 s m args below meth c H locs 0 0 Q (F0 m 47 ls [.int (if ((g0 7) 1) = ((g0 8) 1) then (if ((g0 7) 1) = 0 then 0 else (if ((g0 9) 1) = 0 then (if ((g0 10) 1) = 0 then 1 else 0 : Int32) else 0 : Int32) : Int32) else 0 : Int32)]) := by
    refine lv_istore_n (lv' := [(2, .int (if ((g0 7) 1) = ((g0 8) 1) then (if ((g0 7) 1) = 0 then 0 else (if ((g0 9) 1) = 0 then (if ((g0 10) 1) = 0 then 1 else 0 : Int32) else 0 : Int32) : Int32) else 0 : Int32)), (0, .ref (ad 0)), (1, .int 1)]) (pc := 47) hx hb dzM_swept_47 rfl hl (by decide) rfl (fun ls hl => ?_)
    refine lv_aload_n (pc := 48) hx hb dzM_swept_48 rfl (lv_at hl 1 rfl) ?_
    refine xk_get (pc := 49) hx hb hts hown hK hP ffzM_35 0 rfl rfl dzM_swept_49 ?_
    refine lv_iload_n (pc := 52) hx hb dzM_swept_52 rfl (lv_at hl 2 rfl) ?_
    refine xk_iald (q0 := 9) (t0 := 0) (j := 1) (pc := 53) hx hb hK hP rfl rfl (pk_in 1 6 (by decide)) (pk_cl 1) dzM_swept_53 ?_
    refine lv_aload_n (pc := 54) hx hb dzM_swept_54 rfl (lv_at hl 1 rfl) ?_
    refine xk_get (pc := 55) hx hb hts hown hK hP ffzM_38 0 rfl rfl dzM_swept_55 ?_
    refine lv_iload_n (pc := 58) hx hb dzM_swept_58 rfl (lv_at hl 2 rfl) ?_
    refine xk_iald (q0 := 10) (t0 := 0) (j := 1) (pc := 59) hx hb hK hP rfl rfl (pk_in 1 6 (by decide)) (pk_cl 1) dzM_swept_59 ?_
    have K2 : W p l e xk_r0 s m args below meth c H locs 0 0 Q (F0 m 95 ls [.int (if ((g0 9) 1) = ((g0 10) 1) then (if ((g0 9) 1) = 0 then 0 else (if ((g0 7) 1) = 0 then (if ((g0 8) 1) = 0 then 1 else 0 : Int32) else 0 : Int32) : Int32) else 0 : Int32)]) := by
      refine lv_istore_n (lv' := [(3, .int (if ((g0 9) 1) = ((g0 10) 1) then (if ((g0 9) 1) = 0 then 0 else (if ((g0 7) 1) = 0 then (if ((g0 8) 1) = 0 then 1 else 0 : Int32) else 0 : Int32) : Int32) else 0 : Int32)), (2, .int (if ((g0 7) 1) = ((g0 8) 1) then (if ((g0 7) 1) = 0 then 0 else (if ((g0 9) 1) = 0 then (if ((g0 10) 1) = 0 then 1 else 0 : Int32) else 0 : Int32) : Int32) else 0 : Int32)), (0, .ref (ad 0)), (1, .int 1)]) (pc := 95) hx hb dzM_swept_95 rfl hl (by decide) rfl (fun ls hl => ?_)
      refine lv_aload_n (pc := 96) hx hb dzM_swept_96 rfl (lv_at hl 2 rfl) ?_
      refine xk_get (pc := 97) hx hb hts hown hK hP ffzM_26 0 rfl rfl dzM_swept_97 ?_
      refine lv_iload_n (pc := 100) hx hb dzM_swept_100 rfl (lv_at hl 3 rfl) ?_
      refine xk_iald (q0 := 6) (t0 := 0) (j := 1) (pc := 101) hx hb hK hP rfl rfl (pk_in 1 6 (by decide)) (pk_cl 1) dzM_swept_101 ?_
      have K3 : W p l e xk_r0 s m args below meth c H locs 0 0 Q (F0 m 118 ls [.int (if ((g0 6) 1) = 0 then 0 else (if (if ((g0 7) 1) = ((g0 8) 1) then (if ((g0 7) 1) = 0 then 0 else (if ((g0 9) 1) = 0 then (if ((g0 10) 1) = 0 then 1 else 0 : Int32) else 0 : Int32) : Int32) else 0 : Int32) = 0 then (if (if ((g0 9) 1) = ((g0 10) 1) then (if ((g0 9) 1) = 0 then 0 else (if ((g0 7) 1) = 0 then (if ((g0 8) 1) = 0 then 1 else 0 : Int32) else 0 : Int32) : Int32) else 0 : Int32) = 0 then 0 else 1 : Int32) else 1 : Int32) : Int32)]) := by
        have jr : qzM_swept_1 g0 = (if ((g0 6) 1) = 0 then 0 else (if (if ((g0 7) 1) = ((g0 8) 1) then (if ((g0 7) 1) = 0 then 0 else (if ((g0 9) 1) = 0 then (if ((g0 10) 1) = 0 then 1 else 0 : Int32) else 0 : Int32) : Int32) else 0 : Int32) = 0 then (if (if ((g0 9) 1) = ((g0 10) 1) then (if ((g0 9) 1) = 0 then 0 else (if ((g0 7) 1) = 0 then (if ((g0 8) 1) = 0 then 1 else 0 : Int32) else 0 : Int32) : Int32) else 0 : Int32) = 0 then 0 else 1 : Int32) else 1 : Int32) : Int32) := by unfold qzM_swept_1; rfl
        exact hret _ () H locs 118 ls hP hS (xk_bn (by repeat' (first | with_reducible exact xk_b0 | with_reducible exact xk_b1 | apply xk_bi))) jr.symm dzM_swept_118
      refine lv_if_eq (pc := 102) (tgt := 117) hx hb dzM_swept_102 (by decide) (fun h9 => ?_) (fun h9 => ?_)
      ·
        refine lv_iconst (v := 0) (pc := 117) hx hb dzM_swept_117 (by decide) ?_
        have K9 := K3
        try simp only [if_pos h9] at K9
        first | exact K9 | (simp only [if_pos h9]; exact K9)
      ·
        refine lv_iload_n (pc := 105) hx hb dzM_swept_105 rfl (lv_at hl 1 rfl) ?_
        refine lv_if_ne (pc := 106) (tgt := 113) hx hb dzM_swept_106 (by decide) (fun h10 => ?_) (fun h10 => ?_)
        ·
          refine lv_iconst (v := 1) (pc := 113) hx hb dzM_swept_113 (by decide) ?_
          refine lv_goto (tgt := 118) (pc := 114) hx hb dzM_swept_114 (by decide) ?_
          have K9 := K3
          try simp only [if_neg h9, if_neg h10] at K9
          first | exact K9 | (simp only [if_neg h9, if_neg h10]; exact K9)
        ·
          refine lv_iload_n (pc := 109) hx hb dzM_swept_109 rfl (lv_at hl 0 rfl) ?_
          refine lv_if_eq (pc := 110) (tgt := 117) hx hb dzM_swept_110 (by decide) (fun h11 => ?_) (fun h11 => ?_)
          ·
            refine lv_iconst (v := 0) (pc := 117) hx hb dzM_swept_117 (by decide) ?_
            have K9 := K3
            try simp only [if_neg h9, if_pos h10, if_pos h11] at K9
            first | exact K9 | (simp only [if_neg h9, if_pos h10, if_pos h11]; exact K9)
          ·
            refine lv_iconst (v := 1) (pc := 113) hx hb dzM_swept_113 (by decide) ?_
            refine lv_goto (tgt := 118) (pc := 114) hx hb dzM_swept_114 (by decide) ?_
            have K9 := K3
            try simp only [if_neg h9, if_pos h10, if_neg h11] at K9
            first | exact K9 | (simp only [if_neg h9, if_pos h10, if_neg h11]; exact K9)
    refine lv_icmp_ne (pc := 60) (tgt := 94) hx hb dzM_swept_60 (by decide) (fun h5 => ?_) (fun h5 => ?_)
    ·
      refine lv_iconst (v := 0) (pc := 94) hx hb dzM_swept_94 (by decide) ?_
      have K9 := K2
      try simp only [if_neg h5] at K9
      first | exact K9 | (simp only [if_neg h5]; exact K9)
    ·
      refine lv_aload_n (pc := 63) hx hb dzM_swept_63 rfl (lv_at hl 1 rfl) ?_
      refine xk_get (pc := 64) hx hb hts hown hK hP ffzM_35 0 rfl rfl dzM_swept_64 ?_
      refine lv_iload_n (pc := 67) hx hb dzM_swept_67 rfl (lv_at hl 2 rfl) ?_
      refine xk_iald (q0 := 9) (t0 := 0) (j := 1) (pc := 68) hx hb hK hP rfl rfl (pk_in 1 6 (by decide)) (pk_cl 1) dzM_swept_68 ?_
      refine lv_if_eq (pc := 69) (tgt := 94) hx hb dzM_swept_69 (by decide) (fun h6 => ?_) (fun h6 => ?_)
      ·
        refine lv_iconst (v := 0) (pc := 94) hx hb dzM_swept_94 (by decide) ?_
        have K9 := K2
        try simp only [if_pos h5, if_pos h6] at K9
        first | exact K9 | (simp only [if_pos h5, if_pos h6]; exact K9)
      ·
        refine lv_aload_n (pc := 72) hx hb dzM_swept_72 rfl (lv_at hl 1 rfl) ?_
        refine xk_get (pc := 73) hx hb hts hown hK hP ffzM_29 0 rfl rfl dzM_swept_73 ?_
        refine lv_iload_n (pc := 76) hx hb dzM_swept_76 rfl (lv_at hl 2 rfl) ?_
        refine xk_iald (q0 := 7) (t0 := 0) (j := 1) (pc := 77) hx hb hK hP rfl rfl (pk_in 1 6 (by decide)) (pk_cl 1) dzM_swept_77 ?_
        refine lv_if_ne (pc := 78) (tgt := 94) hx hb dzM_swept_78 (by decide) (fun h7 => ?_) (fun h7 => ?_)
        ·
          refine lv_iconst (v := 0) (pc := 94) hx hb dzM_swept_94 (by decide) ?_
          have K9 := K2
          try simp only [if_pos h5, if_neg h6, if_neg h7] at K9
          first | exact K9 | (simp only [if_pos h5, if_neg h6, if_neg h7]; exact K9)
        ·
          refine lv_aload_n (pc := 81) hx hb dzM_swept_81 rfl (lv_at hl 1 rfl) ?_
          refine xk_get (pc := 82) hx hb hts hown hK hP ffzM_32 0 rfl rfl dzM_swept_82 ?_
          refine lv_iload_n (pc := 85) hx hb dzM_swept_85 rfl (lv_at hl 2 rfl) ?_
          refine xk_iald (q0 := 8) (t0 := 0) (j := 1) (pc := 86) hx hb hK hP rfl rfl (pk_in 1 6 (by decide)) (pk_cl 1) dzM_swept_86 ?_
          refine lv_if_ne (pc := 87) (tgt := 94) hx hb dzM_swept_87 (by decide) (fun h8 => ?_) (fun h8 => ?_)
          ·
            refine lv_iconst (v := 0) (pc := 94) hx hb dzM_swept_94 (by decide) ?_
            have K9 := K2
            try simp only [if_pos h5, if_neg h6, if_pos h7, if_neg h8] at K9
            first | exact K9 | (simp only [if_pos h5, if_neg h6, if_pos h7, if_neg h8]; exact K9)
          ·
            refine lv_iconst (v := 1) (pc := 90) hx hb dzM_swept_90 (by decide) ?_
            refine lv_goto (tgt := 95) (pc := 91) hx hb dzM_swept_91 (by decide) ?_
            have K9 := K2
            try simp only [if_pos h5, if_neg h6, if_pos h7, if_pos h8] at K9
            first | exact K9 | (simp only [if_pos h5, if_neg h6, if_pos h7, if_pos h8]; exact K9)
  refine lv_icmp_ne (pc := 12) (tgt := 46) hx hb dzM_swept_12 (by decide) (fun h1 => ?_) (fun h1 => ?_)
  ·
    refine lv_iconst (v := 0) (pc := 46) hx hb dzM_swept_46 (by decide) ?_
    have K9 := K1
    try simp only [if_neg h1] at K9
    first | exact K9 | (simp only [if_neg h1]; exact K9)
  ·
    refine lv_aload_n (pc := 15) hx hb dzM_swept_15 rfl (lv_at hl 0 rfl) ?_
    refine xk_get (pc := 16) hx hb hts hown hK hP ffzM_29 0 rfl rfl dzM_swept_16 ?_
    refine lv_iload_n (pc := 19) hx hb dzM_swept_19 rfl (lv_at hl 1 rfl) ?_
    refine xk_iald (q0 := 7) (t0 := 0) (j := 1) (pc := 20) hx hb hK hP rfl rfl (pk_in 1 6 (by decide)) (pk_cl 1) dzM_swept_20 ?_
    refine lv_if_eq (pc := 21) (tgt := 46) hx hb dzM_swept_21 (by decide) (fun h2 => ?_) (fun h2 => ?_)
    ·
      refine lv_iconst (v := 0) (pc := 46) hx hb dzM_swept_46 (by decide) ?_
      have K9 := K1
      try simp only [if_pos h1, if_pos h2] at K9
      first | exact K9 | (simp only [if_pos h1, if_pos h2]; exact K9)
    ·
      refine lv_aload_n (pc := 24) hx hb dzM_swept_24 rfl (lv_at hl 0 rfl) ?_
      refine xk_get (pc := 25) hx hb hts hown hK hP ffzM_35 0 rfl rfl dzM_swept_25 ?_
      refine lv_iload_n (pc := 28) hx hb dzM_swept_28 rfl (lv_at hl 1 rfl) ?_
      refine xk_iald (q0 := 9) (t0 := 0) (j := 1) (pc := 29) hx hb hK hP rfl rfl (pk_in 1 6 (by decide)) (pk_cl 1) dzM_swept_29 ?_
      refine lv_if_ne (pc := 30) (tgt := 46) hx hb dzM_swept_30 (by decide) (fun h3 => ?_) (fun h3 => ?_)
      ·
        refine lv_iconst (v := 0) (pc := 46) hx hb dzM_swept_46 (by decide) ?_
        have K9 := K1
        try simp only [if_pos h1, if_neg h2, if_neg h3] at K9
        first | exact K9 | (simp only [if_pos h1, if_neg h2, if_neg h3]; exact K9)
      ·
        refine lv_aload_n (pc := 33) hx hb dzM_swept_33 rfl (lv_at hl 0 rfl) ?_
        refine xk_get (pc := 34) hx hb hts hown hK hP ffzM_38 0 rfl rfl dzM_swept_34 ?_
        refine lv_iload_n (pc := 37) hx hb dzM_swept_37 rfl (lv_at hl 1 rfl) ?_
        refine xk_iald (q0 := 10) (t0 := 0) (j := 1) (pc := 38) hx hb hK hP rfl rfl (pk_in 1 6 (by decide)) (pk_cl 1) dzM_swept_38 ?_
        refine lv_if_ne (pc := 39) (tgt := 46) hx hb dzM_swept_39 (by decide) (fun h4 => ?_) (fun h4 => ?_)
        ·
          refine lv_iconst (v := 0) (pc := 46) hx hb dzM_swept_46 (by decide) ?_
          have K9 := K1
          try simp only [if_pos h1, if_neg h2, if_pos h3, if_neg h4] at K9
          first | exact K9 | (simp only [if_pos h1, if_neg h2, if_pos h3, if_neg h4]; exact K9)
        ·
          refine lv_iconst (v := 1) (pc := 42) hx hb dzM_swept_42 (by decide) ?_
          refine lv_goto (tgt := 47) (pc := 43) hx hb dzM_swept_43 (by decide) ?_
          have K9 := K1
          try simp only [if_pos h1, if_neg h2, if_pos h3, if_pos h4] at K9
          first | exact K9 | (simp only [if_pos h1, if_neg h2, if_pos h3, if_pos h4]; exact K9)

def qzM_swept_2 (g0 : xk_St) : Int32 := (if ((g0 6) 2) = 0 then 0 else (if (if ((g0 7) 2) = ((g0 8) 2) then (if ((g0 7) 2) = 0 then 0 else (if ((g0 9) 2) = 0 then (if ((g0 10) 2) = 0 then 1 else 0 : Int32) else 0 : Int32) : Int32) else 0 : Int32) = 0 then (if (if ((g0 9) 2) = ((g0 10) 2) then (if ((g0 9) 2) = 0 then 0 else (if ((g0 7) 2) = 0 then (if ((g0 8) 2) = 0 then 1 else 0 : Int32) else 0 : Int32) : Int32) else 0 : Int32) = 0 then 0 else 1 : Int32) else 1 : Int32) : Int32)
theorem bzM_swept_2 (g0 : xk_St) : xk_b (qzM_swept_2 g0) := by
  unfold qzM_swept_2
  repeat' (first | with_reducible exact xk_b0 | with_reducible exact xk_b1 | with_reducible assumption | apply xk_bi)
set_option maxHeartbeats 4000000 in
set_option maxRecDepth 100000 in
theorem kzM_swept_2 (l : Launch) (G : va_G) (ac : Nat → ClassId) (ad : Nat → Nat) (g0 : xk_St) : xk_CI l yzM_swept czM_swept 4 .boolean xk_WS xk_r0 G xk_cls (xk_tys ac) [.ref (ad 0), .int 2] (xk_wM ad ac g0) (fun r (_ : Unit) => r = qzM_swept_2 g0) (fun _ => (xk_wM ad ac g0)) := by
  refine xk_ofI (by decide) (Nat.le_of_ble_eq_true rfl) ?_
  intro p e s m args below meth c A Q H locs ls C0 hret hP hD hS hl
  obtain ⟨hx, hb, hml, hts, hown, hK, hA⟩ := C0
  have hl : lv_has ls 4 [(0, .ref (ad 0)), (1, .int 2)] := hl
  refine lv_aload_n (pc := 0) hx hb dzM_swept_0 rfl (lv_at hl 0 rfl) ?_
  refine xk_get (pc := 1) hx hb hts hown hK hP ffzM_29 0 rfl rfl dzM_swept_1 ?_
  refine lv_iload_n (pc := 4) hx hb dzM_swept_4 rfl (lv_at hl 1 rfl) ?_
  refine xk_iald (q0 := 7) (t0 := 0) (j := 2) (pc := 5) hx hb hK hP rfl rfl (pk_in 2 6 (by decide)) (pk_cl 2) dzM_swept_5 ?_
  refine lv_aload_n (pc := 6) hx hb dzM_swept_6 rfl (lv_at hl 0 rfl) ?_
  refine xk_get (pc := 7) hx hb hts hown hK hP ffzM_32 0 rfl rfl dzM_swept_7 ?_
  refine lv_iload_n (pc := 10) hx hb dzM_swept_10 rfl (lv_at hl 1 rfl) ?_
  refine xk_iald (q0 := 8) (t0 := 0) (j := 2) (pc := 11) hx hb hK hP rfl rfl (pk_in 2 6 (by decide)) (pk_cl 2) dzM_swept_11 ?_
  have K1 : W p l e xk_r0 s m args below meth c H locs 0 0 Q (F0 m 47 ls [.int (if ((g0 7) 2) = ((g0 8) 2) then (if ((g0 7) 2) = 0 then 0 else (if ((g0 9) 2) = 0 then (if ((g0 10) 2) = 0 then 1 else 0 : Int32) else 0 : Int32) : Int32) else 0 : Int32)]) := by
    refine lv_istore_n (lv' := [(2, .int (if ((g0 7) 2) = ((g0 8) 2) then (if ((g0 7) 2) = 0 then 0 else (if ((g0 9) 2) = 0 then (if ((g0 10) 2) = 0 then 1 else 0 : Int32) else 0 : Int32) : Int32) else 0 : Int32)), (0, .ref (ad 0)), (1, .int 2)]) (pc := 47) hx hb dzM_swept_47 rfl hl (by decide) rfl (fun ls hl => ?_)
    refine lv_aload_n (pc := 48) hx hb dzM_swept_48 rfl (lv_at hl 1 rfl) ?_
    refine xk_get (pc := 49) hx hb hts hown hK hP ffzM_35 0 rfl rfl dzM_swept_49 ?_
    refine lv_iload_n (pc := 52) hx hb dzM_swept_52 rfl (lv_at hl 2 rfl) ?_
    refine xk_iald (q0 := 9) (t0 := 0) (j := 2) (pc := 53) hx hb hK hP rfl rfl (pk_in 2 6 (by decide)) (pk_cl 2) dzM_swept_53 ?_
    refine lv_aload_n (pc := 54) hx hb dzM_swept_54 rfl (lv_at hl 1 rfl) ?_
    refine xk_get (pc := 55) hx hb hts hown hK hP ffzM_38 0 rfl rfl dzM_swept_55 ?_
    refine lv_iload_n (pc := 58) hx hb dzM_swept_58 rfl (lv_at hl 2 rfl) ?_
    refine xk_iald (q0 := 10) (t0 := 0) (j := 2) (pc := 59) hx hb hK hP rfl rfl (pk_in 2 6 (by decide)) (pk_cl 2) dzM_swept_59 ?_
    have K2 : W p l e xk_r0 s m args below meth c H locs 0 0 Q (F0 m 95 ls [.int (if ((g0 9) 2) = ((g0 10) 2) then (if ((g0 9) 2) = 0 then 0 else (if ((g0 7) 2) = 0 then (if ((g0 8) 2) = 0 then 1 else 0 : Int32) else 0 : Int32) : Int32) else 0 : Int32)]) := by
      refine lv_istore_n (lv' := [(3, .int (if ((g0 9) 2) = ((g0 10) 2) then (if ((g0 9) 2) = 0 then 0 else (if ((g0 7) 2) = 0 then (if ((g0 8) 2) = 0 then 1 else 0 : Int32) else 0 : Int32) : Int32) else 0 : Int32)), (2, .int (if ((g0 7) 2) = ((g0 8) 2) then (if ((g0 7) 2) = 0 then 0 else (if ((g0 9) 2) = 0 then (if ((g0 10) 2) = 0 then 1 else 0 : Int32) else 0 : Int32) : Int32) else 0 : Int32)), (0, .ref (ad 0)), (1, .int 2)]) (pc := 95) hx hb dzM_swept_95 rfl hl (by decide) rfl (fun ls hl => ?_)
      refine lv_aload_n (pc := 96) hx hb dzM_swept_96 rfl (lv_at hl 2 rfl) ?_
      refine xk_get (pc := 97) hx hb hts hown hK hP ffzM_26 0 rfl rfl dzM_swept_97 ?_
      refine lv_iload_n (pc := 100) hx hb dzM_swept_100 rfl (lv_at hl 3 rfl) ?_
      refine xk_iald (q0 := 6) (t0 := 0) (j := 2) (pc := 101) hx hb hK hP rfl rfl (pk_in 2 6 (by decide)) (pk_cl 2) dzM_swept_101 ?_
      have K3 : W p l e xk_r0 s m args below meth c H locs 0 0 Q (F0 m 118 ls [.int (if ((g0 6) 2) = 0 then 0 else (if (if ((g0 7) 2) = ((g0 8) 2) then (if ((g0 7) 2) = 0 then 0 else (if ((g0 9) 2) = 0 then (if ((g0 10) 2) = 0 then 1 else 0 : Int32) else 0 : Int32) : Int32) else 0 : Int32) = 0 then (if (if ((g0 9) 2) = ((g0 10) 2) then (if ((g0 9) 2) = 0 then 0 else (if ((g0 7) 2) = 0 then (if ((g0 8) 2) = 0 then 1 else 0 : Int32) else 0 : Int32) : Int32) else 0 : Int32) = 0 then 0 else 1 : Int32) else 1 : Int32) : Int32)]) := by
        have jr : qzM_swept_2 g0 = (if ((g0 6) 2) = 0 then 0 else (if (if ((g0 7) 2) = ((g0 8) 2) then (if ((g0 7) 2) = 0 then 0 else (if ((g0 9) 2) = 0 then (if ((g0 10) 2) = 0 then 1 else 0 : Int32) else 0 : Int32) : Int32) else 0 : Int32) = 0 then (if (if ((g0 9) 2) = ((g0 10) 2) then (if ((g0 9) 2) = 0 then 0 else (if ((g0 7) 2) = 0 then (if ((g0 8) 2) = 0 then 1 else 0 : Int32) else 0 : Int32) : Int32) else 0 : Int32) = 0 then 0 else 1 : Int32) else 1 : Int32) : Int32) := by unfold qzM_swept_2; rfl
        exact hret _ () H locs 118 ls hP hS (xk_bn (by repeat' (first | with_reducible exact xk_b0 | with_reducible exact xk_b1 | apply xk_bi))) jr.symm dzM_swept_118
      refine lv_if_eq (pc := 102) (tgt := 117) hx hb dzM_swept_102 (by decide) (fun h9 => ?_) (fun h9 => ?_)
      ·
        refine lv_iconst (v := 0) (pc := 117) hx hb dzM_swept_117 (by decide) ?_
        have K9 := K3
        try simp only [if_pos h9] at K9
        first | exact K9 | (simp only [if_pos h9]; exact K9)
      ·
        refine lv_iload_n (pc := 105) hx hb dzM_swept_105 rfl (lv_at hl 1 rfl) ?_
        refine lv_if_ne (pc := 106) (tgt := 113) hx hb dzM_swept_106 (by decide) (fun h10 => ?_) (fun h10 => ?_)
        ·
          refine lv_iconst (v := 1) (pc := 113) hx hb dzM_swept_113 (by decide) ?_
          refine lv_goto (tgt := 118) (pc := 114) hx hb dzM_swept_114 (by decide) ?_
          have K9 := K3
          try simp only [if_neg h9, if_neg h10] at K9
          first | exact K9 | (simp only [if_neg h9, if_neg h10]; exact K9)
        ·
          refine lv_iload_n (pc := 109) hx hb dzM_swept_109 rfl (lv_at hl 0 rfl) ?_
          refine lv_if_eq (pc := 110) (tgt := 117) hx hb dzM_swept_110 (by decide) (fun h11 => ?_) (fun h11 => ?_)
          ·
            refine lv_iconst (v := 0) (pc := 117) hx hb dzM_swept_117 (by decide) ?_
            have K9 := K3
            try simp only [if_neg h9, if_pos h10, if_pos h11] at K9
            first | exact K9 | (simp only [if_neg h9, if_pos h10, if_pos h11]; exact K9)
          ·
            refine lv_iconst (v := 1) (pc := 113) hx hb dzM_swept_113 (by decide) ?_
            refine lv_goto (tgt := 118) (pc := 114) hx hb dzM_swept_114 (by decide) ?_
            have K9 := K3
            try simp only [if_neg h9, if_pos h10, if_neg h11] at K9
            first | exact K9 | (simp only [if_neg h9, if_pos h10, if_neg h11]; exact K9)
    refine lv_icmp_ne (pc := 60) (tgt := 94) hx hb dzM_swept_60 (by decide) (fun h5 => ?_) (fun h5 => ?_)
    ·
      refine lv_iconst (v := 0) (pc := 94) hx hb dzM_swept_94 (by decide) ?_
      have K9 := K2
      try simp only [if_neg h5] at K9
      first | exact K9 | (simp only [if_neg h5]; exact K9)
    ·
      refine lv_aload_n (pc := 63) hx hb dzM_swept_63 rfl (lv_at hl 1 rfl) ?_
      refine xk_get (pc := 64) hx hb hts hown hK hP ffzM_35 0 rfl rfl dzM_swept_64 ?_
      refine lv_iload_n (pc := 67) hx hb dzM_swept_67 rfl (lv_at hl 2 rfl) ?_
      refine xk_iald (q0 := 9) (t0 := 0) (j := 2) (pc := 68) hx hb hK hP rfl rfl (pk_in 2 6 (by decide)) (pk_cl 2) dzM_swept_68 ?_
      refine lv_if_eq (pc := 69) (tgt := 94) hx hb dzM_swept_69 (by decide) (fun h6 => ?_) (fun h6 => ?_)
      ·
        refine lv_iconst (v := 0) (pc := 94) hx hb dzM_swept_94 (by decide) ?_
        have K9 := K2
        try simp only [if_pos h5, if_pos h6] at K9
        first | exact K9 | (simp only [if_pos h5, if_pos h6]; exact K9)
      ·
        refine lv_aload_n (pc := 72) hx hb dzM_swept_72 rfl (lv_at hl 1 rfl) ?_
        refine xk_get (pc := 73) hx hb hts hown hK hP ffzM_29 0 rfl rfl dzM_swept_73 ?_
        refine lv_iload_n (pc := 76) hx hb dzM_swept_76 rfl (lv_at hl 2 rfl) ?_
        refine xk_iald (q0 := 7) (t0 := 0) (j := 2) (pc := 77) hx hb hK hP rfl rfl (pk_in 2 6 (by decide)) (pk_cl 2) dzM_swept_77 ?_
        refine lv_if_ne (pc := 78) (tgt := 94) hx hb dzM_swept_78 (by decide) (fun h7 => ?_) (fun h7 => ?_)
        ·
          refine lv_iconst (v := 0) (pc := 94) hx hb dzM_swept_94 (by decide) ?_
          have K9 := K2
          try simp only [if_pos h5, if_neg h6, if_neg h7] at K9
          first | exact K9 | (simp only [if_pos h5, if_neg h6, if_neg h7]; exact K9)
        ·
          refine lv_aload_n (pc := 81) hx hb dzM_swept_81 rfl (lv_at hl 1 rfl) ?_
          refine xk_get (pc := 82) hx hb hts hown hK hP ffzM_32 0 rfl rfl dzM_swept_82 ?_
          refine lv_iload_n (pc := 85) hx hb dzM_swept_85 rfl (lv_at hl 2 rfl) ?_
          refine xk_iald (q0 := 8) (t0 := 0) (j := 2) (pc := 86) hx hb hK hP rfl rfl (pk_in 2 6 (by decide)) (pk_cl 2) dzM_swept_86 ?_
          refine lv_if_ne (pc := 87) (tgt := 94) hx hb dzM_swept_87 (by decide) (fun h8 => ?_) (fun h8 => ?_)
          ·
            refine lv_iconst (v := 0) (pc := 94) hx hb dzM_swept_94 (by decide) ?_
            have K9 := K2
            try simp only [if_pos h5, if_neg h6, if_pos h7, if_neg h8] at K9
            first | exact K9 | (simp only [if_pos h5, if_neg h6, if_pos h7, if_neg h8]; exact K9)
          ·
            refine lv_iconst (v := 1) (pc := 90) hx hb dzM_swept_90 (by decide) ?_
            refine lv_goto (tgt := 95) (pc := 91) hx hb dzM_swept_91 (by decide) ?_
            have K9 := K2
            try simp only [if_pos h5, if_neg h6, if_pos h7, if_pos h8] at K9
            first | exact K9 | (simp only [if_pos h5, if_neg h6, if_pos h7, if_pos h8]; exact K9)
  refine lv_icmp_ne (pc := 12) (tgt := 46) hx hb dzM_swept_12 (by decide) (fun h1 => ?_) (fun h1 => ?_)
  ·
    refine lv_iconst (v := 0) (pc := 46) hx hb dzM_swept_46 (by decide) ?_
    have K9 := K1
    try simp only [if_neg h1] at K9
    first | exact K9 | (simp only [if_neg h1]; exact K9)
  ·
    refine lv_aload_n (pc := 15) hx hb dzM_swept_15 rfl (lv_at hl 0 rfl) ?_
    refine xk_get (pc := 16) hx hb hts hown hK hP ffzM_29 0 rfl rfl dzM_swept_16 ?_
    refine lv_iload_n (pc := 19) hx hb dzM_swept_19 rfl (lv_at hl 1 rfl) ?_
    refine xk_iald (q0 := 7) (t0 := 0) (j := 2) (pc := 20) hx hb hK hP rfl rfl (pk_in 2 6 (by decide)) (pk_cl 2) dzM_swept_20 ?_
    refine lv_if_eq (pc := 21) (tgt := 46) hx hb dzM_swept_21 (by decide) (fun h2 => ?_) (fun h2 => ?_)
    ·
      refine lv_iconst (v := 0) (pc := 46) hx hb dzM_swept_46 (by decide) ?_
      have K9 := K1
      try simp only [if_pos h1, if_pos h2] at K9
      first | exact K9 | (simp only [if_pos h1, if_pos h2]; exact K9)
    ·
      refine lv_aload_n (pc := 24) hx hb dzM_swept_24 rfl (lv_at hl 0 rfl) ?_
      refine xk_get (pc := 25) hx hb hts hown hK hP ffzM_35 0 rfl rfl dzM_swept_25 ?_
      refine lv_iload_n (pc := 28) hx hb dzM_swept_28 rfl (lv_at hl 1 rfl) ?_
      refine xk_iald (q0 := 9) (t0 := 0) (j := 2) (pc := 29) hx hb hK hP rfl rfl (pk_in 2 6 (by decide)) (pk_cl 2) dzM_swept_29 ?_
      refine lv_if_ne (pc := 30) (tgt := 46) hx hb dzM_swept_30 (by decide) (fun h3 => ?_) (fun h3 => ?_)
      ·
        refine lv_iconst (v := 0) (pc := 46) hx hb dzM_swept_46 (by decide) ?_
        have K9 := K1
        try simp only [if_pos h1, if_neg h2, if_neg h3] at K9
        first | exact K9 | (simp only [if_pos h1, if_neg h2, if_neg h3]; exact K9)
      ·
        refine lv_aload_n (pc := 33) hx hb dzM_swept_33 rfl (lv_at hl 0 rfl) ?_
        refine xk_get (pc := 34) hx hb hts hown hK hP ffzM_38 0 rfl rfl dzM_swept_34 ?_
        refine lv_iload_n (pc := 37) hx hb dzM_swept_37 rfl (lv_at hl 1 rfl) ?_
        refine xk_iald (q0 := 10) (t0 := 0) (j := 2) (pc := 38) hx hb hK hP rfl rfl (pk_in 2 6 (by decide)) (pk_cl 2) dzM_swept_38 ?_
        refine lv_if_ne (pc := 39) (tgt := 46) hx hb dzM_swept_39 (by decide) (fun h4 => ?_) (fun h4 => ?_)
        ·
          refine lv_iconst (v := 0) (pc := 46) hx hb dzM_swept_46 (by decide) ?_
          have K9 := K1
          try simp only [if_pos h1, if_neg h2, if_pos h3, if_neg h4] at K9
          first | exact K9 | (simp only [if_pos h1, if_neg h2, if_pos h3, if_neg h4]; exact K9)
        ·
          refine lv_iconst (v := 1) (pc := 42) hx hb dzM_swept_42 (by decide) ?_
          refine lv_goto (tgt := 47) (pc := 43) hx hb dzM_swept_43 (by decide) ?_
          have K9 := K1
          try simp only [if_pos h1, if_neg h2, if_pos h3, if_pos h4] at K9
          first | exact K9 | (simp only [if_pos h1, if_neg h2, if_pos h3, if_pos h4]; exact K9)

def qzM_swept_3 (g0 : xk_St) : Int32 := (if ((g0 6) 3) = 0 then 0 else (if (if ((g0 7) 3) = ((g0 8) 3) then (if ((g0 7) 3) = 0 then 0 else (if ((g0 9) 3) = 0 then (if ((g0 10) 3) = 0 then 1 else 0 : Int32) else 0 : Int32) : Int32) else 0 : Int32) = 0 then (if (if ((g0 9) 3) = ((g0 10) 3) then (if ((g0 9) 3) = 0 then 0 else (if ((g0 7) 3) = 0 then (if ((g0 8) 3) = 0 then 1 else 0 : Int32) else 0 : Int32) : Int32) else 0 : Int32) = 0 then 0 else 1 : Int32) else 1 : Int32) : Int32)
theorem bzM_swept_3 (g0 : xk_St) : xk_b (qzM_swept_3 g0) := by
  unfold qzM_swept_3
  repeat' (first | with_reducible exact xk_b0 | with_reducible exact xk_b1 | with_reducible assumption | apply xk_bi)
set_option maxHeartbeats 4000000 in
set_option maxRecDepth 100000 in
theorem kzM_swept_3 (l : Launch) (G : va_G) (ac : Nat → ClassId) (ad : Nat → Nat) (g0 : xk_St) : xk_CI l yzM_swept czM_swept 4 .boolean xk_WS xk_r0 G xk_cls (xk_tys ac) [.ref (ad 0), .int 3] (xk_wM ad ac g0) (fun r (_ : Unit) => r = qzM_swept_3 g0) (fun _ => (xk_wM ad ac g0)) := by
  refine xk_ofI (by decide) (Nat.le_of_ble_eq_true rfl) ?_
  intro p e s m args below meth c A Q H locs ls C0 hret hP hD hS hl
  obtain ⟨hx, hb, hml, hts, hown, hK, hA⟩ := C0
  have hl : lv_has ls 4 [(0, .ref (ad 0)), (1, .int 3)] := hl
  refine lv_aload_n (pc := 0) hx hb dzM_swept_0 rfl (lv_at hl 0 rfl) ?_
  refine xk_get (pc := 1) hx hb hts hown hK hP ffzM_29 0 rfl rfl dzM_swept_1 ?_
  refine lv_iload_n (pc := 4) hx hb dzM_swept_4 rfl (lv_at hl 1 rfl) ?_
  refine xk_iald (q0 := 7) (t0 := 0) (j := 3) (pc := 5) hx hb hK hP rfl rfl (pk_in 3 6 (by decide)) (pk_cl 3) dzM_swept_5 ?_
  refine lv_aload_n (pc := 6) hx hb dzM_swept_6 rfl (lv_at hl 0 rfl) ?_
  refine xk_get (pc := 7) hx hb hts hown hK hP ffzM_32 0 rfl rfl dzM_swept_7 ?_
  refine lv_iload_n (pc := 10) hx hb dzM_swept_10 rfl (lv_at hl 1 rfl) ?_
  refine xk_iald (q0 := 8) (t0 := 0) (j := 3) (pc := 11) hx hb hK hP rfl rfl (pk_in 3 6 (by decide)) (pk_cl 3) dzM_swept_11 ?_
  have K1 : W p l e xk_r0 s m args below meth c H locs 0 0 Q (F0 m 47 ls [.int (if ((g0 7) 3) = ((g0 8) 3) then (if ((g0 7) 3) = 0 then 0 else (if ((g0 9) 3) = 0 then (if ((g0 10) 3) = 0 then 1 else 0 : Int32) else 0 : Int32) : Int32) else 0 : Int32)]) := by
    refine lv_istore_n (lv' := [(2, .int (if ((g0 7) 3) = ((g0 8) 3) then (if ((g0 7) 3) = 0 then 0 else (if ((g0 9) 3) = 0 then (if ((g0 10) 3) = 0 then 1 else 0 : Int32) else 0 : Int32) : Int32) else 0 : Int32)), (0, .ref (ad 0)), (1, .int 3)]) (pc := 47) hx hb dzM_swept_47 rfl hl (by decide) rfl (fun ls hl => ?_)
    refine lv_aload_n (pc := 48) hx hb dzM_swept_48 rfl (lv_at hl 1 rfl) ?_
    refine xk_get (pc := 49) hx hb hts hown hK hP ffzM_35 0 rfl rfl dzM_swept_49 ?_
    refine lv_iload_n (pc := 52) hx hb dzM_swept_52 rfl (lv_at hl 2 rfl) ?_
    refine xk_iald (q0 := 9) (t0 := 0) (j := 3) (pc := 53) hx hb hK hP rfl rfl (pk_in 3 6 (by decide)) (pk_cl 3) dzM_swept_53 ?_
    refine lv_aload_n (pc := 54) hx hb dzM_swept_54 rfl (lv_at hl 1 rfl) ?_
    refine xk_get (pc := 55) hx hb hts hown hK hP ffzM_38 0 rfl rfl dzM_swept_55 ?_
    refine lv_iload_n (pc := 58) hx hb dzM_swept_58 rfl (lv_at hl 2 rfl) ?_
    refine xk_iald (q0 := 10) (t0 := 0) (j := 3) (pc := 59) hx hb hK hP rfl rfl (pk_in 3 6 (by decide)) (pk_cl 3) dzM_swept_59 ?_
    have K2 : W p l e xk_r0 s m args below meth c H locs 0 0 Q (F0 m 95 ls [.int (if ((g0 9) 3) = ((g0 10) 3) then (if ((g0 9) 3) = 0 then 0 else (if ((g0 7) 3) = 0 then (if ((g0 8) 3) = 0 then 1 else 0 : Int32) else 0 : Int32) : Int32) else 0 : Int32)]) := by
      refine lv_istore_n (lv' := [(3, .int (if ((g0 9) 3) = ((g0 10) 3) then (if ((g0 9) 3) = 0 then 0 else (if ((g0 7) 3) = 0 then (if ((g0 8) 3) = 0 then 1 else 0 : Int32) else 0 : Int32) : Int32) else 0 : Int32)), (2, .int (if ((g0 7) 3) = ((g0 8) 3) then (if ((g0 7) 3) = 0 then 0 else (if ((g0 9) 3) = 0 then (if ((g0 10) 3) = 0 then 1 else 0 : Int32) else 0 : Int32) : Int32) else 0 : Int32)), (0, .ref (ad 0)), (1, .int 3)]) (pc := 95) hx hb dzM_swept_95 rfl hl (by decide) rfl (fun ls hl => ?_)
      refine lv_aload_n (pc := 96) hx hb dzM_swept_96 rfl (lv_at hl 2 rfl) ?_
      refine xk_get (pc := 97) hx hb hts hown hK hP ffzM_26 0 rfl rfl dzM_swept_97 ?_
      refine lv_iload_n (pc := 100) hx hb dzM_swept_100 rfl (lv_at hl 3 rfl) ?_
      refine xk_iald (q0 := 6) (t0 := 0) (j := 3) (pc := 101) hx hb hK hP rfl rfl (pk_in 3 6 (by decide)) (pk_cl 3) dzM_swept_101 ?_
      have K3 : W p l e xk_r0 s m args below meth c H locs 0 0 Q (F0 m 118 ls [.int (if ((g0 6) 3) = 0 then 0 else (if (if ((g0 7) 3) = ((g0 8) 3) then (if ((g0 7) 3) = 0 then 0 else (if ((g0 9) 3) = 0 then (if ((g0 10) 3) = 0 then 1 else 0 : Int32) else 0 : Int32) : Int32) else 0 : Int32) = 0 then (if (if ((g0 9) 3) = ((g0 10) 3) then (if ((g0 9) 3) = 0 then 0 else (if ((g0 7) 3) = 0 then (if ((g0 8) 3) = 0 then 1 else 0 : Int32) else 0 : Int32) : Int32) else 0 : Int32) = 0 then 0 else 1 : Int32) else 1 : Int32) : Int32)]) := by
        have jr : qzM_swept_3 g0 = (if ((g0 6) 3) = 0 then 0 else (if (if ((g0 7) 3) = ((g0 8) 3) then (if ((g0 7) 3) = 0 then 0 else (if ((g0 9) 3) = 0 then (if ((g0 10) 3) = 0 then 1 else 0 : Int32) else 0 : Int32) : Int32) else 0 : Int32) = 0 then (if (if ((g0 9) 3) = ((g0 10) 3) then (if ((g0 9) 3) = 0 then 0 else (if ((g0 7) 3) = 0 then (if ((g0 8) 3) = 0 then 1 else 0 : Int32) else 0 : Int32) : Int32) else 0 : Int32) = 0 then 0 else 1 : Int32) else 1 : Int32) : Int32) := by unfold qzM_swept_3; rfl
        exact hret _ () H locs 118 ls hP hS (xk_bn (by repeat' (first | with_reducible exact xk_b0 | with_reducible exact xk_b1 | apply xk_bi))) jr.symm dzM_swept_118
      refine lv_if_eq (pc := 102) (tgt := 117) hx hb dzM_swept_102 (by decide) (fun h9 => ?_) (fun h9 => ?_)
      ·
        refine lv_iconst (v := 0) (pc := 117) hx hb dzM_swept_117 (by decide) ?_
        have K9 := K3
        try simp only [if_pos h9] at K9
        first | exact K9 | (simp only [if_pos h9]; exact K9)
      ·
        refine lv_iload_n (pc := 105) hx hb dzM_swept_105 rfl (lv_at hl 1 rfl) ?_
        refine lv_if_ne (pc := 106) (tgt := 113) hx hb dzM_swept_106 (by decide) (fun h10 => ?_) (fun h10 => ?_)
        ·
          refine lv_iconst (v := 1) (pc := 113) hx hb dzM_swept_113 (by decide) ?_
          refine lv_goto (tgt := 118) (pc := 114) hx hb dzM_swept_114 (by decide) ?_
          have K9 := K3
          try simp only [if_neg h9, if_neg h10] at K9
          first | exact K9 | (simp only [if_neg h9, if_neg h10]; exact K9)
        ·
          refine lv_iload_n (pc := 109) hx hb dzM_swept_109 rfl (lv_at hl 0 rfl) ?_
          refine lv_if_eq (pc := 110) (tgt := 117) hx hb dzM_swept_110 (by decide) (fun h11 => ?_) (fun h11 => ?_)
          ·
            refine lv_iconst (v := 0) (pc := 117) hx hb dzM_swept_117 (by decide) ?_
            have K9 := K3
            try simp only [if_neg h9, if_pos h10, if_pos h11] at K9
            first | exact K9 | (simp only [if_neg h9, if_pos h10, if_pos h11]; exact K9)
          ·
            refine lv_iconst (v := 1) (pc := 113) hx hb dzM_swept_113 (by decide) ?_
            refine lv_goto (tgt := 118) (pc := 114) hx hb dzM_swept_114 (by decide) ?_
            have K9 := K3
            try simp only [if_neg h9, if_pos h10, if_neg h11] at K9
            first | exact K9 | (simp only [if_neg h9, if_pos h10, if_neg h11]; exact K9)
    refine lv_icmp_ne (pc := 60) (tgt := 94) hx hb dzM_swept_60 (by decide) (fun h5 => ?_) (fun h5 => ?_)
    ·
      refine lv_iconst (v := 0) (pc := 94) hx hb dzM_swept_94 (by decide) ?_
      have K9 := K2
      try simp only [if_neg h5] at K9
      first | exact K9 | (simp only [if_neg h5]; exact K9)
    ·
      refine lv_aload_n (pc := 63) hx hb dzM_swept_63 rfl (lv_at hl 1 rfl) ?_
      refine xk_get (pc := 64) hx hb hts hown hK hP ffzM_35 0 rfl rfl dzM_swept_64 ?_
      refine lv_iload_n (pc := 67) hx hb dzM_swept_67 rfl (lv_at hl 2 rfl) ?_
      refine xk_iald (q0 := 9) (t0 := 0) (j := 3) (pc := 68) hx hb hK hP rfl rfl (pk_in 3 6 (by decide)) (pk_cl 3) dzM_swept_68 ?_
      refine lv_if_eq (pc := 69) (tgt := 94) hx hb dzM_swept_69 (by decide) (fun h6 => ?_) (fun h6 => ?_)
      ·
        refine lv_iconst (v := 0) (pc := 94) hx hb dzM_swept_94 (by decide) ?_
        have K9 := K2
        try simp only [if_pos h5, if_pos h6] at K9
        first | exact K9 | (simp only [if_pos h5, if_pos h6]; exact K9)
      ·
        refine lv_aload_n (pc := 72) hx hb dzM_swept_72 rfl (lv_at hl 1 rfl) ?_
        refine xk_get (pc := 73) hx hb hts hown hK hP ffzM_29 0 rfl rfl dzM_swept_73 ?_
        refine lv_iload_n (pc := 76) hx hb dzM_swept_76 rfl (lv_at hl 2 rfl) ?_
        refine xk_iald (q0 := 7) (t0 := 0) (j := 3) (pc := 77) hx hb hK hP rfl rfl (pk_in 3 6 (by decide)) (pk_cl 3) dzM_swept_77 ?_
        refine lv_if_ne (pc := 78) (tgt := 94) hx hb dzM_swept_78 (by decide) (fun h7 => ?_) (fun h7 => ?_)
        ·
          refine lv_iconst (v := 0) (pc := 94) hx hb dzM_swept_94 (by decide) ?_
          have K9 := K2
          try simp only [if_pos h5, if_neg h6, if_neg h7] at K9
          first | exact K9 | (simp only [if_pos h5, if_neg h6, if_neg h7]; exact K9)
        ·
          refine lv_aload_n (pc := 81) hx hb dzM_swept_81 rfl (lv_at hl 1 rfl) ?_
          refine xk_get (pc := 82) hx hb hts hown hK hP ffzM_32 0 rfl rfl dzM_swept_82 ?_
          refine lv_iload_n (pc := 85) hx hb dzM_swept_85 rfl (lv_at hl 2 rfl) ?_
          refine xk_iald (q0 := 8) (t0 := 0) (j := 3) (pc := 86) hx hb hK hP rfl rfl (pk_in 3 6 (by decide)) (pk_cl 3) dzM_swept_86 ?_
          refine lv_if_ne (pc := 87) (tgt := 94) hx hb dzM_swept_87 (by decide) (fun h8 => ?_) (fun h8 => ?_)
          ·
            refine lv_iconst (v := 0) (pc := 94) hx hb dzM_swept_94 (by decide) ?_
            have K9 := K2
            try simp only [if_pos h5, if_neg h6, if_pos h7, if_neg h8] at K9
            first | exact K9 | (simp only [if_pos h5, if_neg h6, if_pos h7, if_neg h8]; exact K9)
          ·
            refine lv_iconst (v := 1) (pc := 90) hx hb dzM_swept_90 (by decide) ?_
            refine lv_goto (tgt := 95) (pc := 91) hx hb dzM_swept_91 (by decide) ?_
            have K9 := K2
            try simp only [if_pos h5, if_neg h6, if_pos h7, if_pos h8] at K9
            first | exact K9 | (simp only [if_pos h5, if_neg h6, if_pos h7, if_pos h8]; exact K9)
  refine lv_icmp_ne (pc := 12) (tgt := 46) hx hb dzM_swept_12 (by decide) (fun h1 => ?_) (fun h1 => ?_)
  ·
    refine lv_iconst (v := 0) (pc := 46) hx hb dzM_swept_46 (by decide) ?_
    have K9 := K1
    try simp only [if_neg h1] at K9
    first | exact K9 | (simp only [if_neg h1]; exact K9)
  ·
    refine lv_aload_n (pc := 15) hx hb dzM_swept_15 rfl (lv_at hl 0 rfl) ?_
    refine xk_get (pc := 16) hx hb hts hown hK hP ffzM_29 0 rfl rfl dzM_swept_16 ?_
    refine lv_iload_n (pc := 19) hx hb dzM_swept_19 rfl (lv_at hl 1 rfl) ?_
    refine xk_iald (q0 := 7) (t0 := 0) (j := 3) (pc := 20) hx hb hK hP rfl rfl (pk_in 3 6 (by decide)) (pk_cl 3) dzM_swept_20 ?_
    refine lv_if_eq (pc := 21) (tgt := 46) hx hb dzM_swept_21 (by decide) (fun h2 => ?_) (fun h2 => ?_)
    ·
      refine lv_iconst (v := 0) (pc := 46) hx hb dzM_swept_46 (by decide) ?_
      have K9 := K1
      try simp only [if_pos h1, if_pos h2] at K9
      first | exact K9 | (simp only [if_pos h1, if_pos h2]; exact K9)
    ·
      refine lv_aload_n (pc := 24) hx hb dzM_swept_24 rfl (lv_at hl 0 rfl) ?_
      refine xk_get (pc := 25) hx hb hts hown hK hP ffzM_35 0 rfl rfl dzM_swept_25 ?_
      refine lv_iload_n (pc := 28) hx hb dzM_swept_28 rfl (lv_at hl 1 rfl) ?_
      refine xk_iald (q0 := 9) (t0 := 0) (j := 3) (pc := 29) hx hb hK hP rfl rfl (pk_in 3 6 (by decide)) (pk_cl 3) dzM_swept_29 ?_
      refine lv_if_ne (pc := 30) (tgt := 46) hx hb dzM_swept_30 (by decide) (fun h3 => ?_) (fun h3 => ?_)
      ·
        refine lv_iconst (v := 0) (pc := 46) hx hb dzM_swept_46 (by decide) ?_
        have K9 := K1
        try simp only [if_pos h1, if_neg h2, if_neg h3] at K9
        first | exact K9 | (simp only [if_pos h1, if_neg h2, if_neg h3]; exact K9)
      ·
        refine lv_aload_n (pc := 33) hx hb dzM_swept_33 rfl (lv_at hl 0 rfl) ?_
        refine xk_get (pc := 34) hx hb hts hown hK hP ffzM_38 0 rfl rfl dzM_swept_34 ?_
        refine lv_iload_n (pc := 37) hx hb dzM_swept_37 rfl (lv_at hl 1 rfl) ?_
        refine xk_iald (q0 := 10) (t0 := 0) (j := 3) (pc := 38) hx hb hK hP rfl rfl (pk_in 3 6 (by decide)) (pk_cl 3) dzM_swept_38 ?_
        refine lv_if_ne (pc := 39) (tgt := 46) hx hb dzM_swept_39 (by decide) (fun h4 => ?_) (fun h4 => ?_)
        ·
          refine lv_iconst (v := 0) (pc := 46) hx hb dzM_swept_46 (by decide) ?_
          have K9 := K1
          try simp only [if_pos h1, if_neg h2, if_pos h3, if_neg h4] at K9
          first | exact K9 | (simp only [if_pos h1, if_neg h2, if_pos h3, if_neg h4]; exact K9)
        ·
          refine lv_iconst (v := 1) (pc := 42) hx hb dzM_swept_42 (by decide) ?_
          refine lv_goto (tgt := 47) (pc := 43) hx hb dzM_swept_43 (by decide) ?_
          have K9 := K1
          try simp only [if_pos h1, if_neg h2, if_pos h3, if_pos h4] at K9
          first | exact K9 | (simp only [if_pos h1, if_neg h2, if_pos h3, if_pos h4]; exact K9)

def qzM_swept_4 (g0 : xk_St) : Int32 := (if ((g0 6) 4) = 0 then 0 else (if (if ((g0 7) 4) = ((g0 8) 4) then (if ((g0 7) 4) = 0 then 0 else (if ((g0 9) 4) = 0 then (if ((g0 10) 4) = 0 then 1 else 0 : Int32) else 0 : Int32) : Int32) else 0 : Int32) = 0 then (if (if ((g0 9) 4) = ((g0 10) 4) then (if ((g0 9) 4) = 0 then 0 else (if ((g0 7) 4) = 0 then (if ((g0 8) 4) = 0 then 1 else 0 : Int32) else 0 : Int32) : Int32) else 0 : Int32) = 0 then 0 else 1 : Int32) else 1 : Int32) : Int32)
theorem bzM_swept_4 (g0 : xk_St) : xk_b (qzM_swept_4 g0) := by
  unfold qzM_swept_4
  repeat' (first | with_reducible exact xk_b0 | with_reducible exact xk_b1 | with_reducible assumption | apply xk_bi)
set_option maxHeartbeats 4000000 in
set_option maxRecDepth 100000 in
theorem kzM_swept_4 (l : Launch) (G : va_G) (ac : Nat → ClassId) (ad : Nat → Nat) (g0 : xk_St) : xk_CI l yzM_swept czM_swept 4 .boolean xk_WS xk_r0 G xk_cls (xk_tys ac) [.ref (ad 0), .int 4] (xk_wM ad ac g0) (fun r (_ : Unit) => r = qzM_swept_4 g0) (fun _ => (xk_wM ad ac g0)) := by
  refine xk_ofI (by decide) (Nat.le_of_ble_eq_true rfl) ?_
  intro p e s m args below meth c A Q H locs ls C0 hret hP hD hS hl
  obtain ⟨hx, hb, hml, hts, hown, hK, hA⟩ := C0
  have hl : lv_has ls 4 [(0, .ref (ad 0)), (1, .int 4)] := hl
  refine lv_aload_n (pc := 0) hx hb dzM_swept_0 rfl (lv_at hl 0 rfl) ?_
  refine xk_get (pc := 1) hx hb hts hown hK hP ffzM_29 0 rfl rfl dzM_swept_1 ?_
  refine lv_iload_n (pc := 4) hx hb dzM_swept_4 rfl (lv_at hl 1 rfl) ?_
  refine xk_iald (q0 := 7) (t0 := 0) (j := 4) (pc := 5) hx hb hK hP rfl rfl (pk_in 4 6 (by decide)) (pk_cl 4) dzM_swept_5 ?_
  refine lv_aload_n (pc := 6) hx hb dzM_swept_6 rfl (lv_at hl 0 rfl) ?_
  refine xk_get (pc := 7) hx hb hts hown hK hP ffzM_32 0 rfl rfl dzM_swept_7 ?_
  refine lv_iload_n (pc := 10) hx hb dzM_swept_10 rfl (lv_at hl 1 rfl) ?_
  refine xk_iald (q0 := 8) (t0 := 0) (j := 4) (pc := 11) hx hb hK hP rfl rfl (pk_in 4 6 (by decide)) (pk_cl 4) dzM_swept_11 ?_
  have K1 : W p l e xk_r0 s m args below meth c H locs 0 0 Q (F0 m 47 ls [.int (if ((g0 7) 4) = ((g0 8) 4) then (if ((g0 7) 4) = 0 then 0 else (if ((g0 9) 4) = 0 then (if ((g0 10) 4) = 0 then 1 else 0 : Int32) else 0 : Int32) : Int32) else 0 : Int32)]) := by
    refine lv_istore_n (lv' := [(2, .int (if ((g0 7) 4) = ((g0 8) 4) then (if ((g0 7) 4) = 0 then 0 else (if ((g0 9) 4) = 0 then (if ((g0 10) 4) = 0 then 1 else 0 : Int32) else 0 : Int32) : Int32) else 0 : Int32)), (0, .ref (ad 0)), (1, .int 4)]) (pc := 47) hx hb dzM_swept_47 rfl hl (by decide) rfl (fun ls hl => ?_)
    refine lv_aload_n (pc := 48) hx hb dzM_swept_48 rfl (lv_at hl 1 rfl) ?_
    refine xk_get (pc := 49) hx hb hts hown hK hP ffzM_35 0 rfl rfl dzM_swept_49 ?_
    refine lv_iload_n (pc := 52) hx hb dzM_swept_52 rfl (lv_at hl 2 rfl) ?_
    refine xk_iald (q0 := 9) (t0 := 0) (j := 4) (pc := 53) hx hb hK hP rfl rfl (pk_in 4 6 (by decide)) (pk_cl 4) dzM_swept_53 ?_
    refine lv_aload_n (pc := 54) hx hb dzM_swept_54 rfl (lv_at hl 1 rfl) ?_
    refine xk_get (pc := 55) hx hb hts hown hK hP ffzM_38 0 rfl rfl dzM_swept_55 ?_
    refine lv_iload_n (pc := 58) hx hb dzM_swept_58 rfl (lv_at hl 2 rfl) ?_
    refine xk_iald (q0 := 10) (t0 := 0) (j := 4) (pc := 59) hx hb hK hP rfl rfl (pk_in 4 6 (by decide)) (pk_cl 4) dzM_swept_59 ?_
    have K2 : W p l e xk_r0 s m args below meth c H locs 0 0 Q (F0 m 95 ls [.int (if ((g0 9) 4) = ((g0 10) 4) then (if ((g0 9) 4) = 0 then 0 else (if ((g0 7) 4) = 0 then (if ((g0 8) 4) = 0 then 1 else 0 : Int32) else 0 : Int32) : Int32) else 0 : Int32)]) := by
      refine lv_istore_n (lv' := [(3, .int (if ((g0 9) 4) = ((g0 10) 4) then (if ((g0 9) 4) = 0 then 0 else (if ((g0 7) 4) = 0 then (if ((g0 8) 4) = 0 then 1 else 0 : Int32) else 0 : Int32) : Int32) else 0 : Int32)), (2, .int (if ((g0 7) 4) = ((g0 8) 4) then (if ((g0 7) 4) = 0 then 0 else (if ((g0 9) 4) = 0 then (if ((g0 10) 4) = 0 then 1 else 0 : Int32) else 0 : Int32) : Int32) else 0 : Int32)), (0, .ref (ad 0)), (1, .int 4)]) (pc := 95) hx hb dzM_swept_95 rfl hl (by decide) rfl (fun ls hl => ?_)
      refine lv_aload_n (pc := 96) hx hb dzM_swept_96 rfl (lv_at hl 2 rfl) ?_
      refine xk_get (pc := 97) hx hb hts hown hK hP ffzM_26 0 rfl rfl dzM_swept_97 ?_
      refine lv_iload_n (pc := 100) hx hb dzM_swept_100 rfl (lv_at hl 3 rfl) ?_
      refine xk_iald (q0 := 6) (t0 := 0) (j := 4) (pc := 101) hx hb hK hP rfl rfl (pk_in 4 6 (by decide)) (pk_cl 4) dzM_swept_101 ?_
      have K3 : W p l e xk_r0 s m args below meth c H locs 0 0 Q (F0 m 118 ls [.int (if ((g0 6) 4) = 0 then 0 else (if (if ((g0 7) 4) = ((g0 8) 4) then (if ((g0 7) 4) = 0 then 0 else (if ((g0 9) 4) = 0 then (if ((g0 10) 4) = 0 then 1 else 0 : Int32) else 0 : Int32) : Int32) else 0 : Int32) = 0 then (if (if ((g0 9) 4) = ((g0 10) 4) then (if ((g0 9) 4) = 0 then 0 else (if ((g0 7) 4) = 0 then (if ((g0 8) 4) = 0 then 1 else 0 : Int32) else 0 : Int32) : Int32) else 0 : Int32) = 0 then 0 else 1 : Int32) else 1 : Int32) : Int32)]) := by
        have jr : qzM_swept_4 g0 = (if ((g0 6) 4) = 0 then 0 else (if (if ((g0 7) 4) = ((g0 8) 4) then (if ((g0 7) 4) = 0 then 0 else (if ((g0 9) 4) = 0 then (if ((g0 10) 4) = 0 then 1 else 0 : Int32) else 0 : Int32) : Int32) else 0 : Int32) = 0 then (if (if ((g0 9) 4) = ((g0 10) 4) then (if ((g0 9) 4) = 0 then 0 else (if ((g0 7) 4) = 0 then (if ((g0 8) 4) = 0 then 1 else 0 : Int32) else 0 : Int32) : Int32) else 0 : Int32) = 0 then 0 else 1 : Int32) else 1 : Int32) : Int32) := by unfold qzM_swept_4; rfl
        exact hret _ () H locs 118 ls hP hS (xk_bn (by repeat' (first | with_reducible exact xk_b0 | with_reducible exact xk_b1 | apply xk_bi))) jr.symm dzM_swept_118
      refine lv_if_eq (pc := 102) (tgt := 117) hx hb dzM_swept_102 (by decide) (fun h9 => ?_) (fun h9 => ?_)
      ·
        refine lv_iconst (v := 0) (pc := 117) hx hb dzM_swept_117 (by decide) ?_
        have K9 := K3
        try simp only [if_pos h9] at K9
        first | exact K9 | (simp only [if_pos h9]; exact K9)
      ·
        refine lv_iload_n (pc := 105) hx hb dzM_swept_105 rfl (lv_at hl 1 rfl) ?_
        refine lv_if_ne (pc := 106) (tgt := 113) hx hb dzM_swept_106 (by decide) (fun h10 => ?_) (fun h10 => ?_)
        ·
          refine lv_iconst (v := 1) (pc := 113) hx hb dzM_swept_113 (by decide) ?_
          refine lv_goto (tgt := 118) (pc := 114) hx hb dzM_swept_114 (by decide) ?_
          have K9 := K3
          try simp only [if_neg h9, if_neg h10] at K9
          first | exact K9 | (simp only [if_neg h9, if_neg h10]; exact K9)
        ·
          refine lv_iload_n (pc := 109) hx hb dzM_swept_109 rfl (lv_at hl 0 rfl) ?_
          refine lv_if_eq (pc := 110) (tgt := 117) hx hb dzM_swept_110 (by decide) (fun h11 => ?_) (fun h11 => ?_)
          ·
            refine lv_iconst (v := 0) (pc := 117) hx hb dzM_swept_117 (by decide) ?_
            have K9 := K3
            try simp only [if_neg h9, if_pos h10, if_pos h11] at K9
            first | exact K9 | (simp only [if_neg h9, if_pos h10, if_pos h11]; exact K9)
          ·
            refine lv_iconst (v := 1) (pc := 113) hx hb dzM_swept_113 (by decide) ?_
            refine lv_goto (tgt := 118) (pc := 114) hx hb dzM_swept_114 (by decide) ?_
            have K9 := K3
            try simp only [if_neg h9, if_pos h10, if_neg h11] at K9
            first | exact K9 | (simp only [if_neg h9, if_pos h10, if_neg h11]; exact K9)
    refine lv_icmp_ne (pc := 60) (tgt := 94) hx hb dzM_swept_60 (by decide) (fun h5 => ?_) (fun h5 => ?_)
    ·
      refine lv_iconst (v := 0) (pc := 94) hx hb dzM_swept_94 (by decide) ?_
      have K9 := K2
      try simp only [if_neg h5] at K9
      first | exact K9 | (simp only [if_neg h5]; exact K9)
    ·
      refine lv_aload_n (pc := 63) hx hb dzM_swept_63 rfl (lv_at hl 1 rfl) ?_
      refine xk_get (pc := 64) hx hb hts hown hK hP ffzM_35 0 rfl rfl dzM_swept_64 ?_
      refine lv_iload_n (pc := 67) hx hb dzM_swept_67 rfl (lv_at hl 2 rfl) ?_
      refine xk_iald (q0 := 9) (t0 := 0) (j := 4) (pc := 68) hx hb hK hP rfl rfl (pk_in 4 6 (by decide)) (pk_cl 4) dzM_swept_68 ?_
      refine lv_if_eq (pc := 69) (tgt := 94) hx hb dzM_swept_69 (by decide) (fun h6 => ?_) (fun h6 => ?_)
      ·
        refine lv_iconst (v := 0) (pc := 94) hx hb dzM_swept_94 (by decide) ?_
        have K9 := K2
        try simp only [if_pos h5, if_pos h6] at K9
        first | exact K9 | (simp only [if_pos h5, if_pos h6]; exact K9)
      ·
        refine lv_aload_n (pc := 72) hx hb dzM_swept_72 rfl (lv_at hl 1 rfl) ?_
        refine xk_get (pc := 73) hx hb hts hown hK hP ffzM_29 0 rfl rfl dzM_swept_73 ?_
        refine lv_iload_n (pc := 76) hx hb dzM_swept_76 rfl (lv_at hl 2 rfl) ?_
        refine xk_iald (q0 := 7) (t0 := 0) (j := 4) (pc := 77) hx hb hK hP rfl rfl (pk_in 4 6 (by decide)) (pk_cl 4) dzM_swept_77 ?_
        refine lv_if_ne (pc := 78) (tgt := 94) hx hb dzM_swept_78 (by decide) (fun h7 => ?_) (fun h7 => ?_)
        ·
          refine lv_iconst (v := 0) (pc := 94) hx hb dzM_swept_94 (by decide) ?_
          have K9 := K2
          try simp only [if_pos h5, if_neg h6, if_neg h7] at K9
          first | exact K9 | (simp only [if_pos h5, if_neg h6, if_neg h7]; exact K9)
        ·
          refine lv_aload_n (pc := 81) hx hb dzM_swept_81 rfl (lv_at hl 1 rfl) ?_
          refine xk_get (pc := 82) hx hb hts hown hK hP ffzM_32 0 rfl rfl dzM_swept_82 ?_
          refine lv_iload_n (pc := 85) hx hb dzM_swept_85 rfl (lv_at hl 2 rfl) ?_
          refine xk_iald (q0 := 8) (t0 := 0) (j := 4) (pc := 86) hx hb hK hP rfl rfl (pk_in 4 6 (by decide)) (pk_cl 4) dzM_swept_86 ?_
          refine lv_if_ne (pc := 87) (tgt := 94) hx hb dzM_swept_87 (by decide) (fun h8 => ?_) (fun h8 => ?_)
          ·
            refine lv_iconst (v := 0) (pc := 94) hx hb dzM_swept_94 (by decide) ?_
            have K9 := K2
            try simp only [if_pos h5, if_neg h6, if_pos h7, if_neg h8] at K9
            first | exact K9 | (simp only [if_pos h5, if_neg h6, if_pos h7, if_neg h8]; exact K9)
          ·
            refine lv_iconst (v := 1) (pc := 90) hx hb dzM_swept_90 (by decide) ?_
            refine lv_goto (tgt := 95) (pc := 91) hx hb dzM_swept_91 (by decide) ?_
            have K9 := K2
            try simp only [if_pos h5, if_neg h6, if_pos h7, if_pos h8] at K9
            first | exact K9 | (simp only [if_pos h5, if_neg h6, if_pos h7, if_pos h8]; exact K9)
  refine lv_icmp_ne (pc := 12) (tgt := 46) hx hb dzM_swept_12 (by decide) (fun h1 => ?_) (fun h1 => ?_)
  ·
    refine lv_iconst (v := 0) (pc := 46) hx hb dzM_swept_46 (by decide) ?_
    have K9 := K1
    try simp only [if_neg h1] at K9
    first | exact K9 | (simp only [if_neg h1]; exact K9)
  ·
    refine lv_aload_n (pc := 15) hx hb dzM_swept_15 rfl (lv_at hl 0 rfl) ?_
    refine xk_get (pc := 16) hx hb hts hown hK hP ffzM_29 0 rfl rfl dzM_swept_16 ?_
    refine lv_iload_n (pc := 19) hx hb dzM_swept_19 rfl (lv_at hl 1 rfl) ?_
    refine xk_iald (q0 := 7) (t0 := 0) (j := 4) (pc := 20) hx hb hK hP rfl rfl (pk_in 4 6 (by decide)) (pk_cl 4) dzM_swept_20 ?_
    refine lv_if_eq (pc := 21) (tgt := 46) hx hb dzM_swept_21 (by decide) (fun h2 => ?_) (fun h2 => ?_)
    ·
      refine lv_iconst (v := 0) (pc := 46) hx hb dzM_swept_46 (by decide) ?_
      have K9 := K1
      try simp only [if_pos h1, if_pos h2] at K9
      first | exact K9 | (simp only [if_pos h1, if_pos h2]; exact K9)
    ·
      refine lv_aload_n (pc := 24) hx hb dzM_swept_24 rfl (lv_at hl 0 rfl) ?_
      refine xk_get (pc := 25) hx hb hts hown hK hP ffzM_35 0 rfl rfl dzM_swept_25 ?_
      refine lv_iload_n (pc := 28) hx hb dzM_swept_28 rfl (lv_at hl 1 rfl) ?_
      refine xk_iald (q0 := 9) (t0 := 0) (j := 4) (pc := 29) hx hb hK hP rfl rfl (pk_in 4 6 (by decide)) (pk_cl 4) dzM_swept_29 ?_
      refine lv_if_ne (pc := 30) (tgt := 46) hx hb dzM_swept_30 (by decide) (fun h3 => ?_) (fun h3 => ?_)
      ·
        refine lv_iconst (v := 0) (pc := 46) hx hb dzM_swept_46 (by decide) ?_
        have K9 := K1
        try simp only [if_pos h1, if_neg h2, if_neg h3] at K9
        first | exact K9 | (simp only [if_pos h1, if_neg h2, if_neg h3]; exact K9)
      ·
        refine lv_aload_n (pc := 33) hx hb dzM_swept_33 rfl (lv_at hl 0 rfl) ?_
        refine xk_get (pc := 34) hx hb hts hown hK hP ffzM_38 0 rfl rfl dzM_swept_34 ?_
        refine lv_iload_n (pc := 37) hx hb dzM_swept_37 rfl (lv_at hl 1 rfl) ?_
        refine xk_iald (q0 := 10) (t0 := 0) (j := 4) (pc := 38) hx hb hK hP rfl rfl (pk_in 4 6 (by decide)) (pk_cl 4) dzM_swept_38 ?_
        refine lv_if_ne (pc := 39) (tgt := 46) hx hb dzM_swept_39 (by decide) (fun h4 => ?_) (fun h4 => ?_)
        ·
          refine lv_iconst (v := 0) (pc := 46) hx hb dzM_swept_46 (by decide) ?_
          have K9 := K1
          try simp only [if_pos h1, if_neg h2, if_pos h3, if_neg h4] at K9
          first | exact K9 | (simp only [if_pos h1, if_neg h2, if_pos h3, if_neg h4]; exact K9)
        ·
          refine lv_iconst (v := 1) (pc := 42) hx hb dzM_swept_42 (by decide) ?_
          refine lv_goto (tgt := 47) (pc := 43) hx hb dzM_swept_43 (by decide) ?_
          have K9 := K1
          try simp only [if_pos h1, if_neg h2, if_pos h3, if_pos h4] at K9
          first | exact K9 | (simp only [if_pos h1, if_neg h2, if_pos h3, if_pos h4]; exact K9)

def qzM_swept_5 (g0 : xk_St) : Int32 := (if ((g0 6) 5) = 0 then 0 else (if (if ((g0 7) 5) = ((g0 8) 5) then (if ((g0 7) 5) = 0 then 0 else (if ((g0 9) 5) = 0 then (if ((g0 10) 5) = 0 then 1 else 0 : Int32) else 0 : Int32) : Int32) else 0 : Int32) = 0 then (if (if ((g0 9) 5) = ((g0 10) 5) then (if ((g0 9) 5) = 0 then 0 else (if ((g0 7) 5) = 0 then (if ((g0 8) 5) = 0 then 1 else 0 : Int32) else 0 : Int32) : Int32) else 0 : Int32) = 0 then 0 else 1 : Int32) else 1 : Int32) : Int32)
theorem bzM_swept_5 (g0 : xk_St) : xk_b (qzM_swept_5 g0) := by
  unfold qzM_swept_5
  repeat' (first | with_reducible exact xk_b0 | with_reducible exact xk_b1 | with_reducible assumption | apply xk_bi)
set_option maxHeartbeats 4000000 in
set_option maxRecDepth 100000 in
theorem kzM_swept_5 (l : Launch) (G : va_G) (ac : Nat → ClassId) (ad : Nat → Nat) (g0 : xk_St) : xk_CI l yzM_swept czM_swept 4 .boolean xk_WS xk_r0 G xk_cls (xk_tys ac) [.ref (ad 0), .int 5] (xk_wM ad ac g0) (fun r (_ : Unit) => r = qzM_swept_5 g0) (fun _ => (xk_wM ad ac g0)) := by
  refine xk_ofI (by decide) (Nat.le_of_ble_eq_true rfl) ?_
  intro p e s m args below meth c A Q H locs ls C0 hret hP hD hS hl
  obtain ⟨hx, hb, hml, hts, hown, hK, hA⟩ := C0
  have hl : lv_has ls 4 [(0, .ref (ad 0)), (1, .int 5)] := hl
  refine lv_aload_n (pc := 0) hx hb dzM_swept_0 rfl (lv_at hl 0 rfl) ?_
  refine xk_get (pc := 1) hx hb hts hown hK hP ffzM_29 0 rfl rfl dzM_swept_1 ?_
  refine lv_iload_n (pc := 4) hx hb dzM_swept_4 rfl (lv_at hl 1 rfl) ?_
  refine xk_iald (q0 := 7) (t0 := 0) (j := 5) (pc := 5) hx hb hK hP rfl rfl (pk_in 5 6 (by decide)) (pk_cl 5) dzM_swept_5 ?_
  refine lv_aload_n (pc := 6) hx hb dzM_swept_6 rfl (lv_at hl 0 rfl) ?_
  refine xk_get (pc := 7) hx hb hts hown hK hP ffzM_32 0 rfl rfl dzM_swept_7 ?_
  refine lv_iload_n (pc := 10) hx hb dzM_swept_10 rfl (lv_at hl 1 rfl) ?_
  refine xk_iald (q0 := 8) (t0 := 0) (j := 5) (pc := 11) hx hb hK hP rfl rfl (pk_in 5 6 (by decide)) (pk_cl 5) dzM_swept_11 ?_
  have K1 : W p l e xk_r0 s m args below meth c H locs 0 0 Q (F0 m 47 ls [.int (if ((g0 7) 5) = ((g0 8) 5) then (if ((g0 7) 5) = 0 then 0 else (if ((g0 9) 5) = 0 then (if ((g0 10) 5) = 0 then 1 else 0 : Int32) else 0 : Int32) : Int32) else 0 : Int32)]) := by
    refine lv_istore_n (lv' := [(2, .int (if ((g0 7) 5) = ((g0 8) 5) then (if ((g0 7) 5) = 0 then 0 else (if ((g0 9) 5) = 0 then (if ((g0 10) 5) = 0 then 1 else 0 : Int32) else 0 : Int32) : Int32) else 0 : Int32)), (0, .ref (ad 0)), (1, .int 5)]) (pc := 47) hx hb dzM_swept_47 rfl hl (by decide) rfl (fun ls hl => ?_)
    refine lv_aload_n (pc := 48) hx hb dzM_swept_48 rfl (lv_at hl 1 rfl) ?_
    refine xk_get (pc := 49) hx hb hts hown hK hP ffzM_35 0 rfl rfl dzM_swept_49 ?_
    refine lv_iload_n (pc := 52) hx hb dzM_swept_52 rfl (lv_at hl 2 rfl) ?_
    refine xk_iald (q0 := 9) (t0 := 0) (j := 5) (pc := 53) hx hb hK hP rfl rfl (pk_in 5 6 (by decide)) (pk_cl 5) dzM_swept_53 ?_
    refine lv_aload_n (pc := 54) hx hb dzM_swept_54 rfl (lv_at hl 1 rfl) ?_
    refine xk_get (pc := 55) hx hb hts hown hK hP ffzM_38 0 rfl rfl dzM_swept_55 ?_
    refine lv_iload_n (pc := 58) hx hb dzM_swept_58 rfl (lv_at hl 2 rfl) ?_
    refine xk_iald (q0 := 10) (t0 := 0) (j := 5) (pc := 59) hx hb hK hP rfl rfl (pk_in 5 6 (by decide)) (pk_cl 5) dzM_swept_59 ?_
    have K2 : W p l e xk_r0 s m args below meth c H locs 0 0 Q (F0 m 95 ls [.int (if ((g0 9) 5) = ((g0 10) 5) then (if ((g0 9) 5) = 0 then 0 else (if ((g0 7) 5) = 0 then (if ((g0 8) 5) = 0 then 1 else 0 : Int32) else 0 : Int32) : Int32) else 0 : Int32)]) := by
      refine lv_istore_n (lv' := [(3, .int (if ((g0 9) 5) = ((g0 10) 5) then (if ((g0 9) 5) = 0 then 0 else (if ((g0 7) 5) = 0 then (if ((g0 8) 5) = 0 then 1 else 0 : Int32) else 0 : Int32) : Int32) else 0 : Int32)), (2, .int (if ((g0 7) 5) = ((g0 8) 5) then (if ((g0 7) 5) = 0 then 0 else (if ((g0 9) 5) = 0 then (if ((g0 10) 5) = 0 then 1 else 0 : Int32) else 0 : Int32) : Int32) else 0 : Int32)), (0, .ref (ad 0)), (1, .int 5)]) (pc := 95) hx hb dzM_swept_95 rfl hl (by decide) rfl (fun ls hl => ?_)
      refine lv_aload_n (pc := 96) hx hb dzM_swept_96 rfl (lv_at hl 2 rfl) ?_
      refine xk_get (pc := 97) hx hb hts hown hK hP ffzM_26 0 rfl rfl dzM_swept_97 ?_
      refine lv_iload_n (pc := 100) hx hb dzM_swept_100 rfl (lv_at hl 3 rfl) ?_
      refine xk_iald (q0 := 6) (t0 := 0) (j := 5) (pc := 101) hx hb hK hP rfl rfl (pk_in 5 6 (by decide)) (pk_cl 5) dzM_swept_101 ?_
      have K3 : W p l e xk_r0 s m args below meth c H locs 0 0 Q (F0 m 118 ls [.int (if ((g0 6) 5) = 0 then 0 else (if (if ((g0 7) 5) = ((g0 8) 5) then (if ((g0 7) 5) = 0 then 0 else (if ((g0 9) 5) = 0 then (if ((g0 10) 5) = 0 then 1 else 0 : Int32) else 0 : Int32) : Int32) else 0 : Int32) = 0 then (if (if ((g0 9) 5) = ((g0 10) 5) then (if ((g0 9) 5) = 0 then 0 else (if ((g0 7) 5) = 0 then (if ((g0 8) 5) = 0 then 1 else 0 : Int32) else 0 : Int32) : Int32) else 0 : Int32) = 0 then 0 else 1 : Int32) else 1 : Int32) : Int32)]) := by
        have jr : qzM_swept_5 g0 = (if ((g0 6) 5) = 0 then 0 else (if (if ((g0 7) 5) = ((g0 8) 5) then (if ((g0 7) 5) = 0 then 0 else (if ((g0 9) 5) = 0 then (if ((g0 10) 5) = 0 then 1 else 0 : Int32) else 0 : Int32) : Int32) else 0 : Int32) = 0 then (if (if ((g0 9) 5) = ((g0 10) 5) then (if ((g0 9) 5) = 0 then 0 else (if ((g0 7) 5) = 0 then (if ((g0 8) 5) = 0 then 1 else 0 : Int32) else 0 : Int32) : Int32) else 0 : Int32) = 0 then 0 else 1 : Int32) else 1 : Int32) : Int32) := by unfold qzM_swept_5; rfl
        exact hret _ () H locs 118 ls hP hS (xk_bn (by repeat' (first | with_reducible exact xk_b0 | with_reducible exact xk_b1 | apply xk_bi))) jr.symm dzM_swept_118
      refine lv_if_eq (pc := 102) (tgt := 117) hx hb dzM_swept_102 (by decide) (fun h9 => ?_) (fun h9 => ?_)
      ·
        refine lv_iconst (v := 0) (pc := 117) hx hb dzM_swept_117 (by decide) ?_
        have K9 := K3
        try simp only [if_pos h9] at K9
        first | exact K9 | (simp only [if_pos h9]; exact K9)
      ·
        refine lv_iload_n (pc := 105) hx hb dzM_swept_105 rfl (lv_at hl 1 rfl) ?_
        refine lv_if_ne (pc := 106) (tgt := 113) hx hb dzM_swept_106 (by decide) (fun h10 => ?_) (fun h10 => ?_)
        ·
          refine lv_iconst (v := 1) (pc := 113) hx hb dzM_swept_113 (by decide) ?_
          refine lv_goto (tgt := 118) (pc := 114) hx hb dzM_swept_114 (by decide) ?_
          have K9 := K3
          try simp only [if_neg h9, if_neg h10] at K9
          first | exact K9 | (simp only [if_neg h9, if_neg h10]; exact K9)
        ·
          refine lv_iload_n (pc := 109) hx hb dzM_swept_109 rfl (lv_at hl 0 rfl) ?_
          refine lv_if_eq (pc := 110) (tgt := 117) hx hb dzM_swept_110 (by decide) (fun h11 => ?_) (fun h11 => ?_)
          ·
            refine lv_iconst (v := 0) (pc := 117) hx hb dzM_swept_117 (by decide) ?_
            have K9 := K3
            try simp only [if_neg h9, if_pos h10, if_pos h11] at K9
            first | exact K9 | (simp only [if_neg h9, if_pos h10, if_pos h11]; exact K9)
          ·
            refine lv_iconst (v := 1) (pc := 113) hx hb dzM_swept_113 (by decide) ?_
            refine lv_goto (tgt := 118) (pc := 114) hx hb dzM_swept_114 (by decide) ?_
            have K9 := K3
            try simp only [if_neg h9, if_pos h10, if_neg h11] at K9
            first | exact K9 | (simp only [if_neg h9, if_pos h10, if_neg h11]; exact K9)
    refine lv_icmp_ne (pc := 60) (tgt := 94) hx hb dzM_swept_60 (by decide) (fun h5 => ?_) (fun h5 => ?_)
    ·
      refine lv_iconst (v := 0) (pc := 94) hx hb dzM_swept_94 (by decide) ?_
      have K9 := K2
      try simp only [if_neg h5] at K9
      first | exact K9 | (simp only [if_neg h5]; exact K9)
    ·
      refine lv_aload_n (pc := 63) hx hb dzM_swept_63 rfl (lv_at hl 1 rfl) ?_
      refine xk_get (pc := 64) hx hb hts hown hK hP ffzM_35 0 rfl rfl dzM_swept_64 ?_
      refine lv_iload_n (pc := 67) hx hb dzM_swept_67 rfl (lv_at hl 2 rfl) ?_
      refine xk_iald (q0 := 9) (t0 := 0) (j := 5) (pc := 68) hx hb hK hP rfl rfl (pk_in 5 6 (by decide)) (pk_cl 5) dzM_swept_68 ?_
      refine lv_if_eq (pc := 69) (tgt := 94) hx hb dzM_swept_69 (by decide) (fun h6 => ?_) (fun h6 => ?_)
      ·
        refine lv_iconst (v := 0) (pc := 94) hx hb dzM_swept_94 (by decide) ?_
        have K9 := K2
        try simp only [if_pos h5, if_pos h6] at K9
        first | exact K9 | (simp only [if_pos h5, if_pos h6]; exact K9)
      ·
        refine lv_aload_n (pc := 72) hx hb dzM_swept_72 rfl (lv_at hl 1 rfl) ?_
        refine xk_get (pc := 73) hx hb hts hown hK hP ffzM_29 0 rfl rfl dzM_swept_73 ?_
        refine lv_iload_n (pc := 76) hx hb dzM_swept_76 rfl (lv_at hl 2 rfl) ?_
        refine xk_iald (q0 := 7) (t0 := 0) (j := 5) (pc := 77) hx hb hK hP rfl rfl (pk_in 5 6 (by decide)) (pk_cl 5) dzM_swept_77 ?_
        refine lv_if_ne (pc := 78) (tgt := 94) hx hb dzM_swept_78 (by decide) (fun h7 => ?_) (fun h7 => ?_)
        ·
          refine lv_iconst (v := 0) (pc := 94) hx hb dzM_swept_94 (by decide) ?_
          have K9 := K2
          try simp only [if_pos h5, if_neg h6, if_neg h7] at K9
          first | exact K9 | (simp only [if_pos h5, if_neg h6, if_neg h7]; exact K9)
        ·
          refine lv_aload_n (pc := 81) hx hb dzM_swept_81 rfl (lv_at hl 1 rfl) ?_
          refine xk_get (pc := 82) hx hb hts hown hK hP ffzM_32 0 rfl rfl dzM_swept_82 ?_
          refine lv_iload_n (pc := 85) hx hb dzM_swept_85 rfl (lv_at hl 2 rfl) ?_
          refine xk_iald (q0 := 8) (t0 := 0) (j := 5) (pc := 86) hx hb hK hP rfl rfl (pk_in 5 6 (by decide)) (pk_cl 5) dzM_swept_86 ?_
          refine lv_if_ne (pc := 87) (tgt := 94) hx hb dzM_swept_87 (by decide) (fun h8 => ?_) (fun h8 => ?_)
          ·
            refine lv_iconst (v := 0) (pc := 94) hx hb dzM_swept_94 (by decide) ?_
            have K9 := K2
            try simp only [if_pos h5, if_neg h6, if_pos h7, if_neg h8] at K9
            first | exact K9 | (simp only [if_pos h5, if_neg h6, if_pos h7, if_neg h8]; exact K9)
          ·
            refine lv_iconst (v := 1) (pc := 90) hx hb dzM_swept_90 (by decide) ?_
            refine lv_goto (tgt := 95) (pc := 91) hx hb dzM_swept_91 (by decide) ?_
            have K9 := K2
            try simp only [if_pos h5, if_neg h6, if_pos h7, if_pos h8] at K9
            first | exact K9 | (simp only [if_pos h5, if_neg h6, if_pos h7, if_pos h8]; exact K9)
  refine lv_icmp_ne (pc := 12) (tgt := 46) hx hb dzM_swept_12 (by decide) (fun h1 => ?_) (fun h1 => ?_)
  ·
    refine lv_iconst (v := 0) (pc := 46) hx hb dzM_swept_46 (by decide) ?_
    have K9 := K1
    try simp only [if_neg h1] at K9
    first | exact K9 | (simp only [if_neg h1]; exact K9)
  ·
    refine lv_aload_n (pc := 15) hx hb dzM_swept_15 rfl (lv_at hl 0 rfl) ?_
    refine xk_get (pc := 16) hx hb hts hown hK hP ffzM_29 0 rfl rfl dzM_swept_16 ?_
    refine lv_iload_n (pc := 19) hx hb dzM_swept_19 rfl (lv_at hl 1 rfl) ?_
    refine xk_iald (q0 := 7) (t0 := 0) (j := 5) (pc := 20) hx hb hK hP rfl rfl (pk_in 5 6 (by decide)) (pk_cl 5) dzM_swept_20 ?_
    refine lv_if_eq (pc := 21) (tgt := 46) hx hb dzM_swept_21 (by decide) (fun h2 => ?_) (fun h2 => ?_)
    ·
      refine lv_iconst (v := 0) (pc := 46) hx hb dzM_swept_46 (by decide) ?_
      have K9 := K1
      try simp only [if_pos h1, if_pos h2] at K9
      first | exact K9 | (simp only [if_pos h1, if_pos h2]; exact K9)
    ·
      refine lv_aload_n (pc := 24) hx hb dzM_swept_24 rfl (lv_at hl 0 rfl) ?_
      refine xk_get (pc := 25) hx hb hts hown hK hP ffzM_35 0 rfl rfl dzM_swept_25 ?_
      refine lv_iload_n (pc := 28) hx hb dzM_swept_28 rfl (lv_at hl 1 rfl) ?_
      refine xk_iald (q0 := 9) (t0 := 0) (j := 5) (pc := 29) hx hb hK hP rfl rfl (pk_in 5 6 (by decide)) (pk_cl 5) dzM_swept_29 ?_
      refine lv_if_ne (pc := 30) (tgt := 46) hx hb dzM_swept_30 (by decide) (fun h3 => ?_) (fun h3 => ?_)
      ·
        refine lv_iconst (v := 0) (pc := 46) hx hb dzM_swept_46 (by decide) ?_
        have K9 := K1
        try simp only [if_pos h1, if_neg h2, if_neg h3] at K9
        first | exact K9 | (simp only [if_pos h1, if_neg h2, if_neg h3]; exact K9)
      ·
        refine lv_aload_n (pc := 33) hx hb dzM_swept_33 rfl (lv_at hl 0 rfl) ?_
        refine xk_get (pc := 34) hx hb hts hown hK hP ffzM_38 0 rfl rfl dzM_swept_34 ?_
        refine lv_iload_n (pc := 37) hx hb dzM_swept_37 rfl (lv_at hl 1 rfl) ?_
        refine xk_iald (q0 := 10) (t0 := 0) (j := 5) (pc := 38) hx hb hK hP rfl rfl (pk_in 5 6 (by decide)) (pk_cl 5) dzM_swept_38 ?_
        refine lv_if_ne (pc := 39) (tgt := 46) hx hb dzM_swept_39 (by decide) (fun h4 => ?_) (fun h4 => ?_)
        ·
          refine lv_iconst (v := 0) (pc := 46) hx hb dzM_swept_46 (by decide) ?_
          have K9 := K1
          try simp only [if_pos h1, if_neg h2, if_pos h3, if_neg h4] at K9
          first | exact K9 | (simp only [if_pos h1, if_neg h2, if_pos h3, if_neg h4]; exact K9)
        ·
          refine lv_iconst (v := 1) (pc := 42) hx hb dzM_swept_42 (by decide) ?_
          refine lv_goto (tgt := 47) (pc := 43) hx hb dzM_swept_43 (by decide) ?_
          have K9 := K1
          try simp only [if_pos h1, if_neg h2, if_pos h3, if_pos h4] at K9
          first | exact K9 | (simp only [if_pos h1, if_neg h2, if_pos h3, if_pos h4]; exact K9)

def qzM_isProved (g0 : xk_St) : Int32 := (if ((g0 17) 0) < 5 then 0 else (if ((g0 17) 1) < 5 then 0 else 1 : Int32) : Int32)
theorem bzM_isProved (g0 : xk_St) : xk_b (qzM_isProved g0) := by
  unfold qzM_isProved
  repeat' (first | with_reducible exact xk_b0 | with_reducible exact xk_b1 | with_reducible assumption | apply xk_bi)
set_option maxHeartbeats 4000000 in
set_option maxRecDepth 100000 in
theorem kzM_isProved (l : Launch) (G : va_G) (ac : Nat → ClassId) (ad : Nat → Nat) (g0 : xk_St) : xk_CI l yzM_isProved czM_isProved 1 .boolean xk_WS xk_r0 G xk_cls (xk_tys ac) [.ref (ad 0)] (xk_wM ad ac g0) (fun r (_ : Unit) => r = qzM_isProved g0) (fun _ => (xk_wM ad ac g0)) := by
  refine xk_ofI (by decide) (Nat.le_of_ble_eq_true rfl) ?_
  intro p e s m args below meth c A Q H locs ls C0 hret hP hD hS hl
  obtain ⟨hx, hb, hml, hts, hown, hK, hA⟩ := C0
  have hl : lv_has ls 1 [(0, .ref (ad 0))] := hl
  refine lv_aload_n (pc := 0) hx hb dzM_isProved_0 rfl (lv_at hl 0 rfl) ?_
  refine xk_get (pc := 1) hx hb hts hown hK hP ffzM_59 0 rfl rfl dzM_isProved_1 ?_
  refine lv_iconst (v := 0) (pc := 4) hx hb dzM_isProved_4 (by decide) ?_
  refine xk_iald (q0 := 17) (t0 := 0) (j := 0) (pc := 5) hx hb hK hP rfl rfl (pk_in 0 2 (by decide)) (pk_cl 0) dzM_isProved_5 ?_
  refine lv_iconst (v := 5) (pc := 6) hx hb dzM_isProved_6 (by decide) ?_
  have K1 : W p l e xk_r0 s m args below meth c H locs 0 0 Q (F0 m 25 ls [.int (if ((g0 17) 0) < 5 then 0 else (if ((g0 17) 1) < 5 then 0 else 1 : Int32) : Int32)]) := by
    have jr : qzM_isProved g0 = (if ((g0 17) 0) < 5 then 0 else (if ((g0 17) 1) < 5 then 0 else 1 : Int32) : Int32) := by unfold qzM_isProved; rfl
    exact hret _ () H locs 25 ls hP hS (xk_bn (by repeat' (first | with_reducible exact xk_b0 | with_reducible exact xk_b1 | apply xk_bi))) jr.symm dzM_isProved_25
  refine lv_icmp_lt (pc := 7) (tgt := 24) hx hb dzM_isProved_7 (by decide) (fun h1 => ?_) (fun h1 => ?_)
  ·
    refine lv_iconst (v := 0) (pc := 24) hx hb dzM_isProved_24 (by decide) ?_
    have K9 := K1
    try simp only [if_pos h1] at K9
    first | exact K9 | (simp only [if_pos h1]; exact K9)
  ·
    refine lv_aload_n (pc := 10) hx hb dzM_isProved_10 rfl (lv_at hl 0 rfl) ?_
    refine xk_get (pc := 11) hx hb hts hown hK hP ffzM_59 0 rfl rfl dzM_isProved_11 ?_
    refine lv_iconst (v := 1) (pc := 14) hx hb dzM_isProved_14 (by decide) ?_
    refine xk_iald (q0 := 17) (t0 := 0) (j := 1) (pc := 15) hx hb hK hP rfl rfl (pk_in 1 2 (by decide)) (pk_cl 1) dzM_isProved_15 ?_
    refine lv_iconst (v := 5) (pc := 16) hx hb dzM_isProved_16 (by decide) ?_
    refine lv_icmp_lt (pc := 17) (tgt := 24) hx hb dzM_isProved_17 (by decide) (fun h2 => ?_) (fun h2 => ?_)
    ·
      refine lv_iconst (v := 0) (pc := 24) hx hb dzM_isProved_24 (by decide) ?_
      have K9 := K1
      try simp only [if_neg h1, if_pos h2] at K9
      first | exact K9 | (simp only [if_neg h1, if_pos h2]; exact K9)
    ·
      refine lv_iconst (v := 1) (pc := 20) hx hb dzM_isProved_20 (by decide) ?_
      refine lv_goto (tgt := 25) (pc := 21) hx hb dzM_isProved_21 (by decide) ?_
      have K9 := K1
      try simp only [if_neg h1, if_neg h2] at K9
      first | exact K9 | (simp only [if_neg h1, if_neg h2]; exact K9)

def relzM_demand (g0 : xk_St) (rz : Int32) : Prop := ∃ (x1 : Int32), (if ((g0 13) 0) = 0 then (if ((g0 13) 1) = 0 then (x1 = 0) else (x1 = 1)) else (x1 = 1)) ∧ (∃ (x2 : Int32), (if x1 = 0 then (if (qzM_isFree_0 g0) = 0 then (x2 = 1) else (x2 = 0)) else (x2 = 1)) ∧ (∃ (x3 : Int32), (if x2 = 0 then (if (qzM_isFree_1 g0) = 0 then (x3 = 1) else (x3 = 0)) else (x3 = 1)) ∧ (∃ (x4 : Int32), (if x3 = 0 then (if (qzM_isFree_2 g0) = 0 then (x4 = 1) else (x4 = 0)) else (x4 = 1)) ∧ (∃ (x5 : Int32), (if x4 = 0 then (if (qzM_isFree_3 g0) = 0 then (x5 = 1) else (x5 = 0)) else (x5 = 1)) ∧ (∃ (x6 : Int32), (if x5 = 0 then (if (qzM_isFree_4 g0) = 0 then (x6 = 1) else (x6 = 0)) else (x6 = 1)) ∧ (∃ (x7 : Int32), (if x6 = 0 then (if (qzM_isFree_5 g0) = 0 then (x7 = 1) else (x7 = 0)) else (x7 = 1)) ∧ (rz = x7 ∧ xk_b rz)))))))
set_option maxHeartbeats 4000000 in
set_option maxRecDepth 100000 in
theorem kzM_demand (l : Launch) (G : va_G) (ac : Nat → ClassId) (ad : Nat → Nat) (g0 : xk_St) : xk_CI l yzM_demand czM_demand 3 .boolean xk_WS xk_r1 G xk_cls (xk_tys ac) [.ref (ad 0)] (xk_wM ad ac g0) (fun rz (_ : Unit) => relzM_demand g0 rz) (fun _ => (xk_wM ad ac g0)) := by
  refine xk_ofI (by decide) (Nat.le_of_ble_eq_true rfl) ?_
  intro p e s m args below meth c A Q H locs ls C0 hret hP hD hS hl
  obtain ⟨hx, hb, hml, hts, hown, hK, hA⟩ := C0
  have hl : lv_has ls 3 [(0, .ref (ad 0))] := hl
  refine lv_aload_n (pc := 0) hx hb dzM_demand_0 rfl (lv_at hl 0 rfl) ?_
  refine xk_get (pc := 1) hx hb hts hown hK hP ffzM_47 0 rfl rfl dzM_demand_1 ?_
  refine lv_iconst (v := 0) (pc := 4) hx hb dzM_demand_4 (by decide) ?_
  refine xk_zald (q0 := 13) (t0 := 1) (j := 0) (pc := 5) hx hb hK hP rfl rfl (pk_in 0 2 (by decide)) (pk_cl 0) dzM_demand_5 ?_
  have K1 : ∀ (x1 : Int32), (if ((g0 13) 0) = 0 then (if ((g0 13) 1) = 0 then (x1 = 0) else (x1 = 1)) else (x1 = 1)) → (xk_b x1) → W p l e xk_r1 s m args below meth c H locs 0 0 Q (F0 m 23 ls [.int x1]) := by
    intro x1 R1 bx1
    refine lv_istore_n (lv' := [(1, .int x1), (0, .ref (ad 0))]) (pc := 23) hx hb dzM_demand_23 rfl hl (by decide) rfl (fun ls hl => ?_)
    refine lv_iconst (v := 0) (pc := 24) hx hb dzM_demand_24 (by decide) ?_
    refine lv_istore_n (lv' := [(2, .int 0), (1, .int x1), (0, .ref (ad 0))]) (pc := 25) hx hb dzM_demand_25 rfl hl (by decide) rfl (fun ls hl => ?_)
    refine lv_iload_n (pc := 26) hx hb dzM_demand_26 rfl (lv_at hl 0 rfl) ?_
    refine lv_bipush (v := 6) (pc := 27) hx hb dzM_demand_27 (by decide) ?_
    refine lv_icmp_ge (pc := 29) (tgt := 56) hx hb dzM_demand_29 (by decide) (fun hq9 => absurd hq9 (by decide)) (fun _ => ?_)
    refine lv_iload_n (pc := 32) hx hb dzM_demand_32 rfl (lv_at hl 1 rfl) ?_
    have K2 : ∀ (x2 : Int32) (H : Heap) (locs : List Loc), (if x1 = 0 then (if (qzM_isFree_0 g0) = 0 then (x2 = 1) else (x2 = 0)) else (x2 = 1)) → (xk_b x2) → (va_P G xk_cls (xk_wM ad ac g0) H) → (va_D A (xk_wM ad ac g0)) → (va_S A s.heap H locs) → W p l e xk_r1 s m args below meth c H locs 0 0 Q (F0 m 49 ls [.int x2]) := by
      intro x2 H locs R2 bx2 hP hD hS
      refine lv_istore_n (lv' := [(1, .int x2), (2, .int 0), (0, .ref (ad 0))]) (pc := 49) hx hb dzM_demand_49 rfl hl (by decide) rfl (fun ls hl => ?_)
      refine lv_iinc (k := 1) (x := 0) (v := 1) (lv' := [(2, .int 1), (1, .int x2), (0, .ref (ad 0))]) (pc := 50) hx hb dzM_demand_50 hl rfl (by decide) (by decide) rfl (fun ls hl => ?_)
      refine lv_goto (tgt := 26) (pc := 53) hx hb dzM_demand_53 (by decide) ?_
      refine lv_iload_n (pc := 26) hx hb dzM_demand_26 rfl (lv_at hl 0 rfl) ?_
      refine lv_bipush (v := 6) (pc := 27) hx hb dzM_demand_27 (by decide) ?_
      refine lv_icmp_ge (pc := 29) (tgt := 56) hx hb dzM_demand_29 (by decide) (fun hq9 => absurd hq9 (by decide)) (fun _ => ?_)
      refine lv_iload_n (pc := 32) hx hb dzM_demand_32 rfl (lv_at hl 1 rfl) ?_
      have K3 : ∀ (x3 : Int32) (H : Heap) (locs : List Loc), (if x2 = 0 then (if (qzM_isFree_1 g0) = 0 then (x3 = 1) else (x3 = 0)) else (x3 = 1)) → (xk_b x3) → (va_P G xk_cls (xk_wM ad ac g0) H) → (va_D A (xk_wM ad ac g0)) → (va_S A s.heap H locs) → W p l e xk_r1 s m args below meth c H locs 0 0 Q (F0 m 49 ls [.int x3]) := by
        intro x3 H locs R3 bx3 hP hD hS
        refine lv_istore_n (lv' := [(1, .int x3), (2, .int 1), (0, .ref (ad 0))]) (pc := 49) hx hb dzM_demand_49 rfl hl (by decide) rfl (fun ls hl => ?_)
        refine lv_iinc (k := 1) (x := 1) (v := 2) (lv' := [(2, .int 2), (1, .int x3), (0, .ref (ad 0))]) (pc := 50) hx hb dzM_demand_50 hl rfl (by decide) (by decide) rfl (fun ls hl => ?_)
        refine lv_goto (tgt := 26) (pc := 53) hx hb dzM_demand_53 (by decide) ?_
        refine lv_iload_n (pc := 26) hx hb dzM_demand_26 rfl (lv_at hl 0 rfl) ?_
        refine lv_bipush (v := 6) (pc := 27) hx hb dzM_demand_27 (by decide) ?_
        refine lv_icmp_ge (pc := 29) (tgt := 56) hx hb dzM_demand_29 (by decide) (fun hq9 => absurd hq9 (by decide)) (fun _ => ?_)
        refine lv_iload_n (pc := 32) hx hb dzM_demand_32 rfl (lv_at hl 1 rfl) ?_
        have K4 : ∀ (x4 : Int32) (H : Heap) (locs : List Loc), (if x3 = 0 then (if (qzM_isFree_2 g0) = 0 then (x4 = 1) else (x4 = 0)) else (x4 = 1)) → (xk_b x4) → (va_P G xk_cls (xk_wM ad ac g0) H) → (va_D A (xk_wM ad ac g0)) → (va_S A s.heap H locs) → W p l e xk_r1 s m args below meth c H locs 0 0 Q (F0 m 49 ls [.int x4]) := by
          intro x4 H locs R4 bx4 hP hD hS
          refine lv_istore_n (lv' := [(1, .int x4), (2, .int 2), (0, .ref (ad 0))]) (pc := 49) hx hb dzM_demand_49 rfl hl (by decide) rfl (fun ls hl => ?_)
          refine lv_iinc (k := 1) (x := 2) (v := 3) (lv' := [(2, .int 3), (1, .int x4), (0, .ref (ad 0))]) (pc := 50) hx hb dzM_demand_50 hl rfl (by decide) (by decide) rfl (fun ls hl => ?_)
          refine lv_goto (tgt := 26) (pc := 53) hx hb dzM_demand_53 (by decide) ?_
          refine lv_iload_n (pc := 26) hx hb dzM_demand_26 rfl (lv_at hl 0 rfl) ?_
          refine lv_bipush (v := 6) (pc := 27) hx hb dzM_demand_27 (by decide) ?_
          refine lv_icmp_ge (pc := 29) (tgt := 56) hx hb dzM_demand_29 (by decide) (fun hq9 => absurd hq9 (by decide)) (fun _ => ?_)
          refine lv_iload_n (pc := 32) hx hb dzM_demand_32 rfl (lv_at hl 1 rfl) ?_
          have K5 : ∀ (x5 : Int32) (H : Heap) (locs : List Loc), (if x4 = 0 then (if (qzM_isFree_3 g0) = 0 then (x5 = 1) else (x5 = 0)) else (x5 = 1)) → (xk_b x5) → (va_P G xk_cls (xk_wM ad ac g0) H) → (va_D A (xk_wM ad ac g0)) → (va_S A s.heap H locs) → W p l e xk_r1 s m args below meth c H locs 0 0 Q (F0 m 49 ls [.int x5]) := by
            intro x5 H locs R5 bx5 hP hD hS
            refine lv_istore_n (lv' := [(1, .int x5), (2, .int 3), (0, .ref (ad 0))]) (pc := 49) hx hb dzM_demand_49 rfl hl (by decide) rfl (fun ls hl => ?_)
            refine lv_iinc (k := 1) (x := 3) (v := 4) (lv' := [(2, .int 4), (1, .int x5), (0, .ref (ad 0))]) (pc := 50) hx hb dzM_demand_50 hl rfl (by decide) (by decide) rfl (fun ls hl => ?_)
            refine lv_goto (tgt := 26) (pc := 53) hx hb dzM_demand_53 (by decide) ?_
            refine lv_iload_n (pc := 26) hx hb dzM_demand_26 rfl (lv_at hl 0 rfl) ?_
            refine lv_bipush (v := 6) (pc := 27) hx hb dzM_demand_27 (by decide) ?_
            refine lv_icmp_ge (pc := 29) (tgt := 56) hx hb dzM_demand_29 (by decide) (fun hq9 => absurd hq9 (by decide)) (fun _ => ?_)
            refine lv_iload_n (pc := 32) hx hb dzM_demand_32 rfl (lv_at hl 1 rfl) ?_
            have K6 : ∀ (x6 : Int32) (H : Heap) (locs : List Loc), (if x5 = 0 then (if (qzM_isFree_4 g0) = 0 then (x6 = 1) else (x6 = 0)) else (x6 = 1)) → (xk_b x6) → (va_P G xk_cls (xk_wM ad ac g0) H) → (va_D A (xk_wM ad ac g0)) → (va_S A s.heap H locs) → W p l e xk_r1 s m args below meth c H locs 0 0 Q (F0 m 49 ls [.int x6]) := by
              intro x6 H locs R6 bx6 hP hD hS
              refine lv_istore_n (lv' := [(1, .int x6), (2, .int 4), (0, .ref (ad 0))]) (pc := 49) hx hb dzM_demand_49 rfl hl (by decide) rfl (fun ls hl => ?_)
              refine lv_iinc (k := 1) (x := 4) (v := 5) (lv' := [(2, .int 5), (1, .int x6), (0, .ref (ad 0))]) (pc := 50) hx hb dzM_demand_50 hl rfl (by decide) (by decide) rfl (fun ls hl => ?_)
              refine lv_goto (tgt := 26) (pc := 53) hx hb dzM_demand_53 (by decide) ?_
              refine lv_iload_n (pc := 26) hx hb dzM_demand_26 rfl (lv_at hl 0 rfl) ?_
              refine lv_bipush (v := 6) (pc := 27) hx hb dzM_demand_27 (by decide) ?_
              refine lv_icmp_ge (pc := 29) (tgt := 56) hx hb dzM_demand_29 (by decide) (fun hq9 => absurd hq9 (by decide)) (fun _ => ?_)
              refine lv_iload_n (pc := 32) hx hb dzM_demand_32 rfl (lv_at hl 1 rfl) ?_
              have K7 : ∀ (x7 : Int32) (H : Heap) (locs : List Loc), (if x6 = 0 then (if (qzM_isFree_5 g0) = 0 then (x7 = 1) else (x7 = 0)) else (x7 = 1)) → (xk_b x7) → (va_P G xk_cls (xk_wM ad ac g0) H) → (va_D A (xk_wM ad ac g0)) → (va_S A s.heap H locs) → W p l e xk_r1 s m args below meth c H locs 0 0 Q (F0 m 49 ls [.int x7]) := by
                intro x7 H locs R7 bx7 hP hD hS
                refine lv_istore_n (lv' := [(1, .int x7), (2, .int 5), (0, .ref (ad 0))]) (pc := 49) hx hb dzM_demand_49 rfl hl (by decide) rfl (fun ls hl => ?_)
                refine lv_iinc (k := 1) (x := 5) (v := 6) (lv' := [(2, .int 6), (1, .int x7), (0, .ref (ad 0))]) (pc := 50) hx hb dzM_demand_50 hl rfl (by decide) (by decide) rfl (fun ls hl => ?_)
                refine lv_goto (tgt := 26) (pc := 53) hx hb dzM_demand_53 (by decide) ?_
                refine lv_iload_n (pc := 26) hx hb dzM_demand_26 rfl (lv_at hl 0 rfl) ?_
                refine lv_bipush (v := 6) (pc := 27) hx hb dzM_demand_27 (by decide) ?_
                refine lv_icmp_ge (pc := 29) (tgt := 56) hx hb dzM_demand_29 (by decide) (fun _ => ?_) (fun hq9 => absurd (by decide) hq9)
                refine lv_iload_n (pc := 56) hx hb dzM_demand_56 rfl (lv_at hl 1 rfl) ?_
                exact hret _ () H locs 57 ls hP hS (xk_bn bx7) (by unfold relzM_demand; exact ⟨x1, R1, ⟨x2, R2, ⟨x3, R3, ⟨x4, R4, ⟨x5, R5, ⟨x6, R6, ⟨x7, R7, ⟨rfl, bx7⟩⟩⟩⟩⟩⟩⟩⟩) dzM_demand_57
              refine lv_if_ne (pc := 33) (tgt := 44) hx hb dzM_demand_33 (by decide) (fun h13 => ?_) (fun h13 => ?_)
              ·
                refine lv_iconst (v := 1) (pc := 44) hx hb dzM_demand_44 (by decide) ?_
                refine lv_goto (tgt := 49) (pc := 45) hx hb dzM_demand_45 (by decide) ?_
                exact K7 1 H locs (Eq.mpr (if_neg h13) rfl) xk_b1 hP hD hS
              ·
                refine lv_aload_n (pc := 36) hx hb dzM_demand_36 rfl (lv_at hl 2 rfl) ?_
                refine lv_iload_n (pc := 37) hx hb dzM_demand_37 rfl (lv_at hl 0 rfl) ?_
                refine xk_allVI (As := [.int 5]) (rest := []) (H0 := s.heap) (pc := 38) hx hb hml hts hown hK hA hP hD hS (kzM_isFree_5 l G ac ad g0) vfzM_129 (fun _ => rfl) 0 rfl rfl ⟨rfl, rfl⟩ ⟨Nat.le_of_ble_eq_true rfl, Nat.le_of_ble_eq_true rfl⟩ rfl hl.1 rfl (Nat.le_of_ble_eq_true rfl) ⟨Nat.zero_le _, Nat.zero_le _⟩ dzM_demand_38 (fun r6 u9 H locs e9 hP hD hS => ?_)
                obtain rfl : r6 = qzM_isFree_5 g0 := e9
                have hP : va_P G xk_cls (xk_wM ad ac g0) H := hP
                have hD : va_D A (xk_wM ad ac g0) := hD
                refine lv_if_ne (pc := 41) (tgt := 48) hx hb dzM_demand_41 (by decide) (fun h14 => ?_) (fun h14 => ?_)
                ·
                  refine lv_iconst (v := 0) (pc := 48) hx hb dzM_demand_48 (by decide) ?_
                  exact K7 0 H locs (Eq.mpr (if_pos h13) (Eq.mpr (if_neg h14) rfl)) xk_b0 hP hD hS
                ·
                  refine lv_iconst (v := 1) (pc := 44) hx hb dzM_demand_44 (by decide) ?_
                  refine lv_goto (tgt := 49) (pc := 45) hx hb dzM_demand_45 (by decide) ?_
                  exact K7 1 H locs (Eq.mpr (if_pos h13) (Eq.mpr (if_pos h14) rfl)) xk_b1 hP hD hS
            refine lv_if_ne (pc := 33) (tgt := 44) hx hb dzM_demand_33 (by decide) (fun h11 => ?_) (fun h11 => ?_)
            ·
              refine lv_iconst (v := 1) (pc := 44) hx hb dzM_demand_44 (by decide) ?_
              refine lv_goto (tgt := 49) (pc := 45) hx hb dzM_demand_45 (by decide) ?_
              exact K6 1 H locs (Eq.mpr (if_neg h11) rfl) xk_b1 hP hD hS
            ·
              refine lv_aload_n (pc := 36) hx hb dzM_demand_36 rfl (lv_at hl 2 rfl) ?_
              refine lv_iload_n (pc := 37) hx hb dzM_demand_37 rfl (lv_at hl 0 rfl) ?_
              refine xk_allVI (As := [.int 4]) (rest := []) (H0 := s.heap) (pc := 38) hx hb hml hts hown hK hA hP hD hS (kzM_isFree_4 l G ac ad g0) vfzM_129 (fun _ => rfl) 0 rfl rfl ⟨rfl, rfl⟩ ⟨Nat.le_of_ble_eq_true rfl, Nat.le_of_ble_eq_true rfl⟩ rfl hl.1 rfl (Nat.le_of_ble_eq_true rfl) ⟨Nat.zero_le _, Nat.zero_le _⟩ dzM_demand_38 (fun r5 u9 H locs e9 hP hD hS => ?_)
              obtain rfl : r5 = qzM_isFree_4 g0 := e9
              have hP : va_P G xk_cls (xk_wM ad ac g0) H := hP
              have hD : va_D A (xk_wM ad ac g0) := hD
              refine lv_if_ne (pc := 41) (tgt := 48) hx hb dzM_demand_41 (by decide) (fun h12 => ?_) (fun h12 => ?_)
              ·
                refine lv_iconst (v := 0) (pc := 48) hx hb dzM_demand_48 (by decide) ?_
                exact K6 0 H locs (Eq.mpr (if_pos h11) (Eq.mpr (if_neg h12) rfl)) xk_b0 hP hD hS
              ·
                refine lv_iconst (v := 1) (pc := 44) hx hb dzM_demand_44 (by decide) ?_
                refine lv_goto (tgt := 49) (pc := 45) hx hb dzM_demand_45 (by decide) ?_
                exact K6 1 H locs (Eq.mpr (if_pos h11) (Eq.mpr (if_pos h12) rfl)) xk_b1 hP hD hS
          refine lv_if_ne (pc := 33) (tgt := 44) hx hb dzM_demand_33 (by decide) (fun h9 => ?_) (fun h9 => ?_)
          ·
            refine lv_iconst (v := 1) (pc := 44) hx hb dzM_demand_44 (by decide) ?_
            refine lv_goto (tgt := 49) (pc := 45) hx hb dzM_demand_45 (by decide) ?_
            exact K5 1 H locs (Eq.mpr (if_neg h9) rfl) xk_b1 hP hD hS
          ·
            refine lv_aload_n (pc := 36) hx hb dzM_demand_36 rfl (lv_at hl 2 rfl) ?_
            refine lv_iload_n (pc := 37) hx hb dzM_demand_37 rfl (lv_at hl 0 rfl) ?_
            refine xk_allVI (As := [.int 3]) (rest := []) (H0 := s.heap) (pc := 38) hx hb hml hts hown hK hA hP hD hS (kzM_isFree_3 l G ac ad g0) vfzM_129 (fun _ => rfl) 0 rfl rfl ⟨rfl, rfl⟩ ⟨Nat.le_of_ble_eq_true rfl, Nat.le_of_ble_eq_true rfl⟩ rfl hl.1 rfl (Nat.le_of_ble_eq_true rfl) ⟨Nat.zero_le _, Nat.zero_le _⟩ dzM_demand_38 (fun r4 u9 H locs e9 hP hD hS => ?_)
            obtain rfl : r4 = qzM_isFree_3 g0 := e9
            have hP : va_P G xk_cls (xk_wM ad ac g0) H := hP
            have hD : va_D A (xk_wM ad ac g0) := hD
            refine lv_if_ne (pc := 41) (tgt := 48) hx hb dzM_demand_41 (by decide) (fun h10 => ?_) (fun h10 => ?_)
            ·
              refine lv_iconst (v := 0) (pc := 48) hx hb dzM_demand_48 (by decide) ?_
              exact K5 0 H locs (Eq.mpr (if_pos h9) (Eq.mpr (if_neg h10) rfl)) xk_b0 hP hD hS
            ·
              refine lv_iconst (v := 1) (pc := 44) hx hb dzM_demand_44 (by decide) ?_
              refine lv_goto (tgt := 49) (pc := 45) hx hb dzM_demand_45 (by decide) ?_
              exact K5 1 H locs (Eq.mpr (if_pos h9) (Eq.mpr (if_pos h10) rfl)) xk_b1 hP hD hS
        refine lv_if_ne (pc := 33) (tgt := 44) hx hb dzM_demand_33 (by decide) (fun h7 => ?_) (fun h7 => ?_)
        ·
          refine lv_iconst (v := 1) (pc := 44) hx hb dzM_demand_44 (by decide) ?_
          refine lv_goto (tgt := 49) (pc := 45) hx hb dzM_demand_45 (by decide) ?_
          exact K4 1 H locs (Eq.mpr (if_neg h7) rfl) xk_b1 hP hD hS
        ·
          refine lv_aload_n (pc := 36) hx hb dzM_demand_36 rfl (lv_at hl 2 rfl) ?_
          refine lv_iload_n (pc := 37) hx hb dzM_demand_37 rfl (lv_at hl 0 rfl) ?_
          refine xk_allVI (As := [.int 2]) (rest := []) (H0 := s.heap) (pc := 38) hx hb hml hts hown hK hA hP hD hS (kzM_isFree_2 l G ac ad g0) vfzM_129 (fun _ => rfl) 0 rfl rfl ⟨rfl, rfl⟩ ⟨Nat.le_of_ble_eq_true rfl, Nat.le_of_ble_eq_true rfl⟩ rfl hl.1 rfl (Nat.le_of_ble_eq_true rfl) ⟨Nat.zero_le _, Nat.zero_le _⟩ dzM_demand_38 (fun r3 u9 H locs e9 hP hD hS => ?_)
          obtain rfl : r3 = qzM_isFree_2 g0 := e9
          have hP : va_P G xk_cls (xk_wM ad ac g0) H := hP
          have hD : va_D A (xk_wM ad ac g0) := hD
          refine lv_if_ne (pc := 41) (tgt := 48) hx hb dzM_demand_41 (by decide) (fun h8 => ?_) (fun h8 => ?_)
          ·
            refine lv_iconst (v := 0) (pc := 48) hx hb dzM_demand_48 (by decide) ?_
            exact K4 0 H locs (Eq.mpr (if_pos h7) (Eq.mpr (if_neg h8) rfl)) xk_b0 hP hD hS
          ·
            refine lv_iconst (v := 1) (pc := 44) hx hb dzM_demand_44 (by decide) ?_
            refine lv_goto (tgt := 49) (pc := 45) hx hb dzM_demand_45 (by decide) ?_
            exact K4 1 H locs (Eq.mpr (if_pos h7) (Eq.mpr (if_pos h8) rfl)) xk_b1 hP hD hS
      refine lv_if_ne (pc := 33) (tgt := 44) hx hb dzM_demand_33 (by decide) (fun h5 => ?_) (fun h5 => ?_)
      ·
        refine lv_iconst (v := 1) (pc := 44) hx hb dzM_demand_44 (by decide) ?_
        refine lv_goto (tgt := 49) (pc := 45) hx hb dzM_demand_45 (by decide) ?_
        exact K3 1 H locs (Eq.mpr (if_neg h5) rfl) xk_b1 hP hD hS
      ·
        refine lv_aload_n (pc := 36) hx hb dzM_demand_36 rfl (lv_at hl 2 rfl) ?_
        refine lv_iload_n (pc := 37) hx hb dzM_demand_37 rfl (lv_at hl 0 rfl) ?_
        refine xk_allVI (As := [.int 1]) (rest := []) (H0 := s.heap) (pc := 38) hx hb hml hts hown hK hA hP hD hS (kzM_isFree_1 l G ac ad g0) vfzM_129 (fun _ => rfl) 0 rfl rfl ⟨rfl, rfl⟩ ⟨Nat.le_of_ble_eq_true rfl, Nat.le_of_ble_eq_true rfl⟩ rfl hl.1 rfl (Nat.le_of_ble_eq_true rfl) ⟨Nat.zero_le _, Nat.zero_le _⟩ dzM_demand_38 (fun r2 u9 H locs e9 hP hD hS => ?_)
        obtain rfl : r2 = qzM_isFree_1 g0 := e9
        have hP : va_P G xk_cls (xk_wM ad ac g0) H := hP
        have hD : va_D A (xk_wM ad ac g0) := hD
        refine lv_if_ne (pc := 41) (tgt := 48) hx hb dzM_demand_41 (by decide) (fun h6 => ?_) (fun h6 => ?_)
        ·
          refine lv_iconst (v := 0) (pc := 48) hx hb dzM_demand_48 (by decide) ?_
          exact K3 0 H locs (Eq.mpr (if_pos h5) (Eq.mpr (if_neg h6) rfl)) xk_b0 hP hD hS
        ·
          refine lv_iconst (v := 1) (pc := 44) hx hb dzM_demand_44 (by decide) ?_
          refine lv_goto (tgt := 49) (pc := 45) hx hb dzM_demand_45 (by decide) ?_
          exact K3 1 H locs (Eq.mpr (if_pos h5) (Eq.mpr (if_pos h6) rfl)) xk_b1 hP hD hS
    refine lv_if_ne (pc := 33) (tgt := 44) hx hb dzM_demand_33 (by decide) (fun h3 => ?_) (fun h3 => ?_)
    ·
      refine lv_iconst (v := 1) (pc := 44) hx hb dzM_demand_44 (by decide) ?_
      refine lv_goto (tgt := 49) (pc := 45) hx hb dzM_demand_45 (by decide) ?_
      exact K2 1 H locs (Eq.mpr (if_neg h3) rfl) xk_b1 hP hD hS
    ·
      refine lv_aload_n (pc := 36) hx hb dzM_demand_36 rfl (lv_at hl 2 rfl) ?_
      refine lv_iload_n (pc := 37) hx hb dzM_demand_37 rfl (lv_at hl 0 rfl) ?_
      refine xk_allVI (As := [.int 0]) (rest := []) (H0 := s.heap) (pc := 38) hx hb hml hts hown hK hA hP hD hS (kzM_isFree_0 l G ac ad g0) vfzM_129 (fun _ => rfl) 0 rfl rfl ⟨rfl, rfl⟩ ⟨Nat.le_of_ble_eq_true rfl, Nat.le_of_ble_eq_true rfl⟩ rfl hl.1 rfl (Nat.le_of_ble_eq_true rfl) ⟨Nat.zero_le _, Nat.zero_le _⟩ dzM_demand_38 (fun r1 u9 H locs e9 hP hD hS => ?_)
      obtain rfl : r1 = qzM_isFree_0 g0 := e9
      have hP : va_P G xk_cls (xk_wM ad ac g0) H := hP
      have hD : va_D A (xk_wM ad ac g0) := hD
      refine lv_if_ne (pc := 41) (tgt := 48) hx hb dzM_demand_41 (by decide) (fun h4 => ?_) (fun h4 => ?_)
      ·
        refine lv_iconst (v := 0) (pc := 48) hx hb dzM_demand_48 (by decide) ?_
        exact K2 0 H locs (Eq.mpr (if_pos h3) (Eq.mpr (if_neg h4) rfl)) xk_b0 hP hD hS
      ·
        refine lv_iconst (v := 1) (pc := 44) hx hb dzM_demand_44 (by decide) ?_
        refine lv_goto (tgt := 49) (pc := 45) hx hb dzM_demand_45 (by decide) ?_
        exact K2 1 H locs (Eq.mpr (if_pos h3) (Eq.mpr (if_pos h4) rfl)) xk_b1 hP hD hS
  refine lv_if_ne (pc := 6) (tgt := 18) hx hb dzM_demand_6 (by decide) (fun h1 => ?_) (fun h1 => ?_)
  ·
    refine lv_iconst (v := 1) (pc := 18) hx hb dzM_demand_18 (by decide) ?_
    refine lv_goto (tgt := 23) (pc := 19) hx hb dzM_demand_19 (by decide) ?_
    exact K1 1 (Eq.mpr (if_neg h1) rfl) xk_b1
  ·
    refine lv_aload_n (pc := 9) hx hb dzM_demand_9 rfl (lv_at hl 0 rfl) ?_
    refine xk_get (pc := 10) hx hb hts hown hK hP ffzM_47 0 rfl rfl dzM_demand_10 ?_
    refine lv_iconst (v := 1) (pc := 13) hx hb dzM_demand_13 (by decide) ?_
    refine xk_zald (q0 := 13) (t0 := 1) (j := 1) (pc := 14) hx hb hK hP rfl rfl (pk_in 1 2 (by decide)) (pk_cl 1) dzM_demand_14 ?_
    refine lv_if_eq (pc := 15) (tgt := 22) hx hb dzM_demand_15 (by decide) (fun h2 => ?_) (fun h2 => ?_)
    ·
      refine lv_iconst (v := 0) (pc := 22) hx hb dzM_demand_22 (by decide) ?_
      exact K1 0 (Eq.mpr (if_pos h1) (Eq.mpr (if_pos h2) rfl)) xk_b0
    ·
      refine lv_iconst (v := 1) (pc := 18) hx hb dzM_demand_18 (by decide) ?_
      refine lv_goto (tgt := 23) (pc := 19) hx hb dzM_demand_19 (by decide) ?_
      exact K1 1 (Eq.mpr (if_pos h1) (Eq.mpr (if_neg h2) rfl)) xk_b1

def relzM_output (g0 : xk_St) (rz : Int32) : Prop := ∃ (x1 : Int32), (if (g0 0 25) = 0 then (x1 = 0) else (x1 = 8)) ∧ (∃ (x2 : Int32), (if ((g0 21) 0) = 0 then (x2 = x1) else (x2 = x1 ||| 1)) ∧ (∃ (x3 : Int32), (if ((g0 21) 1) = 0 then (x3 = x2) else (x3 = x2 ||| 2)) ∧ (∃ (x4 : Int32), (if ((g0 21) 2) = 0 then (x4 = x3) else (x4 = x3 ||| 4)) ∧ (∃ (x5 : Int32), (if ((g0 16) 0) = (-1) then (x5 = x4 ||| 16) else (if ((g0 16) 0) = 1 then (x5 = x4 ||| 32) else (x5 = x4))) ∧ (∃ (x6 : Int32), (if ((g0 24) 0) = 0 then (x6 = x5) else (x6 = x5 ||| 256)) ∧ (∃ (x7 : Int32), (if ((g0 19) 0) = 0 then (x7 = x6) else (x7 = x6 ||| 1024)) ∧ (∃ (x8 : Int32), (if ((g0 16) 1) = (-1) then (x8 = x7 ||| 64) else (if ((g0 16) 1) = 1 then (x8 = x7 ||| 128) else (x8 = x7))) ∧ (∃ (x9 : Int32), (if ((g0 24) 1) = 0 then (x9 = x8) else (x9 = x8 ||| 512)) ∧ (∃ (x10 : Int32), (if ((g0 19) 1) = 0 then (x10 = x9) else (x10 = x9 ||| 2048)) ∧ (rz = x10))))))))))
set_option maxHeartbeats 4000000 in
set_option maxRecDepth 100000 in
theorem kzM_output (l : Launch) (G : va_G) (ac : Nat → ClassId) (ad : Nat → Nat) (g0 : xk_St) : xk_CI l yzM_output czM_output 3 .int xk_WS xk_r0 G xk_cls (xk_tys ac) [.ref (ad 0)] (xk_wM ad ac g0) (fun rz (_ : Unit) => relzM_output g0 rz) (fun _ => (xk_wM ad ac g0)) := by
  refine xk_ofI (by decide) (Nat.le_of_ble_eq_true rfl) ?_
  intro p e s m args below meth c A Q H locs ls C0 hret hP hD hS hl
  obtain ⟨hx, hb, hml, hts, hown, hK, hA⟩ := C0
  have hl : lv_has ls 3 [(0, .ref (ad 0))] := hl
  refine lv_aload_n (pc := 0) hx hb dzM_output_0 rfl (lv_at hl 0 rfl) ?_
  refine xk_get (pc := 1) hx hb hts hown hK hP ffzM_161 0 rfl rfl dzM_output_1 ?_
  have K1 : ∀ (x1 : Int32), (if (g0 0 25) = 0 then (x1 = 0) else (x1 = 8)) → W p l e xk_r0 s m args below meth c H locs 0 0 Q (F0 m 13 ls [.int x1]) := by
    intro x1 R1
    refine lv_istore_n (lv' := [(1, .int x1), (0, .ref (ad 0))]) (pc := 13) hx hb dzM_output_13 rfl hl (by decide) rfl (fun ls hl => ?_)
    refine lv_iconst (v := 0) (pc := 14) hx hb dzM_output_14 (by decide) ?_
    refine lv_istore_n (lv' := [(2, .int 0), (1, .int x1), (0, .ref (ad 0))]) (pc := 15) hx hb dzM_output_15 rfl hl (by decide) rfl (fun ls hl => ?_)
    refine lv_iload_n (pc := 16) hx hb dzM_output_16 rfl (lv_at hl 0 rfl) ?_
    refine lv_iconst (v := 3) (pc := 17) hx hb dzM_output_17 (by decide) ?_
    refine lv_icmp_ge (pc := 18) (tgt := 46) hx hb dzM_output_18 (by decide) (fun hq9 => absurd hq9 (by decide)) (fun _ => ?_)
    refine lv_aload_n (pc := 21) hx hb dzM_output_21 rfl (lv_at hl 2 rfl) ?_
    refine xk_get (pc := 22) hx hb hts hown hK hP ffzM_71 0 rfl rfl dzM_output_22 ?_
    refine lv_iload_n (pc := 25) hx hb dzM_output_25 rfl (lv_at hl 0 rfl) ?_
    refine xk_zald (q0 := 21) (t0 := 1) (j := 0) (pc := 26) hx hb hK hP rfl rfl (pk_in 0 3 (by decide)) (pk_cl 0) dzM_output_26 ?_
    have K2 : ∀ (x2 : Int32), (if ((g0 21) 0) = 0 then (x2 = x1) else (x2 = x1 ||| 1)) → W p l e xk_r0 s m args below meth c H locs 0 0 Q (F0 m 39 ls [.int x2]) := by
      intro x2 R2
      refine lv_istore_n (lv' := [(1, .int x2), (2, .int 0), (0, .ref (ad 0))]) (pc := 39) hx hb dzM_output_39 rfl hl (by decide) rfl (fun ls hl => ?_)
      refine lv_iinc (k := 1) (x := 0) (v := 1) (lv' := [(2, .int 1), (1, .int x2), (0, .ref (ad 0))]) (pc := 40) hx hb dzM_output_40 hl rfl (by decide) (by decide) rfl (fun ls hl => ?_)
      refine lv_goto (tgt := 16) (pc := 43) hx hb dzM_output_43 (by decide) ?_
      refine lv_iload_n (pc := 16) hx hb dzM_output_16 rfl (lv_at hl 0 rfl) ?_
      refine lv_iconst (v := 3) (pc := 17) hx hb dzM_output_17 (by decide) ?_
      refine lv_icmp_ge (pc := 18) (tgt := 46) hx hb dzM_output_18 (by decide) (fun hq9 => absurd hq9 (by decide)) (fun _ => ?_)
      refine lv_aload_n (pc := 21) hx hb dzM_output_21 rfl (lv_at hl 2 rfl) ?_
      refine xk_get (pc := 22) hx hb hts hown hK hP ffzM_71 0 rfl rfl dzM_output_22 ?_
      refine lv_iload_n (pc := 25) hx hb dzM_output_25 rfl (lv_at hl 0 rfl) ?_
      refine xk_zald (q0 := 21) (t0 := 1) (j := 1) (pc := 26) hx hb hK hP rfl rfl (pk_in 1 3 (by decide)) (pk_cl 1) dzM_output_26 ?_
      have K3 : ∀ (x3 : Int32), (if ((g0 21) 1) = 0 then (x3 = x2) else (x3 = x2 ||| 2)) → W p l e xk_r0 s m args below meth c H locs 0 0 Q (F0 m 39 ls [.int x3]) := by
        intro x3 R3
        refine lv_istore_n (lv' := [(1, .int x3), (2, .int 1), (0, .ref (ad 0))]) (pc := 39) hx hb dzM_output_39 rfl hl (by decide) rfl (fun ls hl => ?_)
        refine lv_iinc (k := 1) (x := 1) (v := 2) (lv' := [(2, .int 2), (1, .int x3), (0, .ref (ad 0))]) (pc := 40) hx hb dzM_output_40 hl rfl (by decide) (by decide) rfl (fun ls hl => ?_)
        refine lv_goto (tgt := 16) (pc := 43) hx hb dzM_output_43 (by decide) ?_
        refine lv_iload_n (pc := 16) hx hb dzM_output_16 rfl (lv_at hl 0 rfl) ?_
        refine lv_iconst (v := 3) (pc := 17) hx hb dzM_output_17 (by decide) ?_
        refine lv_icmp_ge (pc := 18) (tgt := 46) hx hb dzM_output_18 (by decide) (fun hq9 => absurd hq9 (by decide)) (fun _ => ?_)
        refine lv_aload_n (pc := 21) hx hb dzM_output_21 rfl (lv_at hl 2 rfl) ?_
        refine xk_get (pc := 22) hx hb hts hown hK hP ffzM_71 0 rfl rfl dzM_output_22 ?_
        refine lv_iload_n (pc := 25) hx hb dzM_output_25 rfl (lv_at hl 0 rfl) ?_
        refine xk_zald (q0 := 21) (t0 := 1) (j := 2) (pc := 26) hx hb hK hP rfl rfl (pk_in 2 3 (by decide)) (pk_cl 2) dzM_output_26 ?_
        have K4 : ∀ (x4 : Int32), (if ((g0 21) 2) = 0 then (x4 = x3) else (x4 = x3 ||| 4)) → W p l e xk_r0 s m args below meth c H locs 0 0 Q (F0 m 39 ls [.int x4]) := by
          intro x4 R4
          refine lv_istore_n (lv' := [(1, .int x4), (2, .int 2), (0, .ref (ad 0))]) (pc := 39) hx hb dzM_output_39 rfl hl (by decide) rfl (fun ls hl => ?_)
          refine lv_iinc (k := 1) (x := 2) (v := 3) (lv' := [(2, .int 3), (1, .int x4), (0, .ref (ad 0))]) (pc := 40) hx hb dzM_output_40 hl rfl (by decide) (by decide) rfl (fun ls hl => ?_)
          refine lv_goto (tgt := 16) (pc := 43) hx hb dzM_output_43 (by decide) ?_
          refine lv_iload_n (pc := 16) hx hb dzM_output_16 rfl (lv_at hl 0 rfl) ?_
          refine lv_iconst (v := 3) (pc := 17) hx hb dzM_output_17 (by decide) ?_
          refine lv_icmp_ge (pc := 18) (tgt := 46) hx hb dzM_output_18 (by decide) (fun _ => ?_) (fun hq9 => absurd (by decide) hq9)
          refine lv_iconst (v := 0) (pc := 46) hx hb dzM_output_46 (by decide) ?_
          refine lv_istore_n (lv' := [(2, .int 0), (1, .int x4), (0, .ref (ad 0))]) (pc := 47) hx hb dzM_output_47 rfl hl (by decide) rfl (fun ls hl => ?_)
          refine lv_iload_n (pc := 48) hx hb dzM_output_48 rfl (lv_at hl 0 rfl) ?_
          refine lv_iconst (v := 2) (pc := 49) hx hb dzM_output_49 (by decide) ?_
          refine lv_icmp_ge (pc := 50) (tgt := 145) hx hb dzM_output_50 (by decide) (fun hq9 => absurd hq9 (by decide)) (fun _ => ?_)
          refine lv_aload_n (pc := 53) hx hb dzM_output_53 rfl (lv_at hl 2 rfl) ?_
          refine xk_get (pc := 54) hx hb hts hown hK hP ffzM_56 0 rfl rfl dzM_output_54 ?_
          refine lv_iload_n (pc := 57) hx hb dzM_output_57 rfl (lv_at hl 0 rfl) ?_
          refine xk_iald (q0 := 16) (t0 := 0) (j := 0) (pc := 58) hx hb hK hP rfl rfl (pk_in 0 2 (by decide)) (pk_cl 0) dzM_output_58 ?_
          refine lv_iconst (v := (-1)) (pc := 59) hx hb dzM_output_59 (by decide) ?_
          have K5 : ∀ (x5 : Int32), (if ((g0 16) 0) = (-1) then (x5 = x4 ||| 16) else (if ((g0 16) 0) = 1 then (x5 = x4 ||| 32) else (x5 = x4))) → W p l e xk_r0 s m args below meth c H locs 0 0 Q (F0 m 96 ls [.int x5]) := by
            intro x5 R5
            refine lv_istore_n (lv' := [(1, .int x5), (2, .int 0), (0, .ref (ad 0))]) (pc := 96) hx hb dzM_output_96 rfl hl (by decide) rfl (fun ls hl => ?_)
            refine lv_aload_n (pc := 97) hx hb dzM_output_97 rfl (lv_at hl 2 rfl) ?_
            refine xk_get (pc := 98) hx hb hts hown hK hP ffzM_80 0 rfl rfl dzM_output_98 ?_
            refine lv_iload_n (pc := 101) hx hb dzM_output_101 rfl (lv_at hl 1 rfl) ?_
            refine xk_zald (q0 := 24) (t0 := 1) (j := 0) (pc := 102) hx hb hK hP rfl rfl (pk_in 0 2 (by decide)) (pk_cl 0) dzM_output_102 ?_
            have K6 : ∀ (x6 : Int32), (if ((g0 24) 0) = 0 then (x6 = x5) else (x6 = x5 ||| 256)) → W p l e xk_r0 s m args below meth c H locs 0 0 Q (F0 m 117 ls [.int x6]) := by
              intro x6 R6
              refine lv_istore_n (lv' := [(1, .int x6), (2, .int 0), (0, .ref (ad 0))]) (pc := 117) hx hb dzM_output_117 rfl hl (by decide) rfl (fun ls hl => ?_)
              refine lv_aload_n (pc := 118) hx hb dzM_output_118 rfl (lv_at hl 2 rfl) ?_
              refine xk_get (pc := 119) hx hb hts hown hK hP ffzM_65 0 rfl rfl dzM_output_119 ?_
              refine lv_iload_n (pc := 122) hx hb dzM_output_122 rfl (lv_at hl 1 rfl) ?_
              refine xk_zald (q0 := 19) (t0 := 1) (j := 0) (pc := 123) hx hb hK hP rfl rfl (pk_in 0 2 (by decide)) (pk_cl 0) dzM_output_123 ?_
              have K7 : ∀ (x7 : Int32), (if ((g0 19) 0) = 0 then (x7 = x6) else (x7 = x6 ||| 1024)) → W p l e xk_r0 s m args below meth c H locs 0 0 Q (F0 m 138 ls [.int x7]) := by
                intro x7 R7
                refine lv_istore_n (lv' := [(1, .int x7), (2, .int 0), (0, .ref (ad 0))]) (pc := 138) hx hb dzM_output_138 rfl hl (by decide) rfl (fun ls hl => ?_)
                refine lv_iinc (k := 1) (x := 0) (v := 1) (lv' := [(2, .int 1), (1, .int x7), (0, .ref (ad 0))]) (pc := 139) hx hb dzM_output_139 hl rfl (by decide) (by decide) rfl (fun ls hl => ?_)
                refine lv_goto (tgt := 48) (pc := 142) hx hb dzM_output_142 (by decide) ?_
                refine lv_iload_n (pc := 48) hx hb dzM_output_48 rfl (lv_at hl 0 rfl) ?_
                refine lv_iconst (v := 2) (pc := 49) hx hb dzM_output_49 (by decide) ?_
                refine lv_icmp_ge (pc := 50) (tgt := 145) hx hb dzM_output_50 (by decide) (fun hq9 => absurd hq9 (by decide)) (fun _ => ?_)
                refine lv_aload_n (pc := 53) hx hb dzM_output_53 rfl (lv_at hl 2 rfl) ?_
                refine xk_get (pc := 54) hx hb hts hown hK hP ffzM_56 0 rfl rfl dzM_output_54 ?_
                refine lv_iload_n (pc := 57) hx hb dzM_output_57 rfl (lv_at hl 0 rfl) ?_
                refine xk_iald (q0 := 16) (t0 := 0) (j := 1) (pc := 58) hx hb hK hP rfl rfl (pk_in 1 2 (by decide)) (pk_cl 1) dzM_output_58 ?_
                refine lv_iconst (v := (-1)) (pc := 59) hx hb dzM_output_59 (by decide) ?_
                have K8 : ∀ (x8 : Int32), (if ((g0 16) 1) = (-1) then (x8 = x7 ||| 64) else (if ((g0 16) 1) = 1 then (x8 = x7 ||| 128) else (x8 = x7))) → W p l e xk_r0 s m args below meth c H locs 0 0 Q (F0 m 96 ls [.int x8]) := by
                  intro x8 R8
                  refine lv_istore_n (lv' := [(1, .int x8), (2, .int 1), (0, .ref (ad 0))]) (pc := 96) hx hb dzM_output_96 rfl hl (by decide) rfl (fun ls hl => ?_)
                  refine lv_aload_n (pc := 97) hx hb dzM_output_97 rfl (lv_at hl 2 rfl) ?_
                  refine xk_get (pc := 98) hx hb hts hown hK hP ffzM_80 0 rfl rfl dzM_output_98 ?_
                  refine lv_iload_n (pc := 101) hx hb dzM_output_101 rfl (lv_at hl 1 rfl) ?_
                  refine xk_zald (q0 := 24) (t0 := 1) (j := 1) (pc := 102) hx hb hK hP rfl rfl (pk_in 1 2 (by decide)) (pk_cl 1) dzM_output_102 ?_
                  have K9 : ∀ (x9 : Int32), (if ((g0 24) 1) = 0 then (x9 = x8) else (x9 = x8 ||| 512)) → W p l e xk_r0 s m args below meth c H locs 0 0 Q (F0 m 117 ls [.int x9]) := by
                    intro x9 R9
                    refine lv_istore_n (lv' := [(1, .int x9), (2, .int 1), (0, .ref (ad 0))]) (pc := 117) hx hb dzM_output_117 rfl hl (by decide) rfl (fun ls hl => ?_)
                    refine lv_aload_n (pc := 118) hx hb dzM_output_118 rfl (lv_at hl 2 rfl) ?_
                    refine xk_get (pc := 119) hx hb hts hown hK hP ffzM_65 0 rfl rfl dzM_output_119 ?_
                    refine lv_iload_n (pc := 122) hx hb dzM_output_122 rfl (lv_at hl 1 rfl) ?_
                    refine xk_zald (q0 := 19) (t0 := 1) (j := 1) (pc := 123) hx hb hK hP rfl rfl (pk_in 1 2 (by decide)) (pk_cl 1) dzM_output_123 ?_
                    have K10 : ∀ (x10 : Int32), (if ((g0 19) 1) = 0 then (x10 = x9) else (x10 = x9 ||| 2048)) → W p l e xk_r0 s m args below meth c H locs 0 0 Q (F0 m 138 ls [.int x10]) := by
                      intro x10 R10
                      refine lv_istore_n (lv' := [(1, .int x10), (2, .int 1), (0, .ref (ad 0))]) (pc := 138) hx hb dzM_output_138 rfl hl (by decide) rfl (fun ls hl => ?_)
                      refine lv_iinc (k := 1) (x := 1) (v := 2) (lv' := [(2, .int 2), (1, .int x10), (0, .ref (ad 0))]) (pc := 139) hx hb dzM_output_139 hl rfl (by decide) (by decide) rfl (fun ls hl => ?_)
                      refine lv_goto (tgt := 48) (pc := 142) hx hb dzM_output_142 (by decide) ?_
                      refine lv_iload_n (pc := 48) hx hb dzM_output_48 rfl (lv_at hl 0 rfl) ?_
                      refine lv_iconst (v := 2) (pc := 49) hx hb dzM_output_49 (by decide) ?_
                      refine lv_icmp_ge (pc := 50) (tgt := 145) hx hb dzM_output_50 (by decide) (fun _ => ?_) (fun hq9 => absurd (by decide) hq9)
                      refine lv_iload_n (pc := 145) hx hb dzM_output_145 rfl (lv_at hl 1 rfl) ?_
                      exact hret _ () H locs 146 ls hP hS rfl (by unfold relzM_output; exact ⟨x1, R1, ⟨x2, R2, ⟨x3, R3, ⟨x4, R4, ⟨x5, R5, ⟨x6, R6, ⟨x7, R7, ⟨x8, R8, ⟨x9, R9, ⟨x10, R10, rfl⟩⟩⟩⟩⟩⟩⟩⟩⟩⟩) dzM_output_146
                    refine lv_if_eq (pc := 124) (tgt := 137) hx hb dzM_output_124 (by decide) (fun h12 => ?_) (fun h12 => ?_)
                    ·
                      refine lv_iload_n (pc := 137) hx hb dzM_output_137 rfl (lv_at hl 0 rfl) ?_
                      exact K10 x9 (Eq.mpr (if_pos h12) rfl)
                    ·
                      refine lv_iload_n (pc := 127) hx hb dzM_output_127 rfl (lv_at hl 0 rfl) ?_
                      refine lv_sipush (v := 1024) (pc := 128) hx hb dzM_output_128 (by decide) ?_
                      refine lv_iload_n (pc := 131) hx hb dzM_output_131 rfl (lv_at hl 1 rfl) ?_
                      refine lv_ishl (pc := 132) hx hb dzM_output_132 ?_
                      refine xk_is (y := 2048) (by decide) ?_
                      refine lv_ior (pc := 133) hx hb dzM_output_133 ?_
                      refine lv_goto (tgt := 138) (pc := 134) hx hb dzM_output_134 (by decide) ?_
                      exact K10 (x9 ||| 2048) (Eq.mpr (if_neg h12) rfl)
                  refine lv_if_eq (pc := 103) (tgt := 116) hx hb dzM_output_103 (by decide) (fun h11 => ?_) (fun h11 => ?_)
                  ·
                    refine lv_iload_n (pc := 116) hx hb dzM_output_116 rfl (lv_at hl 0 rfl) ?_
                    exact K9 x8 (Eq.mpr (if_pos h11) rfl)
                  ·
                    refine lv_iload_n (pc := 106) hx hb dzM_output_106 rfl (lv_at hl 0 rfl) ?_
                    refine lv_sipush (v := 256) (pc := 107) hx hb dzM_output_107 (by decide) ?_
                    refine lv_iload_n (pc := 110) hx hb dzM_output_110 rfl (lv_at hl 1 rfl) ?_
                    refine lv_ishl (pc := 111) hx hb dzM_output_111 ?_
                    refine xk_is (y := 512) (by decide) ?_
                    refine lv_ior (pc := 112) hx hb dzM_output_112 ?_
                    refine lv_goto (tgt := 117) (pc := 113) hx hb dzM_output_113 (by decide) ?_
                    exact K9 (x8 ||| 512) (Eq.mpr (if_neg h11) rfl)
                refine lv_icmp_ne (pc := 60) (tgt := 74) hx hb dzM_output_60 (by decide) (fun h9 => ?_) (fun h9 => ?_)
                ·
                  refine lv_aload_n (pc := 74) hx hb dzM_output_74 rfl (lv_at hl 2 rfl) ?_
                  refine xk_get (pc := 75) hx hb hts hown hK hP ffzM_56 0 rfl rfl dzM_output_75 ?_
                  refine lv_iload_n (pc := 78) hx hb dzM_output_78 rfl (lv_at hl 0 rfl) ?_
                  refine xk_iald (q0 := 16) (t0 := 0) (j := 1) (pc := 79) hx hb hK hP rfl rfl (pk_in 1 2 (by decide)) (pk_cl 1) dzM_output_79 ?_
                  refine lv_iconst (v := 1) (pc := 80) hx hb dzM_output_80 (by decide) ?_
                  refine lv_icmp_ne (pc := 81) (tgt := 95) hx hb dzM_output_81 (by decide) (fun h10 => ?_) (fun h10 => ?_)
                  ·
                    refine lv_iload_n (pc := 95) hx hb dzM_output_95 rfl (lv_at hl 1 rfl) ?_
                    exact K8 x7 (Eq.mpr (if_neg h9) (Eq.mpr (if_neg h10) rfl))
                  ·
                    refine lv_iload_n (pc := 84) hx hb dzM_output_84 rfl (lv_at hl 1 rfl) ?_
                    refine lv_bipush (v := 32) (pc := 85) hx hb dzM_output_85 (by decide) ?_
                    refine lv_iconst (v := 2) (pc := 87) hx hb dzM_output_87 (by decide) ?_
                    refine lv_iload_n (pc := 88) hx hb dzM_output_88 rfl (lv_at hl 0 rfl) ?_
                    refine lv_imul (pc := 89) hx hb dzM_output_89 ?_
                    refine xk_is (y := 2) (by decide) ?_
                    refine lv_ishl (pc := 90) hx hb dzM_output_90 ?_
                    refine xk_is (y := 128) (by decide) ?_
                    refine lv_ior (pc := 91) hx hb dzM_output_91 ?_
                    refine lv_goto (tgt := 96) (pc := 92) hx hb dzM_output_92 (by decide) ?_
                    exact K8 (x7 ||| 128) (Eq.mpr (if_neg h9) (Eq.mpr (if_pos h10) rfl))
                ·
                  refine lv_iload_n (pc := 63) hx hb dzM_output_63 rfl (lv_at hl 1 rfl) ?_
                  refine lv_bipush (v := 16) (pc := 64) hx hb dzM_output_64 (by decide) ?_
                  refine lv_iconst (v := 2) (pc := 66) hx hb dzM_output_66 (by decide) ?_
                  refine lv_iload_n (pc := 67) hx hb dzM_output_67 rfl (lv_at hl 0 rfl) ?_
                  refine lv_imul (pc := 68) hx hb dzM_output_68 ?_
                  refine xk_is (y := 2) (by decide) ?_
                  refine lv_ishl (pc := 69) hx hb dzM_output_69 ?_
                  refine xk_is (y := 64) (by decide) ?_
                  refine lv_ior (pc := 70) hx hb dzM_output_70 ?_
                  refine lv_goto (tgt := 96) (pc := 71) hx hb dzM_output_71 (by decide) ?_
                  exact K8 (x7 ||| 64) (Eq.mpr (if_pos h9) rfl)
              refine lv_if_eq (pc := 124) (tgt := 137) hx hb dzM_output_124 (by decide) (fun h8 => ?_) (fun h8 => ?_)
              ·
                refine lv_iload_n (pc := 137) hx hb dzM_output_137 rfl (lv_at hl 0 rfl) ?_
                exact K7 x6 (Eq.mpr (if_pos h8) rfl)
              ·
                refine lv_iload_n (pc := 127) hx hb dzM_output_127 rfl (lv_at hl 0 rfl) ?_
                refine lv_sipush (v := 1024) (pc := 128) hx hb dzM_output_128 (by decide) ?_
                refine lv_iload_n (pc := 131) hx hb dzM_output_131 rfl (lv_at hl 1 rfl) ?_
                refine lv_ishl (pc := 132) hx hb dzM_output_132 ?_
                refine xk_is (y := 1024) (by decide) ?_
                refine lv_ior (pc := 133) hx hb dzM_output_133 ?_
                refine lv_goto (tgt := 138) (pc := 134) hx hb dzM_output_134 (by decide) ?_
                exact K7 (x6 ||| 1024) (Eq.mpr (if_neg h8) rfl)
            refine lv_if_eq (pc := 103) (tgt := 116) hx hb dzM_output_103 (by decide) (fun h7 => ?_) (fun h7 => ?_)
            ·
              refine lv_iload_n (pc := 116) hx hb dzM_output_116 rfl (lv_at hl 0 rfl) ?_
              exact K6 x5 (Eq.mpr (if_pos h7) rfl)
            ·
              refine lv_iload_n (pc := 106) hx hb dzM_output_106 rfl (lv_at hl 0 rfl) ?_
              refine lv_sipush (v := 256) (pc := 107) hx hb dzM_output_107 (by decide) ?_
              refine lv_iload_n (pc := 110) hx hb dzM_output_110 rfl (lv_at hl 1 rfl) ?_
              refine lv_ishl (pc := 111) hx hb dzM_output_111 ?_
              refine xk_is (y := 256) (by decide) ?_
              refine lv_ior (pc := 112) hx hb dzM_output_112 ?_
              refine lv_goto (tgt := 117) (pc := 113) hx hb dzM_output_113 (by decide) ?_
              exact K6 (x5 ||| 256) (Eq.mpr (if_neg h7) rfl)
          refine lv_icmp_ne (pc := 60) (tgt := 74) hx hb dzM_output_60 (by decide) (fun h5 => ?_) (fun h5 => ?_)
          ·
            refine lv_aload_n (pc := 74) hx hb dzM_output_74 rfl (lv_at hl 2 rfl) ?_
            refine xk_get (pc := 75) hx hb hts hown hK hP ffzM_56 0 rfl rfl dzM_output_75 ?_
            refine lv_iload_n (pc := 78) hx hb dzM_output_78 rfl (lv_at hl 0 rfl) ?_
            refine xk_iald (q0 := 16) (t0 := 0) (j := 0) (pc := 79) hx hb hK hP rfl rfl (pk_in 0 2 (by decide)) (pk_cl 0) dzM_output_79 ?_
            refine lv_iconst (v := 1) (pc := 80) hx hb dzM_output_80 (by decide) ?_
            refine lv_icmp_ne (pc := 81) (tgt := 95) hx hb dzM_output_81 (by decide) (fun h6 => ?_) (fun h6 => ?_)
            ·
              refine lv_iload_n (pc := 95) hx hb dzM_output_95 rfl (lv_at hl 1 rfl) ?_
              exact K5 x4 (Eq.mpr (if_neg h5) (Eq.mpr (if_neg h6) rfl))
            ·
              refine lv_iload_n (pc := 84) hx hb dzM_output_84 rfl (lv_at hl 1 rfl) ?_
              refine lv_bipush (v := 32) (pc := 85) hx hb dzM_output_85 (by decide) ?_
              refine lv_iconst (v := 2) (pc := 87) hx hb dzM_output_87 (by decide) ?_
              refine lv_iload_n (pc := 88) hx hb dzM_output_88 rfl (lv_at hl 0 rfl) ?_
              refine lv_imul (pc := 89) hx hb dzM_output_89 ?_
              refine xk_is (y := 0) (by decide) ?_
              refine lv_ishl (pc := 90) hx hb dzM_output_90 ?_
              refine xk_is (y := 32) (by decide) ?_
              refine lv_ior (pc := 91) hx hb dzM_output_91 ?_
              refine lv_goto (tgt := 96) (pc := 92) hx hb dzM_output_92 (by decide) ?_
              exact K5 (x4 ||| 32) (Eq.mpr (if_neg h5) (Eq.mpr (if_pos h6) rfl))
          ·
            refine lv_iload_n (pc := 63) hx hb dzM_output_63 rfl (lv_at hl 1 rfl) ?_
            refine lv_bipush (v := 16) (pc := 64) hx hb dzM_output_64 (by decide) ?_
            refine lv_iconst (v := 2) (pc := 66) hx hb dzM_output_66 (by decide) ?_
            refine lv_iload_n (pc := 67) hx hb dzM_output_67 rfl (lv_at hl 0 rfl) ?_
            refine lv_imul (pc := 68) hx hb dzM_output_68 ?_
            refine xk_is (y := 0) (by decide) ?_
            refine lv_ishl (pc := 69) hx hb dzM_output_69 ?_
            refine xk_is (y := 16) (by decide) ?_
            refine lv_ior (pc := 70) hx hb dzM_output_70 ?_
            refine lv_goto (tgt := 96) (pc := 71) hx hb dzM_output_71 (by decide) ?_
            exact K5 (x4 ||| 16) (Eq.mpr (if_pos h5) rfl)
        refine lv_if_eq (pc := 27) (tgt := 38) hx hb dzM_output_27 (by decide) (fun h4 => ?_) (fun h4 => ?_)
        ·
          refine lv_iload_n (pc := 38) hx hb dzM_output_38 rfl (lv_at hl 1 rfl) ?_
          exact K4 x3 (Eq.mpr (if_pos h4) rfl)
        ·
          refine lv_iload_n (pc := 30) hx hb dzM_output_30 rfl (lv_at hl 1 rfl) ?_
          refine lv_iconst (v := 1) (pc := 31) hx hb dzM_output_31 (by decide) ?_
          refine lv_iload_n (pc := 32) hx hb dzM_output_32 rfl (lv_at hl 0 rfl) ?_
          refine lv_ishl (pc := 33) hx hb dzM_output_33 ?_
          refine xk_is (y := 4) (by decide) ?_
          refine lv_ior (pc := 34) hx hb dzM_output_34 ?_
          refine lv_goto (tgt := 39) (pc := 35) hx hb dzM_output_35 (by decide) ?_
          exact K4 (x3 ||| 4) (Eq.mpr (if_neg h4) rfl)
      refine lv_if_eq (pc := 27) (tgt := 38) hx hb dzM_output_27 (by decide) (fun h3 => ?_) (fun h3 => ?_)
      ·
        refine lv_iload_n (pc := 38) hx hb dzM_output_38 rfl (lv_at hl 1 rfl) ?_
        exact K3 x2 (Eq.mpr (if_pos h3) rfl)
      ·
        refine lv_iload_n (pc := 30) hx hb dzM_output_30 rfl (lv_at hl 1 rfl) ?_
        refine lv_iconst (v := 1) (pc := 31) hx hb dzM_output_31 (by decide) ?_
        refine lv_iload_n (pc := 32) hx hb dzM_output_32 rfl (lv_at hl 0 rfl) ?_
        refine lv_ishl (pc := 33) hx hb dzM_output_33 ?_
        refine xk_is (y := 2) (by decide) ?_
        refine lv_ior (pc := 34) hx hb dzM_output_34 ?_
        refine lv_goto (tgt := 39) (pc := 35) hx hb dzM_output_35 (by decide) ?_
        exact K3 (x2 ||| 2) (Eq.mpr (if_neg h3) rfl)
    refine lv_if_eq (pc := 27) (tgt := 38) hx hb dzM_output_27 (by decide) (fun h2 => ?_) (fun h2 => ?_)
    ·
      refine lv_iload_n (pc := 38) hx hb dzM_output_38 rfl (lv_at hl 1 rfl) ?_
      exact K2 x1 (Eq.mpr (if_pos h2) rfl)
    ·
      refine lv_iload_n (pc := 30) hx hb dzM_output_30 rfl (lv_at hl 1 rfl) ?_
      refine lv_iconst (v := 1) (pc := 31) hx hb dzM_output_31 (by decide) ?_
      refine lv_iload_n (pc := 32) hx hb dzM_output_32 rfl (lv_at hl 0 rfl) ?_
      refine lv_ishl (pc := 33) hx hb dzM_output_33 ?_
      refine xk_is (y := 1) (by decide) ?_
      refine lv_ior (pc := 34) hx hb dzM_output_34 ?_
      refine lv_goto (tgt := 39) (pc := 35) hx hb dzM_output_35 (by decide) ?_
      exact K2 (x1 ||| 1) (Eq.mpr (if_neg h2) rfl)
  refine lv_if_eq (pc := 4) (tgt := 12) hx hb dzM_output_4 (by decide) (fun h1 => ?_) (fun h1 => ?_)
  ·
    refine lv_iconst (v := 0) (pc := 12) hx hb dzM_output_12 (by decide) ?_
    exact K1 0 (Eq.mpr (if_pos h1) rfl)
  ·
    refine lv_bipush (v := 8) (pc := 7) hx hb dzM_output_7 (by decide) ?_
    refine lv_goto (tgt := 13) (pc := 9) hx hb dzM_output_9 (by decide) ?_
    exact K1 8 (Eq.mpr (if_neg h1) rfl)

