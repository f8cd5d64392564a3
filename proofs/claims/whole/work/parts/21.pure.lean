def qzU_isUp (g0 : xk_St) : Int32 := (if (g0 29 0) = 100 then (if (g0 30 0) = 100 then 1 else 0 : Int32) else 0 : Int32)
theorem bzU_isUp (g0 : xk_St) : xk_b (qzU_isUp g0) := by
  unfold qzU_isUp
  repeat' (first | with_reducible exact xk_b0 | with_reducible exact xk_b1 | with_reducible assumption | apply xk_bi)
set_option maxHeartbeats 4000000 in
set_option maxRecDepth 100000 in
theorem kzU_isUp (l : Launch) (G : va_G) (ac : Nat → ClassId) (ad : Nat → Nat) (g0 : xk_St) : xk_CI l yzU_isUp czU_isUp 1 .boolean xk_WS xk_r0 G xk_cls (xk_tys ac) [.ref (ad 0)] (xk_wU ad ac g0) (fun r (_ : Unit) => r = qzU_isUp g0) (fun _ => (xk_wU ad ac g0)) := by
  refine xk_ofI (by decide) (Nat.le_of_ble_eq_true rfl) ?_
  intro p e s m args below meth c A Q H locs ls C0 hret hP hD hS hl
  obtain ⟨hx, hb, hml, hts, hown, hK, hA⟩ := C0
  have hl : lv_has ls 1 [(0, .ref (ad 0))] := hl
  refine lv_aload_n (pc := 0) hx hb dzU_isUp_0 rfl (lv_at hl 0 rfl) ?_
  refine xk_get (pc := 1) hx hb hts hown hK hP ffzU_17 0 rfl rfl dzU_isUp_1 ?_
  refine lv_iconst (v := 0) (pc := 4) hx hb dzU_isUp_4 (by decide) ?_
  refine xk_aald (q0 := 2) (t0 := 5) (j := 0) (b := (ad 29)) (pc := 5) hx hb hK hP rfl rfl (pk_in 0 2 (by decide)) (pk_cl 0) rfl dzU_isUp_5 ?_
  refine xk_get (pc := 6) hx hb hts hown hK hP ffzU_144 29 rfl rfl dzU_isUp_6 ?_
  refine lv_bipush (v := 100) (pc := 9) hx hb dzU_isUp_9 (by decide) ?_
  have K1 : W p l e xk_r0 s m args below meth c H locs 0 0 Q (F0 m 33 ls [.int (if (g0 29 0) = 100 then (if (g0 30 0) = 100 then 1 else 0 : Int32) else 0 : Int32)]) := by
    have jr : qzU_isUp g0 = (if (g0 29 0) = 100 then (if (g0 30 0) = 100 then 1 else 0 : Int32) else 0 : Int32) := by unfold qzU_isUp; rfl
    exact hret _ () H locs 33 ls hP hS (xk_bn (by repeat' (first | with_reducible exact xk_b0 | with_reducible exact xk_b1 | apply xk_bi))) jr.symm dzU_isUp_33
  refine lv_icmp_ne (pc := 11) (tgt := 32) hx hb dzU_isUp_11 (by decide) (fun h1 => ?_) (fun h1 => ?_)
  ·
    refine lv_iconst (v := 0) (pc := 32) hx hb dzU_isUp_32 (by decide) ?_
    have K9 := K1
    try simp only [if_neg h1] at K9
    first | exact K9 | (simp only [if_neg h1]; exact K9)
  ·
    refine lv_aload_n (pc := 14) hx hb dzU_isUp_14 rfl (lv_at hl 0 rfl) ?_
    refine xk_get (pc := 15) hx hb hts hown hK hP ffzU_17 0 rfl rfl dzU_isUp_15 ?_
    refine lv_iconst (v := 1) (pc := 18) hx hb dzU_isUp_18 (by decide) ?_
    refine xk_aald (q0 := 2) (t0 := 5) (j := 1) (b := (ad 30)) (pc := 19) hx hb hK hP rfl rfl (pk_in 1 2 (by decide)) (pk_cl 1) rfl dzU_isUp_19 ?_
    refine xk_get (pc := 20) hx hb hts hown hK hP ffzU_144 30 rfl rfl dzU_isUp_20 ?_
    refine lv_bipush (v := 100) (pc := 23) hx hb dzU_isUp_23 (by decide) ?_
    refine lv_icmp_ne (pc := 25) (tgt := 32) hx hb dzU_isUp_25 (by decide) (fun h2 => ?_) (fun h2 => ?_)
    ·
      refine lv_iconst (v := 0) (pc := 32) hx hb dzU_isUp_32 (by decide) ?_
      have K9 := K1
      try simp only [if_pos h1, if_neg h2] at K9
      first | exact K9 | (simp only [if_pos h1, if_neg h2]; exact K9)
    ·
      refine lv_iconst (v := 1) (pc := 28) hx hb dzU_isUp_28 (by decide) ?_
      refine lv_goto (tgt := 33) (pc := 29) hx hb dzU_isUp_29 (by decide) ?_
      have K9 := K1
      try simp only [if_pos h1, if_pos h2] at K9
      first | exact K9 | (simp only [if_pos h1, if_pos h2]; exact K9)

def qzU_isAlarmed (g0 : xk_St) : Int32 := (if (g0 29 5) = 0 then (if (g0 30 5) = 0 then 0 else 1 : Int32) else 1 : Int32)
theorem bzU_isAlarmed (g0 : xk_St) : xk_b (qzU_isAlarmed g0) := by
  unfold qzU_isAlarmed
  repeat' (first | with_reducible exact xk_b0 | with_reducible exact xk_b1 | with_reducible assumption | apply xk_bi)
set_option maxHeartbeats 4000000 in
set_option maxRecDepth 100000 in
theorem kzU_isAlarmed (l : Launch) (G : va_G) (ac : Nat → ClassId) (ad : Nat → Nat) (g0 : xk_St) : xk_CI l yzU_isAlarmed czU_isAlarmed 1 .boolean xk_WS xk_r0 G xk_cls (xk_tys ac) [.ref (ad 0)] (xk_wU ad ac g0) (fun r (_ : Unit) => r = qzU_isAlarmed g0) (fun _ => (xk_wU ad ac g0)) := by
  refine xk_ofI (by decide) (Nat.le_of_ble_eq_true rfl) ?_
  intro p e s m args below meth c A Q H locs ls C0 hret hP hD hS hl
  obtain ⟨hx, hb, hml, hts, hown, hK, hA⟩ := C0
  have hl : lv_has ls 1 [(0, .ref (ad 0))] := hl
  refine lv_aload_n (pc := 0) hx hb dzU_isAlarmed_0 rfl (lv_at hl 0 rfl) ?_
  refine xk_get (pc := 1) hx hb hts hown hK hP ffzU_17 0 rfl rfl dzU_isAlarmed_1 ?_
  refine lv_iconst (v := 0) (pc := 4) hx hb dzU_isAlarmed_4 (by decide) ?_
  refine xk_aald (q0 := 2) (t0 := 5) (j := 0) (b := (ad 29)) (pc := 5) hx hb hK hP rfl rfl (pk_in 0 2 (by decide)) (pk_cl 0) rfl dzU_isAlarmed_5 ?_
  refine xk_get (pc := 6) hx hb hts hown hK hP ffzU_329 29 rfl rfl dzU_isAlarmed_6 ?_
  have K1 : W p l e xk_r0 s m args below meth c H locs 0 0 Q (F0 m 29 ls [.int (if (g0 29 5) = 0 then (if (g0 30 5) = 0 then 0 else 1 : Int32) else 1 : Int32)]) := by
    have jr : qzU_isAlarmed g0 = (if (g0 29 5) = 0 then (if (g0 30 5) = 0 then 0 else 1 : Int32) else 1 : Int32) := by unfold qzU_isAlarmed; rfl
    exact hret _ () H locs 29 ls hP hS (xk_bn (by repeat' (first | with_reducible exact xk_b0 | with_reducible exact xk_b1 | apply xk_bi))) jr.symm dzU_isAlarmed_29
  refine lv_if_ne (pc := 9) (tgt := 24) hx hb dzU_isAlarmed_9 (by decide) (fun h1 => ?_) (fun h1 => ?_)
  ·
    refine lv_iconst (v := 1) (pc := 24) hx hb dzU_isAlarmed_24 (by decide) ?_
    refine lv_goto (tgt := 29) (pc := 25) hx hb dzU_isAlarmed_25 (by decide) ?_
    have K9 := K1
    try simp only [if_neg h1] at K9
    first | exact K9 | (simp only [if_neg h1]; exact K9)
  ·
    refine lv_aload_n (pc := 12) hx hb dzU_isAlarmed_12 rfl (lv_at hl 0 rfl) ?_
    refine xk_get (pc := 13) hx hb hts hown hK hP ffzU_17 0 rfl rfl dzU_isAlarmed_13 ?_
    refine lv_iconst (v := 1) (pc := 16) hx hb dzU_isAlarmed_16 (by decide) ?_
    refine xk_aald (q0 := 2) (t0 := 5) (j := 1) (b := (ad 30)) (pc := 17) hx hb hK hP rfl rfl (pk_in 1 2 (by decide)) (pk_cl 1) rfl dzU_isAlarmed_17 ?_
    refine xk_get (pc := 18) hx hb hts hown hK hP ffzU_329 30 rfl rfl dzU_isAlarmed_18 ?_
    refine lv_if_eq (pc := 21) (tgt := 28) hx hb dzU_isAlarmed_21 (by decide) (fun h2 => ?_) (fun h2 => ?_)
    ·
      refine lv_iconst (v := 0) (pc := 28) hx hb dzU_isAlarmed_28 (by decide) ?_
      have K9 := K1
      try simp only [if_pos h1, if_pos h2] at K9
      first | exact K9 | (simp only [if_pos h1, if_pos h2]; exact K9)
    ·
      refine lv_iconst (v := 1) (pc := 24) hx hb dzU_isAlarmed_24 (by decide) ?_
      refine lv_goto (tgt := 29) (pc := 25) hx hb dzU_isAlarmed_25 (by decide) ?_
      have K9 := K1
      try simp only [if_pos h1, if_neg h2] at K9
      first | exact K9 | (simp only [if_pos h1, if_neg h2]; exact K9)

def qzU_isDemanded (g0 : xk_St) : Int32 := (if (g0 9 4) = 0 then (if (qzK_isFree (g0 19 1) (g0 19 3) (g0 20 1) (g0 20 3) (g0 21 1) (g0 21 3)) = 0 then 1 else (if (g0 10 4) = 0 then (if (qzK_isFree (g0 22 1) (g0 22 3) (g0 23 1) (g0 23 3) (g0 24 1) (g0 24 3)) = 0 then 1 else 0 : Int32) else 1 : Int32) : Int32) else 1 : Int32)
theorem bzU_isDemanded (g0 : xk_St) : xk_b (qzU_isDemanded g0) := by
  unfold qzU_isDemanded
  repeat' (first | with_reducible exact xk_b0 | with_reducible exact xk_b1 | with_reducible assumption | apply xk_bi)
set_option maxHeartbeats 4000000 in
set_option maxRecDepth 100000 in
theorem kzU_isDemanded (l : Launch) (G : va_G) (ac : Nat → ClassId) (ad : Nat → Nat) (g0 : xk_St) : xk_CI l yzU_isDemanded czU_isDemanded 2 .boolean xk_WS xk_r2 G xk_cls (xk_tys ac) [.ref (ad 0)] (xk_wU ad ac g0) (fun r (_ : Unit) => r = qzU_isDemanded g0) (fun _ => (xk_wU ad ac g0)) := by
  refine xk_ofI (by decide) (Nat.le_of_ble_eq_true rfl) ?_
  intro p e s m args below meth c A Q H locs ls C0 hret hP hD hS hl
  obtain ⟨hx, hb, hml, hts, hown, hK, hA⟩ := C0
  have hl : lv_has ls 2 [(0, .ref (ad 0))] := hl
  refine lv_iconst (v := 0) (pc := 0) hx hb dzU_isDemanded_0 (by decide) ?_
  refine lv_istore_n (lv' := [(1, .int 0), (0, .ref (ad 0))]) (pc := 1) hx hb dzU_isDemanded_1 rfl hl (by decide) rfl (fun ls hl => ?_)
  refine lv_iload_n (pc := 2) hx hb dzU_isDemanded_2 rfl (lv_at hl 0 rfl) ?_
  refine lv_iconst (v := 2) (pc := 3) hx hb dzU_isDemanded_3 (by decide) ?_
  refine lv_icmp_ge (pc := 4) (tgt := 39) hx hb dzU_isDemanded_4 (by decide) (fun hq9 => absurd hq9 (by decide)) (fun _ => ?_)
  refine lv_aload_n (pc := 7) hx hb dzU_isDemanded_7 rfl (lv_at hl 1 rfl) ?_
  refine xk_get (pc := 8) hx hb hts hown hK hP ffzU_11 0 rfl rfl dzU_isDemanded_8 ?_
  refine lv_iload_n (pc := 11) hx hb dzU_isDemanded_11 rfl (lv_at hl 0 rfl) ?_
  refine xk_aald (q0 := 1) (t0 := 2) (j := 0) (b := (ad 9)) (pc := 12) hx hb hK hP rfl rfl (pk_in 0 2 (by decide)) (pk_cl 0) rfl dzU_isDemanded_12 ?_
  refine xk_get (pc := 13) hx hb hts hown hK hP ffzU_152 9 rfl rfl dzU_isDemanded_13 ?_
  refine lv_if_ne (pc := 16) (tgt := 31) hx hb dzU_isDemanded_16 (by decide) (fun h1 => ?_) (fun h1 => ?_)
  ·
    refine lv_iconst (v := 1) (pc := 31) hx hb dzU_isDemanded_31 (by decide) ?_
    have jr : qzU_isDemanded g0 = 1 := by unfold qzU_isDemanded; (first | rfl | simp only [if_neg h1])
    exact hret _ () H locs 32 ls hP hS (xk_bn xk_b1) jr.symm dzU_isDemanded_32
  ·
    refine lv_aload_n (pc := 19) hx hb dzU_isDemanded_19 rfl (lv_at hl 1 rfl) ?_
    refine xk_get (pc := 20) hx hb hts hown hK hP ffzU_11 0 rfl rfl dzU_isDemanded_20 ?_
    refine lv_iload_n (pc := 23) hx hb dzU_isDemanded_23 rfl (lv_at hl 0 rfl) ?_
    refine xk_aald (q0 := 1) (t0 := 2) (j := 0) (b := (ad 9)) (pc := 24) hx hb hK hP rfl rfl (pk_in 0 2 (by decide)) (pk_cl 0) rfl dzU_isDemanded_24 ?_
    refine xk_callVI (As := []) (rest := []) (H0 := s.heap) (pc := 25) hx hb hml hts hown hK hA hP hD hS (kzK_isFree l G ac (ad 9) (ad 11) (ad 13) (ad 15) (ad 17) (g0 9 4) (g0 9 5) (fun j => ad (19 + j)) (g0 19 0) (g0 19 1) (g0 19 2) (g0 19 3) (g0 19 4) (g0 19 5) (g0 19 6) (g0 19 7) (g0 19 8) (g0 20 0) (g0 20 1) (g0 20 2) (g0 20 3) (g0 20 4) (g0 20 5) (g0 20 6) (g0 20 7) (g0 20 8) (g0 21 0) (g0 21 1) (g0 21 2) (g0 21 3) (g0 21 4) (g0 21 5) (g0 21 6) (g0 21 7) (g0 21 8)) vfzU_326 [9, 11, 19, 20, 21] (by decide) rfl (fun _ => rfl) 9 rfl rfl ⟨rfl, rfl⟩ ⟨Nat.le_of_ble_eq_true rfl, Nat.le_of_ble_eq_true rfl⟩ rfl hl.1 rfl (Nat.le_of_ble_eq_true rfl) ⟨Nat.zero_le _, Nat.zero_le _⟩ dzU_isDemanded_25 (fun r1 u9 H locs e9 hP hD hS => ?_)
    obtain rfl : r1 = qzK_isFree (g0 19 1) (g0 19 3) (g0 20 1) (g0 20 3) (g0 21 1) (g0 21 3) := e9
    have hP : va_P G xk_cls (xk_wU ad ac g0) H := hP
    have hD : va_D A (xk_wU ad ac g0) := hD
    refine lv_if_ne (pc := 28) (tgt := 33) hx hb dzU_isDemanded_28 (by decide) (fun h2 => ?_) (fun h2 => ?_)
    ·
      refine lv_iinc (k := 0) (x := 0) (v := 1) (lv' := [(1, .int 1), (0, .ref (ad 0))]) (pc := 33) hx hb dzU_isDemanded_33 hl rfl (by decide) (by decide) rfl (fun ls hl => ?_)
      refine lv_goto (tgt := 2) (pc := 36) hx hb dzU_isDemanded_36 (by decide) ?_
      refine lv_iload_n (pc := 2) hx hb dzU_isDemanded_2 rfl (lv_at hl 0 rfl) ?_
      refine lv_iconst (v := 2) (pc := 3) hx hb dzU_isDemanded_3 (by decide) ?_
      refine lv_icmp_ge (pc := 4) (tgt := 39) hx hb dzU_isDemanded_4 (by decide) (fun hq9 => absurd hq9 (by decide)) (fun _ => ?_)
      refine lv_aload_n (pc := 7) hx hb dzU_isDemanded_7 rfl (lv_at hl 1 rfl) ?_
      refine xk_get (pc := 8) hx hb hts hown hK hP ffzU_11 0 rfl rfl dzU_isDemanded_8 ?_
      refine lv_iload_n (pc := 11) hx hb dzU_isDemanded_11 rfl (lv_at hl 0 rfl) ?_
      refine xk_aald (q0 := 1) (t0 := 2) (j := 1) (b := (ad 10)) (pc := 12) hx hb hK hP rfl rfl (pk_in 1 2 (by decide)) (pk_cl 1) rfl dzU_isDemanded_12 ?_
      refine xk_get (pc := 13) hx hb hts hown hK hP ffzU_152 10 rfl rfl dzU_isDemanded_13 ?_
      refine lv_if_ne (pc := 16) (tgt := 31) hx hb dzU_isDemanded_16 (by decide) (fun h3 => ?_) (fun h3 => ?_)
      ·
        refine lv_iconst (v := 1) (pc := 31) hx hb dzU_isDemanded_31 (by decide) ?_
        have jr : qzU_isDemanded g0 = 1 := by unfold qzU_isDemanded; (first | rfl | simp only [if_pos h1, if_neg h2, if_neg h3])
        exact hret _ () H locs 32 ls hP hS (xk_bn xk_b1) jr.symm dzU_isDemanded_32
      ·
        refine lv_aload_n (pc := 19) hx hb dzU_isDemanded_19 rfl (lv_at hl 1 rfl) ?_
        refine xk_get (pc := 20) hx hb hts hown hK hP ffzU_11 0 rfl rfl dzU_isDemanded_20 ?_
        refine lv_iload_n (pc := 23) hx hb dzU_isDemanded_23 rfl (lv_at hl 0 rfl) ?_
        refine xk_aald (q0 := 1) (t0 := 2) (j := 1) (b := (ad 10)) (pc := 24) hx hb hK hP rfl rfl (pk_in 1 2 (by decide)) (pk_cl 1) rfl dzU_isDemanded_24 ?_
        refine xk_callVI (As := []) (rest := []) (H0 := s.heap) (pc := 25) hx hb hml hts hown hK hA hP hD hS (kzK_isFree l G ac (ad 10) (ad 12) (ad 14) (ad 16) (ad 18) (g0 10 4) (g0 10 5) (fun j => ad (22 + j)) (g0 22 0) (g0 22 1) (g0 22 2) (g0 22 3) (g0 22 4) (g0 22 5) (g0 22 6) (g0 22 7) (g0 22 8) (g0 23 0) (g0 23 1) (g0 23 2) (g0 23 3) (g0 23 4) (g0 23 5) (g0 23 6) (g0 23 7) (g0 23 8) (g0 24 0) (g0 24 1) (g0 24 2) (g0 24 3) (g0 24 4) (g0 24 5) (g0 24 6) (g0 24 7) (g0 24 8)) vfzU_326 [10, 12, 22, 23, 24] (by decide) rfl (fun _ => rfl) 10 rfl rfl ⟨rfl, rfl⟩ ⟨Nat.le_of_ble_eq_true rfl, Nat.le_of_ble_eq_true rfl⟩ rfl hl.1 rfl (Nat.le_of_ble_eq_true rfl) ⟨Nat.zero_le _, Nat.zero_le _⟩ dzU_isDemanded_25 (fun r2 u9 H locs e9 hP hD hS => ?_)
        obtain rfl : r2 = qzK_isFree (g0 22 1) (g0 22 3) (g0 23 1) (g0 23 3) (g0 24 1) (g0 24 3) := e9
        have hP : va_P G xk_cls (xk_wU ad ac g0) H := hP
        have hD : va_D A (xk_wU ad ac g0) := hD
        refine lv_if_ne (pc := 28) (tgt := 33) hx hb dzU_isDemanded_28 (by decide) (fun h4 => ?_) (fun h4 => ?_)
        ·
          refine lv_iinc (k := 0) (x := 1) (v := 2) (lv' := [(1, .int 2), (0, .ref (ad 0))]) (pc := 33) hx hb dzU_isDemanded_33 hl rfl (by decide) (by decide) rfl (fun ls hl => ?_)
          refine lv_goto (tgt := 2) (pc := 36) hx hb dzU_isDemanded_36 (by decide) ?_
          refine lv_iload_n (pc := 2) hx hb dzU_isDemanded_2 rfl (lv_at hl 0 rfl) ?_
          refine lv_iconst (v := 2) (pc := 3) hx hb dzU_isDemanded_3 (by decide) ?_
          refine lv_icmp_ge (pc := 4) (tgt := 39) hx hb dzU_isDemanded_4 (by decide) (fun _ => ?_) (fun hq9 => absurd (by decide) hq9)
          refine lv_iconst (v := 0) (pc := 39) hx hb dzU_isDemanded_39 (by decide) ?_
          have jr : qzU_isDemanded g0 = 0 := by unfold qzU_isDemanded; (first | rfl | simp only [if_pos h1, if_neg h2, if_pos h3, if_neg h4])
          exact hret _ () H locs 40 ls hP hS (xk_bn xk_b0) jr.symm dzU_isDemanded_40
        ·
          refine lv_iconst (v := 1) (pc := 31) hx hb dzU_isDemanded_31 (by decide) ?_
          have jr : qzU_isDemanded g0 = 1 := by unfold qzU_isDemanded; (first | rfl | simp only [if_pos h1, if_neg h2, if_pos h3, if_pos h4])
          exact hret _ () H locs 32 ls hP hS (xk_bn xk_b1) jr.symm dzU_isDemanded_32
    ·
      refine lv_iconst (v := 1) (pc := 31) hx hb dzU_isDemanded_31 (by decide) ?_
      have jr : qzU_isDemanded g0 = 1 := by unfold qzU_isDemanded; (first | rfl | simp only [if_pos h1, if_pos h2])
      exact hret _ () H locs 32 ls hP hS (xk_bn xk_b1) jr.symm dzU_isDemanded_32

def qzU_bellIsDue (g0 : xk_St) : Int32 := (if (if (g0 4 0) = 1 then 1 else (if (g0 4 0) = 2 then 1 else (if (g0 4 0) = 3 then (if (g0 0 7) = 0 then 1 else 0 : Int32) else 0 : Int32) : Int32) : Int32) = 0 then 0 else (if (qzU_isEven ((g0 0 5) / (if (g0 0 7) = 0 then 5 else 10 : Int32))) = 0 then 0 else 1 : Int32) : Int32)
theorem bzU_bellIsDue (g0 : xk_St) : xk_b (qzU_bellIsDue g0) := by
  unfold qzU_bellIsDue
  repeat' (first | with_reducible exact xk_b0 | with_reducible exact xk_b1 | with_reducible assumption | apply xk_bi)
set_option maxHeartbeats 4000000 in
set_option maxRecDepth 100000 in
theorem kzU_bellIsDue (l : Launch) (G : va_G) (ac : Nat → ClassId) (ad : Nat → Nat) (g0 : xk_St) : xk_CI l yzU_bellIsDue czU_bellIsDue 2 .boolean xk_WS xk_r1 G xk_cls (xk_tys ac) [.ref (ad 0)] (xk_wU ad ac g0) (fun r (_ : Unit) => r = qzU_bellIsDue g0) (fun _ => (xk_wU ad ac g0)) := by
  refine xk_ofI (by decide) (Nat.le_of_ble_eq_true rfl) ?_
  intro p e s m args below meth c A Q H locs ls C0 hret hP hD hS hl
  obtain ⟨hx, hb, hml, hts, hown, hK, hA⟩ := C0
  have hl : lv_has ls 2 [(0, .ref (ad 0))] := hl
  refine lv_aload_n (pc := 0) hx hb dzU_bellIsDue_0 rfl (lv_at hl 0 rfl) ?_
  refine xk_get (pc := 1) hx hb hts hown hK hP ffzU_30 0 rfl rfl dzU_bellIsDue_1 ?_
  refine xk_get (pc := 4) hx hb hts hown hK hP ffzU_227 4 rfl rfl dzU_bellIsDue_4 ?_
  refine lv_iconst (v := 1) (pc := 7) hx hb dzU_bellIsDue_7 (by decide) ?_
  have K1 : W p l e xk_r1 s m args below meth c H locs 0 0 Q (F0 m 45 ls [.int (if (g0 4 0) = 1 then 1 else (if (g0 4 0) = 2 then 1 else (if (g0 4 0) = 3 then (if (g0 0 7) = 0 then 1 else 0 : Int32) else 0 : Int32) : Int32) : Int32)]) := by
    refine lv_istore_n (lv' := [(1, .int (if (g0 4 0) = 1 then 1 else (if (g0 4 0) = 2 then 1 else (if (g0 4 0) = 3 then (if (g0 0 7) = 0 then 1 else 0 : Int32) else 0 : Int32) : Int32) : Int32)), (0, .ref (ad 0))]) (pc := 45) hx hb dzU_bellIsDue_45 rfl hl (by decide) rfl (fun ls hl => ?_)
    refine lv_iload_n (pc := 46) hx hb dzU_bellIsDue_46 rfl (lv_at hl 0 rfl) ?_
    have K3 : ∀ (H : Heap) (locs : List Loc), (va_P G xk_cls (xk_wU ad ac g0) H) → (va_D A (xk_wU ad ac g0)) → (va_S A s.heap H locs) → W p l e xk_r1 s m args below meth c H locs 0 0 Q (F0 m 79 ls [.int (if (if (g0 4 0) = 1 then 1 else (if (g0 4 0) = 2 then 1 else (if (g0 4 0) = 3 then (if (g0 0 7) = 0 then 1 else 0 : Int32) else 0 : Int32) : Int32) : Int32) = 0 then 0 else (if (qzU_isEven ((g0 0 5) / (if (g0 0 7) = 0 then 5 else 10 : Int32))) = 0 then 0 else 1 : Int32) : Int32)]) := by
      intro H locs hP hD hS
      have jr : qzU_bellIsDue g0 = (if (if (g0 4 0) = 1 then 1 else (if (g0 4 0) = 2 then 1 else (if (g0 4 0) = 3 then (if (g0 0 7) = 0 then 1 else 0 : Int32) else 0 : Int32) : Int32) : Int32) = 0 then 0 else (if (qzU_isEven ((g0 0 5) / (if (g0 0 7) = 0 then 5 else 10 : Int32))) = 0 then 0 else 1 : Int32) : Int32) := by unfold qzU_bellIsDue; rfl
      exact hret _ () H locs 79 ls hP hS (xk_bn (by repeat' (first | with_reducible exact xk_b0 | with_reducible exact xk_b1 | apply xk_bi))) jr.symm dzU_bellIsDue_79
    refine lv_if_eq (pc := 47) (tgt := 78) hx hb dzU_bellIsDue_47 (by decide) (fun h5 => ?_) (fun h5 => ?_)
    ·
      refine lv_iconst (v := 0) (pc := 78) hx hb dzU_bellIsDue_78 (by decide) ?_
      have K9 := K3
      try simp only [if_pos h5] at K9
      first | exact K9 H locs hP hD hS | (simp only [if_pos h5] at hP hD; exact K9 H locs hP hD hS) | (simp only [if_pos h5] at hP hD ⊢; exact K9 H locs hP hD hS)
    ·
      refine lv_aload_n (pc := 50) hx hb dzU_bellIsDue_50 rfl (lv_at hl 1 rfl) ?_
      refine xk_get (pc := 51) hx hb hts hown hK hP ffzU_41 0 rfl rfl dzU_bellIsDue_51 ?_
      refine lv_aload_n (pc := 54) hx hb dzU_bellIsDue_54 rfl (lv_at hl 1 rfl) ?_
      refine xk_get (pc := 55) hx hb hts hown hK hP ffzU_48 0 rfl rfl dzU_bellIsDue_55 ?_
      have K2 : W p l e xk_r1 s m args below meth c H locs 0 0 Q (F0 m 67 ls [.int (if (g0 0 7) = 0 then 5 else 10 : Int32), .int (g0 0 5)]) := by
        refine lv_idiv (pc := 67) hx hb dzU_bellIsDue_67 (xk_nzi (by decide) (by decide)) ?_
        refine xk_callSI (As := [.int ((g0 0 5) / (if (g0 0 7) = 0 then 5 else 10 : Int32))]) (rest := []) (H0 := s.heap) (pc := 68) hx hb hml hts hown hK hA hP hD hS (kzU_isEven l G ac ((g0 0 5) / (if (g0 0 7) = 0 then 5 else 10 : Int32))) sfzU_335 [] (by decide) rfl (fun _ => rfl) ⟨rfl, rfl⟩ ⟨Nat.le_of_ble_eq_true rfl, Nat.le_of_ble_eq_true rfl⟩ rfl hl.1 rfl (Nat.le_of_ble_eq_true rfl) ⟨Nat.zero_le _, Nat.zero_le _⟩ dzU_bellIsDue_68 (fun r1 u9 H locs e9 hP hD hS => ?_)
        obtain rfl : r1 = qzU_isEven ((g0 0 5) / (if (g0 0 7) = 0 then 5 else 10 : Int32)) := e9
        have hP : va_P G xk_cls (xk_wU ad ac g0) H := hP
        have hD : va_D A (xk_wU ad ac g0) := hD
        refine lv_if_eq (pc := 71) (tgt := 78) hx hb dzU_bellIsDue_71 (by decide) (fun h7 => ?_) (fun h7 => ?_)
        ·
          refine lv_iconst (v := 0) (pc := 78) hx hb dzU_bellIsDue_78 (by decide) ?_
          have K9 := K3
          try simp only [if_neg h5, if_pos h7] at K9
          first | exact K9 H locs hP hD hS | (simp only [if_neg h5, if_pos h7] at hP hD; exact K9 H locs hP hD hS) | (simp only [if_neg h5, if_pos h7] at hP hD ⊢; exact K9 H locs hP hD hS)
        ·
          refine lv_iconst (v := 1) (pc := 74) hx hb dzU_bellIsDue_74 (by decide) ?_
          refine lv_goto (tgt := 79) (pc := 75) hx hb dzU_bellIsDue_75 (by decide) ?_
          have K9 := K3
          try simp only [if_neg h5, if_neg h7] at K9
          first | exact K9 H locs hP hD hS | (simp only [if_neg h5, if_neg h7] at hP hD; exact K9 H locs hP hD hS) | (simp only [if_neg h5, if_neg h7] at hP hD ⊢; exact K9 H locs hP hD hS)
      refine lv_if_eq (pc := 58) (tgt := 66) hx hb dzU_bellIsDue_58 (by decide) (fun h6 => ?_) (fun h6 => ?_)
      ·
        refine lv_iconst (v := 5) (pc := 66) hx hb dzU_bellIsDue_66 (by decide) ?_
        have K9 := K2
        try simp only [if_pos h6] at K9
        first | exact K9 | (simp only [if_pos h6]; exact K9)
      ·
        refine lv_bipush (v := 10) (pc := 61) hx hb dzU_bellIsDue_61 (by decide) ?_
        refine lv_goto (tgt := 67) (pc := 63) hx hb dzU_bellIsDue_63 (by decide) ?_
        have K9 := K2
        try simp only [if_neg h6] at K9
        first | exact K9 | (simp only [if_neg h6]; exact K9)
  refine lv_icmp_eq (pc := 8) (tgt := 40) hx hb dzU_bellIsDue_8 (by decide) (fun h1 => ?_) (fun h1 => ?_)
  ·
    refine lv_iconst (v := 1) (pc := 40) hx hb dzU_bellIsDue_40 (by decide) ?_
    refine lv_goto (tgt := 45) (pc := 41) hx hb dzU_bellIsDue_41 (by decide) ?_
    have K9 := K1
    try simp only [if_pos h1] at K9
    first | exact K9 | (simp only [if_pos h1]; exact K9)
  ·
    refine lv_aload_n (pc := 11) hx hb dzU_bellIsDue_11 rfl (lv_at hl 0 rfl) ?_
    refine xk_get (pc := 12) hx hb hts hown hK hP ffzU_30 0 rfl rfl dzU_bellIsDue_12 ?_
    refine xk_get (pc := 15) hx hb hts hown hK hP ffzU_227 4 rfl rfl dzU_bellIsDue_15 ?_
    refine lv_iconst (v := 2) (pc := 18) hx hb dzU_bellIsDue_18 (by decide) ?_
    refine lv_icmp_eq (pc := 19) (tgt := 40) hx hb dzU_bellIsDue_19 (by decide) (fun h2 => ?_) (fun h2 => ?_)
    ·
      refine lv_iconst (v := 1) (pc := 40) hx hb dzU_bellIsDue_40 (by decide) ?_
      refine lv_goto (tgt := 45) (pc := 41) hx hb dzU_bellIsDue_41 (by decide) ?_
      have K9 := K1
      try simp only [if_neg h1, if_pos h2] at K9
      first | exact K9 | (simp only [if_neg h1, if_pos h2]; exact K9)
    ·
      refine lv_aload_n (pc := 22) hx hb dzU_bellIsDue_22 rfl (lv_at hl 0 rfl) ?_
      refine xk_get (pc := 23) hx hb hts hown hK hP ffzU_30 0 rfl rfl dzU_bellIsDue_23 ?_
      refine xk_get (pc := 26) hx hb hts hown hK hP ffzU_227 4 rfl rfl dzU_bellIsDue_26 ?_
      refine lv_iconst (v := 3) (pc := 29) hx hb dzU_bellIsDue_29 (by decide) ?_
      refine lv_icmp_ne (pc := 30) (tgt := 44) hx hb dzU_bellIsDue_30 (by decide) (fun h3 => ?_) (fun h3 => ?_)
      ·
        refine lv_iconst (v := 0) (pc := 44) hx hb dzU_bellIsDue_44 (by decide) ?_
        have K9 := K1
        try simp only [if_neg h1, if_neg h2, if_neg h3] at K9
        first | exact K9 | (simp only [if_neg h1, if_neg h2, if_neg h3]; exact K9)
      ·
        refine lv_aload_n (pc := 33) hx hb dzU_bellIsDue_33 rfl (lv_at hl 0 rfl) ?_
        refine xk_get (pc := 34) hx hb hts hown hK hP ffzU_48 0 rfl rfl dzU_bellIsDue_34 ?_
        refine lv_if_ne (pc := 37) (tgt := 44) hx hb dzU_bellIsDue_37 (by decide) (fun h4 => ?_) (fun h4 => ?_)
        ·
          refine lv_iconst (v := 0) (pc := 44) hx hb dzU_bellIsDue_44 (by decide) ?_
          have K9 := K1
          try simp only [if_neg h1, if_neg h2, if_pos h3, if_neg h4] at K9
          first | exact K9 | (simp only [if_neg h1, if_neg h2, if_pos h3, if_neg h4]; exact K9)
        ·
          refine lv_iconst (v := 1) (pc := 40) hx hb dzU_bellIsDue_40 (by decide) ?_
          refine lv_goto (tgt := 45) (pc := 41) hx hb dzU_bellIsDue_41 (by decide) ?_
          have K9 := K1
          try simp only [if_neg h1, if_neg h2, if_pos h3, if_pos h4] at K9
          first | exact K9 | (simp only [if_neg h1, if_neg h2, if_pos h3, if_pos h4]; exact K9)

def qzU_deadLamps (g0 : xk_St) : Int32 := ((0 ||| (if (g0 31 2) = 0 then 0 else 1 : Int32)) ||| (if (g0 32 2) = 0 then 0 else 2 : Int32)) ||| (if (g0 33 2) = 0 then 0 else 4 : Int32)
set_option maxHeartbeats 4000000 in
set_option maxRecDepth 100000 in
theorem kzU_deadLamps (l : Launch) (G : va_G) (ac : Nat → ClassId) (ad : Nat → Nat) (g0 : xk_St) : xk_CI l yzU_deadLamps czU_deadLamps 3 .int xk_WS xk_r0 G xk_cls (xk_tys ac) [.ref (ad 0)] (xk_wU ad ac g0) (fun r (_ : Unit) => r = qzU_deadLamps g0) (fun _ => (xk_wU ad ac g0)) := by
  refine xk_ofI (by decide) (Nat.le_of_ble_eq_true rfl) ?_
  intro p e s m args below meth c A Q H locs ls C0 hret hP hD hS hl
  obtain ⟨hx, hb, hml, hts, hown, hK, hA⟩ := C0
  have hl : lv_has ls 3 [(0, .ref (ad 0))] := hl
  refine lv_iconst (v := 0) (pc := 0) hx hb dzU_deadLamps_0 (by decide) ?_
  refine lv_istore_n (lv' := [(1, .int 0), (0, .ref (ad 0))]) (pc := 1) hx hb dzU_deadLamps_1 rfl hl (by decide) rfl (fun ls hl => ?_)
  refine lv_iconst (v := 0) (pc := 2) hx hb dzU_deadLamps_2 (by decide) ?_
  refine lv_istore_n (lv' := [(2, .int 0), (1, .int 0), (0, .ref (ad 0))]) (pc := 3) hx hb dzU_deadLamps_3 rfl hl (by decide) rfl (fun ls hl => ?_)
  refine lv_iload_n (pc := 4) hx hb dzU_deadLamps_4 rfl (lv_at hl 0 rfl) ?_
  refine lv_iconst (v := 3) (pc := 5) hx hb dzU_deadLamps_5 (by decide) ?_
  refine lv_icmp_ge (pc := 6) (tgt := 37) hx hb dzU_deadLamps_6 (by decide) (fun hq9 => absurd hq9 (by decide)) (fun _ => ?_)
  refine lv_iload_n (pc := 9) hx hb dzU_deadLamps_9 rfl (lv_at hl 1 rfl) ?_
  refine lv_aload_n (pc := 10) hx hb dzU_deadLamps_10 rfl (lv_at hl 2 rfl) ?_
  refine xk_get (pc := 11) hx hb hts hown hK hP ffzU_23 0 rfl rfl dzU_deadLamps_11 ?_
  refine lv_iload_n (pc := 14) hx hb dzU_deadLamps_14 rfl (lv_at hl 0 rfl) ?_
  refine xk_aald (q0 := 3) (t0 := 6) (j := 0) (b := (ad 31)) (pc := 15) hx hb hK hP rfl rfl (pk_in 0 3 (by decide)) (pk_cl 0) rfl dzU_deadLamps_15 ?_
  refine xk_get (pc := 16) hx hb hts hown hK hP ffzU_348 31 rfl rfl dzU_deadLamps_16 ?_
  have K1 : W p l e xk_r0 s m args below meth c H locs 0 0 Q (F0 m 29 ls [.int (if (g0 31 2) = 0 then 0 else 1 : Int32), .int 0]) := by
    refine lv_ior (pc := 29) hx hb dzU_deadLamps_29 ?_
    refine lv_istore_n (lv' := [(1, .int (0 ||| (if (g0 31 2) = 0 then 0 else 1 : Int32))), (2, .int 0), (0, .ref (ad 0))]) (pc := 30) hx hb dzU_deadLamps_30 rfl hl (by decide) rfl (fun ls hl => ?_)
    refine lv_iinc (k := 1) (x := 0) (v := 1) (lv' := [(2, .int 1), (1, .int (0 ||| (if (g0 31 2) = 0 then 0 else 1 : Int32))), (0, .ref (ad 0))]) (pc := 31) hx hb dzU_deadLamps_31 hl rfl (by decide) (by decide) rfl (fun ls hl => ?_)
    refine lv_goto (tgt := 4) (pc := 34) hx hb dzU_deadLamps_34 (by decide) ?_
    refine lv_iload_n (pc := 4) hx hb dzU_deadLamps_4 rfl (lv_at hl 0 rfl) ?_
    refine lv_iconst (v := 3) (pc := 5) hx hb dzU_deadLamps_5 (by decide) ?_
    refine lv_icmp_ge (pc := 6) (tgt := 37) hx hb dzU_deadLamps_6 (by decide) (fun hq9 => absurd hq9 (by decide)) (fun _ => ?_)
    refine lv_iload_n (pc := 9) hx hb dzU_deadLamps_9 rfl (lv_at hl 1 rfl) ?_
    refine lv_aload_n (pc := 10) hx hb dzU_deadLamps_10 rfl (lv_at hl 2 rfl) ?_
    refine xk_get (pc := 11) hx hb hts hown hK hP ffzU_23 0 rfl rfl dzU_deadLamps_11 ?_
    refine lv_iload_n (pc := 14) hx hb dzU_deadLamps_14 rfl (lv_at hl 0 rfl) ?_
    refine xk_aald (q0 := 3) (t0 := 6) (j := 1) (b := (ad 32)) (pc := 15) hx hb hK hP rfl rfl (pk_in 1 3 (by decide)) (pk_cl 1) rfl dzU_deadLamps_15 ?_
    refine xk_get (pc := 16) hx hb hts hown hK hP ffzU_348 32 rfl rfl dzU_deadLamps_16 ?_
    have K2 : W p l e xk_r0 s m args below meth c H locs 0 0 Q (F0 m 29 ls [.int (if (g0 32 2) = 0 then 0 else 2 : Int32), .int (0 ||| (if (g0 31 2) = 0 then 0 else 1 : Int32))]) := by
      refine lv_ior (pc := 29) hx hb dzU_deadLamps_29 ?_
      refine lv_istore_n (lv' := [(1, .int ((0 ||| (if (g0 31 2) = 0 then 0 else 1 : Int32)) ||| (if (g0 32 2) = 0 then 0 else 2 : Int32))), (2, .int 1), (0, .ref (ad 0))]) (pc := 30) hx hb dzU_deadLamps_30 rfl hl (by decide) rfl (fun ls hl => ?_)
      refine lv_iinc (k := 1) (x := 1) (v := 2) (lv' := [(2, .int 2), (1, .int ((0 ||| (if (g0 31 2) = 0 then 0 else 1 : Int32)) ||| (if (g0 32 2) = 0 then 0 else 2 : Int32))), (0, .ref (ad 0))]) (pc := 31) hx hb dzU_deadLamps_31 hl rfl (by decide) (by decide) rfl (fun ls hl => ?_)
      refine lv_goto (tgt := 4) (pc := 34) hx hb dzU_deadLamps_34 (by decide) ?_
      refine lv_iload_n (pc := 4) hx hb dzU_deadLamps_4 rfl (lv_at hl 0 rfl) ?_
      refine lv_iconst (v := 3) (pc := 5) hx hb dzU_deadLamps_5 (by decide) ?_
      refine lv_icmp_ge (pc := 6) (tgt := 37) hx hb dzU_deadLamps_6 (by decide) (fun hq9 => absurd hq9 (by decide)) (fun _ => ?_)
      refine lv_iload_n (pc := 9) hx hb dzU_deadLamps_9 rfl (lv_at hl 1 rfl) ?_
      refine lv_aload_n (pc := 10) hx hb dzU_deadLamps_10 rfl (lv_at hl 2 rfl) ?_
      refine xk_get (pc := 11) hx hb hts hown hK hP ffzU_23 0 rfl rfl dzU_deadLamps_11 ?_
      refine lv_iload_n (pc := 14) hx hb dzU_deadLamps_14 rfl (lv_at hl 0 rfl) ?_
      refine xk_aald (q0 := 3) (t0 := 6) (j := 2) (b := (ad 33)) (pc := 15) hx hb hK hP rfl rfl (pk_in 2 3 (by decide)) (pk_cl 2) rfl dzU_deadLamps_15 ?_
      refine xk_get (pc := 16) hx hb hts hown hK hP ffzU_348 33 rfl rfl dzU_deadLamps_16 ?_
      have K3 : W p l e xk_r0 s m args below meth c H locs 0 0 Q (F0 m 29 ls [.int (if (g0 33 2) = 0 then 0 else 4 : Int32), .int ((0 ||| (if (g0 31 2) = 0 then 0 else 1 : Int32)) ||| (if (g0 32 2) = 0 then 0 else 2 : Int32))]) := by
        refine lv_ior (pc := 29) hx hb dzU_deadLamps_29 ?_
        refine lv_istore_n (lv' := [(1, .int (((0 ||| (if (g0 31 2) = 0 then 0 else 1 : Int32)) ||| (if (g0 32 2) = 0 then 0 else 2 : Int32)) ||| (if (g0 33 2) = 0 then 0 else 4 : Int32))), (2, .int 2), (0, .ref (ad 0))]) (pc := 30) hx hb dzU_deadLamps_30 rfl hl (by decide) rfl (fun ls hl => ?_)
        refine lv_iinc (k := 1) (x := 2) (v := 3) (lv' := [(2, .int 3), (1, .int (((0 ||| (if (g0 31 2) = 0 then 0 else 1 : Int32)) ||| (if (g0 32 2) = 0 then 0 else 2 : Int32)) ||| (if (g0 33 2) = 0 then 0 else 4 : Int32))), (0, .ref (ad 0))]) (pc := 31) hx hb dzU_deadLamps_31 hl rfl (by decide) (by decide) rfl (fun ls hl => ?_)
        refine lv_goto (tgt := 4) (pc := 34) hx hb dzU_deadLamps_34 (by decide) ?_
        refine lv_iload_n (pc := 4) hx hb dzU_deadLamps_4 rfl (lv_at hl 0 rfl) ?_
        refine lv_iconst (v := 3) (pc := 5) hx hb dzU_deadLamps_5 (by decide) ?_
        refine lv_icmp_ge (pc := 6) (tgt := 37) hx hb dzU_deadLamps_6 (by decide) (fun _ => ?_) (fun hq9 => absurd (by decide) hq9)
        refine lv_iload_n (pc := 37) hx hb dzU_deadLamps_37 rfl (lv_at hl 1 rfl) ?_
        have jr : qzU_deadLamps g0 = ((0 ||| (if (g0 31 2) = 0 then 0 else 1 : Int32)) ||| (if (g0 32 2) = 0 then 0 else 2 : Int32)) ||| (if (g0 33 2) = 0 then 0 else 4 : Int32) := by unfold qzU_deadLamps; rfl
        exact hret _ () H locs 38 ls hP hS rfl jr.symm dzU_deadLamps_38
      refine lv_if_eq (pc := 19) (tgt := 28) hx hb dzU_deadLamps_19 (by decide) (fun h3 => ?_) (fun h3 => ?_)
      ·
        refine lv_iconst (v := 0) (pc := 28) hx hb dzU_deadLamps_28 (by decide) ?_
        have K9 := K3
        try simp only [if_pos h3] at K9
        first | exact K9 | (simp only [if_pos h3]; exact K9)
      ·
        refine lv_iconst (v := 1) (pc := 22) hx hb dzU_deadLamps_22 (by decide) ?_
        refine lv_iload_n (pc := 23) hx hb dzU_deadLamps_23 rfl (lv_at hl 0 rfl) ?_
        refine lv_ishl (pc := 24) hx hb dzU_deadLamps_24 ?_
        refine xk_is (y := 4) (by decide) ?_
        refine lv_goto (tgt := 29) (pc := 25) hx hb dzU_deadLamps_25 (by decide) ?_
        have K9 := K3
        try simp only [if_neg h3] at K9
        first | exact K9 | (simp only [if_neg h3]; exact K9)
    refine lv_if_eq (pc := 19) (tgt := 28) hx hb dzU_deadLamps_19 (by decide) (fun h2 => ?_) (fun h2 => ?_)
    ·
      refine lv_iconst (v := 0) (pc := 28) hx hb dzU_deadLamps_28 (by decide) ?_
      have K9 := K2
      try simp only [if_pos h2] at K9
      first | exact K9 | (simp only [if_pos h2]; exact K9)
    ·
      refine lv_iconst (v := 1) (pc := 22) hx hb dzU_deadLamps_22 (by decide) ?_
      refine lv_iload_n (pc := 23) hx hb dzU_deadLamps_23 rfl (lv_at hl 0 rfl) ?_
      refine lv_ishl (pc := 24) hx hb dzU_deadLamps_24 ?_
      refine xk_is (y := 2) (by decide) ?_
      refine lv_goto (tgt := 29) (pc := 25) hx hb dzU_deadLamps_25 (by decide) ?_
      have K9 := K2
      try simp only [if_neg h2] at K9
      first | exact K9 | (simp only [if_neg h2]; exact K9)
  refine lv_if_eq (pc := 19) (tgt := 28) hx hb dzU_deadLamps_19 (by decide) (fun h1 => ?_) (fun h1 => ?_)
  ·
    refine lv_iconst (v := 0) (pc := 28) hx hb dzU_deadLamps_28 (by decide) ?_
    have K9 := K1
    try simp only [if_pos h1] at K9
    first | exact K9 | (simp only [if_pos h1]; exact K9)
  ·
    refine lv_iconst (v := 1) (pc := 22) hx hb dzU_deadLamps_22 (by decide) ?_
    refine lv_iload_n (pc := 23) hx hb dzU_deadLamps_23 rfl (lv_at hl 0 rfl) ?_
    refine lv_ishl (pc := 24) hx hb dzU_deadLamps_24 ?_
    refine xk_is (y := 1) (by decide) ?_
    refine lv_goto (tgt := 29) (pc := 25) hx hb dzU_deadLamps_25 (by decide) ?_
    have K9 := K1
    try simp only [if_neg h1] at K9
    first | exact K9 | (simp only [if_neg h1]; exact K9)

def qzU_standingOrders (g0 : xk_St) : Int32 := (0 ||| (if (g0 9 4) = 0 then 0 else 1 : Int32)) ||| (if (g0 10 4) = 0 then 0 else 2 : Int32)
set_option maxHeartbeats 4000000 in
set_option maxRecDepth 100000 in
theorem kzU_standingOrders (l : Launch) (G : va_G) (ac : Nat → ClassId) (ad : Nat → Nat) (g0 : xk_St) : xk_CI l yzU_standingOrders czU_standingOrders 3 .int xk_WS xk_r0 G xk_cls (xk_tys ac) [.ref (ad 0)] (xk_wU ad ac g0) (fun r (_ : Unit) => r = qzU_standingOrders g0) (fun _ => (xk_wU ad ac g0)) := by
  refine xk_ofI (by decide) (Nat.le_of_ble_eq_true rfl) ?_
  intro p e s m args below meth c A Q H locs ls C0 hret hP hD hS hl
  obtain ⟨hx, hb, hml, hts, hown, hK, hA⟩ := C0
  have hl : lv_has ls 3 [(0, .ref (ad 0))] := hl
  refine lv_iconst (v := 0) (pc := 0) hx hb dzU_standingOrders_0 (by decide) ?_
  refine lv_istore_n (lv' := [(1, .int 0), (0, .ref (ad 0))]) (pc := 1) hx hb dzU_standingOrders_1 rfl hl (by decide) rfl (fun ls hl => ?_)
  refine lv_iconst (v := 0) (pc := 2) hx hb dzU_standingOrders_2 (by decide) ?_
  refine lv_istore_n (lv' := [(2, .int 0), (1, .int 0), (0, .ref (ad 0))]) (pc := 3) hx hb dzU_standingOrders_3 rfl hl (by decide) rfl (fun ls hl => ?_)
  refine lv_iload_n (pc := 4) hx hb dzU_standingOrders_4 rfl (lv_at hl 0 rfl) ?_
  refine lv_iconst (v := 2) (pc := 5) hx hb dzU_standingOrders_5 (by decide) ?_
  refine lv_icmp_ge (pc := 6) (tgt := 37) hx hb dzU_standingOrders_6 (by decide) (fun hq9 => absurd hq9 (by decide)) (fun _ => ?_)
  refine lv_iload_n (pc := 9) hx hb dzU_standingOrders_9 rfl (lv_at hl 1 rfl) ?_
  refine lv_aload_n (pc := 10) hx hb dzU_standingOrders_10 rfl (lv_at hl 2 rfl) ?_
  refine xk_get (pc := 11) hx hb hts hown hK hP ffzU_11 0 rfl rfl dzU_standingOrders_11 ?_
  refine lv_iload_n (pc := 14) hx hb dzU_standingOrders_14 rfl (lv_at hl 0 rfl) ?_
  refine xk_aald (q0 := 1) (t0 := 2) (j := 0) (b := (ad 9)) (pc := 15) hx hb hK hP rfl rfl (pk_in 0 2 (by decide)) (pk_cl 0) rfl dzU_standingOrders_15 ?_
  refine xk_get (pc := 16) hx hb hts hown hK hP ffzU_152 9 rfl rfl dzU_standingOrders_16 ?_
  have K1 : W p l e xk_r0 s m args below meth c H locs 0 0 Q (F0 m 29 ls [.int (if (g0 9 4) = 0 then 0 else 1 : Int32), .int 0]) := by
    refine lv_ior (pc := 29) hx hb dzU_standingOrders_29 ?_
    refine lv_istore_n (lv' := [(1, .int (0 ||| (if (g0 9 4) = 0 then 0 else 1 : Int32))), (2, .int 0), (0, .ref (ad 0))]) (pc := 30) hx hb dzU_standingOrders_30 rfl hl (by decide) rfl (fun ls hl => ?_)
    refine lv_iinc (k := 1) (x := 0) (v := 1) (lv' := [(2, .int 1), (1, .int (0 ||| (if (g0 9 4) = 0 then 0 else 1 : Int32))), (0, .ref (ad 0))]) (pc := 31) hx hb dzU_standingOrders_31 hl rfl (by decide) (by decide) rfl (fun ls hl => ?_)
    refine lv_goto (tgt := 4) (pc := 34) hx hb dzU_standingOrders_34 (by decide) ?_
    refine lv_iload_n (pc := 4) hx hb dzU_standingOrders_4 rfl (lv_at hl 0 rfl) ?_
    refine lv_iconst (v := 2) (pc := 5) hx hb dzU_standingOrders_5 (by decide) ?_
    refine lv_icmp_ge (pc := 6) (tgt := 37) hx hb dzU_standingOrders_6 (by decide) (fun hq9 => absurd hq9 (by decide)) (fun _ => ?_)
    refine lv_iload_n (pc := 9) hx hb dzU_standingOrders_9 rfl (lv_at hl 1 rfl) ?_
    refine lv_aload_n (pc := 10) hx hb dzU_standingOrders_10 rfl (lv_at hl 2 rfl) ?_
    refine xk_get (pc := 11) hx hb hts hown hK hP ffzU_11 0 rfl rfl dzU_standingOrders_11 ?_
    refine lv_iload_n (pc := 14) hx hb dzU_standingOrders_14 rfl (lv_at hl 0 rfl) ?_
    refine xk_aald (q0 := 1) (t0 := 2) (j := 1) (b := (ad 10)) (pc := 15) hx hb hK hP rfl rfl (pk_in 1 2 (by decide)) (pk_cl 1) rfl dzU_standingOrders_15 ?_
    refine xk_get (pc := 16) hx hb hts hown hK hP ffzU_152 10 rfl rfl dzU_standingOrders_16 ?_
    have K2 : W p l e xk_r0 s m args below meth c H locs 0 0 Q (F0 m 29 ls [.int (if (g0 10 4) = 0 then 0 else 2 : Int32), .int (0 ||| (if (g0 9 4) = 0 then 0 else 1 : Int32))]) := by
      refine lv_ior (pc := 29) hx hb dzU_standingOrders_29 ?_
      refine lv_istore_n (lv' := [(1, .int ((0 ||| (if (g0 9 4) = 0 then 0 else 1 : Int32)) ||| (if (g0 10 4) = 0 then 0 else 2 : Int32))), (2, .int 1), (0, .ref (ad 0))]) (pc := 30) hx hb dzU_standingOrders_30 rfl hl (by decide) rfl (fun ls hl => ?_)
      refine lv_iinc (k := 1) (x := 1) (v := 2) (lv' := [(2, .int 2), (1, .int ((0 ||| (if (g0 9 4) = 0 then 0 else 1 : Int32)) ||| (if (g0 10 4) = 0 then 0 else 2 : Int32))), (0, .ref (ad 0))]) (pc := 31) hx hb dzU_standingOrders_31 hl rfl (by decide) (by decide) rfl (fun ls hl => ?_)
      refine lv_goto (tgt := 4) (pc := 34) hx hb dzU_standingOrders_34 (by decide) ?_
      refine lv_iload_n (pc := 4) hx hb dzU_standingOrders_4 rfl (lv_at hl 0 rfl) ?_
      refine lv_iconst (v := 2) (pc := 5) hx hb dzU_standingOrders_5 (by decide) ?_
      refine lv_icmp_ge (pc := 6) (tgt := 37) hx hb dzU_standingOrders_6 (by decide) (fun _ => ?_) (fun hq9 => absurd (by decide) hq9)
      refine lv_iload_n (pc := 37) hx hb dzU_standingOrders_37 rfl (lv_at hl 1 rfl) ?_
      have jr : qzU_standingOrders g0 = (0 ||| (if (g0 9 4) = 0 then 0 else 1 : Int32)) ||| (if (g0 10 4) = 0 then 0 else 2 : Int32) := by unfold qzU_standingOrders; rfl
      exact hret _ () H locs 38 ls hP hS rfl jr.symm dzU_standingOrders_38
    refine lv_if_eq (pc := 19) (tgt := 28) hx hb dzU_standingOrders_19 (by decide) (fun h2 => ?_) (fun h2 => ?_)
    ·
      refine lv_iconst (v := 0) (pc := 28) hx hb dzU_standingOrders_28 (by decide) ?_
      have K9 := K2
      try simp only [if_pos h2] at K9
      first | exact K9 | (simp only [if_pos h2]; exact K9)
    ·
      refine lv_iconst (v := 1) (pc := 22) hx hb dzU_standingOrders_22 (by decide) ?_
      refine lv_iload_n (pc := 23) hx hb dzU_standingOrders_23 rfl (lv_at hl 0 rfl) ?_
      refine lv_ishl (pc := 24) hx hb dzU_standingOrders_24 ?_
      refine xk_is (y := 2) (by decide) ?_
      refine lv_goto (tgt := 29) (pc := 25) hx hb dzU_standingOrders_25 (by decide) ?_
      have K9 := K2
      try simp only [if_neg h2] at K9
      first | exact K9 | (simp only [if_neg h2]; exact K9)
  refine lv_if_eq (pc := 19) (tgt := 28) hx hb dzU_standingOrders_19 (by decide) (fun h1 => ?_) (fun h1 => ?_)
  ·
    refine lv_iconst (v := 0) (pc := 28) hx hb dzU_standingOrders_28 (by decide) ?_
    have K9 := K1
    try simp only [if_pos h1] at K9
    first | exact K9 | (simp only [if_pos h1]; exact K9)
  ·
    refine lv_iconst (v := 1) (pc := 22) hx hb dzU_standingOrders_22 (by decide) ?_
    refine lv_iload_n (pc := 23) hx hb dzU_standingOrders_23 rfl (lv_at hl 0 rfl) ?_
    refine lv_ishl (pc := 24) hx hb dzU_standingOrders_24 ?_
    refine xk_is (y := 1) (by decide) ?_
    refine lv_goto (tgt := 29) (pc := 25) hx hb dzU_standingOrders_25 (by decide) ?_
    have K9 := K1
    try simp only [if_neg h1] at K9
    first | exact K9 | (simp only [if_neg h1]; exact K9)

def qzU_gatherOutput (g0 : xk_St) : Int32 := (((((((((((if (g0 0 8) = 0 then 0 else 8 : Int32) ||| (if (g0 31 1) = 0 then 0 else 1 : Int32)) ||| (if (g0 32 1) = 0 then 0 else 2 : Int32)) ||| (if (g0 33 1) = 0 then 0 else 4 : Int32)) ||| (if (g0 29 2) = (-1) then 16 else 0 : Int32)) ||| (if (g0 29 2) = 1 then 32 else 0 : Int32)) ||| (if (g0 29 5) = 0 then 0 else 1024 : Int32)) ||| (if (g0 30 2) = (-1) then 64 else 0 : Int32)) ||| (if (g0 30 2) = 1 then 128 else 0 : Int32)) ||| (if (g0 30 5) = 0 then 0 else 2048 : Int32)) ||| (if (g0 9 5) = 0 then 0 else 256 : Int32)) ||| (if (g0 10 5) = 0 then 0 else 512 : Int32)
set_option maxHeartbeats 4000000 in
set_option maxRecDepth 100000 in
theorem kzU_gatherOutput (l : Launch) (G : va_G) (ac : Nat → ClassId) (ad : Nat → Nat) (g0 : xk_St) : xk_CI l yzU_gatherOutput czU_gatherOutput 3 .int xk_WS xk_r0 G xk_cls (xk_tys ac) [.ref (ad 0)] (xk_wU ad ac g0) (fun r (_ : Unit) => r = qzU_gatherOutput g0) (fun _ => (xk_wU ad ac g0)) := by
  refine xk_ofI (by decide) (Nat.le_of_ble_eq_true rfl) ?_
  intro p e s m args below meth c A Q H locs ls C0 hret hP hD hS hl
  obtain ⟨hx, hb, hml, hts, hown, hK, hA⟩ := C0
  have hl : lv_has ls 3 [(0, .ref (ad 0))] := hl
  refine lv_aload_n (pc := 0) hx hb dzU_gatherOutput_0 rfl (lv_at hl 0 rfl) ?_
  refine xk_get (pc := 1) hx hb hts hown hK hP ffzU_52 0 rfl rfl dzU_gatherOutput_1 ?_
  have K1 : W p l e xk_r0 s m args below meth c H locs 0 0 Q (F0 m 13 ls [.int (if (g0 0 8) = 0 then 0 else 8 : Int32)]) := by
    refine lv_istore_n (lv' := [(1, .int (if (g0 0 8) = 0 then 0 else 8 : Int32)), (0, .ref (ad 0))]) (pc := 13) hx hb dzU_gatherOutput_13 rfl hl (by decide) rfl (fun ls hl => ?_)
    refine lv_iconst (v := 0) (pc := 14) hx hb dzU_gatherOutput_14 (by decide) ?_
    refine lv_istore_n (lv' := [(2, .int 0), (1, .int (if (g0 0 8) = 0 then 0 else 8 : Int32)), (0, .ref (ad 0))]) (pc := 15) hx hb dzU_gatherOutput_15 rfl hl (by decide) rfl (fun ls hl => ?_)
    refine lv_iload_n (pc := 16) hx hb dzU_gatherOutput_16 rfl (lv_at hl 0 rfl) ?_
    refine lv_iconst (v := 3) (pc := 17) hx hb dzU_gatherOutput_17 (by decide) ?_
    refine lv_icmp_ge (pc := 18) (tgt := 49) hx hb dzU_gatherOutput_18 (by decide) (fun hq9 => absurd hq9 (by decide)) (fun _ => ?_)
    refine lv_iload_n (pc := 21) hx hb dzU_gatherOutput_21 rfl (lv_at hl 1 rfl) ?_
    refine lv_aload_n (pc := 22) hx hb dzU_gatherOutput_22 rfl (lv_at hl 2 rfl) ?_
    refine xk_get (pc := 23) hx hb hts hown hK hP ffzU_23 0 rfl rfl dzU_gatherOutput_23 ?_
    refine lv_iload_n (pc := 26) hx hb dzU_gatherOutput_26 rfl (lv_at hl 0 rfl) ?_
    refine xk_aald (q0 := 3) (t0 := 6) (j := 0) (b := (ad 31)) (pc := 27) hx hb hK hP rfl rfl (pk_in 0 3 (by decide)) (pk_cl 0) rfl dzU_gatherOutput_27 ?_
    refine xk_get (pc := 28) hx hb hts hown hK hP ffzU_338 31 rfl rfl dzU_gatherOutput_28 ?_
    have K2 : W p l e xk_r0 s m args below meth c H locs 0 0 Q (F0 m 41 ls [.int (if (g0 31 1) = 0 then 0 else 1 : Int32), .int (if (g0 0 8) = 0 then 0 else 8 : Int32)]) := by
      refine lv_ior (pc := 41) hx hb dzU_gatherOutput_41 ?_
      refine lv_istore_n (lv' := [(1, .int ((if (g0 0 8) = 0 then 0 else 8 : Int32) ||| (if (g0 31 1) = 0 then 0 else 1 : Int32))), (2, .int 0), (0, .ref (ad 0))]) (pc := 42) hx hb dzU_gatherOutput_42 rfl hl (by decide) rfl (fun ls hl => ?_)
      refine lv_iinc (k := 1) (x := 0) (v := 1) (lv' := [(2, .int 1), (1, .int ((if (g0 0 8) = 0 then 0 else 8 : Int32) ||| (if (g0 31 1) = 0 then 0 else 1 : Int32))), (0, .ref (ad 0))]) (pc := 43) hx hb dzU_gatherOutput_43 hl rfl (by decide) (by decide) rfl (fun ls hl => ?_)
      refine lv_goto (tgt := 16) (pc := 46) hx hb dzU_gatherOutput_46 (by decide) ?_
      refine lv_iload_n (pc := 16) hx hb dzU_gatherOutput_16 rfl (lv_at hl 0 rfl) ?_
      refine lv_iconst (v := 3) (pc := 17) hx hb dzU_gatherOutput_17 (by decide) ?_
      refine lv_icmp_ge (pc := 18) (tgt := 49) hx hb dzU_gatherOutput_18 (by decide) (fun hq9 => absurd hq9 (by decide)) (fun _ => ?_)
      refine lv_iload_n (pc := 21) hx hb dzU_gatherOutput_21 rfl (lv_at hl 1 rfl) ?_
      refine lv_aload_n (pc := 22) hx hb dzU_gatherOutput_22 rfl (lv_at hl 2 rfl) ?_
      refine xk_get (pc := 23) hx hb hts hown hK hP ffzU_23 0 rfl rfl dzU_gatherOutput_23 ?_
      refine lv_iload_n (pc := 26) hx hb dzU_gatherOutput_26 rfl (lv_at hl 0 rfl) ?_
      refine xk_aald (q0 := 3) (t0 := 6) (j := 1) (b := (ad 32)) (pc := 27) hx hb hK hP rfl rfl (pk_in 1 3 (by decide)) (pk_cl 1) rfl dzU_gatherOutput_27 ?_
      refine xk_get (pc := 28) hx hb hts hown hK hP ffzU_338 32 rfl rfl dzU_gatherOutput_28 ?_
      have K3 : W p l e xk_r0 s m args below meth c H locs 0 0 Q (F0 m 41 ls [.int (if (g0 32 1) = 0 then 0 else 2 : Int32), .int ((if (g0 0 8) = 0 then 0 else 8 : Int32) ||| (if (g0 31 1) = 0 then 0 else 1 : Int32))]) := by
        refine lv_ior (pc := 41) hx hb dzU_gatherOutput_41 ?_
        refine lv_istore_n (lv' := [(1, .int (((if (g0 0 8) = 0 then 0 else 8 : Int32) ||| (if (g0 31 1) = 0 then 0 else 1 : Int32)) ||| (if (g0 32 1) = 0 then 0 else 2 : Int32))), (2, .int 1), (0, .ref (ad 0))]) (pc := 42) hx hb dzU_gatherOutput_42 rfl hl (by decide) rfl (fun ls hl => ?_)
        refine lv_iinc (k := 1) (x := 1) (v := 2) (lv' := [(2, .int 2), (1, .int (((if (g0 0 8) = 0 then 0 else 8 : Int32) ||| (if (g0 31 1) = 0 then 0 else 1 : Int32)) ||| (if (g0 32 1) = 0 then 0 else 2 : Int32))), (0, .ref (ad 0))]) (pc := 43) hx hb dzU_gatherOutput_43 hl rfl (by decide) (by decide) rfl (fun ls hl => ?_)
        refine lv_goto (tgt := 16) (pc := 46) hx hb dzU_gatherOutput_46 (by decide) ?_
        refine lv_iload_n (pc := 16) hx hb dzU_gatherOutput_16 rfl (lv_at hl 0 rfl) ?_
        refine lv_iconst (v := 3) (pc := 17) hx hb dzU_gatherOutput_17 (by decide) ?_
        refine lv_icmp_ge (pc := 18) (tgt := 49) hx hb dzU_gatherOutput_18 (by decide) (fun hq9 => absurd hq9 (by decide)) (fun _ => ?_)
        refine lv_iload_n (pc := 21) hx hb dzU_gatherOutput_21 rfl (lv_at hl 1 rfl) ?_
        refine lv_aload_n (pc := 22) hx hb dzU_gatherOutput_22 rfl (lv_at hl 2 rfl) ?_
        refine xk_get (pc := 23) hx hb hts hown hK hP ffzU_23 0 rfl rfl dzU_gatherOutput_23 ?_
        refine lv_iload_n (pc := 26) hx hb dzU_gatherOutput_26 rfl (lv_at hl 0 rfl) ?_
        refine xk_aald (q0 := 3) (t0 := 6) (j := 2) (b := (ad 33)) (pc := 27) hx hb hK hP rfl rfl (pk_in 2 3 (by decide)) (pk_cl 2) rfl dzU_gatherOutput_27 ?_
        refine xk_get (pc := 28) hx hb hts hown hK hP ffzU_338 33 rfl rfl dzU_gatherOutput_28 ?_
        have K4 : W p l e xk_r0 s m args below meth c H locs 0 0 Q (F0 m 41 ls [.int (if (g0 33 1) = 0 then 0 else 4 : Int32), .int (((if (g0 0 8) = 0 then 0 else 8 : Int32) ||| (if (g0 31 1) = 0 then 0 else 1 : Int32)) ||| (if (g0 32 1) = 0 then 0 else 2 : Int32))]) := by
          refine lv_ior (pc := 41) hx hb dzU_gatherOutput_41 ?_
          refine lv_istore_n (lv' := [(1, .int ((((if (g0 0 8) = 0 then 0 else 8 : Int32) ||| (if (g0 31 1) = 0 then 0 else 1 : Int32)) ||| (if (g0 32 1) = 0 then 0 else 2 : Int32)) ||| (if (g0 33 1) = 0 then 0 else 4 : Int32))), (2, .int 2), (0, .ref (ad 0))]) (pc := 42) hx hb dzU_gatherOutput_42 rfl hl (by decide) rfl (fun ls hl => ?_)
          refine lv_iinc (k := 1) (x := 2) (v := 3) (lv' := [(2, .int 3), (1, .int ((((if (g0 0 8) = 0 then 0 else 8 : Int32) ||| (if (g0 31 1) = 0 then 0 else 1 : Int32)) ||| (if (g0 32 1) = 0 then 0 else 2 : Int32)) ||| (if (g0 33 1) = 0 then 0 else 4 : Int32))), (0, .ref (ad 0))]) (pc := 43) hx hb dzU_gatherOutput_43 hl rfl (by decide) (by decide) rfl (fun ls hl => ?_)
          refine lv_goto (tgt := 16) (pc := 46) hx hb dzU_gatherOutput_46 (by decide) ?_
          refine lv_iload_n (pc := 16) hx hb dzU_gatherOutput_16 rfl (lv_at hl 0 rfl) ?_
          refine lv_iconst (v := 3) (pc := 17) hx hb dzU_gatherOutput_17 (by decide) ?_
          refine lv_icmp_ge (pc := 18) (tgt := 49) hx hb dzU_gatherOutput_18 (by decide) (fun _ => ?_) (fun hq9 => absurd (by decide) hq9)
          refine lv_iconst (v := 0) (pc := 49) hx hb dzU_gatherOutput_49 (by decide) ?_
          refine lv_istore_n (lv' := [(2, .int 0), (1, .int ((((if (g0 0 8) = 0 then 0 else 8 : Int32) ||| (if (g0 31 1) = 0 then 0 else 1 : Int32)) ||| (if (g0 32 1) = 0 then 0 else 2 : Int32)) ||| (if (g0 33 1) = 0 then 0 else 4 : Int32))), (0, .ref (ad 0))]) (pc := 50) hx hb dzU_gatherOutput_50 rfl hl (by decide) rfl (fun ls hl => ?_)
          refine lv_iload_n (pc := 51) hx hb dzU_gatherOutput_51 rfl (lv_at hl 0 rfl) ?_
          refine lv_iconst (v := 2) (pc := 52) hx hb dzU_gatherOutput_52 (by decide) ?_
          refine lv_icmp_ge (pc := 53) (tgt := 138) hx hb dzU_gatherOutput_53 (by decide) (fun hq9 => absurd hq9 (by decide)) (fun _ => ?_)
          refine lv_iload_n (pc := 56) hx hb dzU_gatherOutput_56 rfl (lv_at hl 1 rfl) ?_
          refine lv_aload_n (pc := 57) hx hb dzU_gatherOutput_57 rfl (lv_at hl 2 rfl) ?_
          refine xk_get (pc := 58) hx hb hts hown hK hP ffzU_17 0 rfl rfl dzU_gatherOutput_58 ?_
          refine lv_iload_n (pc := 61) hx hb dzU_gatherOutput_61 rfl (lv_at hl 0 rfl) ?_
          refine xk_aald (q0 := 2) (t0 := 5) (j := 0) (b := (ad 29)) (pc := 62) hx hb hK hP rfl rfl (pk_in 0 2 (by decide)) (pk_cl 0) rfl dzU_gatherOutput_62 ?_
          refine xk_get (pc := 63) hx hb hts hown hK hP ffzU_351 29 rfl rfl dzU_gatherOutput_63 ?_
          refine lv_iconst (v := (-1)) (pc := 66) hx hb dzU_gatherOutput_66 (by decide) ?_
          have K5 : W p l e xk_r0 s m args below meth c H locs 0 0 Q (F0 m 80 ls [.int (if (g0 29 2) = (-1) then 16 else 0 : Int32), .int ((((if (g0 0 8) = 0 then 0 else 8 : Int32) ||| (if (g0 31 1) = 0 then 0 else 1 : Int32)) ||| (if (g0 32 1) = 0 then 0 else 2 : Int32)) ||| (if (g0 33 1) = 0 then 0 else 4 : Int32))]) := by
            refine lv_ior (pc := 80) hx hb dzU_gatherOutput_80 ?_
            refine lv_istore_n (lv' := [(1, .int (((((if (g0 0 8) = 0 then 0 else 8 : Int32) ||| (if (g0 31 1) = 0 then 0 else 1 : Int32)) ||| (if (g0 32 1) = 0 then 0 else 2 : Int32)) ||| (if (g0 33 1) = 0 then 0 else 4 : Int32)) ||| (if (g0 29 2) = (-1) then 16 else 0 : Int32))), (2, .int 0), (0, .ref (ad 0))]) (pc := 81) hx hb dzU_gatherOutput_81 rfl hl (by decide) rfl (fun ls hl => ?_)
            refine lv_iload_n (pc := 82) hx hb dzU_gatherOutput_82 rfl (lv_at hl 0 rfl) ?_
            refine lv_aload_n (pc := 83) hx hb dzU_gatherOutput_83 rfl (lv_at hl 2 rfl) ?_
            refine xk_get (pc := 84) hx hb hts hown hK hP ffzU_17 0 rfl rfl dzU_gatherOutput_84 ?_
            refine lv_iload_n (pc := 87) hx hb dzU_gatherOutput_87 rfl (lv_at hl 1 rfl) ?_
            refine xk_aald (q0 := 2) (t0 := 5) (j := 0) (b := (ad 29)) (pc := 88) hx hb hK hP rfl rfl (pk_in 0 2 (by decide)) (pk_cl 0) rfl dzU_gatherOutput_88 ?_
            refine xk_get (pc := 89) hx hb hts hown hK hP ffzU_351 29 rfl rfl dzU_gatherOutput_89 ?_
            refine lv_iconst (v := 1) (pc := 92) hx hb dzU_gatherOutput_92 (by decide) ?_
            have K6 : W p l e xk_r0 s m args below meth c H locs 0 0 Q (F0 m 106 ls [.int (if (g0 29 2) = 1 then 32 else 0 : Int32), .int (((((if (g0 0 8) = 0 then 0 else 8 : Int32) ||| (if (g0 31 1) = 0 then 0 else 1 : Int32)) ||| (if (g0 32 1) = 0 then 0 else 2 : Int32)) ||| (if (g0 33 1) = 0 then 0 else 4 : Int32)) ||| (if (g0 29 2) = (-1) then 16 else 0 : Int32))]) := by
              refine lv_ior (pc := 106) hx hb dzU_gatherOutput_106 ?_
              refine lv_istore_n (lv' := [(1, .int ((((((if (g0 0 8) = 0 then 0 else 8 : Int32) ||| (if (g0 31 1) = 0 then 0 else 1 : Int32)) ||| (if (g0 32 1) = 0 then 0 else 2 : Int32)) ||| (if (g0 33 1) = 0 then 0 else 4 : Int32)) ||| (if (g0 29 2) = (-1) then 16 else 0 : Int32)) ||| (if (g0 29 2) = 1 then 32 else 0 : Int32))), (2, .int 0), (0, .ref (ad 0))]) (pc := 107) hx hb dzU_gatherOutput_107 rfl hl (by decide) rfl (fun ls hl => ?_)
              refine lv_iload_n (pc := 108) hx hb dzU_gatherOutput_108 rfl (lv_at hl 0 rfl) ?_
              refine lv_aload_n (pc := 109) hx hb dzU_gatherOutput_109 rfl (lv_at hl 2 rfl) ?_
              refine xk_get (pc := 110) hx hb hts hown hK hP ffzU_17 0 rfl rfl dzU_gatherOutput_110 ?_
              refine lv_iload_n (pc := 113) hx hb dzU_gatherOutput_113 rfl (lv_at hl 1 rfl) ?_
              refine xk_aald (q0 := 2) (t0 := 5) (j := 0) (b := (ad 29)) (pc := 114) hx hb hK hP rfl rfl (pk_in 0 2 (by decide)) (pk_cl 0) rfl dzU_gatherOutput_114 ?_
              refine xk_get (pc := 115) hx hb hts hown hK hP ffzU_329 29 rfl rfl dzU_gatherOutput_115 ?_
              have K7 : W p l e xk_r0 s m args below meth c H locs 0 0 Q (F0 m 130 ls [.int (if (g0 29 5) = 0 then 0 else 1024 : Int32), .int ((((((if (g0 0 8) = 0 then 0 else 8 : Int32) ||| (if (g0 31 1) = 0 then 0 else 1 : Int32)) ||| (if (g0 32 1) = 0 then 0 else 2 : Int32)) ||| (if (g0 33 1) = 0 then 0 else 4 : Int32)) ||| (if (g0 29 2) = (-1) then 16 else 0 : Int32)) ||| (if (g0 29 2) = 1 then 32 else 0 : Int32))]) := by
                refine lv_ior (pc := 130) hx hb dzU_gatherOutput_130 ?_
                refine lv_istore_n (lv' := [(1, .int (((((((if (g0 0 8) = 0 then 0 else 8 : Int32) ||| (if (g0 31 1) = 0 then 0 else 1 : Int32)) ||| (if (g0 32 1) = 0 then 0 else 2 : Int32)) ||| (if (g0 33 1) = 0 then 0 else 4 : Int32)) ||| (if (g0 29 2) = (-1) then 16 else 0 : Int32)) ||| (if (g0 29 2) = 1 then 32 else 0 : Int32)) ||| (if (g0 29 5) = 0 then 0 else 1024 : Int32))), (2, .int 0), (0, .ref (ad 0))]) (pc := 131) hx hb dzU_gatherOutput_131 rfl hl (by decide) rfl (fun ls hl => ?_)
                refine lv_iinc (k := 1) (x := 0) (v := 1) (lv' := [(2, .int 1), (1, .int (((((((if (g0 0 8) = 0 then 0 else 8 : Int32) ||| (if (g0 31 1) = 0 then 0 else 1 : Int32)) ||| (if (g0 32 1) = 0 then 0 else 2 : Int32)) ||| (if (g0 33 1) = 0 then 0 else 4 : Int32)) ||| (if (g0 29 2) = (-1) then 16 else 0 : Int32)) ||| (if (g0 29 2) = 1 then 32 else 0 : Int32)) ||| (if (g0 29 5) = 0 then 0 else 1024 : Int32))), (0, .ref (ad 0))]) (pc := 132) hx hb dzU_gatherOutput_132 hl rfl (by decide) (by decide) rfl (fun ls hl => ?_)
                refine lv_goto (tgt := 51) (pc := 135) hx hb dzU_gatherOutput_135 (by decide) ?_
                refine lv_iload_n (pc := 51) hx hb dzU_gatherOutput_51 rfl (lv_at hl 0 rfl) ?_
                refine lv_iconst (v := 2) (pc := 52) hx hb dzU_gatherOutput_52 (by decide) ?_
                refine lv_icmp_ge (pc := 53) (tgt := 138) hx hb dzU_gatherOutput_53 (by decide) (fun hq9 => absurd hq9 (by decide)) (fun _ => ?_)
                refine lv_iload_n (pc := 56) hx hb dzU_gatherOutput_56 rfl (lv_at hl 1 rfl) ?_
                refine lv_aload_n (pc := 57) hx hb dzU_gatherOutput_57 rfl (lv_at hl 2 rfl) ?_
                refine xk_get (pc := 58) hx hb hts hown hK hP ffzU_17 0 rfl rfl dzU_gatherOutput_58 ?_
                refine lv_iload_n (pc := 61) hx hb dzU_gatherOutput_61 rfl (lv_at hl 0 rfl) ?_
                refine xk_aald (q0 := 2) (t0 := 5) (j := 1) (b := (ad 30)) (pc := 62) hx hb hK hP rfl rfl (pk_in 1 2 (by decide)) (pk_cl 1) rfl dzU_gatherOutput_62 ?_
                refine xk_get (pc := 63) hx hb hts hown hK hP ffzU_351 30 rfl rfl dzU_gatherOutput_63 ?_
                refine lv_iconst (v := (-1)) (pc := 66) hx hb dzU_gatherOutput_66 (by decide) ?_
                have K8 : W p l e xk_r0 s m args below meth c H locs 0 0 Q (F0 m 80 ls [.int (if (g0 30 2) = (-1) then 64 else 0 : Int32), .int (((((((if (g0 0 8) = 0 then 0 else 8 : Int32) ||| (if (g0 31 1) = 0 then 0 else 1 : Int32)) ||| (if (g0 32 1) = 0 then 0 else 2 : Int32)) ||| (if (g0 33 1) = 0 then 0 else 4 : Int32)) ||| (if (g0 29 2) = (-1) then 16 else 0 : Int32)) ||| (if (g0 29 2) = 1 then 32 else 0 : Int32)) ||| (if (g0 29 5) = 0 then 0 else 1024 : Int32))]) := by
                  refine lv_ior (pc := 80) hx hb dzU_gatherOutput_80 ?_
                  refine lv_istore_n (lv' := [(1, .int ((((((((if (g0 0 8) = 0 then 0 else 8 : Int32) ||| (if (g0 31 1) = 0 then 0 else 1 : Int32)) ||| (if (g0 32 1) = 0 then 0 else 2 : Int32)) ||| (if (g0 33 1) = 0 then 0 else 4 : Int32)) ||| (if (g0 29 2) = (-1) then 16 else 0 : Int32)) ||| (if (g0 29 2) = 1 then 32 else 0 : Int32)) ||| (if (g0 29 5) = 0 then 0 else 1024 : Int32)) ||| (if (g0 30 2) = (-1) then 64 else 0 : Int32))), (2, .int 1), (0, .ref (ad 0))]) (pc := 81) hx hb dzU_gatherOutput_81 rfl hl (by decide) rfl (fun ls hl => ?_)
                  refine lv_iload_n (pc := 82) hx hb dzU_gatherOutput_82 rfl (lv_at hl 0 rfl) ?_
                  refine lv_aload_n (pc := 83) hx hb dzU_gatherOutput_83 rfl (lv_at hl 2 rfl) ?_
                  refine xk_get (pc := 84) hx hb hts hown hK hP ffzU_17 0 rfl rfl dzU_gatherOutput_84 ?_
                  refine lv_iload_n (pc := 87) hx hb dzU_gatherOutput_87 rfl (lv_at hl 1 rfl) ?_
                  refine xk_aald (q0 := 2) (t0 := 5) (j := 1) (b := (ad 30)) (pc := 88) hx hb hK hP rfl rfl (pk_in 1 2 (by decide)) (pk_cl 1) rfl dzU_gatherOutput_88 ?_
                  refine xk_get (pc := 89) hx hb hts hown hK hP ffzU_351 30 rfl rfl dzU_gatherOutput_89 ?_
                  refine lv_iconst (v := 1) (pc := 92) hx hb dzU_gatherOutput_92 (by decide) ?_
                  have K9 : W p l e xk_r0 s m args below meth c H locs 0 0 Q (F0 m 106 ls [.int (if (g0 30 2) = 1 then 128 else 0 : Int32), .int ((((((((if (g0 0 8) = 0 then 0 else 8 : Int32) ||| (if (g0 31 1) = 0 then 0 else 1 : Int32)) ||| (if (g0 32 1) = 0 then 0 else 2 : Int32)) ||| (if (g0 33 1) = 0 then 0 else 4 : Int32)) ||| (if (g0 29 2) = (-1) then 16 else 0 : Int32)) ||| (if (g0 29 2) = 1 then 32 else 0 : Int32)) ||| (if (g0 29 5) = 0 then 0 else 1024 : Int32)) ||| (if (g0 30 2) = (-1) then 64 else 0 : Int32))]) := by
                    refine lv_ior (pc := 106) hx hb dzU_gatherOutput_106 ?_
                    refine lv_istore_n (lv' := [(1, .int (((((((((if (g0 0 8) = 0 then 0 else 8 : Int32) ||| (if (g0 31 1) = 0 then 0 else 1 : Int32)) ||| (if (g0 32 1) = 0 then 0 else 2 : Int32)) ||| (if (g0 33 1) = 0 then 0 else 4 : Int32)) ||| (if (g0 29 2) = (-1) then 16 else 0 : Int32)) ||| (if (g0 29 2) = 1 then 32 else 0 : Int32)) ||| (if (g0 29 5) = 0 then 0 else 1024 : Int32)) ||| (if (g0 30 2) = (-1) then 64 else 0 : Int32)) ||| (if (g0 30 2) = 1 then 128 else 0 : Int32))), (2, .int 1), (0, .ref (ad 0))]) (pc := 107) hx hb dzU_gatherOutput_107 rfl hl (by decide) rfl (fun ls hl => ?_)
                    refine lv_iload_n (pc := 108) hx hb dzU_gatherOutput_108 rfl (lv_at hl 0 rfl) ?_
                    refine lv_aload_n (pc := 109) hx hb dzU_gatherOutput_109 rfl (lv_at hl 2 rfl) ?_
                    refine xk_get (pc := 110) hx hb hts hown hK hP ffzU_17 0 rfl rfl dzU_gatherOutput_110 ?_
                    refine lv_iload_n (pc := 113) hx hb dzU_gatherOutput_113 rfl (lv_at hl 1 rfl) ?_
                    refine xk_aald (q0 := 2) (t0 := 5) (j := 1) (b := (ad 30)) (pc := 114) hx hb hK hP rfl rfl (pk_in 1 2 (by decide)) (pk_cl 1) rfl dzU_gatherOutput_114 ?_
                    refine xk_get (pc := 115) hx hb hts hown hK hP ffzU_329 30 rfl rfl dzU_gatherOutput_115 ?_
                    have K10 : W p l e xk_r0 s m args below meth c H locs 0 0 Q (F0 m 130 ls [.int (if (g0 30 5) = 0 then 0 else 2048 : Int32), .int (((((((((if (g0 0 8) = 0 then 0 else 8 : Int32) ||| (if (g0 31 1) = 0 then 0 else 1 : Int32)) ||| (if (g0 32 1) = 0 then 0 else 2 : Int32)) ||| (if (g0 33 1) = 0 then 0 else 4 : Int32)) ||| (if (g0 29 2) = (-1) then 16 else 0 : Int32)) ||| (if (g0 29 2) = 1 then 32 else 0 : Int32)) ||| (if (g0 29 5) = 0 then 0 else 1024 : Int32)) ||| (if (g0 30 2) = (-1) then 64 else 0 : Int32)) ||| (if (g0 30 2) = 1 then 128 else 0 : Int32))]) := by
                      refine lv_ior (pc := 130) hx hb dzU_gatherOutput_130 ?_
                      refine lv_istore_n (lv' := [(1, .int ((((((((((if (g0 0 8) = 0 then 0 else 8 : Int32) ||| (if (g0 31 1) = 0 then 0 else 1 : Int32)) ||| (if (g0 32 1) = 0 then 0 else 2 : Int32)) ||| (if (g0 33 1) = 0 then 0 else 4 : Int32)) ||| (if (g0 29 2) = (-1) then 16 else 0 : Int32)) ||| (if (g0 29 2) = 1 then 32 else 0 : Int32)) ||| (if (g0 29 5) = 0 then 0 else 1024 : Int32)) ||| (if (g0 30 2) = (-1) then 64 else 0 : Int32)) ||| (if (g0 30 2) = 1 then 128 else 0 : Int32)) ||| (if (g0 30 5) = 0 then 0 else 2048 : Int32))), (2, .int 1), (0, .ref (ad 0))]) (pc := 131) hx hb dzU_gatherOutput_131 rfl hl (by decide) rfl (fun ls hl => ?_)
                      refine lv_iinc (k := 1) (x := 1) (v := 2) (lv' := [(2, .int 2), (1, .int ((((((((((if (g0 0 8) = 0 then 0 else 8 : Int32) ||| (if (g0 31 1) = 0 then 0 else 1 : Int32)) ||| (if (g0 32 1) = 0 then 0 else 2 : Int32)) ||| (if (g0 33 1) = 0 then 0 else 4 : Int32)) ||| (if (g0 29 2) = (-1) then 16 else 0 : Int32)) ||| (if (g0 29 2) = 1 then 32 else 0 : Int32)) ||| (if (g0 29 5) = 0 then 0 else 1024 : Int32)) ||| (if (g0 30 2) = (-1) then 64 else 0 : Int32)) ||| (if (g0 30 2) = 1 then 128 else 0 : Int32)) ||| (if (g0 30 5) = 0 then 0 else 2048 : Int32))), (0, .ref (ad 0))]) (pc := 132) hx hb dzU_gatherOutput_132 hl rfl (by decide) (by decide) rfl (fun ls hl => ?_)
                      refine lv_goto (tgt := 51) (pc := 135) hx hb dzU_gatherOutput_135 (by decide) ?_
                      refine lv_iload_n (pc := 51) hx hb dzU_gatherOutput_51 rfl (lv_at hl 0 rfl) ?_
                      refine lv_iconst (v := 2) (pc := 52) hx hb dzU_gatherOutput_52 (by decide) ?_
                      refine lv_icmp_ge (pc := 53) (tgt := 138) hx hb dzU_gatherOutput_53 (by decide) (fun _ => ?_) (fun hq9 => absurd (by decide) hq9)
                      refine lv_iconst (v := 0) (pc := 138) hx hb dzU_gatherOutput_138 (by decide) ?_
                      refine lv_istore_n (lv' := [(2, .int 0), (1, .int ((((((((((if (g0 0 8) = 0 then 0 else 8 : Int32) ||| (if (g0 31 1) = 0 then 0 else 1 : Int32)) ||| (if (g0 32 1) = 0 then 0 else 2 : Int32)) ||| (if (g0 33 1) = 0 then 0 else 4 : Int32)) ||| (if (g0 29 2) = (-1) then 16 else 0 : Int32)) ||| (if (g0 29 2) = 1 then 32 else 0 : Int32)) ||| (if (g0 29 5) = 0 then 0 else 1024 : Int32)) ||| (if (g0 30 2) = (-1) then 64 else 0 : Int32)) ||| (if (g0 30 2) = 1 then 128 else 0 : Int32)) ||| (if (g0 30 5) = 0 then 0 else 2048 : Int32))), (0, .ref (ad 0))]) (pc := 139) hx hb dzU_gatherOutput_139 rfl hl (by decide) rfl (fun ls hl => ?_)
                      refine lv_iload_n (pc := 140) hx hb dzU_gatherOutput_140 rfl (lv_at hl 0 rfl) ?_
                      refine lv_iconst (v := 2) (pc := 141) hx hb dzU_gatherOutput_141 (by decide) ?_
                      refine lv_icmp_ge (pc := 142) (tgt := 175) hx hb dzU_gatherOutput_142 (by decide) (fun hq9 => absurd hq9 (by decide)) (fun _ => ?_)
                      refine lv_iload_n (pc := 145) hx hb dzU_gatherOutput_145 rfl (lv_at hl 1 rfl) ?_
                      refine lv_aload_n (pc := 146) hx hb dzU_gatherOutput_146 rfl (lv_at hl 2 rfl) ?_
                      refine xk_get (pc := 147) hx hb hts hown hK hP ffzU_11 0 rfl rfl dzU_gatherOutput_147 ?_
                      refine lv_iload_n (pc := 150) hx hb dzU_gatherOutput_150 rfl (lv_at hl 0 rfl) ?_
                      refine xk_aald (q0 := 1) (t0 := 2) (j := 0) (b := (ad 9)) (pc := 151) hx hb hK hP rfl rfl (pk_in 0 2 (by decide)) (pk_cl 0) rfl dzU_gatherOutput_151 ?_
                      refine xk_get (pc := 152) hx hb hts hown hK hP ffzU_345 9 rfl rfl dzU_gatherOutput_152 ?_
                      have K11 : W p l e xk_r0 s m args below meth c H locs 0 0 Q (F0 m 167 ls [.int (if (g0 9 5) = 0 then 0 else 256 : Int32), .int ((((((((((if (g0 0 8) = 0 then 0 else 8 : Int32) ||| (if (g0 31 1) = 0 then 0 else 1 : Int32)) ||| (if (g0 32 1) = 0 then 0 else 2 : Int32)) ||| (if (g0 33 1) = 0 then 0 else 4 : Int32)) ||| (if (g0 29 2) = (-1) then 16 else 0 : Int32)) ||| (if (g0 29 2) = 1 then 32 else 0 : Int32)) ||| (if (g0 29 5) = 0 then 0 else 1024 : Int32)) ||| (if (g0 30 2) = (-1) then 64 else 0 : Int32)) ||| (if (g0 30 2) = 1 then 128 else 0 : Int32)) ||| (if (g0 30 5) = 0 then 0 else 2048 : Int32))]) := by
                        refine lv_ior (pc := 167) hx hb dzU_gatherOutput_167 ?_
                        refine lv_istore_n (lv' := [(1, .int (((((((((((if (g0 0 8) = 0 then 0 else 8 : Int32) ||| (if (g0 31 1) = 0 then 0 else 1 : Int32)) ||| (if (g0 32 1) = 0 then 0 else 2 : Int32)) ||| (if (g0 33 1) = 0 then 0 else 4 : Int32)) ||| (if (g0 29 2) = (-1) then 16 else 0 : Int32)) ||| (if (g0 29 2) = 1 then 32 else 0 : Int32)) ||| (if (g0 29 5) = 0 then 0 else 1024 : Int32)) ||| (if (g0 30 2) = (-1) then 64 else 0 : Int32)) ||| (if (g0 30 2) = 1 then 128 else 0 : Int32)) ||| (if (g0 30 5) = 0 then 0 else 2048 : Int32)) ||| (if (g0 9 5) = 0 then 0 else 256 : Int32))), (2, .int 0), (0, .ref (ad 0))]) (pc := 168) hx hb dzU_gatherOutput_168 rfl hl (by decide) rfl (fun ls hl => ?_)
                        refine lv_iinc (k := 1) (x := 0) (v := 1) (lv' := [(2, .int 1), (1, .int (((((((((((if (g0 0 8) = 0 then 0 else 8 : Int32) ||| (if (g0 31 1) = 0 then 0 else 1 : Int32)) ||| (if (g0 32 1) = 0 then 0 else 2 : Int32)) ||| (if (g0 33 1) = 0 then 0 else 4 : Int32)) ||| (if (g0 29 2) = (-1) then 16 else 0 : Int32)) ||| (if (g0 29 2) = 1 then 32 else 0 : Int32)) ||| (if (g0 29 5) = 0 then 0 else 1024 : Int32)) ||| (if (g0 30 2) = (-1) then 64 else 0 : Int32)) ||| (if (g0 30 2) = 1 then 128 else 0 : Int32)) ||| (if (g0 30 5) = 0 then 0 else 2048 : Int32)) ||| (if (g0 9 5) = 0 then 0 else 256 : Int32))), (0, .ref (ad 0))]) (pc := 169) hx hb dzU_gatherOutput_169 hl rfl (by decide) (by decide) rfl (fun ls hl => ?_)
                        refine lv_goto (tgt := 140) (pc := 172) hx hb dzU_gatherOutput_172 (by decide) ?_
                        refine lv_iload_n (pc := 140) hx hb dzU_gatherOutput_140 rfl (lv_at hl 0 rfl) ?_
                        refine lv_iconst (v := 2) (pc := 141) hx hb dzU_gatherOutput_141 (by decide) ?_
                        refine lv_icmp_ge (pc := 142) (tgt := 175) hx hb dzU_gatherOutput_142 (by decide) (fun hq9 => absurd hq9 (by decide)) (fun _ => ?_)
                        refine lv_iload_n (pc := 145) hx hb dzU_gatherOutput_145 rfl (lv_at hl 1 rfl) ?_
                        refine lv_aload_n (pc := 146) hx hb dzU_gatherOutput_146 rfl (lv_at hl 2 rfl) ?_
                        refine xk_get (pc := 147) hx hb hts hown hK hP ffzU_11 0 rfl rfl dzU_gatherOutput_147 ?_
                        refine lv_iload_n (pc := 150) hx hb dzU_gatherOutput_150 rfl (lv_at hl 0 rfl) ?_
                        refine xk_aald (q0 := 1) (t0 := 2) (j := 1) (b := (ad 10)) (pc := 151) hx hb hK hP rfl rfl (pk_in 1 2 (by decide)) (pk_cl 1) rfl dzU_gatherOutput_151 ?_
                        refine xk_get (pc := 152) hx hb hts hown hK hP ffzU_345 10 rfl rfl dzU_gatherOutput_152 ?_
                        have K12 : W p l e xk_r0 s m args below meth c H locs 0 0 Q (F0 m 167 ls [.int (if (g0 10 5) = 0 then 0 else 512 : Int32), .int (((((((((((if (g0 0 8) = 0 then 0 else 8 : Int32) ||| (if (g0 31 1) = 0 then 0 else 1 : Int32)) ||| (if (g0 32 1) = 0 then 0 else 2 : Int32)) ||| (if (g0 33 1) = 0 then 0 else 4 : Int32)) ||| (if (g0 29 2) = (-1) then 16 else 0 : Int32)) ||| (if (g0 29 2) = 1 then 32 else 0 : Int32)) ||| (if (g0 29 5) = 0 then 0 else 1024 : Int32)) ||| (if (g0 30 2) = (-1) then 64 else 0 : Int32)) ||| (if (g0 30 2) = 1 then 128 else 0 : Int32)) ||| (if (g0 30 5) = 0 then 0 else 2048 : Int32)) ||| (if (g0 9 5) = 0 then 0 else 256 : Int32))]) := by
                          refine lv_ior (pc := 167) hx hb dzU_gatherOutput_167 ?_
                          refine lv_istore_n (lv' := [(1, .int ((((((((((((if (g0 0 8) = 0 then 0 else 8 : Int32) ||| (if (g0 31 1) = 0 then 0 else 1 : Int32)) ||| (if (g0 32 1) = 0 then 0 else 2 : Int32)) ||| (if (g0 33 1) = 0 then 0 else 4 : Int32)) ||| (if (g0 29 2) = (-1) then 16 else 0 : Int32)) ||| (if (g0 29 2) = 1 then 32 else 0 : Int32)) ||| (if (g0 29 5) = 0 then 0 else 1024 : Int32)) ||| (if (g0 30 2) = (-1) then 64 else 0 : Int32)) ||| (if (g0 30 2) = 1 then 128 else 0 : Int32)) ||| (if (g0 30 5) = 0 then 0 else 2048 : Int32)) ||| (if (g0 9 5) = 0 then 0 else 256 : Int32)) ||| (if (g0 10 5) = 0 then 0 else 512 : Int32))), (2, .int 1), (0, .ref (ad 0))]) (pc := 168) hx hb dzU_gatherOutput_168 rfl hl (by decide) rfl (fun ls hl => ?_)
                          refine lv_iinc (k := 1) (x := 1) (v := 2) (lv' := [(2, .int 2), (1, .int ((((((((((((if (g0 0 8) = 0 then 0 else 8 : Int32) ||| (if (g0 31 1) = 0 then 0 else 1 : Int32)) ||| (if (g0 32 1) = 0 then 0 else 2 : Int32)) ||| (if (g0 33 1) = 0 then 0 else 4 : Int32)) ||| (if (g0 29 2) = (-1) then 16 else 0 : Int32)) ||| (if (g0 29 2) = 1 then 32 else 0 : Int32)) ||| (if (g0 29 5) = 0 then 0 else 1024 : Int32)) ||| (if (g0 30 2) = (-1) then 64 else 0 : Int32)) ||| (if (g0 30 2) = 1 then 128 else 0 : Int32)) ||| (if (g0 30 5) = 0 then 0 else 2048 : Int32)) ||| (if (g0 9 5) = 0 then 0 else 256 : Int32)) ||| (if (g0 10 5) = 0 then 0 else 512 : Int32))), (0, .ref (ad 0))]) (pc := 169) hx hb dzU_gatherOutput_169 hl rfl (by decide) (by decide) rfl (fun ls hl => ?_)
                          refine lv_goto (tgt := 140) (pc := 172) hx hb dzU_gatherOutput_172 (by decide) ?_
                          refine lv_iload_n (pc := 140) hx hb dzU_gatherOutput_140 rfl (lv_at hl 0 rfl) ?_
                          refine lv_iconst (v := 2) (pc := 141) hx hb dzU_gatherOutput_141 (by decide) ?_
                          refine lv_icmp_ge (pc := 142) (tgt := 175) hx hb dzU_gatherOutput_142 (by decide) (fun _ => ?_) (fun hq9 => absurd (by decide) hq9)
                          refine lv_iload_n (pc := 175) hx hb dzU_gatherOutput_175 rfl (lv_at hl 1 rfl) ?_
                          have jr : qzU_gatherOutput g0 = (((((((((((if (g0 0 8) = 0 then 0 else 8 : Int32) ||| (if (g0 31 1) = 0 then 0 else 1 : Int32)) ||| (if (g0 32 1) = 0 then 0 else 2 : Int32)) ||| (if (g0 33 1) = 0 then 0 else 4 : Int32)) ||| (if (g0 29 2) = (-1) then 16 else 0 : Int32)) ||| (if (g0 29 2) = 1 then 32 else 0 : Int32)) ||| (if (g0 29 5) = 0 then 0 else 1024 : Int32)) ||| (if (g0 30 2) = (-1) then 64 else 0 : Int32)) ||| (if (g0 30 2) = 1 then 128 else 0 : Int32)) ||| (if (g0 30 5) = 0 then 0 else 2048 : Int32)) ||| (if (g0 9 5) = 0 then 0 else 256 : Int32)) ||| (if (g0 10 5) = 0 then 0 else 512 : Int32) := by unfold qzU_gatherOutput; rfl
                          exact hret _ () H locs 176 ls hP hS rfl jr.symm dzU_gatherOutput_176
                        refine lv_if_eq (pc := 155) (tgt := 166) hx hb dzU_gatherOutput_155 (by decide) (fun h12 => ?_) (fun h12 => ?_)
                        ·
                          refine lv_iconst (v := 0) (pc := 166) hx hb dzU_gatherOutput_166 (by decide) ?_
                          have K9 := K12
                          try simp only [if_pos h12] at K9
                          first | exact K9 | (simp only [if_pos h12]; exact K9)
                        ·
                          refine lv_sipush (v := 256) (pc := 158) hx hb dzU_gatherOutput_158 (by decide) ?_
                          refine lv_iload_n (pc := 161) hx hb dzU_gatherOutput_161 rfl (lv_at hl 0 rfl) ?_
                          refine lv_ishl (pc := 162) hx hb dzU_gatherOutput_162 ?_
                          refine xk_is (y := 512) (by decide) ?_
                          refine lv_goto (tgt := 167) (pc := 163) hx hb dzU_gatherOutput_163 (by decide) ?_
                          have K9 := K12
                          try simp only [if_neg h12] at K9
                          first | exact K9 | (simp only [if_neg h12]; exact K9)
                      refine lv_if_eq (pc := 155) (tgt := 166) hx hb dzU_gatherOutput_155 (by decide) (fun h11 => ?_) (fun h11 => ?_)
                      ·
                        refine lv_iconst (v := 0) (pc := 166) hx hb dzU_gatherOutput_166 (by decide) ?_
                        have K9 := K11
                        try simp only [if_pos h11] at K9
                        first | exact K9 | (simp only [if_pos h11]; exact K9)
                      ·
                        refine lv_sipush (v := 256) (pc := 158) hx hb dzU_gatherOutput_158 (by decide) ?_
                        refine lv_iload_n (pc := 161) hx hb dzU_gatherOutput_161 rfl (lv_at hl 0 rfl) ?_
                        refine lv_ishl (pc := 162) hx hb dzU_gatherOutput_162 ?_
                        refine xk_is (y := 256) (by decide) ?_
                        refine lv_goto (tgt := 167) (pc := 163) hx hb dzU_gatherOutput_163 (by decide) ?_
                        have K9 := K11
                        try simp only [if_neg h11] at K9
                        first | exact K9 | (simp only [if_neg h11]; exact K9)
                    refine lv_if_eq (pc := 118) (tgt := 129) hx hb dzU_gatherOutput_118 (by decide) (fun h10 => ?_) (fun h10 => ?_)
                    ·
                      refine lv_iconst (v := 0) (pc := 129) hx hb dzU_gatherOutput_129 (by decide) ?_
                      have K9 := K10
                      try simp only [if_pos h10] at K9
                      first | exact K9 | (simp only [if_pos h10]; exact K9)
                    ·
                      refine lv_sipush (v := 1024) (pc := 121) hx hb dzU_gatherOutput_121 (by decide) ?_
                      refine lv_iload_n (pc := 124) hx hb dzU_gatherOutput_124 rfl (lv_at hl 1 rfl) ?_
                      refine lv_ishl (pc := 125) hx hb dzU_gatherOutput_125 ?_
                      refine xk_is (y := 2048) (by decide) ?_
                      refine lv_goto (tgt := 130) (pc := 126) hx hb dzU_gatherOutput_126 (by decide) ?_
                      have K9 := K10
                      try simp only [if_neg h10] at K9
                      first | exact K9 | (simp only [if_neg h10]; exact K9)
                  refine lv_icmp_ne (pc := 93) (tgt := 105) hx hb dzU_gatherOutput_93 (by decide) (fun h9 => ?_) (fun h9 => ?_)
                  ·
                    refine lv_iconst (v := 0) (pc := 105) hx hb dzU_gatherOutput_105 (by decide) ?_
                    have K9 := K9
                    try simp only [if_neg h9] at K9
                    first | exact K9 | (simp only [if_neg h9]; exact K9)
                  ·
                    refine lv_bipush (v := 32) (pc := 96) hx hb dzU_gatherOutput_96 (by decide) ?_
                    refine lv_iconst (v := 2) (pc := 98) hx hb dzU_gatherOutput_98 (by decide) ?_
                    refine lv_iload_n (pc := 99) hx hb dzU_gatherOutput_99 rfl (lv_at hl 1 rfl) ?_
                    refine lv_imul (pc := 100) hx hb dzU_gatherOutput_100 ?_
                    refine xk_is (y := 2) (by decide) ?_
                    refine lv_ishl (pc := 101) hx hb dzU_gatherOutput_101 ?_
                    refine xk_is (y := 128) (by decide) ?_
                    refine lv_goto (tgt := 106) (pc := 102) hx hb dzU_gatherOutput_102 (by decide) ?_
                    have K9 := K9
                    try simp only [if_pos h9] at K9
                    first | exact K9 | (simp only [if_pos h9]; exact K9)
                refine lv_icmp_ne (pc := 67) (tgt := 79) hx hb dzU_gatherOutput_67 (by decide) (fun h8 => ?_) (fun h8 => ?_)
                ·
                  refine lv_iconst (v := 0) (pc := 79) hx hb dzU_gatherOutput_79 (by decide) ?_
                  have K9 := K8
                  try simp only [if_neg h8] at K9
                  first | exact K9 | (simp only [if_neg h8]; exact K9)
                ·
                  refine lv_bipush (v := 16) (pc := 70) hx hb dzU_gatherOutput_70 (by decide) ?_
                  refine lv_iconst (v := 2) (pc := 72) hx hb dzU_gatherOutput_72 (by decide) ?_
                  refine lv_iload_n (pc := 73) hx hb dzU_gatherOutput_73 rfl (lv_at hl 0 rfl) ?_
                  refine lv_imul (pc := 74) hx hb dzU_gatherOutput_74 ?_
                  refine xk_is (y := 2) (by decide) ?_
                  refine lv_ishl (pc := 75) hx hb dzU_gatherOutput_75 ?_
                  refine xk_is (y := 64) (by decide) ?_
                  refine lv_goto (tgt := 80) (pc := 76) hx hb dzU_gatherOutput_76 (by decide) ?_
                  have K9 := K8
                  try simp only [if_pos h8] at K9
                  first | exact K9 | (simp only [if_pos h8]; exact K9)
              refine lv_if_eq (pc := 118) (tgt := 129) hx hb dzU_gatherOutput_118 (by decide) (fun h7 => ?_) (fun h7 => ?_)
              ·
                refine lv_iconst (v := 0) (pc := 129) hx hb dzU_gatherOutput_129 (by decide) ?_
                have K9 := K7
                try simp only [if_pos h7] at K9
                first | exact K9 | (simp only [if_pos h7]; exact K9)
              ·
                refine lv_sipush (v := 1024) (pc := 121) hx hb dzU_gatherOutput_121 (by decide) ?_
                refine lv_iload_n (pc := 124) hx hb dzU_gatherOutput_124 rfl (lv_at hl 1 rfl) ?_
                refine lv_ishl (pc := 125) hx hb dzU_gatherOutput_125 ?_
                refine xk_is (y := 1024) (by decide) ?_
                refine lv_goto (tgt := 130) (pc := 126) hx hb dzU_gatherOutput_126 (by decide) ?_
                have K9 := K7
                try simp only [if_neg h7] at K9
                first | exact K9 | (simp only [if_neg h7]; exact K9)
            refine lv_icmp_ne (pc := 93) (tgt := 105) hx hb dzU_gatherOutput_93 (by decide) (fun h6 => ?_) (fun h6 => ?_)
            ·
              refine lv_iconst (v := 0) (pc := 105) hx hb dzU_gatherOutput_105 (by decide) ?_
              have K9 := K6
              try simp only [if_neg h6] at K9
              first | exact K9 | (simp only [if_neg h6]; exact K9)
            ·
              refine lv_bipush (v := 32) (pc := 96) hx hb dzU_gatherOutput_96 (by decide) ?_
              refine lv_iconst (v := 2) (pc := 98) hx hb dzU_gatherOutput_98 (by decide) ?_
              refine lv_iload_n (pc := 99) hx hb dzU_gatherOutput_99 rfl (lv_at hl 1 rfl) ?_
              refine lv_imul (pc := 100) hx hb dzU_gatherOutput_100 ?_
              refine xk_is (y := 0) (by decide) ?_
              refine lv_ishl (pc := 101) hx hb dzU_gatherOutput_101 ?_
              refine xk_is (y := 32) (by decide) ?_
              refine lv_goto (tgt := 106) (pc := 102) hx hb dzU_gatherOutput_102 (by decide) ?_
              have K9 := K6
              try simp only [if_pos h6] at K9
              first | exact K9 | (simp only [if_pos h6]; exact K9)
          refine lv_icmp_ne (pc := 67) (tgt := 79) hx hb dzU_gatherOutput_67 (by decide) (fun h5 => ?_) (fun h5 => ?_)
          ·
            refine lv_iconst (v := 0) (pc := 79) hx hb dzU_gatherOutput_79 (by decide) ?_
            have K9 := K5
            try simp only [if_neg h5] at K9
            first | exact K9 | (simp only [if_neg h5]; exact K9)
          ·
            refine lv_bipush (v := 16) (pc := 70) hx hb dzU_gatherOutput_70 (by decide) ?_
            refine lv_iconst (v := 2) (pc := 72) hx hb dzU_gatherOutput_72 (by decide) ?_
            refine lv_iload_n (pc := 73) hx hb dzU_gatherOutput_73 rfl (lv_at hl 0 rfl) ?_
            refine lv_imul (pc := 74) hx hb dzU_gatherOutput_74 ?_
            refine xk_is (y := 0) (by decide) ?_
            refine lv_ishl (pc := 75) hx hb dzU_gatherOutput_75 ?_
            refine xk_is (y := 16) (by decide) ?_
            refine lv_goto (tgt := 80) (pc := 76) hx hb dzU_gatherOutput_76 (by decide) ?_
            have K9 := K5
            try simp only [if_pos h5] at K9
            first | exact K9 | (simp only [if_pos h5]; exact K9)
        refine lv_if_eq (pc := 31) (tgt := 40) hx hb dzU_gatherOutput_31 (by decide) (fun h4 => ?_) (fun h4 => ?_)
        ·
          refine lv_iconst (v := 0) (pc := 40) hx hb dzU_gatherOutput_40 (by decide) ?_
          have K9 := K4
          try simp only [if_pos h4] at K9
          first | exact K9 | (simp only [if_pos h4]; exact K9)
        ·
          refine lv_iconst (v := 1) (pc := 34) hx hb dzU_gatherOutput_34 (by decide) ?_
          refine lv_iload_n (pc := 35) hx hb dzU_gatherOutput_35 rfl (lv_at hl 0 rfl) ?_
          refine lv_ishl (pc := 36) hx hb dzU_gatherOutput_36 ?_
          refine xk_is (y := 4) (by decide) ?_
          refine lv_goto (tgt := 41) (pc := 37) hx hb dzU_gatherOutput_37 (by decide) ?_
          have K9 := K4
          try simp only [if_neg h4] at K9
          first | exact K9 | (simp only [if_neg h4]; exact K9)
      refine lv_if_eq (pc := 31) (tgt := 40) hx hb dzU_gatherOutput_31 (by decide) (fun h3 => ?_) (fun h3 => ?_)
      ·
        refine lv_iconst (v := 0) (pc := 40) hx hb dzU_gatherOutput_40 (by decide) ?_
        have K9 := K3
        try simp only [if_pos h3] at K9
        first | exact K9 | (simp only [if_pos h3]; exact K9)
      ·
        refine lv_iconst (v := 1) (pc := 34) hx hb dzU_gatherOutput_34 (by decide) ?_
        refine lv_iload_n (pc := 35) hx hb dzU_gatherOutput_35 rfl (lv_at hl 0 rfl) ?_
        refine lv_ishl (pc := 36) hx hb dzU_gatherOutput_36 ?_
        refine xk_is (y := 2) (by decide) ?_
        refine lv_goto (tgt := 41) (pc := 37) hx hb dzU_gatherOutput_37 (by decide) ?_
        have K9 := K3
        try simp only [if_neg h3] at K9
        first | exact K9 | (simp only [if_neg h3]; exact K9)
    refine lv_if_eq (pc := 31) (tgt := 40) hx hb dzU_gatherOutput_31 (by decide) (fun h2 => ?_) (fun h2 => ?_)
    ·
      refine lv_iconst (v := 0) (pc := 40) hx hb dzU_gatherOutput_40 (by decide) ?_
      have K9 := K2
      try simp only [if_pos h2] at K9
      first | exact K9 | (simp only [if_pos h2]; exact K9)
    ·
      refine lv_iconst (v := 1) (pc := 34) hx hb dzU_gatherOutput_34 (by decide) ?_
      refine lv_iload_n (pc := 35) hx hb dzU_gatherOutput_35 rfl (lv_at hl 0 rfl) ?_
      refine lv_ishl (pc := 36) hx hb dzU_gatherOutput_36 ?_
      refine xk_is (y := 1) (by decide) ?_
      refine lv_goto (tgt := 41) (pc := 37) hx hb dzU_gatherOutput_37 (by decide) ?_
      have K9 := K2
      try simp only [if_neg h2] at K9
      first | exact K9 | (simp only [if_neg h2]; exact K9)
  refine lv_if_eq (pc := 4) (tgt := 12) hx hb dzU_gatherOutput_4 (by decide) (fun h1 => ?_) (fun h1 => ?_)
  ·
    refine lv_iconst (v := 0) (pc := 12) hx hb dzU_gatherOutput_12 (by decide) ?_
    have K9 := K1
    try simp only [if_pos h1] at K9
    first | exact K9 | (simp only [if_pos h1]; exact K9)
  ·
    refine lv_bipush (v := 8) (pc := 7) hx hb dzU_gatherOutput_7 (by decide) ?_
    refine lv_goto (tgt := 13) (pc := 9) hx hb dzU_gatherOutput_9 (by decide) ?_
    have K9 := K1
    try simp only [if_neg h1] at K9
    first | exact K9 | (simp only [if_neg h1]; exact K9)

def qzU_signalIsDue_0 (g0 : xk_St) : Int32 := (if (g0 9 4) = 0 then 0 else (if (g0 4 0) = 4 then (if (g0 0 9) = 0 then 0 else (if (qzK_isDisturbed (g0 19 3) (g0 20 3) (g0 21 3)) = 0 then (if (qzS_state (g0 20 1) (g0 20 3)) = 0 then (if (g0 32 2) = 0 then 1 else (if (g0 33 2) = 0 then 1 else 0 : Int32) : Int32) else 0 : Int32) else 0 : Int32) : Int32) else 0 : Int32) : Int32)
theorem bzU_signalIsDue_0 (g0 : xk_St) : xk_b (qzU_signalIsDue_0 g0) := by
  unfold qzU_signalIsDue_0
  repeat' (first | with_reducible exact xk_b0 | with_reducible exact xk_b1 | with_reducible assumption | apply xk_bi)
set_option maxHeartbeats 4000000 in
set_option maxRecDepth 100000 in
theorem kzU_signalIsDue_0 (l : Launch) (G : va_G) (ac : Nat → ClassId) (ad : Nat → Nat) (g0 : xk_St) : xk_CI l yzU_signalIsDue czU_signalIsDue 2 .boolean xk_WS xk_r1 G xk_cls (xk_tys ac) [.ref (ad 0), .ref (ad 9)] (xk_wU ad ac g0) (fun r (_ : Unit) => r = qzU_signalIsDue_0 g0) (fun _ => (xk_wU ad ac g0)) := by
  refine xk_ofI (by decide) (Nat.le_of_ble_eq_true rfl) ?_
  intro p e s m args below meth c A Q H locs ls C0 hret hP hD hS hl
  obtain ⟨hx, hb, hml, hts, hown, hK, hA⟩ := C0
  have hl : lv_has ls 2 [(0, .ref (ad 0)), (1, .ref (ad 9))] := hl
  refine lv_aload_n (pc := 0) hx hb dzU_signalIsDue_0 rfl (lv_at hl 1 rfl) ?_
  refine xk_get (pc := 1) hx hb hts hown hK hP ffzU_152 9 rfl rfl dzU_signalIsDue_1 ?_
  have K1 : ∀ (H : Heap) (locs : List Loc), (va_P G xk_cls (xk_wU ad ac g0) H) → (va_D A (xk_wU ad ac g0)) → (va_S A s.heap H locs) → W p l e xk_r1 s m args below meth c H locs 0 0 Q (F0 m 73 ls [.int (if (g0 9 4) = 0 then 0 else (if (g0 4 0) = 4 then (if (g0 0 9) = 0 then 0 else (if (qzK_isDisturbed (g0 19 3) (g0 20 3) (g0 21 3)) = 0 then (if (qzS_state (g0 20 1) (g0 20 3)) = 0 then (if (g0 32 2) = 0 then 1 else (if (g0 33 2) = 0 then 1 else 0 : Int32) : Int32) else 0 : Int32) else 0 : Int32) : Int32) else 0 : Int32) : Int32)]) := by
    intro H locs hP hD hS
    have jr : qzU_signalIsDue_0 g0 = (if (g0 9 4) = 0 then 0 else (if (g0 4 0) = 4 then (if (g0 0 9) = 0 then 0 else (if (qzK_isDisturbed (g0 19 3) (g0 20 3) (g0 21 3)) = 0 then (if (qzS_state (g0 20 1) (g0 20 3)) = 0 then (if (g0 32 2) = 0 then 1 else (if (g0 33 2) = 0 then 1 else 0 : Int32) : Int32) else 0 : Int32) else 0 : Int32) : Int32) else 0 : Int32) : Int32) := by unfold qzU_signalIsDue_0; rfl
    exact hret _ () H locs 73 ls hP hS (xk_bn (by repeat' (first | with_reducible exact xk_b0 | with_reducible exact xk_b1 | apply xk_bi))) jr.symm dzU_signalIsDue_73
  refine lv_if_eq (pc := 4) (tgt := 72) hx hb dzU_signalIsDue_4 (by decide) (fun h1 => ?_) (fun h1 => ?_)
  ·
    refine lv_iconst (v := 0) (pc := 72) hx hb dzU_signalIsDue_72 (by decide) ?_
    have K9 := K1
    try simp only [if_pos h1] at K9
    first | exact K9 H locs hP hD hS | (simp only [if_pos h1] at hP hD; exact K9 H locs hP hD hS) | (simp only [if_pos h1] at hP hD ⊢; exact K9 H locs hP hD hS)
  ·
    refine lv_aload_n (pc := 7) hx hb dzU_signalIsDue_7 rfl (lv_at hl 0 rfl) ?_
    refine xk_get (pc := 8) hx hb hts hown hK hP ffzU_30 0 rfl rfl dzU_signalIsDue_8 ?_
    refine xk_get (pc := 11) hx hb hts hown hK hP ffzU_227 4 rfl rfl dzU_signalIsDue_11 ?_
    refine lv_iconst (v := 4) (pc := 14) hx hb dzU_signalIsDue_14 (by decide) ?_
    refine lv_icmp_ne (pc := 15) (tgt := 72) hx hb dzU_signalIsDue_15 (by decide) (fun h2 => ?_) (fun h2 => ?_)
    ·
      refine lv_iconst (v := 0) (pc := 72) hx hb dzU_signalIsDue_72 (by decide) ?_
      have K9 := K1
      try simp only [if_neg h1, if_neg h2] at K9
      first | exact K9 H locs hP hD hS | (simp only [if_neg h1, if_neg h2] at hP hD; exact K9 H locs hP hD hS) | (simp only [if_neg h1, if_neg h2] at hP hD ⊢; exact K9 H locs hP hD hS)
    ·
      refine lv_aload_n (pc := 18) hx hb dzU_signalIsDue_18 rfl (lv_at hl 0 rfl) ?_
      refine xk_get (pc := 19) hx hb hts hown hK hP ffzU_55 0 rfl rfl dzU_signalIsDue_19 ?_
      refine lv_if_eq (pc := 22) (tgt := 72) hx hb dzU_signalIsDue_22 (by decide) (fun h3 => ?_) (fun h3 => ?_)
      ·
        refine lv_iconst (v := 0) (pc := 72) hx hb dzU_signalIsDue_72 (by decide) ?_
        have K9 := K1
        try simp only [if_neg h1, if_pos h2, if_pos h3] at K9
        first | exact K9 H locs hP hD hS | (simp only [if_neg h1, if_pos h2, if_pos h3] at hP hD; exact K9 H locs hP hD hS) | (simp only [if_neg h1, if_pos h2, if_pos h3] at hP hD ⊢; exact K9 H locs hP hD hS)
      ·
        refine lv_aload_n (pc := 25) hx hb dzU_signalIsDue_25 rfl (lv_at hl 1 rfl) ?_
        refine xk_callVI (As := []) (rest := []) (H0 := s.heap) (pc := 26) hx hb hml hts hown hK hA hP hD hS (kzK_isDisturbed l G ac (ad 9) (ad 11) (ad 13) (ad 15) (ad 17) (g0 9 4) (g0 9 5) (fun j => ad (19 + j)) (g0 19 0) (g0 19 1) (g0 19 2) (g0 19 3) (g0 19 4) (g0 19 5) (g0 19 6) (g0 19 7) (g0 19 8) (g0 20 0) (g0 20 1) (g0 20 2) (g0 20 3) (g0 20 4) (g0 20 5) (g0 20 6) (g0 20 7) (g0 20 8) (g0 21 0) (g0 21 1) (g0 21 2) (g0 21 3) (g0 21 4) (g0 21 5) (g0 21 6) (g0 21 7) (g0 21 8)) vfzU_155 [9, 11, 19, 20, 21] (by decide) rfl (fun _ => rfl) 9 rfl rfl ⟨rfl, rfl⟩ ⟨Nat.le_of_ble_eq_true rfl, Nat.le_of_ble_eq_true rfl⟩ rfl hl.1 rfl (Nat.le_of_ble_eq_true rfl) ⟨Nat.zero_le _, Nat.zero_le _⟩ dzU_signalIsDue_26 (fun r1 u9 H locs e9 hP hD hS => ?_)
        obtain rfl : r1 = qzK_isDisturbed (g0 19 3) (g0 20 3) (g0 21 3) := e9
        have hP : va_P G xk_cls (xk_wU ad ac g0) H := hP
        have hD : va_D A (xk_wU ad ac g0) := hD
        refine lv_if_ne (pc := 29) (tgt := 72) hx hb dzU_signalIsDue_29 (by decide) (fun h4 => ?_) (fun h4 => ?_)
        ·
          refine lv_iconst (v := 0) (pc := 72) hx hb dzU_signalIsDue_72 (by decide) ?_
          have K9 := K1
          try simp only [if_neg h1, if_pos h2, if_neg h3, if_neg h4] at K9
          first | exact K9 H locs hP hD hS | (simp only [if_neg h1, if_pos h2, if_neg h3, if_neg h4] at hP hD; exact K9 H locs hP hD hS) | (simp only [if_neg h1, if_pos h2, if_neg h3, if_neg h4] at hP hD ⊢; exact K9 H locs hP hD hS)
        ·
          refine lv_aload_n (pc := 32) hx hb dzU_signalIsDue_32 rfl (lv_at hl 1 rfl) ?_
          refine xk_get (pc := 33) hx hb hts hown hK hP ffzU_158 9 rfl rfl dzU_signalIsDue_33 ?_
          refine lv_iconst (v := 1) (pc := 36) hx hb dzU_signalIsDue_36 (by decide) ?_
          refine xk_aald (q0 := 11) (t0 := 3) (j := 1) (b := (ad 20)) (pc := 37) hx hb hK hP rfl rfl (pk_in 1 3 (by decide)) (pk_cl 1) rfl dzU_signalIsDue_37 ?_
          refine xk_callVI (As := []) (rest := []) (H0 := s.heap) (pc := 38) hx hb hml hts hown hK hA hP hD hS (kzS_state l G ac (ad 20) (g0 20 0) (g0 20 1) (g0 20 2) (g0 20 3) (g0 20 4) (g0 20 5) (g0 20 6) (g0 20 7) (g0 20 8)) vfzU_162 [20] (by decide) rfl (fun _ => rfl) 20 rfl rfl ⟨rfl, rfl⟩ ⟨Nat.le_of_ble_eq_true rfl, Nat.le_of_ble_eq_true rfl⟩ rfl hl.1 rfl (Nat.le_of_ble_eq_true rfl) ⟨Nat.zero_le _, Nat.zero_le _⟩ dzU_signalIsDue_38 (fun r2 u9 H locs e9 hP hD hS => ?_)
          obtain rfl : r2 = qzS_state (g0 20 1) (g0 20 3) := e9
          have hP : va_P G xk_cls (xk_wU ad ac g0) H := hP
          have hD : va_D A (xk_wU ad ac g0) := hD
          refine lv_if_ne (pc := 41) (tgt := 72) hx hb dzU_signalIsDue_41 (by decide) (fun h5 => ?_) (fun h5 => ?_)
          ·
            refine lv_iconst (v := 0) (pc := 72) hx hb dzU_signalIsDue_72 (by decide) ?_
            have K9 := K1
            try simp only [if_neg h1, if_pos h2, if_neg h3, if_pos h4, if_neg h5] at K9
            first | exact K9 H locs hP hD hS | (simp only [if_neg h1, if_pos h2, if_neg h3, if_pos h4, if_neg h5] at hP hD; exact K9 H locs hP hD hS) | (simp only [if_neg h1, if_pos h2, if_neg h3, if_pos h4, if_neg h5] at hP hD ⊢; exact K9 H locs hP hD hS)
          ·
            refine lv_aload_n (pc := 44) hx hb dzU_signalIsDue_44 rfl (lv_at hl 0 rfl) ?_
            refine xk_get (pc := 45) hx hb hts hown hK hP ffzU_23 0 rfl rfl dzU_signalIsDue_45 ?_
            refine lv_iconst (v := 1) (pc := 48) hx hb dzU_signalIsDue_48 (by decide) ?_
            refine xk_aald (q0 := 3) (t0 := 6) (j := 1) (b := (ad 32)) (pc := 49) hx hb hK hP rfl rfl (pk_in 1 3 (by decide)) (pk_cl 1) rfl dzU_signalIsDue_49 ?_
            refine xk_get (pc := 50) hx hb hts hown hK hP ffzU_348 32 rfl rfl dzU_signalIsDue_50 ?_
            refine lv_if_eq (pc := 53) (tgt := 68) hx hb dzU_signalIsDue_53 (by decide) (fun h6 => ?_) (fun h6 => ?_)
            ·
              refine lv_iconst (v := 1) (pc := 68) hx hb dzU_signalIsDue_68 (by decide) ?_
              refine lv_goto (tgt := 73) (pc := 69) hx hb dzU_signalIsDue_69 (by decide) ?_
              have K9 := K1
              try simp only [if_neg h1, if_pos h2, if_neg h3, if_pos h4, if_pos h5, if_pos h6] at K9
              first | exact K9 H locs hP hD hS | (simp only [if_neg h1, if_pos h2, if_neg h3, if_pos h4, if_pos h5, if_pos h6] at hP hD; exact K9 H locs hP hD hS) | (simp only [if_neg h1, if_pos h2, if_neg h3, if_pos h4, if_pos h5, if_pos h6] at hP hD ⊢; exact K9 H locs hP hD hS)
            ·
              refine lv_aload_n (pc := 56) hx hb dzU_signalIsDue_56 rfl (lv_at hl 0 rfl) ?_
              refine xk_get (pc := 57) hx hb hts hown hK hP ffzU_23 0 rfl rfl dzU_signalIsDue_57 ?_
              refine lv_iconst (v := 2) (pc := 60) hx hb dzU_signalIsDue_60 (by decide) ?_
              refine xk_aald (q0 := 3) (t0 := 6) (j := 2) (b := (ad 33)) (pc := 61) hx hb hK hP rfl rfl (pk_in 2 3 (by decide)) (pk_cl 2) rfl dzU_signalIsDue_61 ?_
              refine xk_get (pc := 62) hx hb hts hown hK hP ffzU_348 33 rfl rfl dzU_signalIsDue_62 ?_
              refine lv_if_ne (pc := 65) (tgt := 72) hx hb dzU_signalIsDue_65 (by decide) (fun h7 => ?_) (fun h7 => ?_)
              ·
                refine lv_iconst (v := 0) (pc := 72) hx hb dzU_signalIsDue_72 (by decide) ?_
                have K9 := K1
                try simp only [if_neg h1, if_pos h2, if_neg h3, if_pos h4, if_pos h5, if_neg h6, if_neg h7] at K9
                first | exact K9 H locs hP hD hS | (simp only [if_neg h1, if_pos h2, if_neg h3, if_pos h4, if_pos h5, if_neg h6, if_neg h7] at hP hD; exact K9 H locs hP hD hS) | (simp only [if_neg h1, if_pos h2, if_neg h3, if_pos h4, if_pos h5, if_neg h6, if_neg h7] at hP hD ⊢; exact K9 H locs hP hD hS)
              ·
                refine lv_iconst (v := 1) (pc := 68) hx hb dzU_signalIsDue_68 (by decide) ?_
                refine lv_goto (tgt := 73) (pc := 69) hx hb dzU_signalIsDue_69 (by decide) ?_
                have K9 := K1
                try simp only [if_neg h1, if_pos h2, if_neg h3, if_pos h4, if_pos h5, if_neg h6, if_pos h7] at K9
                first | exact K9 H locs hP hD hS | (simp only [if_neg h1, if_pos h2, if_neg h3, if_pos h4, if_pos h5, if_neg h6, if_pos h7] at hP hD; exact K9 H locs hP hD hS) | (simp only [if_neg h1, if_pos h2, if_neg h3, if_pos h4, if_pos h5, if_neg h6, if_pos h7] at hP hD ⊢; exact K9 H locs hP hD hS)

def qzU_signalIsDue_1 (g0 : xk_St) : Int32 := (if (g0 10 4) = 0 then 0 else (if (g0 4 0) = 4 then (if (g0 0 9) = 0 then 0 else (if (qzK_isDisturbed (g0 22 3) (g0 23 3) (g0 24 3)) = 0 then (if (qzS_state (g0 23 1) (g0 23 3)) = 0 then (if (g0 32 2) = 0 then 1 else (if (g0 33 2) = 0 then 1 else 0 : Int32) : Int32) else 0 : Int32) else 0 : Int32) : Int32) else 0 : Int32) : Int32)
theorem bzU_signalIsDue_1 (g0 : xk_St) : xk_b (qzU_signalIsDue_1 g0) := by
  unfold qzU_signalIsDue_1
  repeat' (first | with_reducible exact xk_b0 | with_reducible exact xk_b1 | with_reducible assumption | apply xk_bi)
set_option maxHeartbeats 4000000 in
set_option maxRecDepth 100000 in
theorem kzU_signalIsDue_1 (l : Launch) (G : va_G) (ac : Nat → ClassId) (ad : Nat → Nat) (g0 : xk_St) : xk_CI l yzU_signalIsDue czU_signalIsDue 2 .boolean xk_WS xk_r1 G xk_cls (xk_tys ac) [.ref (ad 0), .ref (ad 10)] (xk_wU ad ac g0) (fun r (_ : Unit) => r = qzU_signalIsDue_1 g0) (fun _ => (xk_wU ad ac g0)) := by
  refine xk_ofI (by decide) (Nat.le_of_ble_eq_true rfl) ?_
  intro p e s m args below meth c A Q H locs ls C0 hret hP hD hS hl
  obtain ⟨hx, hb, hml, hts, hown, hK, hA⟩ := C0
  have hl : lv_has ls 2 [(0, .ref (ad 0)), (1, .ref (ad 10))] := hl
  refine lv_aload_n (pc := 0) hx hb dzU_signalIsDue_0 rfl (lv_at hl 1 rfl) ?_
  refine xk_get (pc := 1) hx hb hts hown hK hP ffzU_152 10 rfl rfl dzU_signalIsDue_1 ?_
  have K1 : ∀ (H : Heap) (locs : List Loc), (va_P G xk_cls (xk_wU ad ac g0) H) → (va_D A (xk_wU ad ac g0)) → (va_S A s.heap H locs) → W p l e xk_r1 s m args below meth c H locs 0 0 Q (F0 m 73 ls [.int (if (g0 10 4) = 0 then 0 else (if (g0 4 0) = 4 then (if (g0 0 9) = 0 then 0 else (if (qzK_isDisturbed (g0 22 3) (g0 23 3) (g0 24 3)) = 0 then (if (qzS_state (g0 23 1) (g0 23 3)) = 0 then (if (g0 32 2) = 0 then 1 else (if (g0 33 2) = 0 then 1 else 0 : Int32) : Int32) else 0 : Int32) else 0 : Int32) : Int32) else 0 : Int32) : Int32)]) := by
    intro H locs hP hD hS
    have jr : qzU_signalIsDue_1 g0 = (if (g0 10 4) = 0 then 0 else (if (g0 4 0) = 4 then (if (g0 0 9) = 0 then 0 else (if (qzK_isDisturbed (g0 22 3) (g0 23 3) (g0 24 3)) = 0 then (if (qzS_state (g0 23 1) (g0 23 3)) = 0 then (if (g0 32 2) = 0 then 1 else (if (g0 33 2) = 0 then 1 else 0 : Int32) : Int32) else 0 : Int32) else 0 : Int32) : Int32) else 0 : Int32) : Int32) := by unfold qzU_signalIsDue_1; rfl
    exact hret _ () H locs 73 ls hP hS (xk_bn (by repeat' (first | with_reducible exact xk_b0 | with_reducible exact xk_b1 | apply xk_bi))) jr.symm dzU_signalIsDue_73
  refine lv_if_eq (pc := 4) (tgt := 72) hx hb dzU_signalIsDue_4 (by decide) (fun h1 => ?_) (fun h1 => ?_)
  ·
    refine lv_iconst (v := 0) (pc := 72) hx hb dzU_signalIsDue_72 (by decide) ?_
    have K9 := K1
    try simp only [if_pos h1] at K9
    first | exact K9 H locs hP hD hS | (simp only [if_pos h1] at hP hD; exact K9 H locs hP hD hS) | (simp only [if_pos h1] at hP hD ⊢; exact K9 H locs hP hD hS)
  ·
    refine lv_aload_n (pc := 7) hx hb dzU_signalIsDue_7 rfl (lv_at hl 0 rfl) ?_
    refine xk_get (pc := 8) hx hb hts hown hK hP ffzU_30 0 rfl rfl dzU_signalIsDue_8 ?_
    refine xk_get (pc := 11) hx hb hts hown hK hP ffzU_227 4 rfl rfl dzU_signalIsDue_11 ?_
    refine lv_iconst (v := 4) (pc := 14) hx hb dzU_signalIsDue_14 (by decide) ?_
    refine lv_icmp_ne (pc := 15) (tgt := 72) hx hb dzU_signalIsDue_15 (by decide) (fun h2 => ?_) (fun h2 => ?_)
    ·
      refine lv_iconst (v := 0) (pc := 72) hx hb dzU_signalIsDue_72 (by decide) ?_
      have K9 := K1
      try simp only [if_neg h1, if_neg h2] at K9
      first | exact K9 H locs hP hD hS | (simp only [if_neg h1, if_neg h2] at hP hD; exact K9 H locs hP hD hS) | (simp only [if_neg h1, if_neg h2] at hP hD ⊢; exact K9 H locs hP hD hS)
    ·
      refine lv_aload_n (pc := 18) hx hb dzU_signalIsDue_18 rfl (lv_at hl 0 rfl) ?_
      refine xk_get (pc := 19) hx hb hts hown hK hP ffzU_55 0 rfl rfl dzU_signalIsDue_19 ?_
      refine lv_if_eq (pc := 22) (tgt := 72) hx hb dzU_signalIsDue_22 (by decide) (fun h3 => ?_) (fun h3 => ?_)
      ·
        refine lv_iconst (v := 0) (pc := 72) hx hb dzU_signalIsDue_72 (by decide) ?_
        have K9 := K1
        try simp only [if_neg h1, if_pos h2, if_pos h3] at K9
        first | exact K9 H locs hP hD hS | (simp only [if_neg h1, if_pos h2, if_pos h3] at hP hD; exact K9 H locs hP hD hS) | (simp only [if_neg h1, if_pos h2, if_pos h3] at hP hD ⊢; exact K9 H locs hP hD hS)
      ·
        refine lv_aload_n (pc := 25) hx hb dzU_signalIsDue_25 rfl (lv_at hl 1 rfl) ?_
        refine xk_callVI (As := []) (rest := []) (H0 := s.heap) (pc := 26) hx hb hml hts hown hK hA hP hD hS (kzK_isDisturbed l G ac (ad 10) (ad 12) (ad 14) (ad 16) (ad 18) (g0 10 4) (g0 10 5) (fun j => ad (22 + j)) (g0 22 0) (g0 22 1) (g0 22 2) (g0 22 3) (g0 22 4) (g0 22 5) (g0 22 6) (g0 22 7) (g0 22 8) (g0 23 0) (g0 23 1) (g0 23 2) (g0 23 3) (g0 23 4) (g0 23 5) (g0 23 6) (g0 23 7) (g0 23 8) (g0 24 0) (g0 24 1) (g0 24 2) (g0 24 3) (g0 24 4) (g0 24 5) (g0 24 6) (g0 24 7) (g0 24 8)) vfzU_155 [10, 12, 22, 23, 24] (by decide) rfl (fun _ => rfl) 10 rfl rfl ⟨rfl, rfl⟩ ⟨Nat.le_of_ble_eq_true rfl, Nat.le_of_ble_eq_true rfl⟩ rfl hl.1 rfl (Nat.le_of_ble_eq_true rfl) ⟨Nat.zero_le _, Nat.zero_le _⟩ dzU_signalIsDue_26 (fun r1 u9 H locs e9 hP hD hS => ?_)
        obtain rfl : r1 = qzK_isDisturbed (g0 22 3) (g0 23 3) (g0 24 3) := e9
        have hP : va_P G xk_cls (xk_wU ad ac g0) H := hP
        have hD : va_D A (xk_wU ad ac g0) := hD
        refine lv_if_ne (pc := 29) (tgt := 72) hx hb dzU_signalIsDue_29 (by decide) (fun h4 => ?_) (fun h4 => ?_)
        ·
          refine lv_iconst (v := 0) (pc := 72) hx hb dzU_signalIsDue_72 (by decide) ?_
          have K9 := K1
          try simp only [if_neg h1, if_pos h2, if_neg h3, if_neg h4] at K9
          first | exact K9 H locs hP hD hS | (simp only [if_neg h1, if_pos h2, if_neg h3, if_neg h4] at hP hD; exact K9 H locs hP hD hS) | (simp only [if_neg h1, if_pos h2, if_neg h3, if_neg h4] at hP hD ⊢; exact K9 H locs hP hD hS)
        ·
          refine lv_aload_n (pc := 32) hx hb dzU_signalIsDue_32 rfl (lv_at hl 1 rfl) ?_
          refine xk_get (pc := 33) hx hb hts hown hK hP ffzU_158 10 rfl rfl dzU_signalIsDue_33 ?_
          refine lv_iconst (v := 1) (pc := 36) hx hb dzU_signalIsDue_36 (by decide) ?_
          refine xk_aald (q0 := 12) (t0 := 3) (j := 1) (b := (ad 23)) (pc := 37) hx hb hK hP rfl rfl (pk_in 1 3 (by decide)) (pk_cl 1) rfl dzU_signalIsDue_37 ?_
          refine xk_callVI (As := []) (rest := []) (H0 := s.heap) (pc := 38) hx hb hml hts hown hK hA hP hD hS (kzS_state l G ac (ad 23) (g0 23 0) (g0 23 1) (g0 23 2) (g0 23 3) (g0 23 4) (g0 23 5) (g0 23 6) (g0 23 7) (g0 23 8)) vfzU_162 [23] (by decide) rfl (fun _ => rfl) 23 rfl rfl ⟨rfl, rfl⟩ ⟨Nat.le_of_ble_eq_true rfl, Nat.le_of_ble_eq_true rfl⟩ rfl hl.1 rfl (Nat.le_of_ble_eq_true rfl) ⟨Nat.zero_le _, Nat.zero_le _⟩ dzU_signalIsDue_38 (fun r2 u9 H locs e9 hP hD hS => ?_)
          obtain rfl : r2 = qzS_state (g0 23 1) (g0 23 3) := e9
          have hP : va_P G xk_cls (xk_wU ad ac g0) H := hP
          have hD : va_D A (xk_wU ad ac g0) := hD
          refine lv_if_ne (pc := 41) (tgt := 72) hx hb dzU_signalIsDue_41 (by decide) (fun h5 => ?_) (fun h5 => ?_)
          ·
            refine lv_iconst (v := 0) (pc := 72) hx hb dzU_signalIsDue_72 (by decide) ?_
            have K9 := K1
            try simp only [if_neg h1, if_pos h2, if_neg h3, if_pos h4, if_neg h5] at K9
            first | exact K9 H locs hP hD hS | (simp only [if_neg h1, if_pos h2, if_neg h3, if_pos h4, if_neg h5] at hP hD; exact K9 H locs hP hD hS) | (simp only [if_neg h1, if_pos h2, if_neg h3, if_pos h4, if_neg h5] at hP hD ⊢; exact K9 H locs hP hD hS)
          ·
            refine lv_aload_n (pc := 44) hx hb dzU_signalIsDue_44 rfl (lv_at hl 0 rfl) ?_
            refine xk_get (pc := 45) hx hb hts hown hK hP ffzU_23 0 rfl rfl dzU_signalIsDue_45 ?_
            refine lv_iconst (v := 1) (pc := 48) hx hb dzU_signalIsDue_48 (by decide) ?_
            refine xk_aald (q0 := 3) (t0 := 6) (j := 1) (b := (ad 32)) (pc := 49) hx hb hK hP rfl rfl (pk_in 1 3 (by decide)) (pk_cl 1) rfl dzU_signalIsDue_49 ?_
            refine xk_get (pc := 50) hx hb hts hown hK hP ffzU_348 32 rfl rfl dzU_signalIsDue_50 ?_
            refine lv_if_eq (pc := 53) (tgt := 68) hx hb dzU_signalIsDue_53 (by decide) (fun h6 => ?_) (fun h6 => ?_)
            ·
              refine lv_iconst (v := 1) (pc := 68) hx hb dzU_signalIsDue_68 (by decide) ?_
              refine lv_goto (tgt := 73) (pc := 69) hx hb dzU_signalIsDue_69 (by decide) ?_
              have K9 := K1
              try simp only [if_neg h1, if_pos h2, if_neg h3, if_pos h4, if_pos h5, if_pos h6] at K9
              first | exact K9 H locs hP hD hS | (simp only [if_neg h1, if_pos h2, if_neg h3, if_pos h4, if_pos h5, if_pos h6] at hP hD; exact K9 H locs hP hD hS) | (simp only [if_neg h1, if_pos h2, if_neg h3, if_pos h4, if_pos h5, if_pos h6] at hP hD ⊢; exact K9 H locs hP hD hS)
            ·
              refine lv_aload_n (pc := 56) hx hb dzU_signalIsDue_56 rfl (lv_at hl 0 rfl) ?_
              refine xk_get (pc := 57) hx hb hts hown hK hP ffzU_23 0 rfl rfl dzU_signalIsDue_57 ?_
              refine lv_iconst (v := 2) (pc := 60) hx hb dzU_signalIsDue_60 (by decide) ?_
              refine xk_aald (q0 := 3) (t0 := 6) (j := 2) (b := (ad 33)) (pc := 61) hx hb hK hP rfl rfl (pk_in 2 3 (by decide)) (pk_cl 2) rfl dzU_signalIsDue_61 ?_
              refine xk_get (pc := 62) hx hb hts hown hK hP ffzU_348 33 rfl rfl dzU_signalIsDue_62 ?_
              refine lv_if_ne (pc := 65) (tgt := 72) hx hb dzU_signalIsDue_65 (by decide) (fun h7 => ?_) (fun h7 => ?_)
              ·
                refine lv_iconst (v := 0) (pc := 72) hx hb dzU_signalIsDue_72 (by decide) ?_
                have K9 := K1
                try simp only [if_neg h1, if_pos h2, if_neg h3, if_pos h4, if_pos h5, if_neg h6, if_neg h7] at K9
                first | exact K9 H locs hP hD hS | (simp only [if_neg h1, if_pos h2, if_neg h3, if_pos h4, if_pos h5, if_neg h6, if_neg h7] at hP hD; exact K9 H locs hP hD hS) | (simp only [if_neg h1, if_pos h2, if_neg h3, if_pos h4, if_pos h5, if_neg h6, if_neg h7] at hP hD ⊢; exact K9 H locs hP hD hS)
              ·
                refine lv_iconst (v := 1) (pc := 68) hx hb dzU_signalIsDue_68 (by decide) ?_
                refine lv_goto (tgt := 73) (pc := 69) hx hb dzU_signalIsDue_69 (by decide) ?_
                have K9 := K1
                try simp only [if_neg h1, if_pos h2, if_neg h3, if_pos h4, if_pos h5, if_neg h6, if_pos h7] at K9
                first | exact K9 H locs hP hD hS | (simp only [if_neg h1, if_pos h2, if_neg h3, if_pos h4, if_pos h5, if_neg h6, if_pos h7] at hP hD; exact K9 H locs hP hD hS) | (simp only [if_neg h1, if_pos h2, if_neg h3, if_pos h4, if_pos h5, if_neg h6, if_pos h7] at hP hD ⊢; exact K9 H locs hP hD hS)

