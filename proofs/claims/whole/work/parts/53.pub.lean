def relzU_barrier_0 (g0 : xk_St) (k1 : Int32) (rz : Int32) (gz : xk_St) : Prop := ∃ (g1 : xk_St), g1 = va_up g0 29 (upd (g0 29) 0 k1) ∧ (rz = g0 29 0 ∧ gz = g1)
set_option maxHeartbeats 4000000 in
set_option maxRecDepth 100000 in
theorem kzU_barrier_0 (l : Launch) (G : va_G) (ac : Nat → ClassId) (ad : Nat → Nat) (g0 : xk_St) (k1 : Int32) (h1 : ¬ k1 < 0) (h2 : ¬ 100 < k1) : xk_CI l yzU_barrier czU_barrier 4 .int xk_WS xk_r0 G xk_cls (xk_tys ac) [.ref (ad 0), .int 0, .int k1] (xk_wU ad ac g0) (fun rz (gz : xk_St) => relzU_barrier_0 g0 k1 rz gz) (fun gz => xk_wU ad ac gz) := by
  refine xk_ofI (by decide) (Nat.le_of_ble_eq_true rfl) ?_
  intro p e s m args below meth c A Q H locs ls C0 hret hP hD hS hl
  obtain ⟨hx, hb, hml, hts, hown, hK, hA⟩ := C0
  have hl : lv_has ls 4 [(0, .ref (ad 0)), (1, .int 0), (2, .int k1)] := hl
  refine lv_iload_n (pc := 0) hx hb dzU_barrier_0 rfl (lv_at hl 1 rfl) ?_
  refine lv_if_lt (pc := 1) (tgt := 9) hx hb dzU_barrier_1 (by decide) (fun hq9 => absurd hq9 (by decide)) (fun _ => ?_)
  refine lv_iload_n (pc := 4) hx hb dzU_barrier_4 rfl (lv_at hl 1 rfl) ?_
  refine lv_iconst (v := 2) (pc := 5) hx hb dzU_barrier_5 (by decide) ?_
  refine lv_icmp_lt (pc := 6) (tgt := 19) hx hb dzU_barrier_6 (by decide) (fun _ => ?_) (fun hq9 => absurd (by decide) hq9)
  refine lv_iload_n (pc := 19) hx hb dzU_barrier_19 rfl (lv_at hl 2 rfl) ?_
  refine lv_if_lt (pc := 20) (tgt := 29) hx hb dzU_barrier_20 (by decide) (fun hq9 => absurd hq9 h1) (fun _ => ?_)
  refine lv_iload_n (pc := 23) hx hb dzU_barrier_23 rfl (lv_at hl 2 rfl) ?_
  refine lv_bipush (v := 100) (pc := 24) hx hb dzU_barrier_24 (by decide) ?_
  refine lv_icmp_le (pc := 26) (tgt := 39) hx hb dzU_barrier_26 (by decide) (fun _ => ?_) (fun hq9 => absurd (xk_ge h2) hq9)
  refine lv_aload_n (pc := 39) hx hb dzU_barrier_39 rfl (lv_at hl 0 rfl) ?_
  refine xk_get (pc := 40) hx hb hts hown hK hP ffzU_17 0 rfl rfl dzU_barrier_40 ?_
  refine lv_iload_n (pc := 43) hx hb dzU_barrier_43 rfl (lv_at hl 1 rfl) ?_
  refine xk_aald (q0 := 2) (t0 := 5) (j := 0) (b := (ad 29)) (pc := 44) hx hb hK hP rfl rfl (pk_in 0 2 (by decide)) (pk_cl 0) rfl dzU_barrier_44 ?_
  refine xk_get (pc := 45) hx hb hts hown hK hP ffzU_144 29 rfl rfl dzU_barrier_45 ?_
  refine lv_istore_n (lv' := [(3, .int (g0 29 0)), (0, .ref (ad 0)), (1, .int 0), (2, .int k1)]) (pc := 48) hx hb dzU_barrier_48 rfl hl (by decide) rfl (fun ls hl => ?_)
  refine lv_aload_n (pc := 49) hx hb dzU_barrier_49 rfl (lv_at hl 1 rfl) ?_
  refine xk_get (pc := 50) hx hb hts hown hK hP ffzU_17 0 rfl rfl dzU_barrier_50 ?_
  refine lv_iload_n (pc := 53) hx hb dzU_barrier_53 rfl (lv_at hl 2 rfl) ?_
  refine xk_aald (q0 := 2) (t0 := 5) (j := 0) (b := (ad 29)) (pc := 54) hx hb hK hP rfl rfl (pk_in 0 2 (by decide)) (pk_cl 0) rfl dzU_barrier_54 ?_
  refine lv_iload_n (pc := 55) hx hb dzU_barrier_55 rfl (lv_at hl 3 rfl) ?_
  refine xk_putf (pc := 56) hx hb hts hown hK hP hD hS pfzU_144 29 rfl rfl rfl (Nat.le_of_ble_eq_true rfl) dzU_barrier_56 (fun H locs hP hD hS => ?_)
  obtain ⟨g1, eg1⟩ : ∃ z : xk_St, z = va_up g0 29 (upd (g0 29) 0 k1) := ⟨_, rfl⟩
  have hP : va_P G xk_cls (xk_wU ad ac g1) H := by rw [eg1]; exact hP
  have hD : va_D A (xk_wU ad ac g1) := by rw [eg1]; exact hD
  refine lv_iload_n (pc := 59) hx hb dzU_barrier_59 rfl (lv_at hl 0 rfl) ?_
  exact hret _ g1 H locs 60 ls hP hS rfl (by unfold relzU_barrier_0; exact ⟨g1, eg1, ⟨rfl, rfl⟩⟩) dzU_barrier_60
theorem frzU_barrier_0 (g0 : xk_St) (k1 : Int32) (rz : Int32) (gz : xk_St) : relzU_barrier_0 g0 k1 rz gz → xk_eqv [0, 1, 2, 3, 4, 5, 6, 7, 8, 9, 10, 11, 12, 13, 14, 15, 16, 17, 18, 19, 20, 21, 22, 23, 24, 25, 26, 27, 28, 30, 31, 32, 33] g0 gz := by
  intro h
  unfold relzU_barrier_0 at h
  have s0 : xk_eqv [0, 1, 2, 3, 4, 5, 6, 7, 8, 9, 10, 11, 12, 13, 14, 15, 16, 17, 18, 19, 20, 21, 22, 23, 24, 25, 26, 27, 28, 30, 31, 32, 33] g0 g0 := xk_eqv_rf
  obtain ⟨g1, u1, v2⟩ := h
  have s3 : xk_eqv [0, 1, 2, 3, 4, 5, 6, 7, 8, 9, 10, 11, 12, 13, 14, 15, 16, 17, 18, 19, 20, 21, 22, 23, 24, 25, 26, 27, 28, 30, 31, 32, 33] g0 g1 := by rw [u1]; repeat (first | exact s0 | refine xk_eqv_up (by decide) ?_)
  rw [v2.2]; exact s3

def relzU_barrier_1 (g0 : xk_St) (k1 : Int32) (rz : Int32) (gz : xk_St) : Prop := ∃ (g1 : xk_St), g1 = va_up g0 30 (upd (g0 30) 0 k1) ∧ (rz = g0 30 0 ∧ gz = g1)
set_option maxHeartbeats 4000000 in
set_option maxRecDepth 100000 in
theorem kzU_barrier_1 (l : Launch) (G : va_G) (ac : Nat → ClassId) (ad : Nat → Nat) (g0 : xk_St) (k1 : Int32) (h1 : ¬ k1 < 0) (h2 : ¬ 100 < k1) : xk_CI l yzU_barrier czU_barrier 4 .int xk_WS xk_r0 G xk_cls (xk_tys ac) [.ref (ad 0), .int 1, .int k1] (xk_wU ad ac g0) (fun rz (gz : xk_St) => relzU_barrier_1 g0 k1 rz gz) (fun gz => xk_wU ad ac gz) := by
  refine xk_ofI (by decide) (Nat.le_of_ble_eq_true rfl) ?_
  intro p e s m args below meth c A Q H locs ls C0 hret hP hD hS hl
  obtain ⟨hx, hb, hml, hts, hown, hK, hA⟩ := C0
  have hl : lv_has ls 4 [(0, .ref (ad 0)), (1, .int 1), (2, .int k1)] := hl
  refine lv_iload_n (pc := 0) hx hb dzU_barrier_0 rfl (lv_at hl 1 rfl) ?_
  refine lv_if_lt (pc := 1) (tgt := 9) hx hb dzU_barrier_1 (by decide) (fun hq9 => absurd hq9 (by decide)) (fun _ => ?_)
  refine lv_iload_n (pc := 4) hx hb dzU_barrier_4 rfl (lv_at hl 1 rfl) ?_
  refine lv_iconst (v := 2) (pc := 5) hx hb dzU_barrier_5 (by decide) ?_
  refine lv_icmp_lt (pc := 6) (tgt := 19) hx hb dzU_barrier_6 (by decide) (fun _ => ?_) (fun hq9 => absurd (by decide) hq9)
  refine lv_iload_n (pc := 19) hx hb dzU_barrier_19 rfl (lv_at hl 2 rfl) ?_
  refine lv_if_lt (pc := 20) (tgt := 29) hx hb dzU_barrier_20 (by decide) (fun hq9 => absurd hq9 h1) (fun _ => ?_)
  refine lv_iload_n (pc := 23) hx hb dzU_barrier_23 rfl (lv_at hl 2 rfl) ?_
  refine lv_bipush (v := 100) (pc := 24) hx hb dzU_barrier_24 (by decide) ?_
  refine lv_icmp_le (pc := 26) (tgt := 39) hx hb dzU_barrier_26 (by decide) (fun _ => ?_) (fun hq9 => absurd (xk_ge h2) hq9)
  refine lv_aload_n (pc := 39) hx hb dzU_barrier_39 rfl (lv_at hl 0 rfl) ?_
  refine xk_get (pc := 40) hx hb hts hown hK hP ffzU_17 0 rfl rfl dzU_barrier_40 ?_
  refine lv_iload_n (pc := 43) hx hb dzU_barrier_43 rfl (lv_at hl 1 rfl) ?_
  refine xk_aald (q0 := 2) (t0 := 5) (j := 1) (b := (ad 30)) (pc := 44) hx hb hK hP rfl rfl (pk_in 1 2 (by decide)) (pk_cl 1) rfl dzU_barrier_44 ?_
  refine xk_get (pc := 45) hx hb hts hown hK hP ffzU_144 30 rfl rfl dzU_barrier_45 ?_
  refine lv_istore_n (lv' := [(3, .int (g0 30 0)), (0, .ref (ad 0)), (1, .int 1), (2, .int k1)]) (pc := 48) hx hb dzU_barrier_48 rfl hl (by decide) rfl (fun ls hl => ?_)
  refine lv_aload_n (pc := 49) hx hb dzU_barrier_49 rfl (lv_at hl 1 rfl) ?_
  refine xk_get (pc := 50) hx hb hts hown hK hP ffzU_17 0 rfl rfl dzU_barrier_50 ?_
  refine lv_iload_n (pc := 53) hx hb dzU_barrier_53 rfl (lv_at hl 2 rfl) ?_
  refine xk_aald (q0 := 2) (t0 := 5) (j := 1) (b := (ad 30)) (pc := 54) hx hb hK hP rfl rfl (pk_in 1 2 (by decide)) (pk_cl 1) rfl dzU_barrier_54 ?_
  refine lv_iload_n (pc := 55) hx hb dzU_barrier_55 rfl (lv_at hl 3 rfl) ?_
  refine xk_putf (pc := 56) hx hb hts hown hK hP hD hS pfzU_144 30 rfl rfl rfl (Nat.le_of_ble_eq_true rfl) dzU_barrier_56 (fun H locs hP hD hS => ?_)
  obtain ⟨g1, eg1⟩ : ∃ z : xk_St, z = va_up g0 30 (upd (g0 30) 0 k1) := ⟨_, rfl⟩
  have hP : va_P G xk_cls (xk_wU ad ac g1) H := by rw [eg1]; exact hP
  have hD : va_D A (xk_wU ad ac g1) := by rw [eg1]; exact hD
  refine lv_iload_n (pc := 59) hx hb dzU_barrier_59 rfl (lv_at hl 0 rfl) ?_
  exact hret _ g1 H locs 60 ls hP hS rfl (by unfold relzU_barrier_1; exact ⟨g1, eg1, ⟨rfl, rfl⟩⟩) dzU_barrier_60
theorem frzU_barrier_1 (g0 : xk_St) (k1 : Int32) (rz : Int32) (gz : xk_St) : relzU_barrier_1 g0 k1 rz gz → xk_eqv [0, 1, 2, 3, 4, 5, 6, 7, 8, 9, 10, 11, 12, 13, 14, 15, 16, 17, 18, 19, 20, 21, 22, 23, 24, 25, 26, 27, 28, 29, 31, 32, 33] g0 gz := by
  intro h
  unfold relzU_barrier_1 at h
  have s0 : xk_eqv [0, 1, 2, 3, 4, 5, 6, 7, 8, 9, 10, 11, 12, 13, 14, 15, 16, 17, 18, 19, 20, 21, 22, 23, 24, 25, 26, 27, 28, 29, 31, 32, 33] g0 g0 := xk_eqv_rf
  obtain ⟨g1, u1, v2⟩ := h
  have s3 : xk_eqv [0, 1, 2, 3, 4, 5, 6, 7, 8, 9, 10, 11, 12, 13, 14, 15, 16, 17, 18, 19, 20, 21, 22, 23, 24, 25, 26, 27, 28, 29, 31, 32, 33] g0 g1 := by rw [u1]; repeat (first | exact s0 | refine xk_eqv_up (by decide) ?_)
  rw [v2.2]; exact s3

def relzU_current_0 (g0 : xk_St) (k1 : Int32) (rz : Int32) (gz : xk_St) : Prop := ∃ (x1 : Int32), (if (g0 31 0) = k1 then (x1 = 0) else (x1 = 1)) ∧ (∃ (g1 : xk_St), g1 = va_up g0 31 (upd (g0 31) 0 k1) ∧ (rz = x1 ∧ xk_b rz ∧ gz = g1))
set_option maxHeartbeats 4000000 in
set_option maxRecDepth 100000 in
theorem kzU_current_0 (l : Launch) (G : va_G) (ac : Nat → ClassId) (ad : Nat → Nat) (g0 : xk_St) (k1 : Int32) (hb1 : xk_b k1) : xk_CI l yzU_current czU_current 4 .boolean xk_WS xk_r0 G xk_cls (xk_tys ac) [.ref (ad 0), .int 0, .int k1] (xk_wU ad ac g0) (fun rz (gz : xk_St) => relzU_current_0 g0 k1 rz gz) (fun gz => xk_wU ad ac gz) := by
  refine xk_ofI (by decide) (Nat.le_of_ble_eq_true rfl) ?_
  intro p e s m args below meth c A Q H locs ls C0 hret hP hD hS hl
  obtain ⟨hx, hb, hml, hts, hown, hK, hA⟩ := C0
  have hl : lv_has ls 4 [(0, .ref (ad 0)), (1, .int 0), (2, .int k1)] := hl
  refine lv_iload_n (pc := 0) hx hb dzU_current_0 rfl (lv_at hl 1 rfl) ?_
  refine lv_if_lt (pc := 1) (tgt := 9) hx hb dzU_current_1 (by decide) (fun hq9 => absurd hq9 (by decide)) (fun _ => ?_)
  refine lv_iload_n (pc := 4) hx hb dzU_current_4 rfl (lv_at hl 1 rfl) ?_
  refine lv_iconst (v := 3) (pc := 5) hx hb dzU_current_5 (by decide) ?_
  refine lv_icmp_lt (pc := 6) (tgt := 19) hx hb dzU_current_6 (by decide) (fun _ => ?_) (fun hq9 => absurd (by decide) hq9)
  refine lv_aload_n (pc := 19) hx hb dzU_current_19 rfl (lv_at hl 0 rfl) ?_
  refine xk_get (pc := 20) hx hb hts hown hK hP ffzU_23 0 rfl rfl dzU_current_20 ?_
  refine lv_iload_n (pc := 23) hx hb dzU_current_23 rfl (lv_at hl 1 rfl) ?_
  refine xk_aald (q0 := 3) (t0 := 6) (j := 0) (b := (ad 31)) (pc := 24) hx hb hK hP rfl rfl (pk_in 0 3 (by decide)) (pk_cl 0) rfl dzU_current_24 ?_
  refine xk_get (pc := 25) hx hb hts hown hK hP ffzU_149 31 rfl rfl dzU_current_25 ?_
  refine lv_iload_n (pc := 28) hx hb dzU_current_28 rfl (lv_at hl 2 rfl) ?_
  have K1 : ∀ (x1 : Int32), (if (g0 31 0) = k1 then (x1 = 0) else (x1 = 1)) → (xk_b x1) → W p l e xk_r0 s m args below meth c H locs 0 0 Q (F0 m 37 ls [.int x1]) := by
    intro x1 R1 bx1
    refine lv_istore_n (lv' := [(3, .int x1), (0, .ref (ad 0)), (1, .int 0), (2, .int k1)]) (pc := 37) hx hb dzU_current_37 rfl hl (by decide) rfl (fun ls hl => ?_)
    refine lv_aload_n (pc := 38) hx hb dzU_current_38 rfl (lv_at hl 1 rfl) ?_
    refine xk_get (pc := 39) hx hb hts hown hK hP ffzU_23 0 rfl rfl dzU_current_39 ?_
    refine lv_iload_n (pc := 42) hx hb dzU_current_42 rfl (lv_at hl 2 rfl) ?_
    refine xk_aald (q0 := 3) (t0 := 6) (j := 0) (b := (ad 31)) (pc := 43) hx hb hK hP rfl rfl (pk_in 0 3 (by decide)) (pk_cl 0) rfl dzU_current_43 ?_
    refine lv_iload_n (pc := 44) hx hb dzU_current_44 rfl (lv_at hl 3 rfl) ?_
    refine xk_putf (pc := 45) hx hb hts hown hK hP hD hS pfzU_149 31 rfl (xk_bn hb1) (xk_bf hb1) (Nat.le_of_ble_eq_true rfl) dzU_current_45 (fun H locs hP hD hS => ?_)
    obtain ⟨g1, eg1⟩ : ∃ z : xk_St, z = va_up g0 31 (upd (g0 31) 0 k1) := ⟨_, rfl⟩
    have hP : va_P G xk_cls (xk_wU ad ac g1) H := by rw [eg1]; exact hP
    have hD : va_D A (xk_wU ad ac g1) := by rw [eg1]; exact hD
    refine lv_iload_n (pc := 48) hx hb dzU_current_48 rfl (lv_at hl 0 rfl) ?_
    exact hret _ g1 H locs 49 ls hP hS (xk_bn bx1) (by unfold relzU_current_0; exact ⟨x1, R1, ⟨g1, eg1, ⟨rfl, bx1, rfl⟩⟩⟩) dzU_current_49
  refine lv_icmp_eq (pc := 29) (tgt := 36) hx hb dzU_current_29 (by decide) (fun h1 => ?_) (fun h1 => ?_)
  ·
    refine lv_iconst (v := 0) (pc := 36) hx hb dzU_current_36 (by decide) ?_
    exact K1 0 (Eq.mpr (if_pos h1) rfl) xk_b0
  ·
    refine lv_iconst (v := 1) (pc := 32) hx hb dzU_current_32 (by decide) ?_
    refine lv_goto (tgt := 37) (pc := 33) hx hb dzU_current_33 (by decide) ?_
    exact K1 1 (Eq.mpr (if_neg h1) rfl) xk_b1
theorem frzU_current_0 (g0 : xk_St) (k1 : Int32) (rz : Int32) (gz : xk_St) : relzU_current_0 g0 k1 rz gz → xk_eqv [0, 1, 2, 3, 4, 5, 6, 7, 8, 9, 10, 11, 12, 13, 14, 15, 16, 17, 18, 19, 20, 21, 22, 23, 24, 25, 26, 27, 28, 29, 30, 32, 33] g0 gz := by
  intro h
  unfold relzU_current_0 at h
  have s0 : xk_eqv [0, 1, 2, 3, 4, 5, 6, 7, 8, 9, 10, 11, 12, 13, 14, 15, 16, 17, 18, 19, 20, 21, 22, 23, 24, 25, 26, 27, 28, 29, 30, 32, 33] g0 g0 := xk_eqv_rf
  obtain ⟨x1, u1, v2⟩ := h
  obtain ⟨g1, u3, v4⟩ := v2
  have s5 : xk_eqv [0, 1, 2, 3, 4, 5, 6, 7, 8, 9, 10, 11, 12, 13, 14, 15, 16, 17, 18, 19, 20, 21, 22, 23, 24, 25, 26, 27, 28, 29, 30, 32, 33] g0 g1 := by rw [u3]; repeat (first | exact s0 | refine xk_eqv_up (by decide) ?_)
  rw [v4.2.2]; exact s5

def relzU_current_1 (g0 : xk_St) (k1 : Int32) (rz : Int32) (gz : xk_St) : Prop := ∃ (x1 : Int32), (if (g0 32 0) = k1 then (x1 = 0) else (x1 = 1)) ∧ (∃ (g1 : xk_St), g1 = va_up g0 32 (upd (g0 32) 0 k1) ∧ (rz = x1 ∧ xk_b rz ∧ gz = g1))
set_option maxHeartbeats 4000000 in
set_option maxRecDepth 100000 in
theorem kzU_current_1 (l : Launch) (G : va_G) (ac : Nat → ClassId) (ad : Nat → Nat) (g0 : xk_St) (k1 : Int32) (hb1 : xk_b k1) : xk_CI l yzU_current czU_current 4 .boolean xk_WS xk_r0 G xk_cls (xk_tys ac) [.ref (ad 0), .int 1, .int k1] (xk_wU ad ac g0) (fun rz (gz : xk_St) => relzU_current_1 g0 k1 rz gz) (fun gz => xk_wU ad ac gz) := by
  refine xk_ofI (by decide) (Nat.le_of_ble_eq_true rfl) ?_
  intro p e s m args below meth c A Q H locs ls C0 hret hP hD hS hl
  obtain ⟨hx, hb, hml, hts, hown, hK, hA⟩ := C0
  have hl : lv_has ls 4 [(0, .ref (ad 0)), (1, .int 1), (2, .int k1)] := hl
  refine lv_iload_n (pc := 0) hx hb dzU_current_0 rfl (lv_at hl 1 rfl) ?_
  refine lv_if_lt (pc := 1) (tgt := 9) hx hb dzU_current_1 (by decide) (fun hq9 => absurd hq9 (by decide)) (fun _ => ?_)
  refine lv_iload_n (pc := 4) hx hb dzU_current_4 rfl (lv_at hl 1 rfl) ?_
  refine lv_iconst (v := 3) (pc := 5) hx hb dzU_current_5 (by decide) ?_
  refine lv_icmp_lt (pc := 6) (tgt := 19) hx hb dzU_current_6 (by decide) (fun _ => ?_) (fun hq9 => absurd (by decide) hq9)
  refine lv_aload_n (pc := 19) hx hb dzU_current_19 rfl (lv_at hl 0 rfl) ?_
  refine xk_get (pc := 20) hx hb hts hown hK hP ffzU_23 0 rfl rfl dzU_current_20 ?_
  refine lv_iload_n (pc := 23) hx hb dzU_current_23 rfl (lv_at hl 1 rfl) ?_
  refine xk_aald (q0 := 3) (t0 := 6) (j := 1) (b := (ad 32)) (pc := 24) hx hb hK hP rfl rfl (pk_in 1 3 (by decide)) (pk_cl 1) rfl dzU_current_24 ?_
  refine xk_get (pc := 25) hx hb hts hown hK hP ffzU_149 32 rfl rfl dzU_current_25 ?_
  refine lv_iload_n (pc := 28) hx hb dzU_current_28 rfl (lv_at hl 2 rfl) ?_
  have K1 : ∀ (x1 : Int32), (if (g0 32 0) = k1 then (x1 = 0) else (x1 = 1)) → (xk_b x1) → W p l e xk_r0 s m args below meth c H locs 0 0 Q (F0 m 37 ls [.int x1]) := by
    intro x1 R1 bx1
    refine lv_istore_n (lv' := [(3, .int x1), (0, .ref (ad 0)), (1, .int 1), (2, .int k1)]) (pc := 37) hx hb dzU_current_37 rfl hl (by decide) rfl (fun ls hl => ?_)
    refine lv_aload_n (pc := 38) hx hb dzU_current_38 rfl (lv_at hl 1 rfl) ?_
    refine xk_get (pc := 39) hx hb hts hown hK hP ffzU_23 0 rfl rfl dzU_current_39 ?_
    refine lv_iload_n (pc := 42) hx hb dzU_current_42 rfl (lv_at hl 2 rfl) ?_
    refine xk_aald (q0 := 3) (t0 := 6) (j := 1) (b := (ad 32)) (pc := 43) hx hb hK hP rfl rfl (pk_in 1 3 (by decide)) (pk_cl 1) rfl dzU_current_43 ?_
    refine lv_iload_n (pc := 44) hx hb dzU_current_44 rfl (lv_at hl 3 rfl) ?_
    refine xk_putf (pc := 45) hx hb hts hown hK hP hD hS pfzU_149 32 rfl (xk_bn hb1) (xk_bf hb1) (Nat.le_of_ble_eq_true rfl) dzU_current_45 (fun H locs hP hD hS => ?_)
    obtain ⟨g1, eg1⟩ : ∃ z : xk_St, z = va_up g0 32 (upd (g0 32) 0 k1) := ⟨_, rfl⟩
    have hP : va_P G xk_cls (xk_wU ad ac g1) H := by rw [eg1]; exact hP
    have hD : va_D A (xk_wU ad ac g1) := by rw [eg1]; exact hD
    refine lv_iload_n (pc := 48) hx hb dzU_current_48 rfl (lv_at hl 0 rfl) ?_
    exact hret _ g1 H locs 49 ls hP hS (xk_bn bx1) (by unfold relzU_current_1; exact ⟨x1, R1, ⟨g1, eg1, ⟨rfl, bx1, rfl⟩⟩⟩) dzU_current_49
  refine lv_icmp_eq (pc := 29) (tgt := 36) hx hb dzU_current_29 (by decide) (fun h1 => ?_) (fun h1 => ?_)
  ·
    refine lv_iconst (v := 0) (pc := 36) hx hb dzU_current_36 (by decide) ?_
    exact K1 0 (Eq.mpr (if_pos h1) rfl) xk_b0
  ·
    refine lv_iconst (v := 1) (pc := 32) hx hb dzU_current_32 (by decide) ?_
    refine lv_goto (tgt := 37) (pc := 33) hx hb dzU_current_33 (by decide) ?_
    exact K1 1 (Eq.mpr (if_neg h1) rfl) xk_b1
theorem frzU_current_1 (g0 : xk_St) (k1 : Int32) (rz : Int32) (gz : xk_St) : relzU_current_1 g0 k1 rz gz → xk_eqv [0, 1, 2, 3, 4, 5, 6, 7, 8, 9, 10, 11, 12, 13, 14, 15, 16, 17, 18, 19, 20, 21, 22, 23, 24, 25, 26, 27, 28, 29, 30, 31, 33] g0 gz := by
  intro h
  unfold relzU_current_1 at h
  have s0 : xk_eqv [0, 1, 2, 3, 4, 5, 6, 7, 8, 9, 10, 11, 12, 13, 14, 15, 16, 17, 18, 19, 20, 21, 22, 23, 24, 25, 26, 27, 28, 29, 30, 31, 33] g0 g0 := xk_eqv_rf
  obtain ⟨x1, u1, v2⟩ := h
  obtain ⟨g1, u3, v4⟩ := v2
  have s5 : xk_eqv [0, 1, 2, 3, 4, 5, 6, 7, 8, 9, 10, 11, 12, 13, 14, 15, 16, 17, 18, 19, 20, 21, 22, 23, 24, 25, 26, 27, 28, 29, 30, 31, 33] g0 g1 := by rw [u3]; repeat (first | exact s0 | refine xk_eqv_up (by decide) ?_)
  rw [v4.2.2]; exact s5

def relzU_current_2 (g0 : xk_St) (k1 : Int32) (rz : Int32) (gz : xk_St) : Prop := ∃ (x1 : Int32), (if (g0 33 0) = k1 then (x1 = 0) else (x1 = 1)) ∧ (∃ (g1 : xk_St), g1 = va_up g0 33 (upd (g0 33) 0 k1) ∧ (rz = x1 ∧ xk_b rz ∧ gz = g1))
set_option maxHeartbeats 4000000 in
set_option maxRecDepth 100000 in
theorem kzU_current_2 (l : Launch) (G : va_G) (ac : Nat → ClassId) (ad : Nat → Nat) (g0 : xk_St) (k1 : Int32) (hb1 : xk_b k1) : xk_CI l yzU_current czU_current 4 .boolean xk_WS xk_r0 G xk_cls (xk_tys ac) [.ref (ad 0), .int 2, .int k1] (xk_wU ad ac g0) (fun rz (gz : xk_St) => relzU_current_2 g0 k1 rz gz) (fun gz => xk_wU ad ac gz) := by
  refine xk_ofI (by decide) (Nat.le_of_ble_eq_true rfl) ?_
  intro p e s m args below meth c A Q H locs ls C0 hret hP hD hS hl
  obtain ⟨hx, hb, hml, hts, hown, hK, hA⟩ := C0
  have hl : lv_has ls 4 [(0, .ref (ad 0)), (1, .int 2), (2, .int k1)] := hl
  refine lv_iload_n (pc := 0) hx hb dzU_current_0 rfl (lv_at hl 1 rfl) ?_
  refine lv_if_lt (pc := 1) (tgt := 9) hx hb dzU_current_1 (by decide) (fun hq9 => absurd hq9 (by decide)) (fun _ => ?_)
  refine lv_iload_n (pc := 4) hx hb dzU_current_4 rfl (lv_at hl 1 rfl) ?_
  refine lv_iconst (v := 3) (pc := 5) hx hb dzU_current_5 (by decide) ?_
  refine lv_icmp_lt (pc := 6) (tgt := 19) hx hb dzU_current_6 (by decide) (fun _ => ?_) (fun hq9 => absurd (by decide) hq9)
  refine lv_aload_n (pc := 19) hx hb dzU_current_19 rfl (lv_at hl 0 rfl) ?_
  refine xk_get (pc := 20) hx hb hts hown hK hP ffzU_23 0 rfl rfl dzU_current_20 ?_
  refine lv_iload_n (pc := 23) hx hb dzU_current_23 rfl (lv_at hl 1 rfl) ?_
  refine xk_aald (q0 := 3) (t0 := 6) (j := 2) (b := (ad 33)) (pc := 24) hx hb hK hP rfl rfl (pk_in 2 3 (by decide)) (pk_cl 2) rfl dzU_current_24 ?_
  refine xk_get (pc := 25) hx hb hts hown hK hP ffzU_149 33 rfl rfl dzU_current_25 ?_
  refine lv_iload_n (pc := 28) hx hb dzU_current_28 rfl (lv_at hl 2 rfl) ?_
  have K1 : ∀ (x1 : Int32), (if (g0 33 0) = k1 then (x1 = 0) else (x1 = 1)) → (xk_b x1) → W p l e xk_r0 s m args below meth c H locs 0 0 Q (F0 m 37 ls [.int x1]) := by
    intro x1 R1 bx1
    refine lv_istore_n (lv' := [(3, .int x1), (0, .ref (ad 0)), (1, .int 2), (2, .int k1)]) (pc := 37) hx hb dzU_current_37 rfl hl (by decide) rfl (fun ls hl => ?_)
    refine lv_aload_n (pc := 38) hx hb dzU_current_38 rfl (lv_at hl 1 rfl) ?_
    refine xk_get (pc := 39) hx hb hts hown hK hP ffzU_23 0 rfl rfl dzU_current_39 ?_
    refine lv_iload_n (pc := 42) hx hb dzU_current_42 rfl (lv_at hl 2 rfl) ?_
    refine xk_aald (q0 := 3) (t0 := 6) (j := 2) (b := (ad 33)) (pc := 43) hx hb hK hP rfl rfl (pk_in 2 3 (by decide)) (pk_cl 2) rfl dzU_current_43 ?_
    refine lv_iload_n (pc := 44) hx hb dzU_current_44 rfl (lv_at hl 3 rfl) ?_
    refine xk_putf (pc := 45) hx hb hts hown hK hP hD hS pfzU_149 33 rfl (xk_bn hb1) (xk_bf hb1) (Nat.le_of_ble_eq_true rfl) dzU_current_45 (fun H locs hP hD hS => ?_)
    obtain ⟨g1, eg1⟩ : ∃ z : xk_St, z = va_up g0 33 (upd (g0 33) 0 k1) := ⟨_, rfl⟩
    have hP : va_P G xk_cls (xk_wU ad ac g1) H := by rw [eg1]; exact hP
    have hD : va_D A (xk_wU ad ac g1) := by rw [eg1]; exact hD
    refine lv_iload_n (pc := 48) hx hb dzU_current_48 rfl (lv_at hl 0 rfl) ?_
    exact hret _ g1 H locs 49 ls hP hS (xk_bn bx1) (by unfold relzU_current_2; exact ⟨x1, R1, ⟨g1, eg1, ⟨rfl, bx1, rfl⟩⟩⟩) dzU_current_49
  refine lv_icmp_eq (pc := 29) (tgt := 36) hx hb dzU_current_29 (by decide) (fun h1 => ?_) (fun h1 => ?_)
  ·
    refine lv_iconst (v := 0) (pc := 36) hx hb dzU_current_36 (by decide) ?_
    exact K1 0 (Eq.mpr (if_pos h1) rfl) xk_b0
  ·
    refine lv_iconst (v := 1) (pc := 32) hx hb dzU_current_32 (by decide) ?_
    refine lv_goto (tgt := 37) (pc := 33) hx hb dzU_current_33 (by decide) ?_
    exact K1 1 (Eq.mpr (if_neg h1) rfl) xk_b1
theorem frzU_current_2 (g0 : xk_St) (k1 : Int32) (rz : Int32) (gz : xk_St) : relzU_current_2 g0 k1 rz gz → xk_eqv [0, 1, 2, 3, 4, 5, 6, 7, 8, 9, 10, 11, 12, 13, 14, 15, 16, 17, 18, 19, 20, 21, 22, 23, 24, 25, 26, 27, 28, 29, 30, 31, 32] g0 gz := by
  intro h
  unfold relzU_current_2 at h
  have s0 : xk_eqv [0, 1, 2, 3, 4, 5, 6, 7, 8, 9, 10, 11, 12, 13, 14, 15, 16, 17, 18, 19, 20, 21, 22, 23, 24, 25, 26, 27, 28, 29, 30, 31, 32] g0 g0 := xk_eqv_rf
  obtain ⟨x1, u1, v2⟩ := h
  obtain ⟨g1, u3, v4⟩ := v2
  have s5 : xk_eqv [0, 1, 2, 3, 4, 5, 6, 7, 8, 9, 10, 11, 12, 13, 14, 15, 16, 17, 18, 19, 20, 21, 22, 23, 24, 25, 26, 27, 28, 29, 30, 31, 32] g0 g1 := by rw [u3]; repeat (first | exact s0 | refine xk_eqv_up (by decide) ?_)
  rw [v4.2.2]; exact s5

def relzU_night (g0 : xk_St) (k0 : Int32) (rz : Int32) (gz : xk_St) : Prop := ∃ (x1 : Int32), (if (g0 0 7) = k0 then (x1 = 0) else (x1 = 1)) ∧ (∃ (g1 : xk_St), g1 = va_up g0 0 (upd (g0 0) 7 k0) ∧ (rz = x1 ∧ xk_b rz ∧ gz = g1))
set_option maxHeartbeats 4000000 in
set_option maxRecDepth 100000 in
theorem kzU_night (l : Launch) (G : va_G) (ac : Nat → ClassId) (ad : Nat → Nat) (g0 : xk_St) (k0 : Int32) (hb0 : xk_b k0) : xk_CI l yzU_night czU_night 3 .boolean xk_WS xk_r0 G xk_cls (xk_tys ac) [.ref (ad 0), .int k0] (xk_wU ad ac g0) (fun rz (gz : xk_St) => relzU_night g0 k0 rz gz) (fun gz => xk_wU ad ac gz) := by
  refine xk_ofI (by decide) (Nat.le_of_ble_eq_true rfl) ?_
  intro p e s m args below meth c A Q H locs ls C0 hret hP hD hS hl
  obtain ⟨hx, hb, hml, hts, hown, hK, hA⟩ := C0
  have hl : lv_has ls 3 [(0, .ref (ad 0)), (1, .int k0)] := hl
  refine lv_aload_n (pc := 0) hx hb dzU_night_0 rfl (lv_at hl 0 rfl) ?_
  refine xk_get (pc := 1) hx hb hts hown hK hP ffzU_48 0 rfl rfl dzU_night_1 ?_
  refine lv_iload_n (pc := 4) hx hb dzU_night_4 rfl (lv_at hl 1 rfl) ?_
  have K1 : ∀ (x1 : Int32), (if (g0 0 7) = k0 then (x1 = 0) else (x1 = 1)) → (xk_b x1) → W p l e xk_r0 s m args below meth c H locs 0 0 Q (F0 m 13 ls [.int x1]) := by
    intro x1 R1 bx1
    refine lv_istore_n (lv' := [(2, .int x1), (0, .ref (ad 0)), (1, .int k0)]) (pc := 13) hx hb dzU_night_13 rfl hl (by decide) rfl (fun ls hl => ?_)
    refine lv_aload_n (pc := 14) hx hb dzU_night_14 rfl (lv_at hl 1 rfl) ?_
    refine lv_iload_n (pc := 15) hx hb dzU_night_15 rfl (lv_at hl 2 rfl) ?_
    refine xk_putf (pc := 16) hx hb hts hown hK hP hD hS pfzU_48 0 rfl (xk_bn hb0) (xk_bf hb0) (Nat.le_of_ble_eq_true rfl) dzU_night_16 (fun H locs hP hD hS => ?_)
    obtain ⟨g1, eg1⟩ : ∃ z : xk_St, z = va_up g0 0 (upd (g0 0) 7 k0) := ⟨_, rfl⟩
    have hP : va_P G xk_cls (xk_wU ad ac g1) H := by rw [eg1]; exact hP
    have hD : va_D A (xk_wU ad ac g1) := by rw [eg1]; exact hD
    refine lv_iload_n (pc := 19) hx hb dzU_night_19 rfl (lv_at hl 0 rfl) ?_
    exact hret _ g1 H locs 20 ls hP hS (xk_bn bx1) (by unfold relzU_night; exact ⟨x1, R1, ⟨g1, eg1, ⟨rfl, bx1, rfl⟩⟩⟩) dzU_night_20
  refine lv_icmp_eq (pc := 5) (tgt := 12) hx hb dzU_night_5 (by decide) (fun h1 => ?_) (fun h1 => ?_)
  ·
    refine lv_iconst (v := 0) (pc := 12) hx hb dzU_night_12 (by decide) ?_
    exact K1 0 (Eq.mpr (if_pos h1) rfl) xk_b0
  ·
    refine lv_iconst (v := 1) (pc := 8) hx hb dzU_night_8 (by decide) ?_
    refine lv_goto (tgt := 13) (pc := 9) hx hb dzU_night_9 (by decide) ?_
    exact K1 1 (Eq.mpr (if_neg h1) rfl) xk_b1
theorem frzU_night (g0 : xk_St) (k0 : Int32) (rz : Int32) (gz : xk_St) : relzU_night g0 k0 rz gz → xk_eqv [1, 2, 3, 4, 5, 6, 7, 8, 9, 10, 11, 12, 13, 14, 15, 16, 17, 18, 19, 20, 21, 22, 23, 24, 25, 26, 27, 28, 29, 30, 31, 32, 33] g0 gz := by
  intro h
  unfold relzU_night at h
  have s0 : xk_eqv [1, 2, 3, 4, 5, 6, 7, 8, 9, 10, 11, 12, 13, 14, 15, 16, 17, 18, 19, 20, 21, 22, 23, 24, 25, 26, 27, 28, 29, 30, 31, 32, 33] g0 g0 := xk_eqv_rf
  obtain ⟨x1, u1, v2⟩ := h
  obtain ⟨g1, u3, v4⟩ := v2
  have s5 : xk_eqv [1, 2, 3, 4, 5, 6, 7, 8, 9, 10, 11, 12, 13, 14, 15, 16, 17, 18, 19, 20, 21, 22, 23, 24, 25, 26, 27, 28, 29, 30, 31, 32, 33] g0 g1 := by rw [u3]; repeat (first | exact s0 | refine xk_eqv_up (by decide) ?_)
  rw [v4.2.2]; exact s5

def relzU_order_0 (g0 : xk_St) (rz : Int32) (gz : xk_St) : Prop := if (g0 9 4) = 0 then (if (qzK_isDisturbed (g0 19 3) (g0 20 3) (g0 21 3)) = 0 then (if (qzS_state (g0 20 1) (g0 20 3)) = 1 then (rz = 3 ∧ gz = g0) else (if (qzU_isAlarmed g0) = 0 then (∃ (g1 : xk_St), g1 = va_up g0 9 (upd (g0 9) 4 1) ∧ (∃ (g2 : xk_St), g2 = va_up (va_up (va_up (va_up g1 5 (upd (g1 5) 3 (qzJ_add_a3 (g1 5 3)))) 6 (qzJ_add_b (g1 5 3) (g1 6) (g1 0 5))) 7 (qzJ_add_c (g1 5 3) (g1 7) 8)) 8 (qzJ_add_d (g1 5 3) (g1 8) 0) ∧ (rz = 0 ∧ gz = g2))) else (rz = 4 ∧ gz = g0))) else (rz = 2 ∧ gz = g0)) else (rz = 1 ∧ gz = g0)
set_option maxHeartbeats 4000000 in
set_option maxRecDepth 100000 in
theorem kzU_order_0 (l : Launch) (G : va_G) (ac : Nat → ClassId) (ad : Nat → Nat) (g0 : xk_St) : xk_CI l yzU_order czU_order 3 .int xk_WS xk_r2 G xk_cls (xk_tys ac) [.ref (ad 0), .int 0] (xk_wU ad ac g0) (fun rz (gz : xk_St) => relzU_order_0 g0 rz gz) (fun gz => xk_wU ad ac gz) := by
  refine xk_ofI (by decide) (Nat.le_of_ble_eq_true rfl) ?_
  intro p e s m args below meth c A Q H locs ls C0 hret hP hD hS hl
  obtain ⟨hx, hb, hml, hts, hown, hK, hA⟩ := C0
  have hl : lv_has ls 3 [(0, .ref (ad 0)), (1, .int 0)] := hl
  refine lv_aload_n (pc := 0) hx hb dzU_order_0 rfl (lv_at hl 0 rfl) ?_
  refine lv_iload_n (pc := 1) hx hb dzU_order_1 rfl (lv_at hl 1 rfl) ?_
  refine xk_allVR (As := [.int 0]) (rest := []) (H0 := s.heap) (pc := 2) hx hb hml hts hown hK hA hP hD hS (kzU_findTrack_0 l G ac ad g0) vfzU_63 0 rfl rfl ⟨rfl, rfl⟩ ⟨Nat.le_of_ble_eq_true rfl, Nat.le_of_ble_eq_true rfl⟩ rfl hl.1 rfl (Nat.le_of_ble_eq_true rfl) ⟨Nat.zero_le _, Nat.zero_le _⟩ dzU_order_2 (fun H locs hP hD hS => ?_)
  have hP : va_P G xk_cls (xk_wU ad ac g0) H := hP
  have hD : va_D A (xk_wU ad ac g0) := hD
  refine lv_astore_n (lv' := [(2, .ref (ad 9)), (0, .ref (ad 0)), (1, .int 0)]) (pc := 5) hx hb dzU_order_5 rfl hl (by decide) rfl (fun ls hl => ?_)
  refine lv_aload_n (pc := 6) hx hb dzU_order_6 rfl (lv_at hl 0 rfl) ?_
  refine xk_get (pc := 7) hx hb hts hown hK hP ffzU_152 9 rfl rfl dzU_order_7 ?_
  refine lv_if_eq (pc := 10) (tgt := 15) hx hb dzU_order_10 (by decide) (fun h1 => ?_) (fun h1 => ?_)
  ·
    refine lv_aload_n (pc := 15) hx hb dzU_order_15 rfl (lv_at hl 0 rfl) ?_
    refine xk_callVI (As := []) (rest := []) (H0 := s.heap) (pc := 16) hx hb hml hts hown hK hA hP hD hS (kzK_isDisturbed l G ac (ad 9) (ad 11) (ad 13) (ad 15) (ad 17) (g0 9 4) (g0 9 5) (fun j => ad (19 + j)) (g0 19 0) (g0 19 1) (g0 19 2) (g0 19 3) (g0 19 4) (g0 19 5) (g0 19 6) (g0 19 7) (g0 19 8) (g0 20 0) (g0 20 1) (g0 20 2) (g0 20 3) (g0 20 4) (g0 20 5) (g0 20 6) (g0 20 7) (g0 20 8) (g0 21 0) (g0 21 1) (g0 21 2) (g0 21 3) (g0 21 4) (g0 21 5) (g0 21 6) (g0 21 7) (g0 21 8)) vfzU_155 [9, 11, 19, 20, 21] (by decide) rfl (fun _ => rfl) 9 rfl rfl ⟨rfl, rfl⟩ ⟨Nat.le_of_ble_eq_true rfl, Nat.le_of_ble_eq_true rfl⟩ rfl hl.1 rfl (Nat.le_of_ble_eq_true rfl) ⟨Nat.zero_le _, Nat.zero_le _⟩ dzU_order_16 (fun r1 u9 H locs e9 hP hD hS => ?_)
    obtain rfl : r1 = qzK_isDisturbed (g0 19 3) (g0 20 3) (g0 21 3) := e9
    have hP : va_P G xk_cls (xk_wU ad ac g0) H := hP
    have hD : va_D A (xk_wU ad ac g0) := hD
    refine lv_if_eq (pc := 19) (tgt := 24) hx hb dzU_order_19 (by decide) (fun h2 => ?_) (fun h2 => ?_)
    ·
      refine lv_aload_n (pc := 24) hx hb dzU_order_24 rfl (lv_at hl 0 rfl) ?_
      refine xk_get (pc := 25) hx hb hts hown hK hP ffzU_158 9 rfl rfl dzU_order_25 ?_
      refine lv_iconst (v := 1) (pc := 28) hx hb dzU_order_28 (by decide) ?_
      refine xk_aald (q0 := 11) (t0 := 3) (j := 1) (b := (ad 20)) (pc := 29) hx hb hK hP rfl rfl (pk_in 1 3 (by decide)) (pk_cl 1) rfl dzU_order_29 ?_
      refine xk_callVI (As := []) (rest := []) (H0 := s.heap) (pc := 30) hx hb hml hts hown hK hA hP hD hS (kzS_state l G ac (ad 20) (g0 20 0) (g0 20 1) (g0 20 2) (g0 20 3) (g0 20 4) (g0 20 5) (g0 20 6) (g0 20 7) (g0 20 8)) vfzU_162 [20] (by decide) rfl (fun _ => rfl) 20 rfl rfl ⟨rfl, rfl⟩ ⟨Nat.le_of_ble_eq_true rfl, Nat.le_of_ble_eq_true rfl⟩ rfl hl.1 rfl (Nat.le_of_ble_eq_true rfl) ⟨Nat.zero_le _, Nat.zero_le _⟩ dzU_order_30 (fun r2 u9 H locs e9 hP hD hS => ?_)
      obtain rfl : r2 = qzS_state (g0 20 1) (g0 20 3) := e9
      have hP : va_P G xk_cls (xk_wU ad ac g0) H := hP
      have hD : va_D A (xk_wU ad ac g0) := hD
      refine lv_iconst (v := 1) (pc := 33) hx hb dzU_order_33 (by decide) ?_
      refine lv_icmp_ne (pc := 34) (tgt := 39) hx hb dzU_order_34 (by decide) (fun h3 => ?_) (fun h3 => ?_)
      ·
        refine lv_aload_n (pc := 39) hx hb dzU_order_39 rfl (lv_at hl 1 rfl) ?_
        refine xk_allVI (As := []) (rest := []) (H0 := s.heap) (pc := 40) hx hb hml hts hown hK hA hP hD hS (kzU_isAlarmed l G ac ad g0) vfzU_167 (fun _ => rfl) 0 rfl rfl ⟨rfl, rfl⟩ ⟨Nat.le_of_ble_eq_true rfl, Nat.le_of_ble_eq_true rfl⟩ rfl hl.1 rfl (Nat.le_of_ble_eq_true rfl) ⟨Nat.zero_le _, Nat.zero_le _⟩ dzU_order_40 (fun r3 u9 H locs e9 hP hD hS => ?_)
        obtain rfl : r3 = qzU_isAlarmed g0 := e9
        have hP : va_P G xk_cls (xk_wU ad ac g0) H := hP
        have hD : va_D A (xk_wU ad ac g0) := hD
        refine lv_if_eq (pc := 43) (tgt := 48) hx hb dzU_order_43 (by decide) (fun h4 => ?_) (fun h4 => ?_)
        ·
          refine lv_aload_n (pc := 48) hx hb dzU_order_48 rfl (lv_at hl 0 rfl) ?_
          refine lv_iconst (v := 1) (pc := 49) hx hb dzU_order_49 (by decide) ?_
          refine xk_putf (pc := 50) hx hb hts hown hK hP hD hS pfzU_152 9 rfl (xk_bn xk_b1) (xk_bf xk_b1) (Nat.le_of_ble_eq_true rfl) dzU_order_50 (fun H locs hP hD hS => ?_)
          obtain ⟨g1, eg1⟩ : ∃ z : xk_St, z = va_up g0 9 (upd (g0 9) 4 1) := ⟨_, rfl⟩
          have hP : va_P G xk_cls (xk_wU ad ac g1) H := by rw [eg1]; exact hP
          have hD : va_D A (xk_wU ad ac g1) := by rw [eg1]; exact hD
          refine lv_aload_n (pc := 53) hx hb dzU_order_53 rfl (lv_at hl 1 rfl) ?_
          refine xk_get (pc := 54) hx hb hts hown hK hP ffzU_37 0 rfl rfl dzU_order_54 ?_
          refine lv_aload_n (pc := 57) hx hb dzU_order_57 rfl (lv_at hl 1 rfl) ?_
          refine xk_get (pc := 58) hx hb hts hown hK hP ffzU_41 0 rfl rfl dzU_order_58 ?_
          refine lv_bipush (v := 8) (pc := 61) hx hb dzU_order_61 (by decide) ?_
          refine lv_iload_n (pc := 63) hx hb dzU_order_63 rfl (lv_at hl 2 rfl) ?_
          refine xk_callVV (As := [.int (g1 0 5), .int 8, .int 0]) (rest := []) (H0 := s.heap) (pc := 64) hx hb hml hts hown hK hA hP hD hS (kzJ_add l G ac (ad 5) (ad 6) (ad 7) (ad 8) (g1 5 3) (g1 6) (g1 7) (g1 8) (g1 0 5) 8 0) vfzU_170 [5, 6, 7, 8] (by decide) rfl (fun _ => rfl) 5 rfl rfl ⟨rfl, rfl⟩ ⟨Nat.le_of_ble_eq_true rfl, Nat.le_of_ble_eq_true rfl⟩ rfl hl.1 rfl (Nat.le_of_ble_eq_true rfl) ⟨Nat.zero_le _, Nat.zero_le _⟩ dzU_order_64 (fun u9 H locs e9 hP hD hS => ?_)
          obtain ⟨g2, eg2⟩ : ∃ z : xk_St, z = va_up (va_up (va_up (va_up g1 5 (upd (g1 5) 3 (qzJ_add_a3 (g1 5 3)))) 6 (qzJ_add_b (g1 5 3) (g1 6) (g1 0 5))) 7 (qzJ_add_c (g1 5 3) (g1 7) 8)) 8 (qzJ_add_d (g1 5 3) (g1 8) 0) := ⟨_, rfl⟩
          have hP : va_P G xk_cls (xk_wU ad ac g2) H := by rw [eg2]; exact hP
          have hD : va_D A (xk_wU ad ac g2) := by rw [eg2]; exact hD
          refine lv_iconst (v := 0) (pc := 67) hx hb dzU_order_67 (by decide) ?_
          exact hret _ g2 H locs 68 ls hP hS rfl (by unfold relzU_order_0; exact (Eq.mpr (if_pos h1) (Eq.mpr (if_pos h2) (Eq.mpr (if_neg h3) (Eq.mpr (if_pos h4) ⟨g1, eg1, ⟨g2, eg2, ⟨rfl, rfl⟩⟩⟩))))) dzU_order_68
        ·
          refine lv_iconst (v := 4) (pc := 46) hx hb dzU_order_46 (by decide) ?_
          exact hret _ g0 H locs 47 ls hP hS rfl (by unfold relzU_order_0; exact (Eq.mpr (if_pos h1) (Eq.mpr (if_pos h2) (Eq.mpr (if_neg h3) (Eq.mpr (if_neg h4) ⟨rfl, rfl⟩))))) dzU_order_47
      ·
        refine lv_iconst (v := 3) (pc := 37) hx hb dzU_order_37 (by decide) ?_
        exact hret _ g0 H locs 38 ls hP hS rfl (by unfold relzU_order_0; exact (Eq.mpr (if_pos h1) (Eq.mpr (if_pos h2) (Eq.mpr (if_pos h3) ⟨rfl, rfl⟩)))) dzU_order_38
    ·
      refine lv_iconst (v := 2) (pc := 22) hx hb dzU_order_22 (by decide) ?_
      exact hret _ g0 H locs 23 ls hP hS rfl (by unfold relzU_order_0; exact (Eq.mpr (if_pos h1) (Eq.mpr (if_neg h2) ⟨rfl, rfl⟩))) dzU_order_23
  ·
    refine lv_iconst (v := 1) (pc := 13) hx hb dzU_order_13 (by decide) ?_
    exact hret _ g0 H locs 14 ls hP hS rfl (by unfold relzU_order_0; exact (Eq.mpr (if_neg h1) ⟨rfl, rfl⟩)) dzU_order_14
theorem frzU_order_0 (g0 : xk_St) (rz : Int32) (gz : xk_St) : relzU_order_0 g0 rz gz → xk_eqv [0, 1, 2, 3, 4, 10, 11, 12, 13, 14, 15, 16, 17, 18, 19, 20, 21, 22, 23, 24, 25, 26, 27, 28, 29, 30, 31, 32, 33] g0 gz := by
  intro h
  unfold relzU_order_0 at h
  have s0 : xk_eqv [0, 1, 2, 3, 4, 10, 11, 12, 13, 14, 15, 16, 17, 18, 19, 20, 21, 22, 23, 24, 25, 26, 27, 28, 29, 30, 31, 32, 33] g0 g0 := xk_eqv_rf
  by_cases hc : (g0 9 4) = 0
  · rw [if_pos hc] at h
    by_cases hc : (qzK_isDisturbed (g0 19 3) (g0 20 3) (g0 21 3)) = 0
    · rw [if_pos hc] at h
      by_cases hc : (qzS_state (g0 20 1) (g0 20 3)) = 1
      · rw [if_pos hc] at h
        rw [h.2]; exact s0
      · rw [if_neg hc] at h
        by_cases hc : (qzU_isAlarmed g0) = 0
        · rw [if_pos hc] at h
          obtain ⟨g1, u1, v2⟩ := h
          have s3 : xk_eqv [0, 1, 2, 3, 4, 10, 11, 12, 13, 14, 15, 16, 17, 18, 19, 20, 21, 22, 23, 24, 25, 26, 27, 28, 29, 30, 31, 32, 33] g0 g1 := by rw [u1]; repeat (first | exact s0 | refine xk_eqv_up (by decide) ?_)
          obtain ⟨g2, u4, v5⟩ := v2
          have s6 : xk_eqv [0, 1, 2, 3, 4, 10, 11, 12, 13, 14, 15, 16, 17, 18, 19, 20, 21, 22, 23, 24, 25, 26, 27, 28, 29, 30, 31, 32, 33] g0 g2 := by rw [u4]; repeat (first | exact s3 | refine xk_eqv_up (by decide) ?_)
          rw [v5.2]; exact s6
        · rw [if_neg hc] at h
          rw [h.2]; exact s0
    · rw [if_neg hc] at h
      rw [h.2]; exact s0
  · rw [if_neg hc] at h
    rw [h.2]; exact s0

def relzU_order_1 (g0 : xk_St) (rz : Int32) (gz : xk_St) : Prop := if (g0 10 4) = 0 then (if (qzK_isDisturbed (g0 22 3) (g0 23 3) (g0 24 3)) = 0 then (if (qzS_state (g0 23 1) (g0 23 3)) = 1 then (rz = 3 ∧ gz = g0) else (if (qzU_isAlarmed g0) = 0 then (∃ (g1 : xk_St), g1 = va_up g0 10 (upd (g0 10) 4 1) ∧ (∃ (g2 : xk_St), g2 = va_up (va_up (va_up (va_up g1 5 (upd (g1 5) 3 (qzJ_add_a3 (g1 5 3)))) 6 (qzJ_add_b (g1 5 3) (g1 6) (g1 0 5))) 7 (qzJ_add_c (g1 5 3) (g1 7) 8)) 8 (qzJ_add_d (g1 5 3) (g1 8) 1) ∧ (rz = 0 ∧ gz = g2))) else (rz = 4 ∧ gz = g0))) else (rz = 2 ∧ gz = g0)) else (rz = 1 ∧ gz = g0)
set_option maxHeartbeats 4000000 in
set_option maxRecDepth 100000 in
theorem kzU_order_1 (l : Launch) (G : va_G) (ac : Nat → ClassId) (ad : Nat → Nat) (g0 : xk_St) : xk_CI l yzU_order czU_order 3 .int xk_WS xk_r2 G xk_cls (xk_tys ac) [.ref (ad 0), .int 1] (xk_wU ad ac g0) (fun rz (gz : xk_St) => relzU_order_1 g0 rz gz) (fun gz => xk_wU ad ac gz) := by
  refine xk_ofI (by decide) (Nat.le_of_ble_eq_true rfl) ?_
  intro p e s m args below meth c A Q H locs ls C0 hret hP hD hS hl
  obtain ⟨hx, hb, hml, hts, hown, hK, hA⟩ := C0
  have hl : lv_has ls 3 [(0, .ref (ad 0)), (1, .int 1)] := hl
  refine lv_aload_n (pc := 0) hx hb dzU_order_0 rfl (lv_at hl 0 rfl) ?_
  refine lv_iload_n (pc := 1) hx hb dzU_order_1 rfl (lv_at hl 1 rfl) ?_
  refine xk_allVR (As := [.int 1]) (rest := []) (H0 := s.heap) (pc := 2) hx hb hml hts hown hK hA hP hD hS (kzU_findTrack_1 l G ac ad g0) vfzU_63 0 rfl rfl ⟨rfl, rfl⟩ ⟨Nat.le_of_ble_eq_true rfl, Nat.le_of_ble_eq_true rfl⟩ rfl hl.1 rfl (Nat.le_of_ble_eq_true rfl) ⟨Nat.zero_le _, Nat.zero_le _⟩ dzU_order_2 (fun H locs hP hD hS => ?_)
  have hP : va_P G xk_cls (xk_wU ad ac g0) H := hP
  have hD : va_D A (xk_wU ad ac g0) := hD
  refine lv_astore_n (lv' := [(2, .ref (ad 10)), (0, .ref (ad 0)), (1, .int 1)]) (pc := 5) hx hb dzU_order_5 rfl hl (by decide) rfl (fun ls hl => ?_)
  refine lv_aload_n (pc := 6) hx hb dzU_order_6 rfl (lv_at hl 0 rfl) ?_
  refine xk_get (pc := 7) hx hb hts hown hK hP ffzU_152 10 rfl rfl dzU_order_7 ?_
  refine lv_if_eq (pc := 10) (tgt := 15) hx hb dzU_order_10 (by decide) (fun h1 => ?_) (fun h1 => ?_)
  ·
    refine lv_aload_n (pc := 15) hx hb dzU_order_15 rfl (lv_at hl 0 rfl) ?_
    refine xk_callVI (As := []) (rest := []) (H0 := s.heap) (pc := 16) hx hb hml hts hown hK hA hP hD hS (kzK_isDisturbed l G ac (ad 10) (ad 12) (ad 14) (ad 16) (ad 18) (g0 10 4) (g0 10 5) (fun j => ad (22 + j)) (g0 22 0) (g0 22 1) (g0 22 2) (g0 22 3) (g0 22 4) (g0 22 5) (g0 22 6) (g0 22 7) (g0 22 8) (g0 23 0) (g0 23 1) (g0 23 2) (g0 23 3) (g0 23 4) (g0 23 5) (g0 23 6) (g0 23 7) (g0 23 8) (g0 24 0) (g0 24 1) (g0 24 2) (g0 24 3) (g0 24 4) (g0 24 5) (g0 24 6) (g0 24 7) (g0 24 8)) vfzU_155 [10, 12, 22, 23, 24] (by decide) rfl (fun _ => rfl) 10 rfl rfl ⟨rfl, rfl⟩ ⟨Nat.le_of_ble_eq_true rfl, Nat.le_of_ble_eq_true rfl⟩ rfl hl.1 rfl (Nat.le_of_ble_eq_true rfl) ⟨Nat.zero_le _, Nat.zero_le _⟩ dzU_order_16 (fun r1 u9 H locs e9 hP hD hS => ?_)
    obtain rfl : r1 = qzK_isDisturbed (g0 22 3) (g0 23 3) (g0 24 3) := e9
    have hP : va_P G xk_cls (xk_wU ad ac g0) H := hP
    have hD : va_D A (xk_wU ad ac g0) := hD
    refine lv_if_eq (pc := 19) (tgt := 24) hx hb dzU_order_19 (by decide) (fun h2 => ?_) (fun h2 => ?_)
    ·
      refine lv_aload_n (pc := 24) hx hb dzU_order_24 rfl (lv_at hl 0 rfl) ?_
      refine xk_get (pc := 25) hx hb hts hown hK hP ffzU_158 10 rfl rfl dzU_order_25 ?_
      refine lv_iconst (v := 1) (pc := 28) hx hb dzU_order_28 (by decide) ?_
      refine xk_aald (q0 := 12) (t0 := 3) (j := 1) (b := (ad 23)) (pc := 29) hx hb hK hP rfl rfl (pk_in 1 3 (by decide)) (pk_cl 1) rfl dzU_order_29 ?_
      refine xk_callVI (As := []) (rest := []) (H0 := s.heap) (pc := 30) hx hb hml hts hown hK hA hP hD hS (kzS_state l G ac (ad 23) (g0 23 0) (g0 23 1) (g0 23 2) (g0 23 3) (g0 23 4) (g0 23 5) (g0 23 6) (g0 23 7) (g0 23 8)) vfzU_162 [23] (by decide) rfl (fun _ => rfl) 23 rfl rfl ⟨rfl, rfl⟩ ⟨Nat.le_of_ble_eq_true rfl, Nat.le_of_ble_eq_true rfl⟩ rfl hl.1 rfl (Nat.le_of_ble_eq_true rfl) ⟨Nat.zero_le _, Nat.zero_le _⟩ dzU_order_30 (fun r2 u9 H locs e9 hP hD hS => ?_)
      obtain rfl : r2 = qzS_state (g0 23 1) (g0 23 3) := e9
      have hP : va_P G xk_cls (xk_wU ad ac g0) H := hP
      have hD : va_D A (xk_wU ad ac g0) := hD
      refine lv_iconst (v := 1) (pc := 33) hx hb dzU_order_33 (by decide) ?_
      refine lv_icmp_ne (pc := 34) (tgt := 39) hx hb dzU_order_34 (by decide) (fun h3 => ?_) (fun h3 => ?_)
      ·
        refine lv_aload_n (pc := 39) hx hb dzU_order_39 rfl (lv_at hl 1 rfl) ?_
        refine xk_allVI (As := []) (rest := []) (H0 := s.heap) (pc := 40) hx hb hml hts hown hK hA hP hD hS (kzU_isAlarmed l G ac ad g0) vfzU_167 (fun _ => rfl) 0 rfl rfl ⟨rfl, rfl⟩ ⟨Nat.le_of_ble_eq_true rfl, Nat.le_of_ble_eq_true rfl⟩ rfl hl.1 rfl (Nat.le_of_ble_eq_true rfl) ⟨Nat.zero_le _, Nat.zero_le _⟩ dzU_order_40 (fun r3 u9 H locs e9 hP hD hS => ?_)
        obtain rfl : r3 = qzU_isAlarmed g0 := e9
        have hP : va_P G xk_cls (xk_wU ad ac g0) H := hP
        have hD : va_D A (xk_wU ad ac g0) := hD
        refine lv_if_eq (pc := 43) (tgt := 48) hx hb dzU_order_43 (by decide) (fun h4 => ?_) (fun h4 => ?_)
        ·
          refine lv_aload_n (pc := 48) hx hb dzU_order_48 rfl (lv_at hl 0 rfl) ?_
          refine lv_iconst (v := 1) (pc := 49) hx hb dzU_order_49 (by decide) ?_
          refine xk_putf (pc := 50) hx hb hts hown hK hP hD hS pfzU_152 10 rfl (xk_bn xk_b1) (xk_bf xk_b1) (Nat.le_of_ble_eq_true rfl) dzU_order_50 (fun H locs hP hD hS => ?_)
          obtain ⟨g1, eg1⟩ : ∃ z : xk_St, z = va_up g0 10 (upd (g0 10) 4 1) := ⟨_, rfl⟩
          have hP : va_P G xk_cls (xk_wU ad ac g1) H := by rw [eg1]; exact hP
          have hD : va_D A (xk_wU ad ac g1) := by rw [eg1]; exact hD
          refine lv_aload_n (pc := 53) hx hb dzU_order_53 rfl (lv_at hl 1 rfl) ?_
          refine xk_get (pc := 54) hx hb hts hown hK hP ffzU_37 0 rfl rfl dzU_order_54 ?_
          refine lv_aload_n (pc := 57) hx hb dzU_order_57 rfl (lv_at hl 1 rfl) ?_
          refine xk_get (pc := 58) hx hb hts hown hK hP ffzU_41 0 rfl rfl dzU_order_58 ?_
          refine lv_bipush (v := 8) (pc := 61) hx hb dzU_order_61 (by decide) ?_
          refine lv_iload_n (pc := 63) hx hb dzU_order_63 rfl (lv_at hl 2 rfl) ?_
          refine xk_callVV (As := [.int (g1 0 5), .int 8, .int 1]) (rest := []) (H0 := s.heap) (pc := 64) hx hb hml hts hown hK hA hP hD hS (kzJ_add l G ac (ad 5) (ad 6) (ad 7) (ad 8) (g1 5 3) (g1 6) (g1 7) (g1 8) (g1 0 5) 8 1) vfzU_170 [5, 6, 7, 8] (by decide) rfl (fun _ => rfl) 5 rfl rfl ⟨rfl, rfl⟩ ⟨Nat.le_of_ble_eq_true rfl, Nat.le_of_ble_eq_true rfl⟩ rfl hl.1 rfl (Nat.le_of_ble_eq_true rfl) ⟨Nat.zero_le _, Nat.zero_le _⟩ dzU_order_64 (fun u9 H locs e9 hP hD hS => ?_)
          obtain ⟨g2, eg2⟩ : ∃ z : xk_St, z = va_up (va_up (va_up (va_up g1 5 (upd (g1 5) 3 (qzJ_add_a3 (g1 5 3)))) 6 (qzJ_add_b (g1 5 3) (g1 6) (g1 0 5))) 7 (qzJ_add_c (g1 5 3) (g1 7) 8)) 8 (qzJ_add_d (g1 5 3) (g1 8) 1) := ⟨_, rfl⟩
          have hP : va_P G xk_cls (xk_wU ad ac g2) H := by rw [eg2]; exact hP
          have hD : va_D A (xk_wU ad ac g2) := by rw [eg2]; exact hD
          refine lv_iconst (v := 0) (pc := 67) hx hb dzU_order_67 (by decide) ?_
          exact hret _ g2 H locs 68 ls hP hS rfl (by unfold relzU_order_1; exact (Eq.mpr (if_pos h1) (Eq.mpr (if_pos h2) (Eq.mpr (if_neg h3) (Eq.mpr (if_pos h4) ⟨g1, eg1, ⟨g2, eg2, ⟨rfl, rfl⟩⟩⟩))))) dzU_order_68
        ·
          refine lv_iconst (v := 4) (pc := 46) hx hb dzU_order_46 (by decide) ?_
          exact hret _ g0 H locs 47 ls hP hS rfl (by unfold relzU_order_1; exact (Eq.mpr (if_pos h1) (Eq.mpr (if_pos h2) (Eq.mpr (if_neg h3) (Eq.mpr (if_neg h4) ⟨rfl, rfl⟩))))) dzU_order_47
      ·
        refine lv_iconst (v := 3) (pc := 37) hx hb dzU_order_37 (by decide) ?_
        exact hret _ g0 H locs 38 ls hP hS rfl (by unfold relzU_order_1; exact (Eq.mpr (if_pos h1) (Eq.mpr (if_pos h2) (Eq.mpr (if_pos h3) ⟨rfl, rfl⟩)))) dzU_order_38
    ·
      refine lv_iconst (v := 2) (pc := 22) hx hb dzU_order_22 (by decide) ?_
      exact hret _ g0 H locs 23 ls hP hS rfl (by unfold relzU_order_1; exact (Eq.mpr (if_pos h1) (Eq.mpr (if_neg h2) ⟨rfl, rfl⟩))) dzU_order_23
  ·
    refine lv_iconst (v := 1) (pc := 13) hx hb dzU_order_13 (by decide) ?_
    exact hret _ g0 H locs 14 ls hP hS rfl (by unfold relzU_order_1; exact (Eq.mpr (if_neg h1) ⟨rfl, rfl⟩)) dzU_order_14
theorem frzU_order_1 (g0 : xk_St) (rz : Int32) (gz : xk_St) : relzU_order_1 g0 rz gz → xk_eqv [0, 1, 2, 3, 4, 9, 11, 12, 13, 14, 15, 16, 17, 18, 19, 20, 21, 22, 23, 24, 25, 26, 27, 28, 29, 30, 31, 32, 33] g0 gz := by
  intro h
  unfold relzU_order_1 at h
  have s0 : xk_eqv [0, 1, 2, 3, 4, 9, 11, 12, 13, 14, 15, 16, 17, 18, 19, 20, 21, 22, 23, 24, 25, 26, 27, 28, 29, 30, 31, 32, 33] g0 g0 := xk_eqv_rf
  by_cases hc : (g0 10 4) = 0
  · rw [if_pos hc] at h
    by_cases hc : (qzK_isDisturbed (g0 22 3) (g0 23 3) (g0 24 3)) = 0
    · rw [if_pos hc] at h
      by_cases hc : (qzS_state (g0 23 1) (g0 23 3)) = 1
      · rw [if_pos hc] at h
        rw [h.2]; exact s0
      · rw [if_neg hc] at h
        by_cases hc : (qzU_isAlarmed g0) = 0
        · rw [if_pos hc] at h
          obtain ⟨g1, u1, v2⟩ := h
          have s3 : xk_eqv [0, 1, 2, 3, 4, 9, 11, 12, 13, 14, 15, 16, 17, 18, 19, 20, 21, 22, 23, 24, 25, 26, 27, 28, 29, 30, 31, 32, 33] g0 g1 := by rw [u1]; repeat (first | exact s0 | refine xk_eqv_up (by decide) ?_)
          obtain ⟨g2, u4, v5⟩ := v2
          have s6 : xk_eqv [0, 1, 2, 3, 4, 9, 11, 12, 13, 14, 15, 16, 17, 18, 19, 20, 21, 22, 23, 24, 25, 26, 27, 28, 29, 30, 31, 32, 33] g0 g2 := by rw [u4]; repeat (first | exact s3 | refine xk_eqv_up (by decide) ?_)
          rw [v5.2]; exact s6
        · rw [if_neg hc] at h
          rw [h.2]; exact s0
    · rw [if_neg hc] at h
      rw [h.2]; exact s0
  · rw [if_neg hc] at h
    rw [h.2]; exact s0

def relzU_cancel_0 (g0 : xk_St) (rz : Int32) (gz : xk_St) : Prop := ∃ (g1 : xk_St), g1 = va_up g0 9 (upd (g0 9) 4 0) ∧ (rz = g0 9 4 ∧ xk_b rz ∧ gz = g1)
set_option maxHeartbeats 4000000 in
set_option maxRecDepth 100000 in
theorem kzU_cancel_0 (l : Launch) (G : va_G) (ac : Nat → ClassId) (ad : Nat → Nat) (g0 : xk_St) (hbo : xk_b (g0 9 4)) : xk_CI l yzU_cancel czU_cancel 4 .boolean xk_WS xk_r1 G xk_cls (xk_tys ac) [.ref (ad 0), .int 0] (xk_wU ad ac g0) (fun rz (gz : xk_St) => relzU_cancel_0 g0 rz gz) (fun gz => xk_wU ad ac gz) := by
  refine xk_ofI (by decide) (Nat.le_of_ble_eq_true rfl) ?_
  intro p e s m args below meth c A Q H locs ls C0 hret hP hD hS hl
  obtain ⟨hx, hb, hml, hts, hown, hK, hA⟩ := C0
  have hl : lv_has ls 4 [(0, .ref (ad 0)), (1, .int 0)] := hl
  refine lv_aload_n (pc := 0) hx hb dzU_cancel_0 rfl (lv_at hl 0 rfl) ?_
  refine lv_iload_n (pc := 1) hx hb dzU_cancel_1 rfl (lv_at hl 1 rfl) ?_
  refine xk_allVR (As := [.int 0]) (rest := []) (H0 := s.heap) (pc := 2) hx hb hml hts hown hK hA hP hD hS (kzU_findTrack_0 l G ac ad g0) vfzU_63 0 rfl rfl ⟨rfl, rfl⟩ ⟨Nat.le_of_ble_eq_true rfl, Nat.le_of_ble_eq_true rfl⟩ rfl hl.1 rfl (Nat.le_of_ble_eq_true rfl) ⟨Nat.zero_le _, Nat.zero_le _⟩ dzU_cancel_2 (fun H locs hP hD hS => ?_)
  have hP : va_P G xk_cls (xk_wU ad ac g0) H := hP
  have hD : va_D A (xk_wU ad ac g0) := hD
  refine lv_astore_n (lv' := [(2, .ref (ad 9)), (0, .ref (ad 0)), (1, .int 0)]) (pc := 5) hx hb dzU_cancel_5 rfl hl (by decide) rfl (fun ls hl => ?_)
  refine lv_aload_n (pc := 6) hx hb dzU_cancel_6 rfl (lv_at hl 0 rfl) ?_
  refine xk_get (pc := 7) hx hb hts hown hK hP ffzU_152 9 rfl rfl dzU_cancel_7 ?_
  refine lv_istore_n (lv' := [(3, .int (g0 9 4)), (2, .ref (ad 9)), (0, .ref (ad 0)), (1, .int 0)]) (pc := 10) hx hb dzU_cancel_10 rfl hl (by decide) rfl (fun ls hl => ?_)
  refine lv_aload_n (pc := 11) hx hb dzU_cancel_11 rfl (lv_at hl 1 rfl) ?_
  refine lv_iconst (v := 0) (pc := 12) hx hb dzU_cancel_12 (by decide) ?_
  refine xk_putf (pc := 13) hx hb hts hown hK hP hD hS pfzU_152 9 rfl (xk_bn xk_b0) (xk_bf xk_b0) (Nat.le_of_ble_eq_true rfl) dzU_cancel_13 (fun H locs hP hD hS => ?_)
  obtain ⟨g1, eg1⟩ : ∃ z : xk_St, z = va_up g0 9 (upd (g0 9) 4 0) := ⟨_, rfl⟩
  have hP : va_P G xk_cls (xk_wU ad ac g1) H := by rw [eg1]; exact hP
  have hD : va_D A (xk_wU ad ac g1) := by rw [eg1]; exact hD
  refine lv_iload_n (pc := 16) hx hb dzU_cancel_16 rfl (lv_at hl 0 rfl) ?_
  exact hret _ g1 H locs 17 ls hP hS (xk_bn hbo) (by unfold relzU_cancel_0; exact ⟨g1, eg1, ⟨rfl, hbo, rfl⟩⟩) dzU_cancel_17
theorem frzU_cancel_0 (g0 : xk_St) (rz : Int32) (gz : xk_St) : relzU_cancel_0 g0 rz gz → xk_eqv [0, 1, 2, 3, 4, 5, 6, 7, 8, 10, 11, 12, 13, 14, 15, 16, 17, 18, 19, 20, 21, 22, 23, 24, 25, 26, 27, 28, 29, 30, 31, 32, 33] g0 gz := by
  intro h
  unfold relzU_cancel_0 at h
  have s0 : xk_eqv [0, 1, 2, 3, 4, 5, 6, 7, 8, 10, 11, 12, 13, 14, 15, 16, 17, 18, 19, 20, 21, 22, 23, 24, 25, 26, 27, 28, 29, 30, 31, 32, 33] g0 g0 := xk_eqv_rf
  obtain ⟨g1, u1, v2⟩ := h
  have s3 : xk_eqv [0, 1, 2, 3, 4, 5, 6, 7, 8, 10, 11, 12, 13, 14, 15, 16, 17, 18, 19, 20, 21, 22, 23, 24, 25, 26, 27, 28, 29, 30, 31, 32, 33] g0 g1 := by rw [u1]; repeat (first | exact s0 | refine xk_eqv_up (by decide) ?_)
  rw [v2.2.2]; exact s3

def relzU_cancel_1 (g0 : xk_St) (rz : Int32) (gz : xk_St) : Prop := ∃ (g1 : xk_St), g1 = va_up g0 10 (upd (g0 10) 4 0) ∧ (rz = g0 10 4 ∧ xk_b rz ∧ gz = g1)
set_option maxHeartbeats 4000000 in
set_option maxRecDepth 100000 in
theorem kzU_cancel_1 (l : Launch) (G : va_G) (ac : Nat → ClassId) (ad : Nat → Nat) (g0 : xk_St) (hbo : xk_b (g0 10 4)) : xk_CI l yzU_cancel czU_cancel 4 .boolean xk_WS xk_r1 G xk_cls (xk_tys ac) [.ref (ad 0), .int 1] (xk_wU ad ac g0) (fun rz (gz : xk_St) => relzU_cancel_1 g0 rz gz) (fun gz => xk_wU ad ac gz) := by
  refine xk_ofI (by decide) (Nat.le_of_ble_eq_true rfl) ?_
  intro p e s m args below meth c A Q H locs ls C0 hret hP hD hS hl
  obtain ⟨hx, hb, hml, hts, hown, hK, hA⟩ := C0
  have hl : lv_has ls 4 [(0, .ref (ad 0)), (1, .int 1)] := hl
  refine lv_aload_n (pc := 0) hx hb dzU_cancel_0 rfl (lv_at hl 0 rfl) ?_
  refine lv_iload_n (pc := 1) hx hb dzU_cancel_1 rfl (lv_at hl 1 rfl) ?_
  refine xk_allVR (As := [.int 1]) (rest := []) (H0 := s.heap) (pc := 2) hx hb hml hts hown hK hA hP hD hS (kzU_findTrack_1 l G ac ad g0) vfzU_63 0 rfl rfl ⟨rfl, rfl⟩ ⟨Nat.le_of_ble_eq_true rfl, Nat.le_of_ble_eq_true rfl⟩ rfl hl.1 rfl (Nat.le_of_ble_eq_true rfl) ⟨Nat.zero_le _, Nat.zero_le _⟩ dzU_cancel_2 (fun H locs hP hD hS => ?_)
  have hP : va_P G xk_cls (xk_wU ad ac g0) H := hP
  have hD : va_D A (xk_wU ad ac g0) := hD
  refine lv_astore_n (lv' := [(2, .ref (ad 10)), (0, .ref (ad 0)), (1, .int 1)]) (pc := 5) hx hb dzU_cancel_5 rfl hl (by decide) rfl (fun ls hl => ?_)
  refine lv_aload_n (pc := 6) hx hb dzU_cancel_6 rfl (lv_at hl 0 rfl) ?_
  refine xk_get (pc := 7) hx hb hts hown hK hP ffzU_152 10 rfl rfl dzU_cancel_7 ?_
  refine lv_istore_n (lv' := [(3, .int (g0 10 4)), (2, .ref (ad 10)), (0, .ref (ad 0)), (1, .int 1)]) (pc := 10) hx hb dzU_cancel_10 rfl hl (by decide) rfl (fun ls hl => ?_)
  refine lv_aload_n (pc := 11) hx hb dzU_cancel_11 rfl (lv_at hl 1 rfl) ?_
  refine lv_iconst (v := 0) (pc := 12) hx hb dzU_cancel_12 (by decide) ?_
  refine xk_putf (pc := 13) hx hb hts hown hK hP hD hS pfzU_152 10 rfl (xk_bn xk_b0) (xk_bf xk_b0) (Nat.le_of_ble_eq_true rfl) dzU_cancel_13 (fun H locs hP hD hS => ?_)
  obtain ⟨g1, eg1⟩ : ∃ z : xk_St, z = va_up g0 10 (upd (g0 10) 4 0) := ⟨_, rfl⟩
  have hP : va_P G xk_cls (xk_wU ad ac g1) H := by rw [eg1]; exact hP
  have hD : va_D A (xk_wU ad ac g1) := by rw [eg1]; exact hD
  refine lv_iload_n (pc := 16) hx hb dzU_cancel_16 rfl (lv_at hl 0 rfl) ?_
  exact hret _ g1 H locs 17 ls hP hS (xk_bn hbo) (by unfold relzU_cancel_1; exact ⟨g1, eg1, ⟨rfl, hbo, rfl⟩⟩) dzU_cancel_17
theorem frzU_cancel_1 (g0 : xk_St) (rz : Int32) (gz : xk_St) : relzU_cancel_1 g0 rz gz → xk_eqv [0, 1, 2, 3, 4, 5, 6, 7, 8, 9, 11, 12, 13, 14, 15, 16, 17, 18, 19, 20, 21, 22, 23, 24, 25, 26, 27, 28, 29, 30, 31, 32, 33] g0 gz := by
  intro h
  unfold relzU_cancel_1 at h
  have s0 : xk_eqv [0, 1, 2, 3, 4, 5, 6, 7, 8, 9, 11, 12, 13, 14, 15, 16, 17, 18, 19, 20, 21, 22, 23, 24, 25, 26, 27, 28, 29, 30, 31, 32, 33] g0 g0 := xk_eqv_rf
  obtain ⟨g1, u1, v2⟩ := h
  have s3 : xk_eqv [0, 1, 2, 3, 4, 5, 6, 7, 8, 9, 11, 12, 13, 14, 15, 16, 17, 18, 19, 20, 21, 22, 23, 24, 25, 26, 27, 28, 29, 30, 31, 32, 33] g0 g1 := by rw [u1]; repeat (first | exact s0 | refine xk_eqv_up (by decide) ?_)
  rw [v2.2.2]; exact s3

def qzU_earliest_0 (g0 : xk_St) : Int32 := (if (g0 25 1) = (-1) then g0 26 1 else (if (g0 26 1) = (-1) then g0 25 1 else (if g0 26 1 < g0 25 1 then g0 26 1 else g0 25 1 : Int32) : Int32) : Int32)
set_option maxHeartbeats 4000000 in
set_option maxRecDepth 100000 in
theorem kzU_earliest_0 (l : Launch) (G : va_G) (ac : Nat → ClassId) (ad : Nat → Nat) (g0 : xk_St) : xk_CI l yzU_earliest czU_earliest 5 .int xk_WS xk_r1 G xk_cls (xk_tys ac) [.ref (ad 0), .int 0] (xk_wU ad ac g0) (fun r (_ : Unit) => r = qzU_earliest_0 g0) (fun _ => (xk_wU ad ac g0)) := by
  refine xk_ofI (by decide) (Nat.le_of_ble_eq_true rfl) ?_
  intro p e s m args below meth c A Q H locs ls C0 hret hP hD hS hl
  obtain ⟨hx, hb, hml, hts, hown, hK, hA⟩ := C0
  have hl : lv_has ls 5 [(0, .ref (ad 0)), (1, .int 0)] := hl
  refine lv_aload_n (pc := 0) hx hb dzU_earliest_0 rfl (lv_at hl 0 rfl) ?_
  refine lv_iload_n (pc := 1) hx hb dzU_earliest_1 rfl (lv_at hl 1 rfl) ?_
  refine xk_allVR (As := [.int 0]) (rest := []) (H0 := s.heap) (pc := 2) hx hb hml hts hown hK hA hP hD hS (kzU_findTrack_0 l G ac ad g0) vfzU_63 0 rfl rfl ⟨rfl, rfl⟩ ⟨Nat.le_of_ble_eq_true rfl, Nat.le_of_ble_eq_true rfl⟩ rfl hl.1 rfl (Nat.le_of_ble_eq_true rfl) ⟨Nat.zero_le _, Nat.zero_le _⟩ dzU_earliest_2 (fun H locs hP hD hS => ?_)
  have hP : va_P G xk_cls (xk_wU ad ac g0) H := hP
  have hD : va_D A (xk_wU ad ac g0) := hD
  refine lv_astore_n (lv' := [(2, .ref (ad 9)), (0, .ref (ad 0)), (1, .int 0)]) (pc := 5) hx hb dzU_earliest_5 rfl hl (by decide) rfl (fun ls hl => ?_)
  refine lv_aload_n (pc := 6) hx hb dzU_earliest_6 rfl (lv_at hl 0 rfl) ?_
  refine xk_get (pc := 7) hx hb hts hown hK hP ffzU_212 9 rfl rfl dzU_earliest_7 ?_
  refine lv_iconst (v := 0) (pc := 10) hx hb dzU_earliest_10 (by decide) ?_
  refine xk_aald (q0 := 13) (t0 := 4) (j := 0) (b := (ad 25)) (pc := 11) hx hb hK hP rfl rfl (pk_in 0 2 (by decide)) (pk_cl 0) rfl dzU_earliest_11 ?_
  refine xk_get (pc := 12) hx hb hts hown hK hP ffzU_216 25 rfl rfl dzU_earliest_12 ?_
  refine lv_istore_n (lv' := [(3, .int (g0 25 1)), (2, .ref (ad 9)), (0, .ref (ad 0)), (1, .int 0)]) (pc := 15) hx hb dzU_earliest_15 rfl hl (by decide) rfl (fun ls hl => ?_)
  refine lv_aload_n (pc := 16) hx hb dzU_earliest_16 rfl (lv_at hl 1 rfl) ?_
  refine xk_get (pc := 17) hx hb hts hown hK hP ffzU_212 9 rfl rfl dzU_earliest_17 ?_
  refine lv_iconst (v := 1) (pc := 20) hx hb dzU_earliest_20 (by decide) ?_
  refine xk_aald (q0 := 13) (t0 := 4) (j := 1) (b := (ad 26)) (pc := 21) hx hb hK hP rfl rfl (pk_in 1 2 (by decide)) (pk_cl 1) rfl dzU_earliest_21 ?_
  refine xk_get (pc := 22) hx hb hts hown hK hP ffzU_216 26 rfl rfl dzU_earliest_22 ?_
  refine lv_istore (lv' := [(4, .int (g0 26 1)), (3, .int (g0 25 1)), (2, .ref (ad 9)), (0, .ref (ad 0)), (1, .int 0)]) (pc := 25) hx hb dzU_earliest_25 hl (by decide) rfl (fun ls hl => ?_)
  refine lv_iload_n (pc := 27) hx hb dzU_earliest_27 rfl (lv_at hl 1 rfl) ?_
  refine lv_iconst (v := (-1)) (pc := 28) hx hb dzU_earliest_28 (by decide) ?_
  refine lv_icmp_ne (pc := 29) (tgt := 35) hx hb dzU_earliest_29 (by decide) (fun h1 => ?_) (fun h1 => ?_)
  ·
    refine lv_iload (pc := 35) hx hb dzU_earliest_35 (lv_at hl 0 rfl) ?_
    refine lv_iconst (v := (-1)) (pc := 37) hx hb dzU_earliest_37 (by decide) ?_
    have K1 : W p l e xk_r1 s m args below meth c H locs 0 0 Q (F0 m 51 ls [.int (if (g0 26 1) = (-1) then g0 25 1 else (if g0 26 1 < g0 25 1 then g0 26 1 else g0 25 1 : Int32) : Int32)]) := by
      have jr : qzU_earliest_0 g0 = (if (g0 26 1) = (-1) then g0 25 1 else (if g0 26 1 < g0 25 1 then g0 26 1 else g0 25 1 : Int32) : Int32) := by unfold qzU_earliest_0; (first | rfl | simp only [if_neg h1])
      exact hret _ () H locs 51 ls hP hS rfl jr.symm dzU_earliest_51
    refine lv_icmp_ne (pc := 38) (tgt := 45) hx hb dzU_earliest_38 (by decide) (fun h2 => ?_) (fun h2 => ?_)
    ·
      refine lv_iload_n (pc := 45) hx hb dzU_earliest_45 rfl (lv_at hl 1 rfl) ?_
      refine lv_iload (pc := 46) hx hb dzU_earliest_46 (lv_at hl 0 rfl) ?_
      refine va_mmin (pc := 48) hx hb (by rw [hml]; exact hl.1.symm) hown (hts _ xk_m381) (hts _ xk_m382) (hts _ xk_m60) (hts _ xk_m383) (Nat.le_of_ble_eq_true rfl) (Nat.le_of_ble_eq_true rfl) (Nat.zero_le _) (Nat.zero_le _) dzU_earliest_48 ?_
      have K9 := K1
      try simp only [if_neg h2] at K9
      first | exact K9 | (simp only [if_neg h2]; exact K9)
    ·
      refine lv_iload_n (pc := 41) hx hb dzU_earliest_41 rfl (lv_at hl 1 rfl) ?_
      refine lv_goto (tgt := 51) (pc := 42) hx hb dzU_earliest_42 (by decide) ?_
      have K9 := K1
      try simp only [if_pos h2] at K9
      first | exact K9 | (simp only [if_pos h2]; exact K9)
  ·
    refine lv_iload (pc := 32) hx hb dzU_earliest_32 (lv_at hl 0 rfl) ?_
    have jr : qzU_earliest_0 g0 = g0 26 1 := by unfold qzU_earliest_0; (first | rfl | simp only [if_pos h1])
    exact hret _ () H locs 34 ls hP hS rfl jr.symm dzU_earliest_34

def qzU_earliest_1 (g0 : xk_St) : Int32 := (if (g0 27 1) = (-1) then g0 28 1 else (if (g0 28 1) = (-1) then g0 27 1 else (if g0 28 1 < g0 27 1 then g0 28 1 else g0 27 1 : Int32) : Int32) : Int32)
set_option maxHeartbeats 4000000 in
set_option maxRecDepth 100000 in
theorem kzU_earliest_1 (l : Launch) (G : va_G) (ac : Nat → ClassId) (ad : Nat → Nat) (g0 : xk_St) : xk_CI l yzU_earliest czU_earliest 5 .int xk_WS xk_r1 G xk_cls (xk_tys ac) [.ref (ad 0), .int 1] (xk_wU ad ac g0) (fun r (_ : Unit) => r = qzU_earliest_1 g0) (fun _ => (xk_wU ad ac g0)) := by
  refine xk_ofI (by decide) (Nat.le_of_ble_eq_true rfl) ?_
  intro p e s m args below meth c A Q H locs ls C0 hret hP hD hS hl
  obtain ⟨hx, hb, hml, hts, hown, hK, hA⟩ := C0
  have hl : lv_has ls 5 [(0, .ref (ad 0)), (1, .int 1)] := hl
  refine lv_aload_n (pc := 0) hx hb dzU_earliest_0 rfl (lv_at hl 0 rfl) ?_
  refine lv_iload_n (pc := 1) hx hb dzU_earliest_1 rfl (lv_at hl 1 rfl) ?_
  refine xk_allVR (As := [.int 1]) (rest := []) (H0 := s.heap) (pc := 2) hx hb hml hts hown hK hA hP hD hS (kzU_findTrack_1 l G ac ad g0) vfzU_63 0 rfl rfl ⟨rfl, rfl⟩ ⟨Nat.le_of_ble_eq_true rfl, Nat.le_of_ble_eq_true rfl⟩ rfl hl.1 rfl (Nat.le_of_ble_eq_true rfl) ⟨Nat.zero_le _, Nat.zero_le _⟩ dzU_earliest_2 (fun H locs hP hD hS => ?_)
  have hP : va_P G xk_cls (xk_wU ad ac g0) H := hP
  have hD : va_D A (xk_wU ad ac g0) := hD
  refine lv_astore_n (lv' := [(2, .ref (ad 10)), (0, .ref (ad 0)), (1, .int 1)]) (pc := 5) hx hb dzU_earliest_5 rfl hl (by decide) rfl (fun ls hl => ?_)
  refine lv_aload_n (pc := 6) hx hb dzU_earliest_6 rfl (lv_at hl 0 rfl) ?_
  refine xk_get (pc := 7) hx hb hts hown hK hP ffzU_212 10 rfl rfl dzU_earliest_7 ?_
  refine lv_iconst (v := 0) (pc := 10) hx hb dzU_earliest_10 (by decide) ?_
  refine xk_aald (q0 := 14) (t0 := 4) (j := 0) (b := (ad 27)) (pc := 11) hx hb hK hP rfl rfl (pk_in 0 2 (by decide)) (pk_cl 0) rfl dzU_earliest_11 ?_
  refine xk_get (pc := 12) hx hb hts hown hK hP ffzU_216 27 rfl rfl dzU_earliest_12 ?_
  refine lv_istore_n (lv' := [(3, .int (g0 27 1)), (2, .ref (ad 10)), (0, .ref (ad 0)), (1, .int 1)]) (pc := 15) hx hb dzU_earliest_15 rfl hl (by decide) rfl (fun ls hl => ?_)
  refine lv_aload_n (pc := 16) hx hb dzU_earliest_16 rfl (lv_at hl 1 rfl) ?_
  refine xk_get (pc := 17) hx hb hts hown hK hP ffzU_212 10 rfl rfl dzU_earliest_17 ?_
  refine lv_iconst (v := 1) (pc := 20) hx hb dzU_earliest_20 (by decide) ?_
  refine xk_aald (q0 := 14) (t0 := 4) (j := 1) (b := (ad 28)) (pc := 21) hx hb hK hP rfl rfl (pk_in 1 2 (by decide)) (pk_cl 1) rfl dzU_earliest_21 ?_
  refine xk_get (pc := 22) hx hb hts hown hK hP ffzU_216 28 rfl rfl dzU_earliest_22 ?_
  refine lv_istore (lv' := [(4, .int (g0 28 1)), (3, .int (g0 27 1)), (2, .ref (ad 10)), (0, .ref (ad 0)), (1, .int 1)]) (pc := 25) hx hb dzU_earliest_25 hl (by decide) rfl (fun ls hl => ?_)
  refine lv_iload_n (pc := 27) hx hb dzU_earliest_27 rfl (lv_at hl 1 rfl) ?_
  refine lv_iconst (v := (-1)) (pc := 28) hx hb dzU_earliest_28 (by decide) ?_
  refine lv_icmp_ne (pc := 29) (tgt := 35) hx hb dzU_earliest_29 (by decide) (fun h1 => ?_) (fun h1 => ?_)
  ·
    refine lv_iload (pc := 35) hx hb dzU_earliest_35 (lv_at hl 0 rfl) ?_
    refine lv_iconst (v := (-1)) (pc := 37) hx hb dzU_earliest_37 (by decide) ?_
    have K1 : W p l e xk_r1 s m args below meth c H locs 0 0 Q (F0 m 51 ls [.int (if (g0 28 1) = (-1) then g0 27 1 else (if g0 28 1 < g0 27 1 then g0 28 1 else g0 27 1 : Int32) : Int32)]) := by
      have jr : qzU_earliest_1 g0 = (if (g0 28 1) = (-1) then g0 27 1 else (if g0 28 1 < g0 27 1 then g0 28 1 else g0 27 1 : Int32) : Int32) := by unfold qzU_earliest_1; (first | rfl | simp only [if_neg h1])
      exact hret _ () H locs 51 ls hP hS rfl jr.symm dzU_earliest_51
    refine lv_icmp_ne (pc := 38) (tgt := 45) hx hb dzU_earliest_38 (by decide) (fun h2 => ?_) (fun h2 => ?_)
    ·
      refine lv_iload_n (pc := 45) hx hb dzU_earliest_45 rfl (lv_at hl 1 rfl) ?_
      refine lv_iload (pc := 46) hx hb dzU_earliest_46 (lv_at hl 0 rfl) ?_
      refine va_mmin (pc := 48) hx hb (by rw [hml]; exact hl.1.symm) hown (hts _ xk_m381) (hts _ xk_m382) (hts _ xk_m60) (hts _ xk_m383) (Nat.le_of_ble_eq_true rfl) (Nat.le_of_ble_eq_true rfl) (Nat.zero_le _) (Nat.zero_le _) dzU_earliest_48 ?_
      have K9 := K1
      try simp only [if_neg h2] at K9
      first | exact K9 | (simp only [if_neg h2]; exact K9)
    ·
      refine lv_iload_n (pc := 41) hx hb dzU_earliest_41 rfl (lv_at hl 1 rfl) ?_
      refine lv_goto (tgt := 51) (pc := 42) hx hb dzU_earliest_42 (by decide) ?_
      have K9 := K1
      try simp only [if_pos h2] at K9
      first | exact K9 | (simp only [if_pos h2]; exact K9)
  ·
    refine lv_iload (pc := 32) hx hb dzU_earliest_32 (lv_at hl 0 rfl) ?_
    have jr : qzU_earliest_1 g0 = g0 28 1 := by unfold qzU_earliest_1; (first | rfl | simp only [if_pos h1])
    exact hret _ () H locs 34 ls hP hS rfl jr.symm dzU_earliest_34

