def relzM_barrier_bad (g0 : xk_St) (k1 : Int32) (rz : Int32) (gz : xk_St) : Prop := ∃ (x1 : Int32), (if k1 < 0 then (x1 = 0) else (if 100 < k1 then (x1 = 0) else (x1 = 1))) ∧ (∃ (r1 : Int32) (g1 : xk_St), relzM_goes_0 g0 r1 g1 ∧ (rz = 0 ∧ gz = g1))
set_option maxHeartbeats 4000000 in
set_option maxRecDepth 100000 in
theorem kzM_barrier_bad (l : Launch) (G : va_G) (ac : Nat → ClassId) (ad : Nat → Nat) (g0 : xk_St) (k0 : Int32) (k1 : Int32) (B : Nat) (h01 : ¬ k0 = 0) (h02 : ¬ k0 = 1) (Ig0 : xk_cnt B g0) (hB : B + 1 < 2147483648) : xk_CI l yzM_barrier czM_barrier 5 .int xk_WS xk_r1 G xk_cls (xk_tys ac) [.ref (ad 0), .int k0, .int k1] (xk_wM ad ac g0) (fun rz (gz : xk_St) => relzM_barrier_bad g0 k1 rz gz) (fun gz => xk_wM ad ac gz) := by
  refine xk_ofI (by decide) (Nat.le_of_ble_eq_true rfl) ?_
  intro p e s m args below meth c A Q H locs ls C0 hret hP hD hS hl
  obtain ⟨hx, hb, hml, hts, hown, hK, hA⟩ := C0
  have hl : lv_has ls 5 [(0, .ref (ad 0)), (1, .int k0), (2, .int k1)] := hl
  have Ig0 : xk_cnt (B + 0) g0 := Ig0
  refine lv_iload_n (pc := 0) hx hb dzM_barrier_0 rfl (lv_at hl 1 rfl) ?_
  refine lv_if_eq (pc := 1) (tgt := 9) hx hb dzM_barrier_1 (by decide) (fun hq9 => absurd hq9 h01) (fun _ => ?_)
  refine lv_iload_n (pc := 4) hx hb dzM_barrier_4 rfl (lv_at hl 1 rfl) ?_
  refine lv_iconst (v := 1) (pc := 5) hx hb dzM_barrier_5 (by decide) ?_
  refine lv_icmp_ne (pc := 6) (tgt := 13) hx hb dzM_barrier_6 (by decide) (fun _ => ?_) (fun hq9 => absurd hq9 h02)
  refine lv_iconst (v := 0) (pc := 13) hx hb dzM_barrier_13 (by decide) ?_
  refine lv_istore_n (lv' := [(3, .int 0), (0, .ref (ad 0)), (1, .int k0), (2, .int k1)]) (pc := 14) hx hb dzM_barrier_14 rfl hl (by decide) rfl (fun ls hl => ?_)
  refine lv_aload_n (pc := 15) hx hb dzM_barrier_15 rfl (lv_at hl 1 rfl) ?_
  refine lv_iload_n (pc := 16) hx hb dzM_barrier_16 rfl (lv_at hl 0 rfl) ?_
  refine lv_iload_n (pc := 17) hx hb dzM_barrier_17 rfl (lv_at hl 3 rfl) ?_
  have K1 : ∀ (x1 : Int32), (if k1 < 0 then (x1 = 0) else (if 100 < k1 then (x1 = 0) else (x1 = 1))) → (xk_b x1) → W p l e xk_r1 s m args below meth c H locs 0 0 Q (F0 m 32 ls [.int x1, .int 0, .ref (ad 0)]) := by
    intro x1 R1 bx1
    refine lv_iconst (v := 1) (pc := 32) hx hb dzM_barrier_32 (by decide) ?_
    refine xk_allVI (As := [.int 0, .int x1, .int 1]) (rest := []) (H0 := s.heap) (pc := 33) hx hb hml hts hown hK hA hP hD hS (kzM_goes_0 l G ac ad g0 x1 1 (B + 0) Ig0 (by omega)) vfzM_114 (fun _ => rfl) 0 rfl rfl ⟨rfl, rfl⟩ ⟨Nat.le_of_ble_eq_true rfl, Nat.le_of_ble_eq_true rfl⟩ rfl hl.1 rfl (Nat.le_of_ble_eq_true rfl) ⟨Nat.zero_le _, Nat.zero_le _⟩ dzM_barrier_33 (fun r1 g1 H locs hg1 hP hD hS => ?_)
    have qr1 : r1 = 0 := rczM_goes_0 _ _ _ hg1
    refine xk_is (y := 0) qr1 ?_
    have hP : va_P G xk_cls (xk_wM ad ac g1) H := hP
    have hD : va_D A (xk_wM ad ac g1) := hD
    have Ig1 : xk_cnt (B + 0) g1 := xk_cnt_le (iczM_goes_0 (B + 0) _ _ _ hg1 Ig0) (by omega)
    refine lv_if_ne (pc := 36) (tgt := 41) hx hb dzM_barrier_36 (by decide) (fun hq9 => absurd (by decide) hq9) (fun _ => ?_)
    refine lv_iconst (v := 0) (pc := 39) hx hb dzM_barrier_39 (by decide) ?_
    exact hret _ g1 H locs 40 ls hP hS rfl (by unfold relzM_barrier_bad; exact ⟨x1, R1, ⟨r1, g1, hg1, ⟨rfl, rfl⟩⟩⟩) dzM_barrier_40
  refine lv_if_lt (pc := 18) (tgt := 31) hx hb dzM_barrier_18 (by decide) (fun h1 => ?_) (fun h1 => ?_)
  ·
    refine lv_iconst (v := 0) (pc := 31) hx hb dzM_barrier_31 (by decide) ?_
    exact K1 0 (Eq.mpr (if_pos h1) rfl) xk_b0
  ·
    refine lv_iload_n (pc := 21) hx hb dzM_barrier_21 rfl (lv_at hl 3 rfl) ?_
    refine lv_bipush (v := 100) (pc := 22) hx hb dzM_barrier_22 (by decide) ?_
    refine lv_icmp_gt (pc := 24) (tgt := 31) hx hb dzM_barrier_24 (by decide) (fun h2 => ?_) (fun h2 => ?_)
    ·
      refine lv_iconst (v := 0) (pc := 31) hx hb dzM_barrier_31 (by decide) ?_
      exact K1 0 (Eq.mpr (if_neg h1) (Eq.mpr (if_pos h2) rfl)) xk_b0
    ·
      refine lv_iconst (v := 1) (pc := 27) hx hb dzM_barrier_27 (by decide) ?_
      refine lv_goto (tgt := 32) (pc := 28) hx hb dzM_barrier_28 (by decide) ?_
      exact K1 1 (Eq.mpr (if_neg h1) (Eq.mpr (if_neg h2) rfl)) xk_b1
theorem frzM_barrier_bad (g0 : xk_St) (k1 : Int32) (rz : Int32) (gz : xk_St) : relzM_barrier_bad g0 k1 rz gz → xk_eqv [1, 2, 3, 4, 5, 6, 7, 8, 9, 10, 11, 12, 13, 14, 15, 16, 17, 18, 19, 20, 21, 22, 23, 24, 25, 26, 27] g0 gz := by
  intro h
  unfold relzM_barrier_bad at h
  have s0 : xk_eqv [1, 2, 3, 4, 5, 6, 7, 8, 9, 10, 11, 12, 13, 14, 15, 16, 17, 18, 19, 20, 21, 22, 23, 24, 25, 26, 27] g0 g0 := xk_eqv_rf
  obtain ⟨x1, u1, v2⟩ := h
  obtain ⟨r1, g1, u3, v4⟩ := v2
  have s5 : xk_eqv [1, 2, 3, 4, 5, 6, 7, 8, 9, 10, 11, 12, 13, 14, 15, 16, 17, 18, 19, 20, 21, 22, 23, 24, 25, 26, 27] g0 g1 := xk_eqv_tr s0 (xk_eqv_sub (frzM_goes_0 _ _ _ u3) (by decide))
  rw [v4.2]; exact s5
theorem iczM_barrier_bad (B : Nat) (g0 : xk_St) (k1 : Int32) (rz : Int32) (gz : xk_St) : relzM_barrier_bad g0 k1 rz gz → xk_cnt B g0 → xk_cnt (B + 0) gz := by
  intro h Ig0
  unfold relzM_barrier_bad at h
  have Ig0 : xk_cnt (B + 0) g0 := Ig0
  obtain ⟨x1, u1, v2⟩ := h
  obtain ⟨r1, g1, u3, v4⟩ := v2
  have Ig1 : xk_cnt (B + 0) g1 := xk_cnt_le (iczM_goes_0 (B + 0) _ _ _ u3 Ig0) (by omega)
  rw [v4.2]; exact xk_cnt_le Ig1 (by omega)
theorem rczM_barrier_bad (g0 : xk_St) (k1 : Int32) (rz : Int32) (gz : xk_St) : relzM_barrier_bad g0 k1 rz gz → rz = 0 := by
  intro h
  unfold relzM_barrier_bad at h
  obtain ⟨_, _, v1⟩ := h
  obtain ⟨_, _, _, v2⟩ := v1
  exact v2.1

def relzM_barrier_0 (g0 : xk_St) (k1 : Int32) (rz : Int32) (gz : xk_St) : Prop := ∃ (x1 : Int32), (if k1 < 0 then (x1 = 0) else (if 100 < k1 then (x1 = 0) else (x1 = 1))) ∧ (∃ (r1 : Int32) (g1 : xk_St), relzM_goes g0 1 x1 1 r1 g1 ∧ (if r1 = 0 then (rz = 0 ∧ gz = g1) else (∃ (g2 : xk_St), g2 = va_up g1 14 (upd (g1 14) 0 k1) ∧ (rz = (g1 14) 0 ∧ gz = g2))))
set_option maxHeartbeats 4000000 in
set_option maxRecDepth 100000 in
theorem kzM_barrier_0 (l : Launch) (G : va_G) (ac : Nat → ClassId) (ad : Nat → Nat) (g0 : xk_St) (k1 : Int32) (B : Nat) (Ig0 : xk_cnt B g0) (hB : B + 1 < 2147483648) : xk_CI l yzM_barrier czM_barrier 5 .int xk_WS xk_r1 G xk_cls (xk_tys ac) [.ref (ad 0), .int 0, .int k1] (xk_wM ad ac g0) (fun rz (gz : xk_St) => relzM_barrier_0 g0 k1 rz gz) (fun gz => xk_wM ad ac gz) := by
  refine xk_ofI (by decide) (Nat.le_of_ble_eq_true rfl) ?_
  intro p e s m args below meth c A Q H locs ls C0 hret hP hD hS hl
  obtain ⟨hx, hb, hml, hts, hown, hK, hA⟩ := C0
  have hl : lv_has ls 5 [(0, .ref (ad 0)), (1, .int 0), (2, .int k1)] := hl
  have Ig0 : xk_cnt (B + 0) g0 := Ig0
  refine lv_iload_n (pc := 0) hx hb dzM_barrier_0 rfl (lv_at hl 1 rfl) ?_
  refine lv_if_eq (pc := 1) (tgt := 9) hx hb dzM_barrier_1 (by decide) (fun _ => ?_) (fun hq9 => absurd (by decide) hq9)
  refine lv_iconst (v := 1) (pc := 9) hx hb dzM_barrier_9 (by decide) ?_
  refine lv_goto (tgt := 14) (pc := 10) hx hb dzM_barrier_10 (by decide) ?_
  refine lv_istore_n (lv' := [(3, .int 1), (0, .ref (ad 0)), (1, .int 0), (2, .int k1)]) (pc := 14) hx hb dzM_barrier_14 rfl hl (by decide) rfl (fun ls hl => ?_)
  refine lv_aload_n (pc := 15) hx hb dzM_barrier_15 rfl (lv_at hl 1 rfl) ?_
  refine lv_iload_n (pc := 16) hx hb dzM_barrier_16 rfl (lv_at hl 0 rfl) ?_
  refine lv_iload_n (pc := 17) hx hb dzM_barrier_17 rfl (lv_at hl 3 rfl) ?_
  have K1 : ∀ (x1 : Int32), (if k1 < 0 then (x1 = 0) else (if 100 < k1 then (x1 = 0) else (x1 = 1))) → (xk_b x1) → W p l e xk_r1 s m args below meth c H locs 0 0 Q (F0 m 32 ls [.int x1, .int 1, .ref (ad 0)]) := by
    intro x1 R1 bx1
    refine lv_iconst (v := 1) (pc := 32) hx hb dzM_barrier_32 (by decide) ?_
    refine xk_allVI (As := [.int 1, .int x1, .int 1]) (rest := []) (H0 := s.heap) (pc := 33) hx hb hml hts hown hK hA hP hD hS (kzM_goes l G ac ad g0 1 x1 1 (B + 0) Ig0 (by omega)) vfzM_114 (fun _ => rfl) 0 rfl rfl ⟨rfl, rfl⟩ ⟨Nat.le_of_ble_eq_true rfl, Nat.le_of_ble_eq_true rfl⟩ rfl hl.1 rfl (Nat.le_of_ble_eq_true rfl) ⟨Nat.zero_le _, Nat.zero_le _⟩ dzM_barrier_33 (fun r1 g1 H locs hg1 hP hD hS => ?_)
    have hP : va_P G xk_cls (xk_wM ad ac g1) H := hP
    have hD : va_D A (xk_wM ad ac g1) := hD
    have Ig1 : xk_cnt (B + 0) g1 := xk_cnt_le (iczM_goes (B + 0) _ _ _ _ _ _ hg1 Ig0) (by omega)
    refine lv_if_ne (pc := 36) (tgt := 41) hx hb dzM_barrier_36 (by decide) (fun h3 => ?_) (fun h3 => ?_)
    ·
      refine lv_aload_n (pc := 41) hx hb dzM_barrier_41 rfl (lv_at hl 1 rfl) ?_
      refine xk_get (pc := 42) hx hb hts hown hK hP ffzM_50 0 rfl rfl dzM_barrier_42 ?_
      refine lv_iload_n (pc := 45) hx hb dzM_barrier_45 rfl (lv_at hl 2 rfl) ?_
      refine xk_iald (q0 := 14) (t0 := 0) (j := 0) (pc := 46) hx hb hK hP rfl rfl (pk_in 0 2 (by decide)) (pk_cl 0) dzM_barrier_46 ?_
      refine lv_istore (lv' := [(4, .int ((g1 14) 0)), (3, .int 1), (0, .ref (ad 0)), (1, .int 0), (2, .int k1)]) (pc := 47) hx hb dzM_barrier_47 hl (by decide) rfl (fun ls hl => ?_)
      refine lv_aload_n (pc := 49) hx hb dzM_barrier_49 rfl (lv_at hl 2 rfl) ?_
      refine xk_get (pc := 50) hx hb hts hown hK hP ffzM_50 0 rfl rfl dzM_barrier_50 ?_
      refine lv_iload_n (pc := 53) hx hb dzM_barrier_53 rfl (lv_at hl 3 rfl) ?_
      refine lv_iload_n (pc := 54) hx hb dzM_barrier_54 rfl (lv_at hl 4 rfl) ?_
      refine xk_iast (q0 := 14) (t0 := 0) (j := 0) (pc := 55) hx hb hK hP hD hS rfl rfl (pk_in 0 2 (by decide)) (pk_cl 0) dzM_barrier_55 (fun H locs hP hD hS => ?_)
      obtain ⟨g2, eg2⟩ : ∃ z : xk_St, z = va_up g1 14 (upd (g1 14) 0 k1) := ⟨_, rfl⟩
      have hP : va_P G xk_cls (xk_wM ad ac g2) H := by rw [eg2]; exact hP
      have hD : va_D A (xk_wM ad ac g2) := by rw [eg2]; exact hD
      have Ig2 : xk_cnt (B + 0) g2 := by rw [eg2]; repeat (first | exact Ig1 | refine xk_cnt_k (by decide) ?_ | refine xk_cnt_f (by decide) ?_ | refine xk_cnt_s ?_)
      refine lv_iload (pc := 56) hx hb dzM_barrier_56 (lv_at hl 0 rfl) ?_
      exact hret _ g2 H locs 58 ls hP hS rfl (by unfold relzM_barrier_0; exact ⟨x1, R1, ⟨r1, g1, hg1, (Eq.mpr (if_neg h3) ⟨g2, eg2, ⟨rfl, rfl⟩⟩)⟩⟩) dzM_barrier_58
    ·
      refine lv_iconst (v := 0) (pc := 39) hx hb dzM_barrier_39 (by decide) ?_
      exact hret _ g1 H locs 40 ls hP hS rfl (by unfold relzM_barrier_0; exact ⟨x1, R1, ⟨r1, g1, hg1, (Eq.mpr (if_pos h3) ⟨rfl, rfl⟩)⟩⟩) dzM_barrier_40
  refine lv_if_lt (pc := 18) (tgt := 31) hx hb dzM_barrier_18 (by decide) (fun h1 => ?_) (fun h1 => ?_)
  ·
    refine lv_iconst (v := 0) (pc := 31) hx hb dzM_barrier_31 (by decide) ?_
    exact K1 0 (Eq.mpr (if_pos h1) rfl) xk_b0
  ·
    refine lv_iload_n (pc := 21) hx hb dzM_barrier_21 rfl (lv_at hl 3 rfl) ?_
    refine lv_bipush (v := 100) (pc := 22) hx hb dzM_barrier_22 (by decide) ?_
    refine lv_icmp_gt (pc := 24) (tgt := 31) hx hb dzM_barrier_24 (by decide) (fun h2 => ?_) (fun h2 => ?_)
    ·
      refine lv_iconst (v := 0) (pc := 31) hx hb dzM_barrier_31 (by decide) ?_
      exact K1 0 (Eq.mpr (if_neg h1) (Eq.mpr (if_pos h2) rfl)) xk_b0
    ·
      refine lv_iconst (v := 1) (pc := 27) hx hb dzM_barrier_27 (by decide) ?_
      refine lv_goto (tgt := 32) (pc := 28) hx hb dzM_barrier_28 (by decide) ?_
      exact K1 1 (Eq.mpr (if_neg h1) (Eq.mpr (if_neg h2) rfl)) xk_b1
theorem frzM_barrier_0 (g0 : xk_St) (k1 : Int32) (rz : Int32) (gz : xk_St) : relzM_barrier_0 g0 k1 rz gz → xk_eqv [1, 2, 3, 4, 5, 6, 7, 8, 9, 10, 11, 12, 13, 15, 16, 17, 18, 19, 20, 21, 22, 23, 24, 25, 26, 27] g0 gz := by
  intro h
  unfold relzM_barrier_0 at h
  have s0 : xk_eqv [1, 2, 3, 4, 5, 6, 7, 8, 9, 10, 11, 12, 13, 15, 16, 17, 18, 19, 20, 21, 22, 23, 24, 25, 26, 27] g0 g0 := xk_eqv_rf
  obtain ⟨x1, u1, v2⟩ := h
  obtain ⟨r1, g1, u3, v4⟩ := v2
  have s5 : xk_eqv [1, 2, 3, 4, 5, 6, 7, 8, 9, 10, 11, 12, 13, 15, 16, 17, 18, 19, 20, 21, 22, 23, 24, 25, 26, 27] g0 g1 := xk_eqv_tr s0 (xk_eqv_sub (frzM_goes _ _ _ _ _ _ u3) (by decide))
  by_cases hc : r1 = 0
  · rw [if_pos hc] at v4
    rw [v4.2]; exact s5
  · rw [if_neg hc] at v4
    obtain ⟨g2, u6, v7⟩ := v4
    have s8 : xk_eqv [1, 2, 3, 4, 5, 6, 7, 8, 9, 10, 11, 12, 13, 15, 16, 17, 18, 19, 20, 21, 22, 23, 24, 25, 26, 27] g0 g2 := by rw [u6]; repeat (first | exact s5 | refine xk_eqv_up (by decide) ?_)
    rw [v7.2]; exact s8
theorem iczM_barrier_0 (B : Nat) (g0 : xk_St) (k1 : Int32) (rz : Int32) (gz : xk_St) : relzM_barrier_0 g0 k1 rz gz → xk_cnt B g0 → xk_cnt (B + 0) gz := by
  intro h Ig0
  unfold relzM_barrier_0 at h
  have Ig0 : xk_cnt (B + 0) g0 := Ig0
  obtain ⟨x1, u1, v2⟩ := h
  obtain ⟨r1, g1, u3, v4⟩ := v2
  have Ig1 : xk_cnt (B + 0) g1 := xk_cnt_le (iczM_goes (B + 0) _ _ _ _ _ _ u3 Ig0) (by omega)
  by_cases hc : r1 = 0
  · rw [if_pos hc] at v4
    rw [v4.2]; exact xk_cnt_le Ig1 (by omega)
  · rw [if_neg hc] at v4
    obtain ⟨g2, u5, v6⟩ := v4
    have Ig2 : xk_cnt (B + 0) g2 := by rw [u5]; repeat (first | exact Ig1 | refine xk_cnt_k (by decide) ?_ | refine xk_cnt_f (by decide) ?_ | refine xk_cnt_s ?_)
    rw [v6.2]; exact xk_cnt_le Ig2 (by omega)

def relzM_barrier_1 (g0 : xk_St) (k1 : Int32) (rz : Int32) (gz : xk_St) : Prop := ∃ (x1 : Int32), (if k1 < 0 then (x1 = 0) else (if 100 < k1 then (x1 = 0) else (x1 = 1))) ∧ (∃ (r1 : Int32) (g1 : xk_St), relzM_goes g0 1 x1 1 r1 g1 ∧ (if r1 = 0 then (rz = 0 ∧ gz = g1) else (∃ (g2 : xk_St), g2 = va_up g1 14 (upd (g1 14) 1 k1) ∧ (rz = (g1 14) 1 ∧ gz = g2))))
set_option maxHeartbeats 4000000 in
set_option maxRecDepth 100000 in
theorem kzM_barrier_1 (l : Launch) (G : va_G) (ac : Nat → ClassId) (ad : Nat → Nat) (g0 : xk_St) (k1 : Int32) (B : Nat) (Ig0 : xk_cnt B g0) (hB : B + 1 < 2147483648) : xk_CI l yzM_barrier czM_barrier 5 .int xk_WS xk_r1 G xk_cls (xk_tys ac) [.ref (ad 0), .int 1, .int k1] (xk_wM ad ac g0) (fun rz (gz : xk_St) => relzM_barrier_1 g0 k1 rz gz) (fun gz => xk_wM ad ac gz) := by
  refine xk_ofI (by decide) (Nat.le_of_ble_eq_true rfl) ?_
  intro p e s m args below meth c A Q H locs ls C0 hret hP hD hS hl
  obtain ⟨hx, hb, hml, hts, hown, hK, hA⟩ := C0
  have hl : lv_has ls 5 [(0, .ref (ad 0)), (1, .int 1), (2, .int k1)] := hl
  have Ig0 : xk_cnt (B + 0) g0 := Ig0
  refine lv_iload_n (pc := 0) hx hb dzM_barrier_0 rfl (lv_at hl 1 rfl) ?_
  refine lv_if_eq (pc := 1) (tgt := 9) hx hb dzM_barrier_1 (by decide) (fun hq9 => absurd hq9 (by decide)) (fun _ => ?_)
  refine lv_iload_n (pc := 4) hx hb dzM_barrier_4 rfl (lv_at hl 1 rfl) ?_
  refine lv_iconst (v := 1) (pc := 5) hx hb dzM_barrier_5 (by decide) ?_
  refine lv_icmp_ne (pc := 6) (tgt := 13) hx hb dzM_barrier_6 (by decide) (fun hq9 => absurd (by decide) hq9) (fun _ => ?_)
  refine lv_iconst (v := 1) (pc := 9) hx hb dzM_barrier_9 (by decide) ?_
  refine lv_goto (tgt := 14) (pc := 10) hx hb dzM_barrier_10 (by decide) ?_
  refine lv_istore_n (lv' := [(3, .int 1), (0, .ref (ad 0)), (1, .int 1), (2, .int k1)]) (pc := 14) hx hb dzM_barrier_14 rfl hl (by decide) rfl (fun ls hl => ?_)
  refine lv_aload_n (pc := 15) hx hb dzM_barrier_15 rfl (lv_at hl 1 rfl) ?_
  refine lv_iload_n (pc := 16) hx hb dzM_barrier_16 rfl (lv_at hl 0 rfl) ?_
  refine lv_iload_n (pc := 17) hx hb dzM_barrier_17 rfl (lv_at hl 3 rfl) ?_
  have K1 : ∀ (x1 : Int32), (if k1 < 0 then (x1 = 0) else (if 100 < k1 then (x1 = 0) else (x1 = 1))) → (xk_b x1) → W p l e xk_r1 s m args below meth c H locs 0 0 Q (F0 m 32 ls [.int x1, .int 1, .ref (ad 0)]) := by
    intro x1 R1 bx1
    refine lv_iconst (v := 1) (pc := 32) hx hb dzM_barrier_32 (by decide) ?_
    refine xk_allVI (As := [.int 1, .int x1, .int 1]) (rest := []) (H0 := s.heap) (pc := 33) hx hb hml hts hown hK hA hP hD hS (kzM_goes l G ac ad g0 1 x1 1 (B + 0) Ig0 (by omega)) vfzM_114 (fun _ => rfl) 0 rfl rfl ⟨rfl, rfl⟩ ⟨Nat.le_of_ble_eq_true rfl, Nat.le_of_ble_eq_true rfl⟩ rfl hl.1 rfl (Nat.le_of_ble_eq_true rfl) ⟨Nat.zero_le _, Nat.zero_le _⟩ dzM_barrier_33 (fun r1 g1 H locs hg1 hP hD hS => ?_)
    have hP : va_P G xk_cls (xk_wM ad ac g1) H := hP
    have hD : va_D A (xk_wM ad ac g1) := hD
    have Ig1 : xk_cnt (B + 0) g1 := xk_cnt_le (iczM_goes (B + 0) _ _ _ _ _ _ hg1 Ig0) (by omega)
    refine lv_if_ne (pc := 36) (tgt := 41) hx hb dzM_barrier_36 (by decide) (fun h3 => ?_) (fun h3 => ?_)
    ·
      refine lv_aload_n (pc := 41) hx hb dzM_barrier_41 rfl (lv_at hl 1 rfl) ?_
      refine xk_get (pc := 42) hx hb hts hown hK hP ffzM_50 0 rfl rfl dzM_barrier_42 ?_
      refine lv_iload_n (pc := 45) hx hb dzM_barrier_45 rfl (lv_at hl 2 rfl) ?_
      refine xk_iald (q0 := 14) (t0 := 0) (j := 1) (pc := 46) hx hb hK hP rfl rfl (pk_in 1 2 (by decide)) (pk_cl 1) dzM_barrier_46 ?_
      refine lv_istore (lv' := [(4, .int ((g1 14) 1)), (3, .int 1), (0, .ref (ad 0)), (1, .int 1), (2, .int k1)]) (pc := 47) hx hb dzM_barrier_47 hl (by decide) rfl (fun ls hl => ?_)
      refine lv_aload_n (pc := 49) hx hb dzM_barrier_49 rfl (lv_at hl 2 rfl) ?_
      refine xk_get (pc := 50) hx hb hts hown hK hP ffzM_50 0 rfl rfl dzM_barrier_50 ?_
      refine lv_iload_n (pc := 53) hx hb dzM_barrier_53 rfl (lv_at hl 3 rfl) ?_
      refine lv_iload_n (pc := 54) hx hb dzM_barrier_54 rfl (lv_at hl 4 rfl) ?_
      refine xk_iast (q0 := 14) (t0 := 0) (j := 1) (pc := 55) hx hb hK hP hD hS rfl rfl (pk_in 1 2 (by decide)) (pk_cl 1) dzM_barrier_55 (fun H locs hP hD hS => ?_)
      obtain ⟨g2, eg2⟩ : ∃ z : xk_St, z = va_up g1 14 (upd (g1 14) 1 k1) := ⟨_, rfl⟩
      have hP : va_P G xk_cls (xk_wM ad ac g2) H := by rw [eg2]; exact hP
      have hD : va_D A (xk_wM ad ac g2) := by rw [eg2]; exact hD
      have Ig2 : xk_cnt (B + 0) g2 := by rw [eg2]; repeat (first | exact Ig1 | refine xk_cnt_k (by decide) ?_ | refine xk_cnt_f (by decide) ?_ | refine xk_cnt_s ?_)
      refine lv_iload (pc := 56) hx hb dzM_barrier_56 (lv_at hl 0 rfl) ?_
      exact hret _ g2 H locs 58 ls hP hS rfl (by unfold relzM_barrier_1; exact ⟨x1, R1, ⟨r1, g1, hg1, (Eq.mpr (if_neg h3) ⟨g2, eg2, ⟨rfl, rfl⟩⟩)⟩⟩) dzM_barrier_58
    ·
      refine lv_iconst (v := 0) (pc := 39) hx hb dzM_barrier_39 (by decide) ?_
      exact hret _ g1 H locs 40 ls hP hS rfl (by unfold relzM_barrier_1; exact ⟨x1, R1, ⟨r1, g1, hg1, (Eq.mpr (if_pos h3) ⟨rfl, rfl⟩)⟩⟩) dzM_barrier_40
  refine lv_if_lt (pc := 18) (tgt := 31) hx hb dzM_barrier_18 (by decide) (fun h1 => ?_) (fun h1 => ?_)
  ·
    refine lv_iconst (v := 0) (pc := 31) hx hb dzM_barrier_31 (by decide) ?_
    exact K1 0 (Eq.mpr (if_pos h1) rfl) xk_b0
  ·
    refine lv_iload_n (pc := 21) hx hb dzM_barrier_21 rfl (lv_at hl 3 rfl) ?_
    refine lv_bipush (v := 100) (pc := 22) hx hb dzM_barrier_22 (by decide) ?_
    refine lv_icmp_gt (pc := 24) (tgt := 31) hx hb dzM_barrier_24 (by decide) (fun h2 => ?_) (fun h2 => ?_)
    ·
      refine lv_iconst (v := 0) (pc := 31) hx hb dzM_barrier_31 (by decide) ?_
      exact K1 0 (Eq.mpr (if_neg h1) (Eq.mpr (if_pos h2) rfl)) xk_b0
    ·
      refine lv_iconst (v := 1) (pc := 27) hx hb dzM_barrier_27 (by decide) ?_
      refine lv_goto (tgt := 32) (pc := 28) hx hb dzM_barrier_28 (by decide) ?_
      exact K1 1 (Eq.mpr (if_neg h1) (Eq.mpr (if_neg h2) rfl)) xk_b1
theorem frzM_barrier_1 (g0 : xk_St) (k1 : Int32) (rz : Int32) (gz : xk_St) : relzM_barrier_1 g0 k1 rz gz → xk_eqv [1, 2, 3, 4, 5, 6, 7, 8, 9, 10, 11, 12, 13, 15, 16, 17, 18, 19, 20, 21, 22, 23, 24, 25, 26, 27] g0 gz := by
  intro h
  unfold relzM_barrier_1 at h
  have s0 : xk_eqv [1, 2, 3, 4, 5, 6, 7, 8, 9, 10, 11, 12, 13, 15, 16, 17, 18, 19, 20, 21, 22, 23, 24, 25, 26, 27] g0 g0 := xk_eqv_rf
  obtain ⟨x1, u1, v2⟩ := h
  obtain ⟨r1, g1, u3, v4⟩ := v2
  have s5 : xk_eqv [1, 2, 3, 4, 5, 6, 7, 8, 9, 10, 11, 12, 13, 15, 16, 17, 18, 19, 20, 21, 22, 23, 24, 25, 26, 27] g0 g1 := xk_eqv_tr s0 (xk_eqv_sub (frzM_goes _ _ _ _ _ _ u3) (by decide))
  by_cases hc : r1 = 0
  · rw [if_pos hc] at v4
    rw [v4.2]; exact s5
  · rw [if_neg hc] at v4
    obtain ⟨g2, u6, v7⟩ := v4
    have s8 : xk_eqv [1, 2, 3, 4, 5, 6, 7, 8, 9, 10, 11, 12, 13, 15, 16, 17, 18, 19, 20, 21, 22, 23, 24, 25, 26, 27] g0 g2 := by rw [u6]; repeat (first | exact s5 | refine xk_eqv_up (by decide) ?_)
    rw [v7.2]; exact s8
theorem iczM_barrier_1 (B : Nat) (g0 : xk_St) (k1 : Int32) (rz : Int32) (gz : xk_St) : relzM_barrier_1 g0 k1 rz gz → xk_cnt B g0 → xk_cnt (B + 0) gz := by
  intro h Ig0
  unfold relzM_barrier_1 at h
  have Ig0 : xk_cnt (B + 0) g0 := Ig0
  obtain ⟨x1, u1, v2⟩ := h
  obtain ⟨r1, g1, u3, v4⟩ := v2
  have Ig1 : xk_cnt (B + 0) g1 := xk_cnt_le (iczM_goes (B + 0) _ _ _ _ _ _ u3 Ig0) (by omega)
  by_cases hc : r1 = 0
  · rw [if_pos hc] at v4
    rw [v4.2]; exact xk_cnt_le Ig1 (by omega)
  · rw [if_neg hc] at v4
    obtain ⟨g2, u5, v6⟩ := v4
    have Ig2 : xk_cnt (B + 0) g2 := by rw [u5]; repeat (first | exact Ig1 | refine xk_cnt_k (by decide) ?_ | refine xk_cnt_f (by decide) ?_ | refine xk_cnt_s ?_)
    rw [v6.2]; exact xk_cnt_le Ig2 (by omega)

def relzM_current_neg (g0 : xk_St) (rz : Int32) (gz : xk_St) : Prop := ∃ (r1 : Int32) (g1 : xk_St), relzM_goes_0 g0 r1 g1 ∧ (rz = 0 ∧ xk_b rz ∧ gz = g1)
set_option maxHeartbeats 4000000 in
set_option maxRecDepth 100000 in
theorem kzM_current_neg (l : Launch) (G : va_G) (ac : Nat → ClassId) (ad : Nat → Nat) (g0 : xk_St) (k0 : Int32) (k1 : Int32) (B : Nat) (h01 : k0 < 0) (hb1 : xk_b k1) (Ig0 : xk_cnt B g0) (hB : B + 1 < 2147483648) : xk_CI l yzM_current czM_current 4 .boolean xk_WS xk_r1 G xk_cls (xk_tys ac) [.ref (ad 0), .int k0, .int k1] (xk_wM ad ac g0) (fun rz (gz : xk_St) => relzM_current_neg g0 rz gz) (fun gz => xk_wM ad ac gz) := by
  refine xk_ofI (by decide) (Nat.le_of_ble_eq_true rfl) ?_
  intro p e s m args below meth c A Q H locs ls C0 hret hP hD hS hl
  obtain ⟨hx, hb, hml, hts, hown, hK, hA⟩ := C0
  have hl : lv_has ls 4 [(0, .ref (ad 0)), (1, .int k0), (2, .int k1)] := hl
  have Ig0 : xk_cnt (B + 0) g0 := Ig0
  refine lv_aload_n (pc := 0) hx hb dzM_current_0 rfl (lv_at hl 0 rfl) ?_
  refine lv_iload_n (pc := 1) hx hb dzM_current_1 rfl (lv_at hl 1 rfl) ?_
  refine lv_if_lt (pc := 2) (tgt := 14) hx hb dzM_current_2 (by decide) (fun _ => ?_) (fun hq9 => absurd h01 hq9)
  refine lv_iconst (v := 0) (pc := 14) hx hb dzM_current_14 (by decide) ?_
  refine lv_iconst (v := 1) (pc := 15) hx hb dzM_current_15 (by decide) ?_
  refine lv_iconst (v := 1) (pc := 16) hx hb dzM_current_16 (by decide) ?_
  refine xk_allVI (As := [.int 0, .int 1, .int 1]) (rest := []) (H0 := s.heap) (pc := 17) hx hb hml hts hown hK hA hP hD hS (kzM_goes_0 l G ac ad g0 1 1 (B + 0) Ig0 (by omega)) vfzM_114 (fun _ => rfl) 0 rfl rfl ⟨rfl, rfl⟩ ⟨Nat.le_of_ble_eq_true rfl, Nat.le_of_ble_eq_true rfl⟩ rfl hl.1 rfl (Nat.le_of_ble_eq_true rfl) ⟨Nat.zero_le _, Nat.zero_le _⟩ dzM_current_17 (fun r1 g1 H locs hg1 hP hD hS => ?_)
  have qr1 : r1 = 0 := rczM_goes_0 _ _ _ hg1
  refine xk_is (y := 0) qr1 ?_
  have hP : va_P G xk_cls (xk_wM ad ac g1) H := hP
  have hD : va_D A (xk_wM ad ac g1) := hD
  have Ig1 : xk_cnt (B + 0) g1 := xk_cnt_le (iczM_goes_0 (B + 0) _ _ _ hg1 Ig0) (by omega)
  refine lv_if_ne (pc := 20) (tgt := 25) hx hb dzM_current_20 (by decide) (fun hq9 => absurd (by decide) hq9) (fun _ => ?_)
  refine lv_iconst (v := 0) (pc := 23) hx hb dzM_current_23 (by decide) ?_
  exact hret _ g1 H locs 24 ls hP hS (xk_bn xk_b0) (by unfold relzM_current_neg; exact ⟨r1, g1, hg1, ⟨rfl, xk_b0, rfl⟩⟩) dzM_current_24
theorem frzM_current_neg (g0 : xk_St) (rz : Int32) (gz : xk_St) : relzM_current_neg g0 rz gz → xk_eqv [1, 2, 3, 4, 5, 6, 7, 8, 9, 10, 11, 12, 13, 14, 15, 16, 17, 18, 19, 20, 21, 22, 23, 24, 25, 26, 27] g0 gz := by
  intro h
  unfold relzM_current_neg at h
  have s0 : xk_eqv [1, 2, 3, 4, 5, 6, 7, 8, 9, 10, 11, 12, 13, 14, 15, 16, 17, 18, 19, 20, 21, 22, 23, 24, 25, 26, 27] g0 g0 := xk_eqv_rf
  obtain ⟨r1, g1, u1, v2⟩ := h
  have s3 : xk_eqv [1, 2, 3, 4, 5, 6, 7, 8, 9, 10, 11, 12, 13, 14, 15, 16, 17, 18, 19, 20, 21, 22, 23, 24, 25, 26, 27] g0 g1 := xk_eqv_tr s0 (xk_eqv_sub (frzM_goes_0 _ _ _ u1) (by decide))
  rw [v2.2.2]; exact s3
theorem iczM_current_neg (B : Nat) (g0 : xk_St) (rz : Int32) (gz : xk_St) : relzM_current_neg g0 rz gz → xk_cnt B g0 → xk_cnt (B + 0) gz := by
  intro h Ig0
  unfold relzM_current_neg at h
  have Ig0 : xk_cnt (B + 0) g0 := Ig0
  obtain ⟨r1, g1, u1, v2⟩ := h
  have Ig1 : xk_cnt (B + 0) g1 := xk_cnt_le (iczM_goes_0 (B + 0) _ _ _ u1 Ig0) (by omega)
  rw [v2.2.2]; exact xk_cnt_le Ig1 (by omega)
theorem rczM_current_neg (g0 : xk_St) (rz : Int32) (gz : xk_St) : relzM_current_neg g0 rz gz → rz = 0 := by
  intro h
  unfold relzM_current_neg at h
  obtain ⟨_, _, _, v1⟩ := h
  exact v1.1

def relzM_current_big (g0 : xk_St) (rz : Int32) (gz : xk_St) : Prop := ∃ (r1 : Int32) (g1 : xk_St), relzM_goes_0 g0 r1 g1 ∧ (rz = 0 ∧ xk_b rz ∧ gz = g1)
set_option maxHeartbeats 4000000 in
set_option maxRecDepth 100000 in
theorem kzM_current_big (l : Launch) (G : va_G) (ac : Nat → ClassId) (ad : Nat → Nat) (g0 : xk_St) (k0 : Int32) (k1 : Int32) (B : Nat) (h01 : ¬ k0 < 0) (h02 : 3 ≤ k0) (hb1 : xk_b k1) (Ig0 : xk_cnt B g0) (hB : B + 1 < 2147483648) : xk_CI l yzM_current czM_current 4 .boolean xk_WS xk_r1 G xk_cls (xk_tys ac) [.ref (ad 0), .int k0, .int k1] (xk_wM ad ac g0) (fun rz (gz : xk_St) => relzM_current_big g0 rz gz) (fun gz => xk_wM ad ac gz) := by
  refine xk_ofI (by decide) (Nat.le_of_ble_eq_true rfl) ?_
  intro p e s m args below meth c A Q H locs ls C0 hret hP hD hS hl
  obtain ⟨hx, hb, hml, hts, hown, hK, hA⟩ := C0
  have hl : lv_has ls 4 [(0, .ref (ad 0)), (1, .int k0), (2, .int k1)] := hl
  have Ig0 : xk_cnt (B + 0) g0 := Ig0
  refine lv_aload_n (pc := 0) hx hb dzM_current_0 rfl (lv_at hl 0 rfl) ?_
  refine lv_iload_n (pc := 1) hx hb dzM_current_1 rfl (lv_at hl 1 rfl) ?_
  refine lv_if_lt (pc := 2) (tgt := 14) hx hb dzM_current_2 (by decide) (fun hq9 => absurd hq9 h01) (fun _ => ?_)
  refine lv_iload_n (pc := 5) hx hb dzM_current_5 rfl (lv_at hl 1 rfl) ?_
  refine lv_iconst (v := 3) (pc := 6) hx hb dzM_current_6 (by decide) ?_
  refine lv_icmp_ge (pc := 7) (tgt := 14) hx hb dzM_current_7 (by decide) (fun _ => ?_) (fun hq9 => absurd h02 hq9)
  refine lv_iconst (v := 0) (pc := 14) hx hb dzM_current_14 (by decide) ?_
  refine lv_iconst (v := 1) (pc := 15) hx hb dzM_current_15 (by decide) ?_
  refine lv_iconst (v := 1) (pc := 16) hx hb dzM_current_16 (by decide) ?_
  refine xk_allVI (As := [.int 0, .int 1, .int 1]) (rest := []) (H0 := s.heap) (pc := 17) hx hb hml hts hown hK hA hP hD hS (kzM_goes_0 l G ac ad g0 1 1 (B + 0) Ig0 (by omega)) vfzM_114 (fun _ => rfl) 0 rfl rfl ⟨rfl, rfl⟩ ⟨Nat.le_of_ble_eq_true rfl, Nat.le_of_ble_eq_true rfl⟩ rfl hl.1 rfl (Nat.le_of_ble_eq_true rfl) ⟨Nat.zero_le _, Nat.zero_le _⟩ dzM_current_17 (fun r1 g1 H locs hg1 hP hD hS => ?_)
  have qr1 : r1 = 0 := rczM_goes_0 _ _ _ hg1
  refine xk_is (y := 0) qr1 ?_
  have hP : va_P G xk_cls (xk_wM ad ac g1) H := hP
  have hD : va_D A (xk_wM ad ac g1) := hD
  have Ig1 : xk_cnt (B + 0) g1 := xk_cnt_le (iczM_goes_0 (B + 0) _ _ _ hg1 Ig0) (by omega)
  refine lv_if_ne (pc := 20) (tgt := 25) hx hb dzM_current_20 (by decide) (fun hq9 => absurd (by decide) hq9) (fun _ => ?_)
  refine lv_iconst (v := 0) (pc := 23) hx hb dzM_current_23 (by decide) ?_
  exact hret _ g1 H locs 24 ls hP hS (xk_bn xk_b0) (by unfold relzM_current_big; exact ⟨r1, g1, hg1, ⟨rfl, xk_b0, rfl⟩⟩) dzM_current_24
theorem frzM_current_big (g0 : xk_St) (rz : Int32) (gz : xk_St) : relzM_current_big g0 rz gz → xk_eqv [1, 2, 3, 4, 5, 6, 7, 8, 9, 10, 11, 12, 13, 14, 15, 16, 17, 18, 19, 20, 21, 22, 23, 24, 25, 26, 27] g0 gz := by
  intro h
  unfold relzM_current_big at h
  have s0 : xk_eqv [1, 2, 3, 4, 5, 6, 7, 8, 9, 10, 11, 12, 13, 14, 15, 16, 17, 18, 19, 20, 21, 22, 23, 24, 25, 26, 27] g0 g0 := xk_eqv_rf
  obtain ⟨r1, g1, u1, v2⟩ := h
  have s3 : xk_eqv [1, 2, 3, 4, 5, 6, 7, 8, 9, 10, 11, 12, 13, 14, 15, 16, 17, 18, 19, 20, 21, 22, 23, 24, 25, 26, 27] g0 g1 := xk_eqv_tr s0 (xk_eqv_sub (frzM_goes_0 _ _ _ u1) (by decide))
  rw [v2.2.2]; exact s3
theorem iczM_current_big (B : Nat) (g0 : xk_St) (rz : Int32) (gz : xk_St) : relzM_current_big g0 rz gz → xk_cnt B g0 → xk_cnt (B + 0) gz := by
  intro h Ig0
  unfold relzM_current_big at h
  have Ig0 : xk_cnt (B + 0) g0 := Ig0
  obtain ⟨r1, g1, u1, v2⟩ := h
  have Ig1 : xk_cnt (B + 0) g1 := xk_cnt_le (iczM_goes_0 (B + 0) _ _ _ u1 Ig0) (by omega)
  rw [v2.2.2]; exact xk_cnt_le Ig1 (by omega)
theorem rczM_current_big (g0 : xk_St) (rz : Int32) (gz : xk_St) : relzM_current_big g0 rz gz → rz = 0 := by
  intro h
  unfold relzM_current_big at h
  obtain ⟨_, _, _, v1⟩ := h
  exact v1.1

def relzM_current_0 (g0 : xk_St) (k1 : Int32) (rz : Int32) (gz : xk_St) : Prop := ∃ (r1 : Int32) (g1 : xk_St), relzM_goes_111 g0 r1 g1 ∧ (∃ (x1 : Int32), (if ((g1 20) 0) = k1 then (x1 = 1) else (x1 = 0)) ∧ (∃ (x2 : Int32), (if k1 = 0 then (x2 = 1) else (x2 = 0)) ∧ (∃ (g2 : xk_St), g2 = va_up g1 20 (upd (g1 20) 0 x2) ∧ (rz = x1 ∧ xk_b rz ∧ gz = g2))))
set_option maxHeartbeats 4000000 in
set_option maxRecDepth 100000 in
theorem kzM_current_0 (l : Launch) (G : va_G) (ac : Nat → ClassId) (ad : Nat → Nat) (g0 : xk_St) (k1 : Int32) (B : Nat) (hb1 : xk_b k1) (Ig0 : xk_cnt B g0) (hB : B + 1 < 2147483648) : xk_CI l yzM_current czM_current 4 .boolean xk_WS xk_r1 G xk_cls (xk_tys ac) [.ref (ad 0), .int 0, .int k1] (xk_wM ad ac g0) (fun rz (gz : xk_St) => relzM_current_0 g0 k1 rz gz) (fun gz => xk_wM ad ac gz) := by
  refine xk_ofI (by decide) (Nat.le_of_ble_eq_true rfl) ?_
  intro p e s m args below meth c A Q H locs ls C0 hret hP hD hS hl
  obtain ⟨hx, hb, hml, hts, hown, hK, hA⟩ := C0
  have hl : lv_has ls 4 [(0, .ref (ad 0)), (1, .int 0), (2, .int k1)] := hl
  have Ig0 : xk_cnt (B + 0) g0 := Ig0
  refine lv_aload_n (pc := 0) hx hb dzM_current_0 rfl (lv_at hl 0 rfl) ?_
  refine lv_iload_n (pc := 1) hx hb dzM_current_1 rfl (lv_at hl 1 rfl) ?_
  refine lv_if_lt (pc := 2) (tgt := 14) hx hb dzM_current_2 (by decide) (fun hq9 => absurd hq9 (by decide)) (fun _ => ?_)
  refine lv_iload_n (pc := 5) hx hb dzM_current_5 rfl (lv_at hl 1 rfl) ?_
  refine lv_iconst (v := 3) (pc := 6) hx hb dzM_current_6 (by decide) ?_
  refine lv_icmp_ge (pc := 7) (tgt := 14) hx hb dzM_current_7 (by decide) (fun hq9 => absurd hq9 (by decide)) (fun _ => ?_)
  refine lv_iconst (v := 1) (pc := 10) hx hb dzM_current_10 (by decide) ?_
  refine lv_goto (tgt := 15) (pc := 11) hx hb dzM_current_11 (by decide) ?_
  refine lv_iconst (v := 1) (pc := 15) hx hb dzM_current_15 (by decide) ?_
  refine lv_iconst (v := 1) (pc := 16) hx hb dzM_current_16 (by decide) ?_
  refine xk_allVI (As := [.int 1, .int 1, .int 1]) (rest := []) (H0 := s.heap) (pc := 17) hx hb hml hts hown hK hA hP hD hS (kzM_goes_111 l G ac ad g0 (B + 0) Ig0 (by omega)) vfzM_114 (fun _ => rfl) 0 rfl rfl ⟨rfl, rfl⟩ ⟨Nat.le_of_ble_eq_true rfl, Nat.le_of_ble_eq_true rfl⟩ rfl hl.1 rfl (Nat.le_of_ble_eq_true rfl) ⟨Nat.zero_le _, Nat.zero_le _⟩ dzM_current_17 (fun r1 g1 H locs hg1 hP hD hS => ?_)
  have qr1 : r1 = 1 := rczM_goes_111 _ _ _ hg1
  refine xk_is (y := 1) qr1 ?_
  have hP : va_P G xk_cls (xk_wM ad ac g1) H := hP
  have hD : va_D A (xk_wM ad ac g1) := hD
  have Ig1 : xk_cnt (B + 0) g1 := xk_cnt_le (iczM_goes_111 (B + 0) _ _ _ hg1 Ig0) (by omega)
  refine lv_if_ne (pc := 20) (tgt := 25) hx hb dzM_current_20 (by decide) (fun _ => ?_) (fun hq9 => absurd hq9 (by decide))
  refine lv_aload_n (pc := 25) hx hb dzM_current_25 rfl (lv_at hl 0 rfl) ?_
  refine xk_get (pc := 26) hx hb hts hown hK hP ffzM_68 0 rfl rfl dzM_current_26 ?_
  refine lv_iload_n (pc := 29) hx hb dzM_current_29 rfl (lv_at hl 1 rfl) ?_
  refine xk_zald (q0 := 20) (t0 := 1) (j := 0) (pc := 30) hx hb hK hP rfl rfl (pk_in 0 3 (by decide)) (pk_cl 0) dzM_current_30 ?_
  refine lv_iload_n (pc := 31) hx hb dzM_current_31 rfl (lv_at hl 2 rfl) ?_
  have K1 : ∀ (x1 : Int32), (if ((g1 20) 0) = k1 then (x1 = 1) else (x1 = 0)) → (xk_b x1) → W p l e xk_r1 s m args below meth c H locs 0 0 Q (F0 m 40 ls [.int x1]) := by
    intro x1 R1 bx1
    refine lv_istore_n (lv' := [(3, .int x1), (0, .ref (ad 0)), (1, .int 0), (2, .int k1)]) (pc := 40) hx hb dzM_current_40 rfl hl (by decide) rfl (fun ls hl => ?_)
    refine lv_aload_n (pc := 41) hx hb dzM_current_41 rfl (lv_at hl 1 rfl) ?_
    refine xk_get (pc := 42) hx hb hts hown hK hP ffzM_68 0 rfl rfl dzM_current_42 ?_
    refine lv_iload_n (pc := 45) hx hb dzM_current_45 rfl (lv_at hl 2 rfl) ?_
    refine lv_iload_n (pc := 46) hx hb dzM_current_46 rfl (lv_at hl 3 rfl) ?_
    have K2 : ∀ (x2 : Int32), (if k1 = 0 then (x2 = 1) else (x2 = 0)) → (xk_b x2) → W p l e xk_r1 s m args below meth c H locs 0 0 Q (F0 m 55 ls [.int x2, .int 0, .ref (ad 20)]) := by
      intro x2 R2 bx2
      refine xk_zast (q0 := 20) (t0 := 1) (j := 0) (pc := 55) hx hb hK hP hD hS rfl rfl (pk_in 0 3 (by decide)) (pk_cl 0) bx2 dzM_current_55 (fun H locs hP hD hS => ?_)
      obtain ⟨g2, eg2⟩ : ∃ z : xk_St, z = va_up g1 20 (upd (g1 20) 0 x2) := ⟨_, rfl⟩
      have hP : va_P G xk_cls (xk_wM ad ac g2) H := by rw [eg2]; exact hP
      have hD : va_D A (xk_wM ad ac g2) := by rw [eg2]; exact hD
      have Ig2 : xk_cnt (B + 0) g2 := by rw [eg2]; repeat (first | exact Ig1 | refine xk_cnt_k (by decide) ?_ | refine xk_cnt_f (by decide) ?_ | refine xk_cnt_s ?_)
      refine lv_iload_n (pc := 56) hx hb dzM_current_56 rfl (lv_at hl 0 rfl) ?_
      exact hret _ g2 H locs 57 ls hP hS (xk_bn bx1) (by unfold relzM_current_0; exact ⟨r1, g1, hg1, ⟨x1, R1, ⟨x2, R2, ⟨g2, eg2, ⟨rfl, bx1, rfl⟩⟩⟩⟩⟩) dzM_current_57
    refine lv_if_ne (pc := 47) (tgt := 54) hx hb dzM_current_47 (by decide) (fun h2 => ?_) (fun h2 => ?_)
    ·
      refine lv_iconst (v := 0) (pc := 54) hx hb dzM_current_54 (by decide) ?_
      exact K2 0 (Eq.mpr (if_neg h2) rfl) xk_b0
    ·
      refine lv_iconst (v := 1) (pc := 50) hx hb dzM_current_50 (by decide) ?_
      refine lv_goto (tgt := 55) (pc := 51) hx hb dzM_current_51 (by decide) ?_
      exact K2 1 (Eq.mpr (if_pos h2) rfl) xk_b1
  refine lv_icmp_ne (pc := 32) (tgt := 39) hx hb dzM_current_32 (by decide) (fun h1 => ?_) (fun h1 => ?_)
  ·
    refine lv_iconst (v := 0) (pc := 39) hx hb dzM_current_39 (by decide) ?_
    exact K1 0 (Eq.mpr (if_neg h1) rfl) xk_b0
  ·
    refine lv_iconst (v := 1) (pc := 35) hx hb dzM_current_35 (by decide) ?_
    refine lv_goto (tgt := 40) (pc := 36) hx hb dzM_current_36 (by decide) ?_
    exact K1 1 (Eq.mpr (if_pos h1) rfl) xk_b1
theorem frzM_current_0 (g0 : xk_St) (k1 : Int32) (rz : Int32) (gz : xk_St) : relzM_current_0 g0 k1 rz gz → xk_eqv [1, 2, 3, 4, 5, 6, 7, 8, 9, 10, 11, 12, 13, 14, 15, 16, 17, 18, 19, 21, 22, 23, 24, 25, 26, 27] g0 gz := by
  intro h
  unfold relzM_current_0 at h
  have s0 : xk_eqv [1, 2, 3, 4, 5, 6, 7, 8, 9, 10, 11, 12, 13, 14, 15, 16, 17, 18, 19, 21, 22, 23, 24, 25, 26, 27] g0 g0 := xk_eqv_rf
  obtain ⟨r1, g1, u1, v2⟩ := h
  have s3 : xk_eqv [1, 2, 3, 4, 5, 6, 7, 8, 9, 10, 11, 12, 13, 14, 15, 16, 17, 18, 19, 21, 22, 23, 24, 25, 26, 27] g0 g1 := xk_eqv_tr s0 (xk_eqv_sub (frzM_goes_111 _ _ _ u1) (by decide))
  obtain ⟨x1, u4, v5⟩ := v2
  obtain ⟨x2, u6, v7⟩ := v5
  obtain ⟨g2, u8, v9⟩ := v7
  have s10 : xk_eqv [1, 2, 3, 4, 5, 6, 7, 8, 9, 10, 11, 12, 13, 14, 15, 16, 17, 18, 19, 21, 22, 23, 24, 25, 26, 27] g0 g2 := by rw [u8]; repeat (first | exact s3 | refine xk_eqv_up (by decide) ?_)
  rw [v9.2.2]; exact s10
theorem iczM_current_0 (B : Nat) (g0 : xk_St) (k1 : Int32) (rz : Int32) (gz : xk_St) : relzM_current_0 g0 k1 rz gz → xk_cnt B g0 → xk_cnt (B + 0) gz := by
  intro h Ig0
  unfold relzM_current_0 at h
  have Ig0 : xk_cnt (B + 0) g0 := Ig0
  obtain ⟨r1, g1, u1, v2⟩ := h
  have Ig1 : xk_cnt (B + 0) g1 := xk_cnt_le (iczM_goes_111 (B + 0) _ _ _ u1 Ig0) (by omega)
  obtain ⟨x1, u3, v4⟩ := v2
  obtain ⟨x2, u5, v6⟩ := v4
  obtain ⟨g2, u7, v8⟩ := v6
  have Ig2 : xk_cnt (B + 0) g2 := by rw [u7]; repeat (first | exact Ig1 | refine xk_cnt_k (by decide) ?_ | refine xk_cnt_f (by decide) ?_ | refine xk_cnt_s ?_)
  rw [v8.2.2]; exact xk_cnt_le Ig2 (by omega)

def relzM_current_1 (g0 : xk_St) (k1 : Int32) (rz : Int32) (gz : xk_St) : Prop := ∃ (r1 : Int32) (g1 : xk_St), relzM_goes_111 g0 r1 g1 ∧ (∃ (x1 : Int32), (if ((g1 20) 1) = k1 then (x1 = 1) else (x1 = 0)) ∧ (∃ (x2 : Int32), (if k1 = 0 then (x2 = 1) else (x2 = 0)) ∧ (∃ (g2 : xk_St), g2 = va_up g1 20 (upd (g1 20) 1 x2) ∧ (rz = x1 ∧ xk_b rz ∧ gz = g2))))
set_option maxHeartbeats 4000000 in
set_option maxRecDepth 100000 in
theorem kzM_current_1 (l : Launch) (G : va_G) (ac : Nat → ClassId) (ad : Nat → Nat) (g0 : xk_St) (k1 : Int32) (B : Nat) (hb1 : xk_b k1) (Ig0 : xk_cnt B g0) (hB : B + 1 < 2147483648) : xk_CI l yzM_current czM_current 4 .boolean xk_WS xk_r1 G xk_cls (xk_tys ac) [.ref (ad 0), .int 1, .int k1] (xk_wM ad ac g0) (fun rz (gz : xk_St) => relzM_current_1 g0 k1 rz gz) (fun gz => xk_wM ad ac gz) := by
  refine xk_ofI (by decide) (Nat.le_of_ble_eq_true rfl) ?_
  intro p e s m args below meth c A Q H locs ls C0 hret hP hD hS hl
  obtain ⟨hx, hb, hml, hts, hown, hK, hA⟩ := C0
  have hl : lv_has ls 4 [(0, .ref (ad 0)), (1, .int 1), (2, .int k1)] := hl
  have Ig0 : xk_cnt (B + 0) g0 := Ig0
  refine lv_aload_n (pc := 0) hx hb dzM_current_0 rfl (lv_at hl 0 rfl) ?_
  refine lv_iload_n (pc := 1) hx hb dzM_current_1 rfl (lv_at hl 1 rfl) ?_
  refine lv_if_lt (pc := 2) (tgt := 14) hx hb dzM_current_2 (by decide) (fun hq9 => absurd hq9 (by decide)) (fun _ => ?_)
  refine lv_iload_n (pc := 5) hx hb dzM_current_5 rfl (lv_at hl 1 rfl) ?_
  refine lv_iconst (v := 3) (pc := 6) hx hb dzM_current_6 (by decide) ?_
  refine lv_icmp_ge (pc := 7) (tgt := 14) hx hb dzM_current_7 (by decide) (fun hq9 => absurd hq9 (by decide)) (fun _ => ?_)
  refine lv_iconst (v := 1) (pc := 10) hx hb dzM_current_10 (by decide) ?_
  refine lv_goto (tgt := 15) (pc := 11) hx hb dzM_current_11 (by decide) ?_
  refine lv_iconst (v := 1) (pc := 15) hx hb dzM_current_15 (by decide) ?_
  refine lv_iconst (v := 1) (pc := 16) hx hb dzM_current_16 (by decide) ?_
  refine xk_allVI (As := [.int 1, .int 1, .int 1]) (rest := []) (H0 := s.heap) (pc := 17) hx hb hml hts hown hK hA hP hD hS (kzM_goes_111 l G ac ad g0 (B + 0) Ig0 (by omega)) vfzM_114 (fun _ => rfl) 0 rfl rfl ⟨rfl, rfl⟩ ⟨Nat.le_of_ble_eq_true rfl, Nat.le_of_ble_eq_true rfl⟩ rfl hl.1 rfl (Nat.le_of_ble_eq_true rfl) ⟨Nat.zero_le _, Nat.zero_le _⟩ dzM_current_17 (fun r1 g1 H locs hg1 hP hD hS => ?_)
  have qr1 : r1 = 1 := rczM_goes_111 _ _ _ hg1
  refine xk_is (y := 1) qr1 ?_
  have hP : va_P G xk_cls (xk_wM ad ac g1) H := hP
  have hD : va_D A (xk_wM ad ac g1) := hD
  have Ig1 : xk_cnt (B + 0) g1 := xk_cnt_le (iczM_goes_111 (B + 0) _ _ _ hg1 Ig0) (by omega)
  refine lv_if_ne (pc := 20) (tgt := 25) hx hb dzM_current_20 (by decide) (fun _ => ?_) (fun hq9 => absurd hq9 (by decide))
  refine lv_aload_n (pc := 25) hx hb dzM_current_25 rfl (lv_at hl 0 rfl) ?_
  refine xk_get (pc := 26) hx hb hts hown hK hP ffzM_68 0 rfl rfl dzM_current_26 ?_
  refine lv_iload_n (pc := 29) hx hb dzM_current_29 rfl (lv_at hl 1 rfl) ?_
  refine xk_zald (q0 := 20) (t0 := 1) (j := 1) (pc := 30) hx hb hK hP rfl rfl (pk_in 1 3 (by decide)) (pk_cl 1) dzM_current_30 ?_
  refine lv_iload_n (pc := 31) hx hb dzM_current_31 rfl (lv_at hl 2 rfl) ?_
  have K1 : ∀ (x1 : Int32), (if ((g1 20) 1) = k1 then (x1 = 1) else (x1 = 0)) → (xk_b x1) → W p l e xk_r1 s m args below meth c H locs 0 0 Q (F0 m 40 ls [.int x1]) := by
    intro x1 R1 bx1
    refine lv_istore_n (lv' := [(3, .int x1), (0, .ref (ad 0)), (1, .int 1), (2, .int k1)]) (pc := 40) hx hb dzM_current_40 rfl hl (by decide) rfl (fun ls hl => ?_)
    refine lv_aload_n (pc := 41) hx hb dzM_current_41 rfl (lv_at hl 1 rfl) ?_
    refine xk_get (pc := 42) hx hb hts hown hK hP ffzM_68 0 rfl rfl dzM_current_42 ?_
    refine lv_iload_n (pc := 45) hx hb dzM_current_45 rfl (lv_at hl 2 rfl) ?_
    refine lv_iload_n (pc := 46) hx hb dzM_current_46 rfl (lv_at hl 3 rfl) ?_
    have K2 : ∀ (x2 : Int32), (if k1 = 0 then (x2 = 1) else (x2 = 0)) → (xk_b x2) → W p l e xk_r1 s m args below meth c H locs 0 0 Q (F0 m 55 ls [.int x2, .int 1, .ref (ad 20)]) := by
      intro x2 R2 bx2
      refine xk_zast (q0 := 20) (t0 := 1) (j := 1) (pc := 55) hx hb hK hP hD hS rfl rfl (pk_in 1 3 (by decide)) (pk_cl 1) bx2 dzM_current_55 (fun H locs hP hD hS => ?_)
      obtain ⟨g2, eg2⟩ : ∃ z : xk_St, z = va_up g1 20 (upd (g1 20) 1 x2) := ⟨_, rfl⟩
      have hP : va_P G xk_cls (xk_wM ad ac g2) H := by rw [eg2]; exact hP
      have hD : va_D A (xk_wM ad ac g2) := by rw [eg2]; exact hD
      have Ig2 : xk_cnt (B + 0) g2 := by rw [eg2]; repeat (first | exact Ig1 | refine xk_cnt_k (by decide) ?_ | refine xk_cnt_f (by decide) ?_ | refine xk_cnt_s ?_)
      refine lv_iload_n (pc := 56) hx hb dzM_current_56 rfl (lv_at hl 0 rfl) ?_
      exact hret _ g2 H locs 57 ls hP hS (xk_bn bx1) (by unfold relzM_current_1; exact ⟨r1, g1, hg1, ⟨x1, R1, ⟨x2, R2, ⟨g2, eg2, ⟨rfl, bx1, rfl⟩⟩⟩⟩⟩) dzM_current_57
    refine lv_if_ne (pc := 47) (tgt := 54) hx hb dzM_current_47 (by decide) (fun h2 => ?_) (fun h2 => ?_)
    ·
      refine lv_iconst (v := 0) (pc := 54) hx hb dzM_current_54 (by decide) ?_
      exact K2 0 (Eq.mpr (if_neg h2) rfl) xk_b0
    ·
      refine lv_iconst (v := 1) (pc := 50) hx hb dzM_current_50 (by decide) ?_
      refine lv_goto (tgt := 55) (pc := 51) hx hb dzM_current_51 (by decide) ?_
      exact K2 1 (Eq.mpr (if_pos h2) rfl) xk_b1
  refine lv_icmp_ne (pc := 32) (tgt := 39) hx hb dzM_current_32 (by decide) (fun h1 => ?_) (fun h1 => ?_)
  ·
    refine lv_iconst (v := 0) (pc := 39) hx hb dzM_current_39 (by decide) ?_
    exact K1 0 (Eq.mpr (if_neg h1) rfl) xk_b0
  ·
    refine lv_iconst (v := 1) (pc := 35) hx hb dzM_current_35 (by decide) ?_
    refine lv_goto (tgt := 40) (pc := 36) hx hb dzM_current_36 (by decide) ?_
    exact K1 1 (Eq.mpr (if_pos h1) rfl) xk_b1
theorem frzM_current_1 (g0 : xk_St) (k1 : Int32) (rz : Int32) (gz : xk_St) : relzM_current_1 g0 k1 rz gz → xk_eqv [1, 2, 3, 4, 5, 6, 7, 8, 9, 10, 11, 12, 13, 14, 15, 16, 17, 18, 19, 21, 22, 23, 24, 25, 26, 27] g0 gz := by
  intro h
  unfold relzM_current_1 at h
  have s0 : xk_eqv [1, 2, 3, 4, 5, 6, 7, 8, 9, 10, 11, 12, 13, 14, 15, 16, 17, 18, 19, 21, 22, 23, 24, 25, 26, 27] g0 g0 := xk_eqv_rf
  obtain ⟨r1, g1, u1, v2⟩ := h
  have s3 : xk_eqv [1, 2, 3, 4, 5, 6, 7, 8, 9, 10, 11, 12, 13, 14, 15, 16, 17, 18, 19, 21, 22, 23, 24, 25, 26, 27] g0 g1 := xk_eqv_tr s0 (xk_eqv_sub (frzM_goes_111 _ _ _ u1) (by decide))
  obtain ⟨x1, u4, v5⟩ := v2
  obtain ⟨x2, u6, v7⟩ := v5
  obtain ⟨g2, u8, v9⟩ := v7
  have s10 : xk_eqv [1, 2, 3, 4, 5, 6, 7, 8, 9, 10, 11, 12, 13, 14, 15, 16, 17, 18, 19, 21, 22, 23, 24, 25, 26, 27] g0 g2 := by rw [u8]; repeat (first | exact s3 | refine xk_eqv_up (by decide) ?_)
  rw [v9.2.2]; exact s10
theorem iczM_current_1 (B : Nat) (g0 : xk_St) (k1 : Int32) (rz : Int32) (gz : xk_St) : relzM_current_1 g0 k1 rz gz → xk_cnt B g0 → xk_cnt (B + 0) gz := by
  intro h Ig0
  unfold relzM_current_1 at h
  have Ig0 : xk_cnt (B + 0) g0 := Ig0
  obtain ⟨r1, g1, u1, v2⟩ := h
  have Ig1 : xk_cnt (B + 0) g1 := xk_cnt_le (iczM_goes_111 (B + 0) _ _ _ u1 Ig0) (by omega)
  obtain ⟨x1, u3, v4⟩ := v2
  obtain ⟨x2, u5, v6⟩ := v4
  obtain ⟨g2, u7, v8⟩ := v6
  have Ig2 : xk_cnt (B + 0) g2 := by rw [u7]; repeat (first | exact Ig1 | refine xk_cnt_k (by decide) ?_ | refine xk_cnt_f (by decide) ?_ | refine xk_cnt_s ?_)
  rw [v8.2.2]; exact xk_cnt_le Ig2 (by omega)

def relzM_current_2 (g0 : xk_St) (k1 : Int32) (rz : Int32) (gz : xk_St) : Prop := ∃ (r1 : Int32) (g1 : xk_St), relzM_goes_111 g0 r1 g1 ∧ (∃ (x1 : Int32), (if ((g1 20) 2) = k1 then (x1 = 1) else (x1 = 0)) ∧ (∃ (x2 : Int32), (if k1 = 0 then (x2 = 1) else (x2 = 0)) ∧ (∃ (g2 : xk_St), g2 = va_up g1 20 (upd (g1 20) 2 x2) ∧ (rz = x1 ∧ xk_b rz ∧ gz = g2))))
set_option maxHeartbeats 4000000 in
set_option maxRecDepth 100000 in
theorem kzM_current_2 (l : Launch) (G : va_G) (ac : Nat → ClassId) (ad : Nat → Nat) (g0 : xk_St) (k1 : Int32) (B : Nat) (hb1 : xk_b k1) (Ig0 : xk_cnt B g0) (hB : B + 1 < 2147483648) : xk_CI l yzM_current czM_current 4 .boolean xk_WS xk_r1 G xk_cls (xk_tys ac) [.ref (ad 0), .int 2, .int k1] (xk_wM ad ac g0) (fun rz (gz : xk_St) => relzM_current_2 g0 k1 rz gz) (fun gz => xk_wM ad ac gz) := by
  refine xk_ofI (by decide) (Nat.le_of_ble_eq_true rfl) ?_
  intro p e s m args below meth c A Q H locs ls C0 hret hP hD hS hl
  obtain ⟨hx, hb, hml, hts, hown, hK, hA⟩ := C0
  have hl : lv_has ls 4 [(0, .ref (ad 0)), (1, .int 2), (2, .int k1)] := hl
  have Ig0 : xk_cnt (B + 0) g0 := Ig0
  refine lv_aload_n (pc := 0) hx hb dzM_current_0 rfl (lv_at hl 0 rfl) ?_
  refine lv_iload_n (pc := 1) hx hb dzM_current_1 rfl (lv_at hl 1 rfl) ?_
  refine lv_if_lt (pc := 2) (tgt := 14) hx hb dzM_current_2 (by decide) (fun hq9 => absurd hq9 (by decide)) (fun _ => ?_)
  refine lv_iload_n (pc := 5) hx hb dzM_current_5 rfl (lv_at hl 1 rfl) ?_
  refine lv_iconst (v := 3) (pc := 6) hx hb dzM_current_6 (by decide) ?_
  refine lv_icmp_ge (pc := 7) (tgt := 14) hx hb dzM_current_7 (by decide) (fun hq9 => absurd hq9 (by decide)) (fun _ => ?_)
  refine lv_iconst (v := 1) (pc := 10) hx hb dzM_current_10 (by decide) ?_
  refine lv_goto (tgt := 15) (pc := 11) hx hb dzM_current_11 (by decide) ?_
  refine lv_iconst (v := 1) (pc := 15) hx hb dzM_current_15 (by decide) ?_
  refine lv_iconst (v := 1) (pc := 16) hx hb dzM_current_16 (by decide) ?_
  refine xk_allVI (As := [.int 1, .int 1, .int 1]) (rest := []) (H0 := s.heap) (pc := 17) hx hb hml hts hown hK hA hP hD hS (kzM_goes_111 l G ac ad g0 (B + 0) Ig0 (by omega)) vfzM_114 (fun _ => rfl) 0 rfl rfl ⟨rfl, rfl⟩ ⟨Nat.le_of_ble_eq_true rfl, Nat.le_of_ble_eq_true rfl⟩ rfl hl.1 rfl (Nat.le_of_ble_eq_true rfl) ⟨Nat.zero_le _, Nat.zero_le _⟩ dzM_current_17 (fun r1 g1 H locs hg1 hP hD hS => ?_)
  have qr1 : r1 = 1 := rczM_goes_111 _ _ _ hg1
  refine xk_is (y := 1) qr1 ?_
  have hP : va_P G xk_cls (xk_wM ad ac g1) H := hP
  have hD : va_D A (xk_wM ad ac g1) := hD
  have Ig1 : xk_cnt (B + 0) g1 := xk_cnt_le (iczM_goes_111 (B + 0) _ _ _ hg1 Ig0) (by omega)
  refine lv_if_ne (pc := 20) (tgt := 25) hx hb dzM_current_20 (by decide) (fun _ => ?_) (fun hq9 => absurd hq9 (by decide))
  refine lv_aload_n (pc := 25) hx hb dzM_current_25 rfl (lv_at hl 0 rfl) ?_
  refine xk_get (pc := 26) hx hb hts hown hK hP ffzM_68 0 rfl rfl dzM_current_26 ?_
  refine lv_iload_n (pc := 29) hx hb dzM_current_29 rfl (lv_at hl 1 rfl) ?_
  refine xk_zald (q0 := 20) (t0 := 1) (j := 2) (pc := 30) hx hb hK hP rfl rfl (pk_in 2 3 (by decide)) (pk_cl 2) dzM_current_30 ?_
  refine lv_iload_n (pc := 31) hx hb dzM_current_31 rfl (lv_at hl 2 rfl) ?_
  have K1 : ∀ (x1 : Int32), (if ((g1 20) 2) = k1 then (x1 = 1) else (x1 = 0)) → (xk_b x1) → W p l e xk_r1 s m args below meth c H locs 0 0 Q (F0 m 40 ls [.int x1]) := by
    intro x1 R1 bx1
    refine lv_istore_n (lv' := [(3, .int x1), (0, .ref (ad 0)), (1, .int 2), (2, .int k1)]) (pc := 40) hx hb dzM_current_40 rfl hl (by decide) rfl (fun ls hl => ?_)
    refine lv_aload_n (pc := 41) hx hb dzM_current_41 rfl (lv_at hl 1 rfl) ?_
    refine xk_get (pc := 42) hx hb hts hown hK hP ffzM_68 0 rfl rfl dzM_current_42 ?_
    refine lv_iload_n (pc := 45) hx hb dzM_current_45 rfl (lv_at hl 2 rfl) ?_
    refine lv_iload_n (pc := 46) hx hb dzM_current_46 rfl (lv_at hl 3 rfl) ?_
    have K2 : ∀ (x2 : Int32), (if k1 = 0 then (x2 = 1) else (x2 = 0)) → (xk_b x2) → W p l e xk_r1 s m args below meth c H locs 0 0 Q (F0 m 55 ls [.int x2, .int 2, .ref (ad 20)]) := by
      intro x2 R2 bx2
      refine xk_zast (q0 := 20) (t0 := 1) (j := 2) (pc := 55) hx hb hK hP hD hS rfl rfl (pk_in 2 3 (by decide)) (pk_cl 2) bx2 dzM_current_55 (fun H locs hP hD hS => ?_)
      obtain ⟨g2, eg2⟩ : ∃ z : xk_St, z = va_up g1 20 (upd (g1 20) 2 x2) := ⟨_, rfl⟩
      have hP : va_P G xk_cls (xk_wM ad ac g2) H := by rw [eg2]; exact hP
      have hD : va_D A (xk_wM ad ac g2) := by rw [eg2]; exact hD
      have Ig2 : xk_cnt (B + 0) g2 := by rw [eg2]; repeat (first | exact Ig1 | refine xk_cnt_k (by decide) ?_ | refine xk_cnt_f (by decide) ?_ | refine xk_cnt_s ?_)
      refine lv_iload_n (pc := 56) hx hb dzM_current_56 rfl (lv_at hl 0 rfl) ?_
      exact hret _ g2 H locs 57 ls hP hS (xk_bn bx1) (by unfold relzM_current_2; exact ⟨r1, g1, hg1, ⟨x1, R1, ⟨x2, R2, ⟨g2, eg2, ⟨rfl, bx1, rfl⟩⟩⟩⟩⟩) dzM_current_57
    refine lv_if_ne (pc := 47) (tgt := 54) hx hb dzM_current_47 (by decide) (fun h2 => ?_) (fun h2 => ?_)
    ·
      refine lv_iconst (v := 0) (pc := 54) hx hb dzM_current_54 (by decide) ?_
      exact K2 0 (Eq.mpr (if_neg h2) rfl) xk_b0
    ·
      refine lv_iconst (v := 1) (pc := 50) hx hb dzM_current_50 (by decide) ?_
      refine lv_goto (tgt := 55) (pc := 51) hx hb dzM_current_51 (by decide) ?_
      exact K2 1 (Eq.mpr (if_pos h2) rfl) xk_b1
  refine lv_icmp_ne (pc := 32) (tgt := 39) hx hb dzM_current_32 (by decide) (fun h1 => ?_) (fun h1 => ?_)
  ·
    refine lv_iconst (v := 0) (pc := 39) hx hb dzM_current_39 (by decide) ?_
    exact K1 0 (Eq.mpr (if_neg h1) rfl) xk_b0
  ·
    refine lv_iconst (v := 1) (pc := 35) hx hb dzM_current_35 (by decide) ?_
    refine lv_goto (tgt := 40) (pc := 36) hx hb dzM_current_36 (by decide) ?_
    exact K1 1 (Eq.mpr (if_pos h1) rfl) xk_b1
theorem frzM_current_2 (g0 : xk_St) (k1 : Int32) (rz : Int32) (gz : xk_St) : relzM_current_2 g0 k1 rz gz → xk_eqv [1, 2, 3, 4, 5, 6, 7, 8, 9, 10, 11, 12, 13, 14, 15, 16, 17, 18, 19, 21, 22, 23, 24, 25, 26, 27] g0 gz := by
  intro h
  unfold relzM_current_2 at h
  have s0 : xk_eqv [1, 2, 3, 4, 5, 6, 7, 8, 9, 10, 11, 12, 13, 14, 15, 16, 17, 18, 19, 21, 22, 23, 24, 25, 26, 27] g0 g0 := xk_eqv_rf
  obtain ⟨r1, g1, u1, v2⟩ := h
  have s3 : xk_eqv [1, 2, 3, 4, 5, 6, 7, 8, 9, 10, 11, 12, 13, 14, 15, 16, 17, 18, 19, 21, 22, 23, 24, 25, 26, 27] g0 g1 := xk_eqv_tr s0 (xk_eqv_sub (frzM_goes_111 _ _ _ u1) (by decide))
  obtain ⟨x1, u4, v5⟩ := v2
  obtain ⟨x2, u6, v7⟩ := v5
  obtain ⟨g2, u8, v9⟩ := v7
  have s10 : xk_eqv [1, 2, 3, 4, 5, 6, 7, 8, 9, 10, 11, 12, 13, 14, 15, 16, 17, 18, 19, 21, 22, 23, 24, 25, 26, 27] g0 g2 := by rw [u8]; repeat (first | exact s3 | refine xk_eqv_up (by decide) ?_)
  rw [v9.2.2]; exact s10
theorem iczM_current_2 (B : Nat) (g0 : xk_St) (k1 : Int32) (rz : Int32) (gz : xk_St) : relzM_current_2 g0 k1 rz gz → xk_cnt B g0 → xk_cnt (B + 0) gz := by
  intro h Ig0
  unfold relzM_current_2 at h
  have Ig0 : xk_cnt (B + 0) g0 := Ig0
  obtain ⟨r1, g1, u1, v2⟩ := h
  have Ig1 : xk_cnt (B + 0) g1 := xk_cnt_le (iczM_goes_111 (B + 0) _ _ _ u1 Ig0) (by omega)
  obtain ⟨x1, u3, v4⟩ := v2
  obtain ⟨x2, u5, v6⟩ := v4
  obtain ⟨g2, u7, v8⟩ := v6
  have Ig2 : xk_cnt (B + 0) g2 := by rw [u7]; repeat (first | exact Ig1 | refine xk_cnt_k (by decide) ?_ | refine xk_cnt_f (by decide) ?_ | refine xk_cnt_s ?_)
  rw [v8.2.2]; exact xk_cnt_le Ig2 (by omega)

def relzM_order_bad (g0 : xk_St) (rz : Int32) (gz : xk_St) : Prop := ∃ (r2 : Int32) (g1 : xk_St), relzM_goes_0 g0 r2 g1 ∧ (rz = 0 ∧ gz = g1)
set_option maxHeartbeats 4000000 in
set_option maxRecDepth 100000 in
theorem kzM_order_bad (l : Launch) (G : va_G) (ac : Nat → ClassId) (ad : Nat → Nat) (g0 : xk_St) (k0 : Int32) (B : Nat) (hq : qzM_isTrack k0 = 0) (Ig0 : xk_cnt B g0) (hB : B + 1 < 2147483648) : xk_CI l yzM_order czM_order 3 .int xk_WS xk_r2 G xk_cls (xk_tys ac) [.ref (ad 0), .int k0] (xk_wM ad ac g0) (fun rz (gz : xk_St) => relzM_order_bad g0 rz gz) (fun gz => xk_wM ad ac gz) := by
  refine xk_ofI (by decide) (Nat.le_of_ble_eq_true rfl) ?_
  intro p e s m args below meth c A Q H locs ls C0 hret hP hD hS hl
  obtain ⟨hx, hb, hml, hts, hown, hK, hA⟩ := C0
  have hl : lv_has ls 3 [(0, .ref (ad 0)), (1, .int k0)] := hl
  have Ig0 : xk_cnt (B + 0) g0 := Ig0
  refine lv_aload_n (pc := 0) hx hb dzM_order_0 rfl (lv_at hl 0 rfl) ?_
  refine lv_iload_n (pc := 1) hx hb dzM_order_1 rfl (lv_at hl 1 rfl) ?_
  refine xk_callSI (As := [.int k0]) (rest := [.ref (ad 0)]) (H0 := s.heap) (pc := 2) hx hb hml hts hown hK hA hP hD hS (kzM_isTrack l G ac k0) sfzM_96 [] (by decide) rfl (fun _ => rfl) ⟨rfl, rfl⟩ ⟨Nat.le_of_ble_eq_true rfl, Nat.le_of_ble_eq_true rfl⟩ rfl hl.1 rfl (Nat.le_of_ble_eq_true rfl) ⟨Nat.zero_le _, Nat.zero_le _⟩ dzM_order_2 (fun r1 u9 H locs e9 hP hD hS => ?_)
  obtain rfl : r1 = qzM_isTrack k0 := e9
  refine xk_is (y := 0) hq ?_
  have hP : va_P G xk_cls (xk_wM ad ac g0) H := hP
  have hD : va_D A (xk_wM ad ac g0) := hD
  refine lv_iconst (v := 1) (pc := 5) hx hb dzM_order_5 (by decide) ?_
  refine lv_iconst (v := 1) (pc := 6) hx hb dzM_order_6 (by decide) ?_
  refine xk_allVI (As := [.int 0, .int 1, .int 1]) (rest := []) (H0 := s.heap) (pc := 7) hx hb hml hts hown hK hA hP hD hS (kzM_goes_0 l G ac ad g0 1 1 (B + 0) Ig0 (by omega)) vfzM_114 (fun _ => rfl) 0 rfl rfl ⟨rfl, rfl⟩ ⟨Nat.le_of_ble_eq_true rfl, Nat.le_of_ble_eq_true rfl⟩ rfl hl.1 rfl (Nat.le_of_ble_eq_true rfl) ⟨Nat.zero_le _, Nat.zero_le _⟩ dzM_order_7 (fun r2 g1 H locs hg1 hP hD hS => ?_)
  have qr2 : r2 = 0 := rczM_goes_0 _ _ _ hg1
  refine xk_is (y := 0) qr2 ?_
  have hP : va_P G xk_cls (xk_wM ad ac g1) H := hP
  have hD : va_D A (xk_wM ad ac g1) := hD
  have Ig1 : xk_cnt (B + 0) g1 := xk_cnt_le (iczM_goes_0 (B + 0) _ _ _ hg1 Ig0) (by omega)
  refine lv_if_ne (pc := 10) (tgt := 15) hx hb dzM_order_10 (by decide) (fun hq9 => absurd (by decide) hq9) (fun _ => ?_)
  refine lv_iconst (v := 0) (pc := 13) hx hb dzM_order_13 (by decide) ?_
  exact hret _ g1 H locs 14 ls hP hS rfl (by unfold relzM_order_bad; exact ⟨r2, g1, hg1, ⟨rfl, rfl⟩⟩) dzM_order_14
theorem frzM_order_bad (g0 : xk_St) (rz : Int32) (gz : xk_St) : relzM_order_bad g0 rz gz → xk_eqv [1, 2, 3, 4, 5, 6, 7, 8, 9, 10, 11, 12, 13, 14, 15, 16, 17, 18, 19, 20, 21, 22, 23, 24, 25, 26, 27] g0 gz := by
  intro h
  unfold relzM_order_bad at h
  have s0 : xk_eqv [1, 2, 3, 4, 5, 6, 7, 8, 9, 10, 11, 12, 13, 14, 15, 16, 17, 18, 19, 20, 21, 22, 23, 24, 25, 26, 27] g0 g0 := xk_eqv_rf
  obtain ⟨r2, g1, u1, v2⟩ := h
  have s3 : xk_eqv [1, 2, 3, 4, 5, 6, 7, 8, 9, 10, 11, 12, 13, 14, 15, 16, 17, 18, 19, 20, 21, 22, 23, 24, 25, 26, 27] g0 g1 := xk_eqv_tr s0 (xk_eqv_sub (frzM_goes_0 _ _ _ u1) (by decide))
  rw [v2.2]; exact s3
theorem iczM_order_bad (B : Nat) (g0 : xk_St) (rz : Int32) (gz : xk_St) : relzM_order_bad g0 rz gz → xk_cnt B g0 → xk_cnt (B + 0) gz := by
  intro h Ig0
  unfold relzM_order_bad at h
  have Ig0 : xk_cnt (B + 0) g0 := Ig0
  obtain ⟨r2, g1, u1, v2⟩ := h
  have Ig1 : xk_cnt (B + 0) g1 := xk_cnt_le (iczM_goes_0 (B + 0) _ _ _ u1 Ig0) (by omega)
  rw [v2.2]; exact xk_cnt_le Ig1 (by omega)
theorem rczM_order_bad (g0 : xk_St) (rz : Int32) (gz : xk_St) : relzM_order_bad g0 rz gz → rz = 0 := by
  intro h
  unfold relzM_order_bad at h
  obtain ⟨_, _, _, v1⟩ := h
  exact v1.1

def relzM_order_0 (g0 : xk_St) (rz : Int32) (gz : xk_St) : Prop := ∃ (r2 : Int32) (g1 : xk_St), relzM_goes_111 g0 r2 g1 ∧ (∃ (x1 : Int32), (if ((g1 13) 0) = 0 then (if (qzM_anyDisturbed_0 g1) = 0 then (if (qzM_isFree_1 g1) = 0 then (x1 = 3) else (if ((g1 19) 0) = 0 then (if ((g1 19) 1) = 0 then (x1 = 0) else (x1 = 4)) else (x1 = 4))) else (x1 = 2)) else (x1 = 1)) ∧ (∃ (g4 : xk_St), (if x1 = 0 then (∃ (g2 : xk_St), g2 = va_up g1 13 (upd (g1 13) 0 1) ∧ (∃ (g3 : xk_St), relzM_note g2 8 0 g3 ∧ (g4 = g3))) else (g4 = g1)) ∧ (rz = x1 ∧ gz = g4)))
set_option maxHeartbeats 4000000 in
set_option maxRecDepth 100000 in
theorem kzM_order_0 (l : Launch) (G : va_G) (ac : Nat → ClassId) (ad : Nat → Nat) (g0 : xk_St) (B : Nat) (Ig0 : xk_cnt B g0) (hB : B + 2 < 2147483648) : xk_CI l yzM_order czM_order 3 .int xk_WS xk_r2 G xk_cls (xk_tys ac) [.ref (ad 0), .int 0] (xk_wM ad ac g0) (fun rz (gz : xk_St) => relzM_order_0 g0 rz gz) (fun gz => xk_wM ad ac gz) := by
  refine xk_ofI (by decide) (Nat.le_of_ble_eq_true rfl) ?_
  intro p e s m args below meth c A Q H locs ls C0 hret hP hD hS hl
  obtain ⟨hx, hb, hml, hts, hown, hK, hA⟩ := C0
  have hl : lv_has ls 3 [(0, .ref (ad 0)), (1, .int 0)] := hl
  have Ig0 : xk_cnt (B + 0) g0 := Ig0
  refine lv_aload_n (pc := 0) hx hb dzM_order_0 rfl (lv_at hl 0 rfl) ?_
  refine lv_iload_n (pc := 1) hx hb dzM_order_1 rfl (lv_at hl 1 rfl) ?_
  refine xk_callSI (As := [.int 0]) (rest := [.ref (ad 0)]) (H0 := s.heap) (pc := 2) hx hb hml hts hown hK hA hP hD hS (kzM_isTrack l G ac 0) sfzM_96 [] (by decide) rfl (fun _ => rfl) ⟨rfl, rfl⟩ ⟨Nat.le_of_ble_eq_true rfl, Nat.le_of_ble_eq_true rfl⟩ rfl hl.1 rfl (Nat.le_of_ble_eq_true rfl) ⟨Nat.zero_le _, Nat.zero_le _⟩ dzM_order_2 (fun r1 u9 H locs e9 hP hD hS => ?_)
  obtain rfl : r1 = qzM_isTrack 0 := e9
  refine xk_is (y := 1) (by decide) ?_
  have hP : va_P G xk_cls (xk_wM ad ac g0) H := hP
  have hD : va_D A (xk_wM ad ac g0) := hD
  refine lv_iconst (v := 1) (pc := 5) hx hb dzM_order_5 (by decide) ?_
  refine lv_iconst (v := 1) (pc := 6) hx hb dzM_order_6 (by decide) ?_
  refine xk_allVI (As := [.int 1, .int 1, .int 1]) (rest := []) (H0 := s.heap) (pc := 7) hx hb hml hts hown hK hA hP hD hS (kzM_goes_111 l G ac ad g0 (B + 0) Ig0 (by omega)) vfzM_114 (fun _ => rfl) 0 rfl rfl ⟨rfl, rfl⟩ ⟨Nat.le_of_ble_eq_true rfl, Nat.le_of_ble_eq_true rfl⟩ rfl hl.1 rfl (Nat.le_of_ble_eq_true rfl) ⟨Nat.zero_le _, Nat.zero_le _⟩ dzM_order_7 (fun r2 g1 H locs hg1 hP hD hS => ?_)
  have qr2 : r2 = 1 := rczM_goes_111 _ _ _ hg1
  refine xk_is (y := 1) qr2 ?_
  have hP : va_P G xk_cls (xk_wM ad ac g1) H := hP
  have hD : va_D A (xk_wM ad ac g1) := hD
  have Ig1 : xk_cnt (B + 0) g1 := xk_cnt_le (iczM_goes_111 (B + 0) _ _ _ hg1 Ig0) (by omega)
  refine lv_if_ne (pc := 10) (tgt := 15) hx hb dzM_order_10 (by decide) (fun _ => ?_) (fun hq9 => absurd hq9 (by decide))
  refine lv_aload_n (pc := 15) hx hb dzM_order_15 rfl (lv_at hl 0 rfl) ?_
  refine xk_get (pc := 16) hx hb hts hown hK hP ffzM_47 0 rfl rfl dzM_order_16 ?_
  refine lv_iload_n (pc := 19) hx hb dzM_order_19 rfl (lv_at hl 1 rfl) ?_
  refine xk_zald (q0 := 13) (t0 := 1) (j := 0) (pc := 20) hx hb hK hP rfl rfl (pk_in 0 2 (by decide)) (pk_cl 0) dzM_order_20 ?_
  have K1 : ∀ (x1 : Int32) (H : Heap) (locs : List Loc), (if ((g1 13) 0) = 0 then (if (qzM_anyDisturbed_0 g1) = 0 then (if (qzM_isFree_1 g1) = 0 then (x1 = 3) else (if ((g1 19) 0) = 0 then (if ((g1 19) 1) = 0 then (x1 = 0) else (x1 = 4)) else (x1 = 4))) else (x1 = 2)) else (x1 = 1)) → (va_P G xk_cls (xk_wM ad ac g1) H) → (va_D A (xk_wM ad ac g1)) → (va_S A s.heap H locs) → W p l e xk_r2 s m args below meth c H locs 0 0 Q (F0 m 79 ls [.int x1]) := by
    intro x1 H locs R1 hP hD hS
    refine lv_istore_n (lv' := [(2, .int x1), (0, .ref (ad 0)), (1, .int 0)]) (pc := 79) hx hb dzM_order_79 rfl hl (by decide) rfl (fun ls hl => ?_)
    refine lv_iload_n (pc := 80) hx hb dzM_order_80 rfl (lv_at hl 0 rfl) ?_
    have K2 : ∀ (g4 : xk_St) (H : Heap) (locs : List Loc), (if x1 = 0 then (∃ (g2 : xk_St), g2 = va_up g1 13 (upd (g1 13) 0 1) ∧ (∃ (g3 : xk_St), relzM_note g2 8 0 g3 ∧ (g4 = g3))) else (g4 = g1)) → (xk_cnt (B + 1) g4) → (va_P G xk_cls (xk_wM ad ac g4) H) → (va_D A (xk_wM ad ac g4)) → (va_S A s.heap H locs) → W p l e xk_r2 s m args below meth c H locs 0 0 Q (F0 m 98 ls []) := by
      intro g4 H locs R2 Ig4 hP hD hS
      refine lv_iload_n (pc := 98) hx hb dzM_order_98 rfl (lv_at hl 0 rfl) ?_
      exact hret _ g4 H locs 99 ls hP hS rfl (by unfold relzM_order_0; exact ⟨r2, g1, hg1, ⟨x1, R1, ⟨g4, R2, ⟨rfl, rfl⟩⟩⟩⟩) dzM_order_99
    refine lv_if_ne (pc := 81) (tgt := 98) hx hb dzM_order_81 (by decide) (fun h6 => ?_) (fun h6 => ?_)
    ·
      exact K2 g1 H locs (Eq.mpr (if_neg h6) rfl) (xk_cnt_le Ig1 (by omega)) hP hD hS
    ·
      refine lv_aload_n (pc := 84) hx hb dzM_order_84 rfl (lv_at hl 1 rfl) ?_
      refine xk_get (pc := 85) hx hb hts hown hK hP ffzM_47 0 rfl rfl dzM_order_85 ?_
      refine lv_iload_n (pc := 88) hx hb dzM_order_88 rfl (lv_at hl 2 rfl) ?_
      refine lv_iconst (v := 1) (pc := 89) hx hb dzM_order_89 (by decide) ?_
      refine xk_zast (q0 := 13) (t0 := 1) (j := 0) (pc := 90) hx hb hK hP hD hS rfl rfl (pk_in 0 2 (by decide)) (pk_cl 0) xk_b1 dzM_order_90 (fun H locs hP hD hS => ?_)
      obtain ⟨g2, eg2⟩ : ∃ z : xk_St, z = va_up g1 13 (upd (g1 13) 0 1) := ⟨_, rfl⟩
      have hP : va_P G xk_cls (xk_wM ad ac g2) H := by rw [eg2]; exact hP
      have hD : va_D A (xk_wM ad ac g2) := by rw [eg2]; exact hD
      have Ig2 : xk_cnt (B + 0) g2 := by rw [eg2]; repeat (first | exact Ig1 | refine xk_cnt_k (by decide) ?_ | refine xk_cnt_f (by decide) ?_ | refine xk_cnt_s ?_)
      refine lv_aload_n (pc := 91) hx hb dzM_order_91 rfl (lv_at hl 1 rfl) ?_
      refine lv_bipush (v := 8) (pc := 92) hx hb dzM_order_92 (by decide) ?_
      refine lv_iload_n (pc := 94) hx hb dzM_order_94 rfl (lv_at hl 2 rfl) ?_
      refine xk_allVV (As := [.int 8, .int 0]) (rest := []) (H0 := s.heap) (pc := 95) hx hb hml hts hown hK hA hP hD hS (kzM_note l G ac ad g2 8 0 (B + 0) Ig2 (by omega)) vfzM_106 (fun _ => rfl) 0 rfl rfl ⟨rfl, rfl⟩ ⟨Nat.le_of_ble_eq_true rfl, Nat.le_of_ble_eq_true rfl⟩ rfl hl.1 rfl (Nat.le_of_ble_eq_true rfl) ⟨Nat.zero_le _, Nat.zero_le _⟩ dzM_order_95 (fun g3 H locs hg3 hP hD hS => ?_)
      have hP : va_P G xk_cls (xk_wM ad ac g3) H := hP
      have hD : va_D A (xk_wM ad ac g3) := hD
      have Ig3 : xk_cnt (B + 1) g3 := xk_cnt_le (iczM_note (B + 0) _ _ _ _ hg3 Ig2) (by omega)
      exact K2 g3 H locs (Eq.mpr (if_pos h6) ⟨g2, eg2, ⟨g3, hg3, rfl⟩⟩) (xk_cnt_le Ig3 (by omega)) hP hD hS
  refine lv_if_eq (pc := 21) (tgt := 28) hx hb dzM_order_21 (by decide) (fun h1 => ?_) (fun h1 => ?_)
  ·
    refine lv_aload_n (pc := 28) hx hb dzM_order_28 rfl (lv_at hl 0 rfl) ?_
    refine lv_iload_n (pc := 29) hx hb dzM_order_29 rfl (lv_at hl 1 rfl) ?_
    refine xk_allVI (As := [.int 0]) (rest := []) (H0 := s.heap) (pc := 30) hx hb hml hts hown hK hA hP hD hS (kzM_anyDisturbed_0 l G ac ad g1) vfzM_126 (fun _ => rfl) 0 rfl rfl ⟨rfl, rfl⟩ ⟨Nat.le_of_ble_eq_true rfl, Nat.le_of_ble_eq_true rfl⟩ rfl hl.1 rfl (Nat.le_of_ble_eq_true rfl) ⟨Nat.zero_le _, Nat.zero_le _⟩ dzM_order_30 (fun r3 u9 H locs e9 hP hD hS => ?_)
    obtain rfl : r3 = qzM_anyDisturbed_0 g1 := e9
    have hP : va_P G xk_cls (xk_wM ad ac g1) H := hP
    have hD : va_D A (xk_wM ad ac g1) := hD
    refine lv_if_eq (pc := 33) (tgt := 40) hx hb dzM_order_33 (by decide) (fun h2 => ?_) (fun h2 => ?_)
    ·
      refine lv_aload_n (pc := 40) hx hb dzM_order_40 rfl (lv_at hl 0 rfl) ?_
      refine lv_iconst (v := 3) (pc := 41) hx hb dzM_order_41 (by decide) ?_
      refine lv_iload_n (pc := 42) hx hb dzM_order_42 rfl (lv_at hl 1 rfl) ?_
      refine lv_imul (pc := 43) hx hb dzM_order_43 ?_
      refine xk_is (y := 0) (by decide) ?_
      refine lv_iconst (v := 1) (pc := 44) hx hb dzM_order_44 (by decide) ?_
      refine lv_iadd (pc := 45) hx hb dzM_order_45 ?_
      refine xk_is (y := 1) (by decide) ?_
      refine xk_allVI (As := [.int 1]) (rest := []) (H0 := s.heap) (pc := 46) hx hb hml hts hown hK hA hP hD hS (kzM_isFree_1 l G ac ad g1) vfzM_129 (fun _ => rfl) 0 rfl rfl ⟨rfl, rfl⟩ ⟨Nat.le_of_ble_eq_true rfl, Nat.le_of_ble_eq_true rfl⟩ rfl hl.1 rfl (Nat.le_of_ble_eq_true rfl) ⟨Nat.zero_le _, Nat.zero_le _⟩ dzM_order_46 (fun r4 u9 H locs e9 hP hD hS => ?_)
      obtain rfl : r4 = qzM_isFree_1 g1 := e9
      have hP : va_P G xk_cls (xk_wM ad ac g1) H := hP
      have hD : va_D A (xk_wM ad ac g1) := hD
      refine lv_if_ne (pc := 49) (tgt := 56) hx hb dzM_order_49 (by decide) (fun h3 => ?_) (fun h3 => ?_)
      ·
        refine lv_aload_n (pc := 56) hx hb dzM_order_56 rfl (lv_at hl 0 rfl) ?_
        refine xk_get (pc := 57) hx hb hts hown hK hP ffzM_65 0 rfl rfl dzM_order_57 ?_
        refine lv_iconst (v := 0) (pc := 60) hx hb dzM_order_60 (by decide) ?_
        refine xk_zald (q0 := 19) (t0 := 1) (j := 0) (pc := 61) hx hb hK hP rfl rfl (pk_in 0 2 (by decide)) (pk_cl 0) dzM_order_61 ?_
        refine lv_if_ne (pc := 62) (tgt := 74) hx hb dzM_order_62 (by decide) (fun h4 => ?_) (fun h4 => ?_)
        ·
          refine lv_iconst (v := 4) (pc := 74) hx hb dzM_order_74 (by decide) ?_
          refine lv_goto (tgt := 79) (pc := 75) hx hb dzM_order_75 (by decide) ?_
          exact K1 4 H locs (Eq.mpr (if_pos h1) (Eq.mpr (if_pos h2) (Eq.mpr (if_neg h3) (Eq.mpr (if_neg h4) rfl)))) hP hD hS
        ·
          refine lv_aload_n (pc := 65) hx hb dzM_order_65 rfl (lv_at hl 0 rfl) ?_
          refine xk_get (pc := 66) hx hb hts hown hK hP ffzM_65 0 rfl rfl dzM_order_66 ?_
          refine lv_iconst (v := 1) (pc := 69) hx hb dzM_order_69 (by decide) ?_
          refine xk_zald (q0 := 19) (t0 := 1) (j := 1) (pc := 70) hx hb hK hP rfl rfl (pk_in 1 2 (by decide)) (pk_cl 1) dzM_order_70 ?_
          refine lv_if_eq (pc := 71) (tgt := 78) hx hb dzM_order_71 (by decide) (fun h5 => ?_) (fun h5 => ?_)
          ·
            refine lv_iconst (v := 0) (pc := 78) hx hb dzM_order_78 (by decide) ?_
            exact K1 0 H locs (Eq.mpr (if_pos h1) (Eq.mpr (if_pos h2) (Eq.mpr (if_neg h3) (Eq.mpr (if_pos h4) (Eq.mpr (if_pos h5) rfl))))) hP hD hS
          ·
            refine lv_iconst (v := 4) (pc := 74) hx hb dzM_order_74 (by decide) ?_
            refine lv_goto (tgt := 79) (pc := 75) hx hb dzM_order_75 (by decide) ?_
            exact K1 4 H locs (Eq.mpr (if_pos h1) (Eq.mpr (if_pos h2) (Eq.mpr (if_neg h3) (Eq.mpr (if_pos h4) (Eq.mpr (if_neg h5) rfl))))) hP hD hS
      ·
        refine lv_iconst (v := 3) (pc := 52) hx hb dzM_order_52 (by decide) ?_
        refine lv_goto (tgt := 79) (pc := 53) hx hb dzM_order_53 (by decide) ?_
        exact K1 3 H locs (Eq.mpr (if_pos h1) (Eq.mpr (if_pos h2) (Eq.mpr (if_pos h3) rfl))) hP hD hS
    ·
      refine lv_iconst (v := 2) (pc := 36) hx hb dzM_order_36 (by decide) ?_
      refine lv_goto (tgt := 79) (pc := 37) hx hb dzM_order_37 (by decide) ?_
      exact K1 2 H locs (Eq.mpr (if_pos h1) (Eq.mpr (if_neg h2) rfl)) hP hD hS
  ·
    refine lv_iconst (v := 1) (pc := 24) hx hb dzM_order_24 (by decide) ?_
    refine lv_goto (tgt := 79) (pc := 25) hx hb dzM_order_25 (by decide) ?_
    exact K1 1 H locs (Eq.mpr (if_neg h1) rfl) hP hD hS
theorem frzM_order_0 (g0 : xk_St) (rz : Int32) (gz : xk_St) : relzM_order_0 g0 rz gz → xk_eqv [1, 2, 3, 4, 5, 6, 7, 8, 9, 10, 11, 12, 14, 15, 16, 17, 18, 19, 20, 21, 22, 23, 24] g0 gz := by
  intro h
  unfold relzM_order_0 at h
  have s0 : xk_eqv [1, 2, 3, 4, 5, 6, 7, 8, 9, 10, 11, 12, 14, 15, 16, 17, 18, 19, 20, 21, 22, 23, 24] g0 g0 := xk_eqv_rf
  obtain ⟨r2, g1, u1, v2⟩ := h
  have s3 : xk_eqv [1, 2, 3, 4, 5, 6, 7, 8, 9, 10, 11, 12, 14, 15, 16, 17, 18, 19, 20, 21, 22, 23, 24] g0 g1 := xk_eqv_tr s0 (xk_eqv_sub (frzM_goes_111 _ _ _ u1) (by decide))
  obtain ⟨x1, u4, v5⟩ := v2
  obtain ⟨g4, u6, v7⟩ := v5
  have s8 : xk_eqv [1, 2, 3, 4, 5, 6, 7, 8, 9, 10, 11, 12, 14, 15, 16, 17, 18, 19, 20, 21, 22, 23, 24] g0 g4 := by
    by_cases hc : x1 = 0
    · rw [if_pos hc] at u6
      obtain ⟨g2, u9, v10⟩ := u6
      have s11 : xk_eqv [1, 2, 3, 4, 5, 6, 7, 8, 9, 10, 11, 12, 14, 15, 16, 17, 18, 19, 20, 21, 22, 23, 24] g0 g2 := by rw [u9]; repeat (first | exact s3 | refine xk_eqv_up (by decide) ?_)
      obtain ⟨g3, u12, v13⟩ := v10
      have s14 : xk_eqv [1, 2, 3, 4, 5, 6, 7, 8, 9, 10, 11, 12, 14, 15, 16, 17, 18, 19, 20, 21, 22, 23, 24] g0 g3 := xk_eqv_tr s11 (xk_eqv_sub (frzM_note _ _ _ _ u12) (by decide))
      rw [v13]; exact s14
    · rw [if_neg hc] at u6
      rw [u6]; exact s3
  rw [v7.2]; exact s8
theorem iczM_order_0 (B : Nat) (g0 : xk_St) (rz : Int32) (gz : xk_St) : relzM_order_0 g0 rz gz → xk_cnt B g0 → xk_cnt (B + 1) gz := by
  intro h Ig0
  unfold relzM_order_0 at h
  have Ig0 : xk_cnt (B + 0) g0 := Ig0
  obtain ⟨r2, g1, u1, v2⟩ := h
  have Ig1 : xk_cnt (B + 0) g1 := xk_cnt_le (iczM_goes_111 (B + 0) _ _ _ u1 Ig0) (by omega)
  obtain ⟨x1, u3, v4⟩ := v2
  obtain ⟨g4, u5, v6⟩ := v4
  have Ig4 : xk_cnt (B + 1) g4 := by
    by_cases hc : x1 = 0
    · rw [if_pos hc] at u5
      obtain ⟨g2, u7, v8⟩ := u5
      have Ig2 : xk_cnt (B + 0) g2 := by rw [u7]; repeat (first | exact Ig1 | refine xk_cnt_k (by decide) ?_ | refine xk_cnt_f (by decide) ?_ | refine xk_cnt_s ?_)
      obtain ⟨g3, u9, v10⟩ := v8
      have Ig3 : xk_cnt (B + 1) g3 := xk_cnt_le (iczM_note (B + 0) _ _ _ _ u9 Ig2) (by omega)
      rw [v10]; exact xk_cnt_le Ig3 (by omega)
    · rw [if_neg hc] at u5
      rw [u5]; exact xk_cnt_le Ig1 (by omega)
  rw [v6.2]; exact xk_cnt_le Ig4 (by omega)

def relzM_order_1 (g0 : xk_St) (rz : Int32) (gz : xk_St) : Prop := ∃ (r2 : Int32) (g1 : xk_St), relzM_goes_111 g0 r2 g1 ∧ (∃ (x1 : Int32), (if ((g1 13) 1) = 0 then (if (qzM_anyDisturbed_1 g1) = 0 then (if (qzM_isFree_4 g1) = 0 then (x1 = 3) else (if ((g1 19) 0) = 0 then (if ((g1 19) 1) = 0 then (x1 = 0) else (x1 = 4)) else (x1 = 4))) else (x1 = 2)) else (x1 = 1)) ∧ (∃ (g4 : xk_St), (if x1 = 0 then (∃ (g2 : xk_St), g2 = va_up g1 13 (upd (g1 13) 1 1) ∧ (∃ (g3 : xk_St), relzM_note g2 8 1 g3 ∧ (g4 = g3))) else (g4 = g1)) ∧ (rz = x1 ∧ gz = g4)))
set_option maxHeartbeats 4000000 in
set_option maxRecDepth 100000 in
theorem kzM_order_1 (l : Launch) (G : va_G) (ac : Nat → ClassId) (ad : Nat → Nat) (g0 : xk_St) (B : Nat) (Ig0 : xk_cnt B g0) (hB : B + 2 < 2147483648) : xk_CI l yzM_order czM_order 3 .int xk_WS xk_r2 G xk_cls (xk_tys ac) [.ref (ad 0), .int 1] (xk_wM ad ac g0) (fun rz (gz : xk_St) => relzM_order_1 g0 rz gz) (fun gz => xk_wM ad ac gz) := by
  refine xk_ofI (by decide) (Nat.le_of_ble_eq_true rfl) ?_
  intro p e s m args below meth c A Q H locs ls C0 hret hP hD hS hl
  obtain ⟨hx, hb, hml, hts, hown, hK, hA⟩ := C0
  have hl : lv_has ls 3 [(0, .ref (ad 0)), (1, .int 1)] := hl
  have Ig0 : xk_cnt (B + 0) g0 := Ig0
  refine lv_aload_n (pc := 0) hx hb dzM_order_0 rfl (lv_at hl 0 rfl) ?_
  refine lv_iload_n (pc := 1) hx hb dzM_order_1 rfl (lv_at hl 1 rfl) ?_
  refine xk_callSI (As := [.int 1]) (rest := [.ref (ad 0)]) (H0 := s.heap) (pc := 2) hx hb hml hts hown hK hA hP hD hS (kzM_isTrack l G ac 1) sfzM_96 [] (by decide) rfl (fun _ => rfl) ⟨rfl, rfl⟩ ⟨Nat.le_of_ble_eq_true rfl, Nat.le_of_ble_eq_true rfl⟩ rfl hl.1 rfl (Nat.le_of_ble_eq_true rfl) ⟨Nat.zero_le _, Nat.zero_le _⟩ dzM_order_2 (fun r1 u9 H locs e9 hP hD hS => ?_)
  obtain rfl : r1 = qzM_isTrack 1 := e9
  refine xk_is (y := 1) (by decide) ?_
  have hP : va_P G xk_cls (xk_wM ad ac g0) H := hP
  have hD : va_D A (xk_wM ad ac g0) := hD
  refine lv_iconst (v := 1) (pc := 5) hx hb dzM_order_5 (by decide) ?_
  refine lv_iconst (v := 1) (pc := 6) hx hb dzM_order_6 (by decide) ?_
  refine xk_allVI (As := [.int 1, .int 1, .int 1]) (rest := []) (H0 := s.heap) (pc := 7) hx hb hml hts hown hK hA hP hD hS (kzM_goes_111 l G ac ad g0 (B + 0) Ig0 (by omega)) vfzM_114 (fun _ => rfl) 0 rfl rfl ⟨rfl, rfl⟩ ⟨Nat.le_of_ble_eq_true rfl, Nat.le_of_ble_eq_true rfl⟩ rfl hl.1 rfl (Nat.le_of_ble_eq_true rfl) ⟨Nat.zero_le _, Nat.zero_le _⟩ dzM_order_7 (fun r2 g1 H locs hg1 hP hD hS => ?_)
  have qr2 : r2 = 1 := rczM_goes_111 _ _ _ hg1
  refine xk_is (y := 1) qr2 ?_
  have hP : va_P G xk_cls (xk_wM ad ac g1) H := hP
  have hD : va_D A (xk_wM ad ac g1) := hD
  have Ig1 : xk_cnt (B + 0) g1 := xk_cnt_le (iczM_goes_111 (B + 0) _ _ _ hg1 Ig0) (by omega)
  refine lv_if_ne (pc := 10) (tgt := 15) hx hb dzM_order_10 (by decide) (fun _ => ?_) (fun hq9 => absurd hq9 (by decide))
  refine lv_aload_n (pc := 15) hx hb dzM_order_15 rfl (lv_at hl 0 rfl) ?_
  refine xk_get (pc := 16) hx hb hts hown hK hP ffzM_47 0 rfl rfl dzM_order_16 ?_
  refine lv_iload_n (pc := 19) hx hb dzM_order_19 rfl (lv_at hl 1 rfl) ?_
  refine xk_zald (q0 := 13) (t0 := 1) (j := 1) (pc := 20) hx hb hK hP rfl rfl (pk_in 1 2 (by decide)) (pk_cl 1) dzM_order_20 ?_
  have K1 : ∀ (x1 : Int32) (H : Heap) (locs : List Loc), (if ((g1 13) 1) = 0 then (if (qzM_anyDisturbed_1 g1) = 0 then (if (qzM_isFree_4 g1) = 0 then (x1 = 3) else (if ((g1 19) 0) = 0 then (if ((g1 19) 1) = 0 then (x1 = 0) else (x1 = 4)) else (x1 = 4))) else (x1 = 2)) else (x1 = 1)) → (va_P G xk_cls (xk_wM ad ac g1) H) → (va_D A (xk_wM ad ac g1)) → (va_S A s.heap H locs) → W p l e xk_r2 s m args below meth c H locs 0 0 Q (F0 m 79 ls [.int x1]) := by
    intro x1 H locs R1 hP hD hS
    refine lv_istore_n (lv' := [(2, .int x1), (0, .ref (ad 0)), (1, .int 1)]) (pc := 79) hx hb dzM_order_79 rfl hl (by decide) rfl (fun ls hl => ?_)
    refine lv_iload_n (pc := 80) hx hb dzM_order_80 rfl (lv_at hl 0 rfl) ?_
    have K2 : ∀ (g4 : xk_St) (H : Heap) (locs : List Loc), (if x1 = 0 then (∃ (g2 : xk_St), g2 = va_up g1 13 (upd (g1 13) 1 1) ∧ (∃ (g3 : xk_St), relzM_note g2 8 1 g3 ∧ (g4 = g3))) else (g4 = g1)) → (xk_cnt (B + 1) g4) → (va_P G xk_cls (xk_wM ad ac g4) H) → (va_D A (xk_wM ad ac g4)) → (va_S A s.heap H locs) → W p l e xk_r2 s m args below meth c H locs 0 0 Q (F0 m 98 ls []) := by
      intro g4 H locs R2 Ig4 hP hD hS
      refine lv_iload_n (pc := 98) hx hb dzM_order_98 rfl (lv_at hl 0 rfl) ?_
      exact hret _ g4 H locs 99 ls hP hS rfl (by unfold relzM_order_1; exact ⟨r2, g1, hg1, ⟨x1, R1, ⟨g4, R2, ⟨rfl, rfl⟩⟩⟩⟩) dzM_order_99
    refine lv_if_ne (pc := 81) (tgt := 98) hx hb dzM_order_81 (by decide) (fun h6 => ?_) (fun h6 => ?_)
    ·
      exact K2 g1 H locs (Eq.mpr (if_neg h6) rfl) (xk_cnt_le Ig1 (by omega)) hP hD hS
    ·
      refine lv_aload_n (pc := 84) hx hb dzM_order_84 rfl (lv_at hl 1 rfl) ?_
      refine xk_get (pc := 85) hx hb hts hown hK hP ffzM_47 0 rfl rfl dzM_order_85 ?_
      refine lv_iload_n (pc := 88) hx hb dzM_order_88 rfl (lv_at hl 2 rfl) ?_
      refine lv_iconst (v := 1) (pc := 89) hx hb dzM_order_89 (by decide) ?_
      refine xk_zast (q0 := 13) (t0 := 1) (j := 1) (pc := 90) hx hb hK hP hD hS rfl rfl (pk_in 1 2 (by decide)) (pk_cl 1) xk_b1 dzM_order_90 (fun H locs hP hD hS => ?_)
      obtain ⟨g2, eg2⟩ : ∃ z : xk_St, z = va_up g1 13 (upd (g1 13) 1 1) := ⟨_, rfl⟩
      have hP : va_P G xk_cls (xk_wM ad ac g2) H := by rw [eg2]; exact hP
      have hD : va_D A (xk_wM ad ac g2) := by rw [eg2]; exact hD
      have Ig2 : xk_cnt (B + 0) g2 := by rw [eg2]; repeat (first | exact Ig1 | refine xk_cnt_k (by decide) ?_ | refine xk_cnt_f (by decide) ?_ | refine xk_cnt_s ?_)
      refine lv_aload_n (pc := 91) hx hb dzM_order_91 rfl (lv_at hl 1 rfl) ?_
      refine lv_bipush (v := 8) (pc := 92) hx hb dzM_order_92 (by decide) ?_
      refine lv_iload_n (pc := 94) hx hb dzM_order_94 rfl (lv_at hl 2 rfl) ?_
      refine xk_allVV (As := [.int 8, .int 1]) (rest := []) (H0 := s.heap) (pc := 95) hx hb hml hts hown hK hA hP hD hS (kzM_note l G ac ad g2 8 1 (B + 0) Ig2 (by omega)) vfzM_106 (fun _ => rfl) 0 rfl rfl ⟨rfl, rfl⟩ ⟨Nat.le_of_ble_eq_true rfl, Nat.le_of_ble_eq_true rfl⟩ rfl hl.1 rfl (Nat.le_of_ble_eq_true rfl) ⟨Nat.zero_le _, Nat.zero_le _⟩ dzM_order_95 (fun g3 H locs hg3 hP hD hS => ?_)
      have hP : va_P G xk_cls (xk_wM ad ac g3) H := hP
      have hD : va_D A (xk_wM ad ac g3) := hD
      have Ig3 : xk_cnt (B + 1) g3 := xk_cnt_le (iczM_note (B + 0) _ _ _ _ hg3 Ig2) (by omega)
      exact K2 g3 H locs (Eq.mpr (if_pos h6) ⟨g2, eg2, ⟨g3, hg3, rfl⟩⟩) (xk_cnt_le Ig3 (by omega)) hP hD hS
  refine lv_if_eq (pc := 21) (tgt := 28) hx hb dzM_order_21 (by decide) (fun h1 => ?_) (fun h1 => ?_)
  ·
    refine lv_aload_n (pc := 28) hx hb dzM_order_28 rfl (lv_at hl 0 rfl) ?_
    refine lv_iload_n (pc := 29) hx hb dzM_order_29 rfl (lv_at hl 1 rfl) ?_
    refine xk_allVI (As := [.int 1]) (rest := []) (H0 := s.heap) (pc := 30) hx hb hml hts hown hK hA hP hD hS (kzM_anyDisturbed_1 l G ac ad g1) vfzM_126 (fun _ => rfl) 0 rfl rfl ⟨rfl, rfl⟩ ⟨Nat.le_of_ble_eq_true rfl, Nat.le_of_ble_eq_true rfl⟩ rfl hl.1 rfl (Nat.le_of_ble_eq_true rfl) ⟨Nat.zero_le _, Nat.zero_le _⟩ dzM_order_30 (fun r3 u9 H locs e9 hP hD hS => ?_)
    obtain rfl : r3 = qzM_anyDisturbed_1 g1 := e9
    have hP : va_P G xk_cls (xk_wM ad ac g1) H := hP
    have hD : va_D A (xk_wM ad ac g1) := hD
    refine lv_if_eq (pc := 33) (tgt := 40) hx hb dzM_order_33 (by decide) (fun h2 => ?_) (fun h2 => ?_)
    ·
      refine lv_aload_n (pc := 40) hx hb dzM_order_40 rfl (lv_at hl 0 rfl) ?_
      refine lv_iconst (v := 3) (pc := 41) hx hb dzM_order_41 (by decide) ?_
      refine lv_iload_n (pc := 42) hx hb dzM_order_42 rfl (lv_at hl 1 rfl) ?_
      refine lv_imul (pc := 43) hx hb dzM_order_43 ?_
      refine xk_is (y := 3) (by decide) ?_
      refine lv_iconst (v := 1) (pc := 44) hx hb dzM_order_44 (by decide) ?_
      refine lv_iadd (pc := 45) hx hb dzM_order_45 ?_
      refine xk_is (y := 4) (by decide) ?_
      refine xk_allVI (As := [.int 4]) (rest := []) (H0 := s.heap) (pc := 46) hx hb hml hts hown hK hA hP hD hS (kzM_isFree_4 l G ac ad g1) vfzM_129 (fun _ => rfl) 0 rfl rfl ⟨rfl, rfl⟩ ⟨Nat.le_of_ble_eq_true rfl, Nat.le_of_ble_eq_true rfl⟩ rfl hl.1 rfl (Nat.le_of_ble_eq_true rfl) ⟨Nat.zero_le _, Nat.zero_le _⟩ dzM_order_46 (fun r4 u9 H locs e9 hP hD hS => ?_)
      obtain rfl : r4 = qzM_isFree_4 g1 := e9
      have hP : va_P G xk_cls (xk_wM ad ac g1) H := hP
      have hD : va_D A (xk_wM ad ac g1) := hD
      refine lv_if_ne (pc := 49) (tgt := 56) hx hb dzM_order_49 (by decide) (fun h3 => ?_) (fun h3 => ?_)
      ·
        refine lv_aload_n (pc := 56) hx hb dzM_order_56 rfl (lv_at hl 0 rfl) ?_
        refine xk_get (pc := 57) hx hb hts hown hK hP ffzM_65 0 rfl rfl dzM_order_57 ?_
        refine lv_iconst (v := 0) (pc := 60) hx hb dzM_order_60 (by decide) ?_
        refine xk_zald (q0 := 19) (t0 := 1) (j := 0) (pc := 61) hx hb hK hP rfl rfl (pk_in 0 2 (by decide)) (pk_cl 0) dzM_order_61 ?_
        refine lv_if_ne (pc := 62) (tgt := 74) hx hb dzM_order_62 (by decide) (fun h4 => ?_) (fun h4 => ?_)
        ·
          refine lv_iconst (v := 4) (pc := 74) hx hb dzM_order_74 (by decide) ?_
          refine lv_goto (tgt := 79) (pc := 75) hx hb dzM_order_75 (by decide) ?_
          exact K1 4 H locs (Eq.mpr (if_pos h1) (Eq.mpr (if_pos h2) (Eq.mpr (if_neg h3) (Eq.mpr (if_neg h4) rfl)))) hP hD hS
        ·
          refine lv_aload_n (pc := 65) hx hb dzM_order_65 rfl (lv_at hl 0 rfl) ?_
          refine xk_get (pc := 66) hx hb hts hown hK hP ffzM_65 0 rfl rfl dzM_order_66 ?_
          refine lv_iconst (v := 1) (pc := 69) hx hb dzM_order_69 (by decide) ?_
          refine xk_zald (q0 := 19) (t0 := 1) (j := 1) (pc := 70) hx hb hK hP rfl rfl (pk_in 1 2 (by decide)) (pk_cl 1) dzM_order_70 ?_
          refine lv_if_eq (pc := 71) (tgt := 78) hx hb dzM_order_71 (by decide) (fun h5 => ?_) (fun h5 => ?_)
          ·
            refine lv_iconst (v := 0) (pc := 78) hx hb dzM_order_78 (by decide) ?_
            exact K1 0 H locs (Eq.mpr (if_pos h1) (Eq.mpr (if_pos h2) (Eq.mpr (if_neg h3) (Eq.mpr (if_pos h4) (Eq.mpr (if_pos h5) rfl))))) hP hD hS
          ·
            refine lv_iconst (v := 4) (pc := 74) hx hb dzM_order_74 (by decide) ?_
            refine lv_goto (tgt := 79) (pc := 75) hx hb dzM_order_75 (by decide) ?_
            exact K1 4 H locs (Eq.mpr (if_pos h1) (Eq.mpr (if_pos h2) (Eq.mpr (if_neg h3) (Eq.mpr (if_pos h4) (Eq.mpr (if_neg h5) rfl))))) hP hD hS
      ·
        refine lv_iconst (v := 3) (pc := 52) hx hb dzM_order_52 (by decide) ?_
        refine lv_goto (tgt := 79) (pc := 53) hx hb dzM_order_53 (by decide) ?_
        exact K1 3 H locs (Eq.mpr (if_pos h1) (Eq.mpr (if_pos h2) (Eq.mpr (if_pos h3) rfl))) hP hD hS
    ·
      refine lv_iconst (v := 2) (pc := 36) hx hb dzM_order_36 (by decide) ?_
      refine lv_goto (tgt := 79) (pc := 37) hx hb dzM_order_37 (by decide) ?_
      exact K1 2 H locs (Eq.mpr (if_pos h1) (Eq.mpr (if_neg h2) rfl)) hP hD hS
  ·
    refine lv_iconst (v := 1) (pc := 24) hx hb dzM_order_24 (by decide) ?_
    refine lv_goto (tgt := 79) (pc := 25) hx hb dzM_order_25 (by decide) ?_
    exact K1 1 H locs (Eq.mpr (if_neg h1) rfl) hP hD hS
theorem frzM_order_1 (g0 : xk_St) (rz : Int32) (gz : xk_St) : relzM_order_1 g0 rz gz → xk_eqv [1, 2, 3, 4, 5, 6, 7, 8, 9, 10, 11, 12, 14, 15, 16, 17, 18, 19, 20, 21, 22, 23, 24] g0 gz := by
  intro h
  unfold relzM_order_1 at h
  have s0 : xk_eqv [1, 2, 3, 4, 5, 6, 7, 8, 9, 10, 11, 12, 14, 15, 16, 17, 18, 19, 20, 21, 22, 23, 24] g0 g0 := xk_eqv_rf
  obtain ⟨r2, g1, u1, v2⟩ := h
  have s3 : xk_eqv [1, 2, 3, 4, 5, 6, 7, 8, 9, 10, 11, 12, 14, 15, 16, 17, 18, 19, 20, 21, 22, 23, 24] g0 g1 := xk_eqv_tr s0 (xk_eqv_sub (frzM_goes_111 _ _ _ u1) (by decide))
  obtain ⟨x1, u4, v5⟩ := v2
  obtain ⟨g4, u6, v7⟩ := v5
  have s8 : xk_eqv [1, 2, 3, 4, 5, 6, 7, 8, 9, 10, 11, 12, 14, 15, 16, 17, 18, 19, 20, 21, 22, 23, 24] g0 g4 := by
    by_cases hc : x1 = 0
    · rw [if_pos hc] at u6
      obtain ⟨g2, u9, v10⟩ := u6
      have s11 : xk_eqv [1, 2, 3, 4, 5, 6, 7, 8, 9, 10, 11, 12, 14, 15, 16, 17, 18, 19, 20, 21, 22, 23, 24] g0 g2 := by rw [u9]; repeat (first | exact s3 | refine xk_eqv_up (by decide) ?_)
      obtain ⟨g3, u12, v13⟩ := v10
      have s14 : xk_eqv [1, 2, 3, 4, 5, 6, 7, 8, 9, 10, 11, 12, 14, 15, 16, 17, 18, 19, 20, 21, 22, 23, 24] g0 g3 := xk_eqv_tr s11 (xk_eqv_sub (frzM_note _ _ _ _ u12) (by decide))
      rw [v13]; exact s14
    · rw [if_neg hc] at u6
      rw [u6]; exact s3
  rw [v7.2]; exact s8
theorem iczM_order_1 (B : Nat) (g0 : xk_St) (rz : Int32) (gz : xk_St) : relzM_order_1 g0 rz gz → xk_cnt B g0 → xk_cnt (B + 1) gz := by
  intro h Ig0
  unfold relzM_order_1 at h
  have Ig0 : xk_cnt (B + 0) g0 := Ig0
  obtain ⟨r2, g1, u1, v2⟩ := h
  have Ig1 : xk_cnt (B + 0) g1 := xk_cnt_le (iczM_goes_111 (B + 0) _ _ _ u1 Ig0) (by omega)
  obtain ⟨x1, u3, v4⟩ := v2
  obtain ⟨g4, u5, v6⟩ := v4
  have Ig4 : xk_cnt (B + 1) g4 := by
    by_cases hc : x1 = 0
    · rw [if_pos hc] at u5
      obtain ⟨g2, u7, v8⟩ := u5
      have Ig2 : xk_cnt (B + 0) g2 := by rw [u7]; repeat (first | exact Ig1 | refine xk_cnt_k (by decide) ?_ | refine xk_cnt_f (by decide) ?_ | refine xk_cnt_s ?_)
      obtain ⟨g3, u9, v10⟩ := v8
      have Ig3 : xk_cnt (B + 1) g3 := xk_cnt_le (iczM_note (B + 0) _ _ _ _ u9 Ig2) (by omega)
      rw [v10]; exact xk_cnt_le Ig3 (by omega)
    · rw [if_neg hc] at u5
      rw [u5]; exact xk_cnt_le Ig1 (by omega)
  rw [v6.2]; exact xk_cnt_le Ig4 (by omega)

def relzM_cancel_bad (g0 : xk_St) (rz : Int32) (gz : xk_St) : Prop := ∃ (r2 : Int32) (g1 : xk_St), relzM_goes_0 g0 r2 g1 ∧ (rz = 0 ∧ xk_b rz ∧ gz = g1)
set_option maxHeartbeats 4000000 in
set_option maxRecDepth 100000 in
theorem kzM_cancel_bad (l : Launch) (G : va_G) (ac : Nat → ClassId) (ad : Nat → Nat) (g0 : xk_St) (k0 : Int32) (B : Nat) (hq : qzM_isTrack k0 = 0) (Ig0 : xk_cnt B g0) (hB : B + 1 < 2147483648) : xk_CI l yzM_cancel czM_cancel 3 .boolean xk_WS xk_r2 G xk_cls (xk_tys ac) [.ref (ad 0), .int k0] (xk_wM ad ac g0) (fun rz (gz : xk_St) => relzM_cancel_bad g0 rz gz) (fun gz => xk_wM ad ac gz) := by
  refine xk_ofI (by decide) (Nat.le_of_ble_eq_true rfl) ?_
  intro p e s m args below meth c A Q H locs ls C0 hret hP hD hS hl
  obtain ⟨hx, hb, hml, hts, hown, hK, hA⟩ := C0
  have hl : lv_has ls 3 [(0, .ref (ad 0)), (1, .int k0)] := hl
  have Ig0 : xk_cnt (B + 0) g0 := Ig0
  refine lv_aload_n (pc := 0) hx hb dzM_cancel_0 rfl (lv_at hl 0 rfl) ?_
  refine lv_iload_n (pc := 1) hx hb dzM_cancel_1 rfl (lv_at hl 1 rfl) ?_
  refine xk_callSI (As := [.int k0]) (rest := [.ref (ad 0)]) (H0 := s.heap) (pc := 2) hx hb hml hts hown hK hA hP hD hS (kzM_isTrack l G ac k0) sfzM_96 [] (by decide) rfl (fun _ => rfl) ⟨rfl, rfl⟩ ⟨Nat.le_of_ble_eq_true rfl, Nat.le_of_ble_eq_true rfl⟩ rfl hl.1 rfl (Nat.le_of_ble_eq_true rfl) ⟨Nat.zero_le _, Nat.zero_le _⟩ dzM_cancel_2 (fun r1 u9 H locs e9 hP hD hS => ?_)
  obtain rfl : r1 = qzM_isTrack k0 := e9
  refine xk_is (y := 0) hq ?_
  have hP : va_P G xk_cls (xk_wM ad ac g0) H := hP
  have hD : va_D A (xk_wM ad ac g0) := hD
  refine lv_iconst (v := 1) (pc := 5) hx hb dzM_cancel_5 (by decide) ?_
  refine lv_iconst (v := 1) (pc := 6) hx hb dzM_cancel_6 (by decide) ?_
  refine xk_allVI (As := [.int 0, .int 1, .int 1]) (rest := []) (H0 := s.heap) (pc := 7) hx hb hml hts hown hK hA hP hD hS (kzM_goes_0 l G ac ad g0 1 1 (B + 0) Ig0 (by omega)) vfzM_114 (fun _ => rfl) 0 rfl rfl ⟨rfl, rfl⟩ ⟨Nat.le_of_ble_eq_true rfl, Nat.le_of_ble_eq_true rfl⟩ rfl hl.1 rfl (Nat.le_of_ble_eq_true rfl) ⟨Nat.zero_le _, Nat.zero_le _⟩ dzM_cancel_7 (fun r2 g1 H locs hg1 hP hD hS => ?_)
  have qr2 : r2 = 0 := rczM_goes_0 _ _ _ hg1
  refine xk_is (y := 0) qr2 ?_
  have hP : va_P G xk_cls (xk_wM ad ac g1) H := hP
  have hD : va_D A (xk_wM ad ac g1) := hD
  have Ig1 : xk_cnt (B + 0) g1 := xk_cnt_le (iczM_goes_0 (B + 0) _ _ _ hg1 Ig0) (by omega)
  refine lv_if_ne (pc := 10) (tgt := 15) hx hb dzM_cancel_10 (by decide) (fun hq9 => absurd (by decide) hq9) (fun _ => ?_)
  refine lv_iconst (v := 0) (pc := 13) hx hb dzM_cancel_13 (by decide) ?_
  exact hret _ g1 H locs 14 ls hP hS (xk_bn xk_b0) (by unfold relzM_cancel_bad; exact ⟨r2, g1, hg1, ⟨rfl, xk_b0, rfl⟩⟩) dzM_cancel_14
theorem frzM_cancel_bad (g0 : xk_St) (rz : Int32) (gz : xk_St) : relzM_cancel_bad g0 rz gz → xk_eqv [1, 2, 3, 4, 5, 6, 7, 8, 9, 10, 11, 12, 13, 14, 15, 16, 17, 18, 19, 20, 21, 22, 23, 24, 25, 26, 27] g0 gz := by
  intro h
  unfold relzM_cancel_bad at h
  have s0 : xk_eqv [1, 2, 3, 4, 5, 6, 7, 8, 9, 10, 11, 12, 13, 14, 15, 16, 17, 18, 19, 20, 21, 22, 23, 24, 25, 26, 27] g0 g0 := xk_eqv_rf
  obtain ⟨r2, g1, u1, v2⟩ := h
  have s3 : xk_eqv [1, 2, 3, 4, 5, 6, 7, 8, 9, 10, 11, 12, 13, 14, 15, 16, 17, 18, 19, 20, 21, 22, 23, 24, 25, 26, 27] g0 g1 := xk_eqv_tr s0 (xk_eqv_sub (frzM_goes_0 _ _ _ u1) (by decide))
  rw [v2.2.2]; exact s3
theorem iczM_cancel_bad (B : Nat) (g0 : xk_St) (rz : Int32) (gz : xk_St) : relzM_cancel_bad g0 rz gz → xk_cnt B g0 → xk_cnt (B + 0) gz := by
  intro h Ig0
  unfold relzM_cancel_bad at h
  have Ig0 : xk_cnt (B + 0) g0 := Ig0
  obtain ⟨r2, g1, u1, v2⟩ := h
  have Ig1 : xk_cnt (B + 0) g1 := xk_cnt_le (iczM_goes_0 (B + 0) _ _ _ u1 Ig0) (by omega)
  rw [v2.2.2]; exact xk_cnt_le Ig1 (by omega)
theorem rczM_cancel_bad (g0 : xk_St) (rz : Int32) (gz : xk_St) : relzM_cancel_bad g0 rz gz → rz = 0 := by
  intro h
  unfold relzM_cancel_bad at h
  obtain ⟨_, _, _, v1⟩ := h
  exact v1.1

def relzM_cancel_0 (g0 : xk_St) (rz : Int32) (gz : xk_St) : Prop := ∃ (r2 : Int32) (g1 : xk_St), relzM_goes_111 g0 r2 g1 ∧ (∃ (g2 : xk_St), g2 = va_up g1 13 (upd (g1 13) 0 0) ∧ (rz = (g1 13) 0 ∧ xk_b rz ∧ gz = g2))
set_option maxHeartbeats 4000000 in
set_option maxRecDepth 100000 in
theorem kzM_cancel_0 (l : Launch) (G : va_G) (ac : Nat → ClassId) (ad : Nat → Nat) (g0 : xk_St) (B : Nat) (hbo : xk_b (g0 13 0)) (Ig0 : xk_cnt B g0) (hB : B + 1 < 2147483648) : xk_CI l yzM_cancel czM_cancel 3 .boolean xk_WS xk_r2 G xk_cls (xk_tys ac) [.ref (ad 0), .int 0] (xk_wM ad ac g0) (fun rz (gz : xk_St) => relzM_cancel_0 g0 rz gz) (fun gz => xk_wM ad ac gz) := by
  refine xk_ofI (by decide) (Nat.le_of_ble_eq_true rfl) ?_
  intro p e s m args below meth c A Q H locs ls C0 hret hP hD hS hl
  obtain ⟨hx, hb, hml, hts, hown, hK, hA⟩ := C0
  have hl : lv_has ls 3 [(0, .ref (ad 0)), (1, .int 0)] := hl
  have Ig0 : xk_cnt (B + 0) g0 := Ig0
  refine lv_aload_n (pc := 0) hx hb dzM_cancel_0 rfl (lv_at hl 0 rfl) ?_
  refine lv_iload_n (pc := 1) hx hb dzM_cancel_1 rfl (lv_at hl 1 rfl) ?_
  refine xk_callSI (As := [.int 0]) (rest := [.ref (ad 0)]) (H0 := s.heap) (pc := 2) hx hb hml hts hown hK hA hP hD hS (kzM_isTrack l G ac 0) sfzM_96 [] (by decide) rfl (fun _ => rfl) ⟨rfl, rfl⟩ ⟨Nat.le_of_ble_eq_true rfl, Nat.le_of_ble_eq_true rfl⟩ rfl hl.1 rfl (Nat.le_of_ble_eq_true rfl) ⟨Nat.zero_le _, Nat.zero_le _⟩ dzM_cancel_2 (fun r1 u9 H locs e9 hP hD hS => ?_)
  obtain rfl : r1 = qzM_isTrack 0 := e9
  refine xk_is (y := 1) (by decide) ?_
  have hP : va_P G xk_cls (xk_wM ad ac g0) H := hP
  have hD : va_D A (xk_wM ad ac g0) := hD
  refine lv_iconst (v := 1) (pc := 5) hx hb dzM_cancel_5 (by decide) ?_
  refine lv_iconst (v := 1) (pc := 6) hx hb dzM_cancel_6 (by decide) ?_
  refine xk_allVI (As := [.int 1, .int 1, .int 1]) (rest := []) (H0 := s.heap) (pc := 7) hx hb hml hts hown hK hA hP hD hS (kzM_goes_111 l G ac ad g0 (B + 0) Ig0 (by omega)) vfzM_114 (fun _ => rfl) 0 rfl rfl ⟨rfl, rfl⟩ ⟨Nat.le_of_ble_eq_true rfl, Nat.le_of_ble_eq_true rfl⟩ rfl hl.1 rfl (Nat.le_of_ble_eq_true rfl) ⟨Nat.zero_le _, Nat.zero_le _⟩ dzM_cancel_7 (fun r2 g1 H locs hg1 hP hD hS => ?_)
  have qr2 : r2 = 1 := rczM_goes_111 _ _ _ hg1
  refine xk_is (y := 1) qr2 ?_
  have hP : va_P G xk_cls (xk_wM ad ac g1) H := hP
  have hD : va_D A (xk_wM ad ac g1) := hD
  have Ig1 : xk_cnt (B + 0) g1 := xk_cnt_le (iczM_goes_111 (B + 0) _ _ _ hg1 Ig0) (by omega)
  refine lv_if_ne (pc := 10) (tgt := 15) hx hb dzM_cancel_10 (by decide) (fun _ => ?_) (fun hq9 => absurd hq9 (by decide))
  refine lv_aload_n (pc := 15) hx hb dzM_cancel_15 rfl (lv_at hl 0 rfl) ?_
  refine xk_get (pc := 16) hx hb hts hown hK hP ffzM_47 0 rfl rfl dzM_cancel_16 ?_
  refine lv_iload_n (pc := 19) hx hb dzM_cancel_19 rfl (lv_at hl 1 rfl) ?_
  refine xk_zald (q0 := 13) (t0 := 1) (j := 0) (pc := 20) hx hb hK hP rfl rfl (pk_in 0 2 (by decide)) (pk_cl 0) dzM_cancel_20 ?_
  refine lv_istore_n (lv' := [(2, .int ((g1 13) 0)), (0, .ref (ad 0)), (1, .int 0)]) (pc := 21) hx hb dzM_cancel_21 rfl hl (by decide) rfl (fun ls hl => ?_)
  refine lv_aload_n (pc := 22) hx hb dzM_cancel_22 rfl (lv_at hl 1 rfl) ?_
  refine xk_get (pc := 23) hx hb hts hown hK hP ffzM_47 0 rfl rfl dzM_cancel_23 ?_
  refine lv_iload_n (pc := 26) hx hb dzM_cancel_26 rfl (lv_at hl 2 rfl) ?_
  refine lv_iconst (v := 0) (pc := 27) hx hb dzM_cancel_27 (by decide) ?_
  refine xk_zast (q0 := 13) (t0 := 1) (j := 0) (pc := 28) hx hb hK hP hD hS rfl rfl (pk_in 0 2 (by decide)) (pk_cl 0) xk_b0 dzM_cancel_28 (fun H locs hP hD hS => ?_)
  obtain ⟨g2, eg2⟩ : ∃ z : xk_St, z = va_up g1 13 (upd (g1 13) 0 0) := ⟨_, rfl⟩
  have hP : va_P G xk_cls (xk_wM ad ac g2) H := by rw [eg2]; exact hP
  have hD : va_D A (xk_wM ad ac g2) := by rw [eg2]; exact hD
  have Ig2 : xk_cnt (B + 0) g2 := by rw [eg2]; repeat (first | exact Ig1 | refine xk_cnt_k (by decide) ?_ | refine xk_cnt_f (by decide) ?_ | refine xk_cnt_s ?_)
  refine lv_iload_n (pc := 29) hx hb dzM_cancel_29 rfl (lv_at hl 0 rfl) ?_
  exact hret _ g2 H locs 30 ls hP hS (xk_bn (by rw [frzM_goes_111 _ _ _ hg1 13 (by decide)]; exact hbo)) (by unfold relzM_cancel_0; exact ⟨r2, g1, hg1, ⟨g2, eg2, ⟨rfl, (by rw [frzM_goes_111 _ _ _ hg1 13 (by decide)]; exact hbo), rfl⟩⟩⟩) dzM_cancel_30
theorem frzM_cancel_0 (g0 : xk_St) (rz : Int32) (gz : xk_St) : relzM_cancel_0 g0 rz gz → xk_eqv [1, 2, 3, 4, 5, 6, 7, 8, 9, 10, 11, 12, 14, 15, 16, 17, 18, 19, 20, 21, 22, 23, 24, 25, 26, 27] g0 gz := by
  intro h
  unfold relzM_cancel_0 at h
  have s0 : xk_eqv [1, 2, 3, 4, 5, 6, 7, 8, 9, 10, 11, 12, 14, 15, 16, 17, 18, 19, 20, 21, 22, 23, 24, 25, 26, 27] g0 g0 := xk_eqv_rf
  obtain ⟨r2, g1, u1, v2⟩ := h
  have s3 : xk_eqv [1, 2, 3, 4, 5, 6, 7, 8, 9, 10, 11, 12, 14, 15, 16, 17, 18, 19, 20, 21, 22, 23, 24, 25, 26, 27] g0 g1 := xk_eqv_tr s0 (xk_eqv_sub (frzM_goes_111 _ _ _ u1) (by decide))
  obtain ⟨g2, u4, v5⟩ := v2
  have s6 : xk_eqv [1, 2, 3, 4, 5, 6, 7, 8, 9, 10, 11, 12, 14, 15, 16, 17, 18, 19, 20, 21, 22, 23, 24, 25, 26, 27] g0 g2 := by rw [u4]; repeat (first | exact s3 | refine xk_eqv_up (by decide) ?_)
  rw [v5.2.2]; exact s6
theorem iczM_cancel_0 (B : Nat) (g0 : xk_St) (rz : Int32) (gz : xk_St) : relzM_cancel_0 g0 rz gz → xk_cnt B g0 → xk_cnt (B + 0) gz := by
  intro h Ig0
  unfold relzM_cancel_0 at h
  have Ig0 : xk_cnt (B + 0) g0 := Ig0
  obtain ⟨r2, g1, u1, v2⟩ := h
  have Ig1 : xk_cnt (B + 0) g1 := xk_cnt_le (iczM_goes_111 (B + 0) _ _ _ u1 Ig0) (by omega)
  obtain ⟨g2, u3, v4⟩ := v2
  have Ig2 : xk_cnt (B + 0) g2 := by rw [u3]; repeat (first | exact Ig1 | refine xk_cnt_k (by decide) ?_ | refine xk_cnt_f (by decide) ?_ | refine xk_cnt_s ?_)
  rw [v4.2.2]; exact xk_cnt_le Ig2 (by omega)

def relzM_cancel_1 (g0 : xk_St) (rz : Int32) (gz : xk_St) : Prop := ∃ (r2 : Int32) (g1 : xk_St), relzM_goes_111 g0 r2 g1 ∧ (∃ (g2 : xk_St), g2 = va_up g1 13 (upd (g1 13) 1 0) ∧ (rz = (g1 13) 1 ∧ xk_b rz ∧ gz = g2))
set_option maxHeartbeats 4000000 in
set_option maxRecDepth 100000 in
theorem kzM_cancel_1 (l : Launch) (G : va_G) (ac : Nat → ClassId) (ad : Nat → Nat) (g0 : xk_St) (B : Nat) (hbo : xk_b (g0 13 1)) (Ig0 : xk_cnt B g0) (hB : B + 1 < 2147483648) : xk_CI l yzM_cancel czM_cancel 3 .boolean xk_WS xk_r2 G xk_cls (xk_tys ac) [.ref (ad 0), .int 1] (xk_wM ad ac g0) (fun rz (gz : xk_St) => relzM_cancel_1 g0 rz gz) (fun gz => xk_wM ad ac gz) := by
  refine xk_ofI (by decide) (Nat.le_of_ble_eq_true rfl) ?_
  intro p e s m args below meth c A Q H locs ls C0 hret hP hD hS hl
  obtain ⟨hx, hb, hml, hts, hown, hK, hA⟩ := C0
  have hl : lv_has ls 3 [(0, .ref (ad 0)), (1, .int 1)] := hl
  have Ig0 : xk_cnt (B + 0) g0 := Ig0
  refine lv_aload_n (pc := 0) hx hb dzM_cancel_0 rfl (lv_at hl 0 rfl) ?_
  refine lv_iload_n (pc := 1) hx hb dzM_cancel_1 rfl (lv_at hl 1 rfl) ?_
  refine xk_callSI (As := [.int 1]) (rest := [.ref (ad 0)]) (H0 := s.heap) (pc := 2) hx hb hml hts hown hK hA hP hD hS (kzM_isTrack l G ac 1) sfzM_96 [] (by decide) rfl (fun _ => rfl) ⟨rfl, rfl⟩ ⟨Nat.le_of_ble_eq_true rfl, Nat.le_of_ble_eq_true rfl⟩ rfl hl.1 rfl (Nat.le_of_ble_eq_true rfl) ⟨Nat.zero_le _, Nat.zero_le _⟩ dzM_cancel_2 (fun r1 u9 H locs e9 hP hD hS => ?_)
  obtain rfl : r1 = qzM_isTrack 1 := e9
  refine xk_is (y := 1) (by decide) ?_
  have hP : va_P G xk_cls (xk_wM ad ac g0) H := hP
  have hD : va_D A (xk_wM ad ac g0) := hD
  refine lv_iconst (v := 1) (pc := 5) hx hb dzM_cancel_5 (by decide) ?_
  refine lv_iconst (v := 1) (pc := 6) hx hb dzM_cancel_6 (by decide) ?_
  refine xk_allVI (As := [.int 1, .int 1, .int 1]) (rest := []) (H0 := s.heap) (pc := 7) hx hb hml hts hown hK hA hP hD hS (kzM_goes_111 l G ac ad g0 (B + 0) Ig0 (by omega)) vfzM_114 (fun _ => rfl) 0 rfl rfl ⟨rfl, rfl⟩ ⟨Nat.le_of_ble_eq_true rfl, Nat.le_of_ble_eq_true rfl⟩ rfl hl.1 rfl (Nat.le_of_ble_eq_true rfl) ⟨Nat.zero_le _, Nat.zero_le _⟩ dzM_cancel_7 (fun r2 g1 H locs hg1 hP hD hS => ?_)
  have qr2 : r2 = 1 := rczM_goes_111 _ _ _ hg1
  refine xk_is (y := 1) qr2 ?_
  have hP : va_P G xk_cls (xk_wM ad ac g1) H := hP
  have hD : va_D A (xk_wM ad ac g1) := hD
  have Ig1 : xk_cnt (B + 0) g1 := xk_cnt_le (iczM_goes_111 (B + 0) _ _ _ hg1 Ig0) (by omega)
  refine lv_if_ne (pc := 10) (tgt := 15) hx hb dzM_cancel_10 (by decide) (fun _ => ?_) (fun hq9 => absurd hq9 (by decide))
  refine lv_aload_n (pc := 15) hx hb dzM_cancel_15 rfl (lv_at hl 0 rfl) ?_
  refine xk_get (pc := 16) hx hb hts hown hK hP ffzM_47 0 rfl rfl dzM_cancel_16 ?_
  refine lv_iload_n (pc := 19) hx hb dzM_cancel_19 rfl (lv_at hl 1 rfl) ?_
  refine xk_zald (q0 := 13) (t0 := 1) (j := 1) (pc := 20) hx hb hK hP rfl rfl (pk_in 1 2 (by decide)) (pk_cl 1) dzM_cancel_20 ?_
  refine lv_istore_n (lv' := [(2, .int ((g1 13) 1)), (0, .ref (ad 0)), (1, .int 1)]) (pc := 21) hx hb dzM_cancel_21 rfl hl (by decide) rfl (fun ls hl => ?_)
  refine lv_aload_n (pc := 22) hx hb dzM_cancel_22 rfl (lv_at hl 1 rfl) ?_
  refine xk_get (pc := 23) hx hb hts hown hK hP ffzM_47 0 rfl rfl dzM_cancel_23 ?_
  refine lv_iload_n (pc := 26) hx hb dzM_cancel_26 rfl (lv_at hl 2 rfl) ?_
  refine lv_iconst (v := 0) (pc := 27) hx hb dzM_cancel_27 (by decide) ?_
  refine xk_zast (q0 := 13) (t0 := 1) (j := 1) (pc := 28) hx hb hK hP hD hS rfl rfl (pk_in 1 2 (by decide)) (pk_cl 1) xk_b0 dzM_cancel_28 (fun H locs hP hD hS => ?_)
  obtain ⟨g2, eg2⟩ : ∃ z : xk_St, z = va_up g1 13 (upd (g1 13) 1 0) := ⟨_, rfl⟩
  have hP : va_P G xk_cls (xk_wM ad ac g2) H := by rw [eg2]; exact hP
  have hD : va_D A (xk_wM ad ac g2) := by rw [eg2]; exact hD
  have Ig2 : xk_cnt (B + 0) g2 := by rw [eg2]; repeat (first | exact Ig1 | refine xk_cnt_k (by decide) ?_ | refine xk_cnt_f (by decide) ?_ | refine xk_cnt_s ?_)
  refine lv_iload_n (pc := 29) hx hb dzM_cancel_29 rfl (lv_at hl 0 rfl) ?_
  exact hret _ g2 H locs 30 ls hP hS (xk_bn (by rw [frzM_goes_111 _ _ _ hg1 13 (by decide)]; exact hbo)) (by unfold relzM_cancel_1; exact ⟨r2, g1, hg1, ⟨g2, eg2, ⟨rfl, (by rw [frzM_goes_111 _ _ _ hg1 13 (by decide)]; exact hbo), rfl⟩⟩⟩) dzM_cancel_30
theorem frzM_cancel_1 (g0 : xk_St) (rz : Int32) (gz : xk_St) : relzM_cancel_1 g0 rz gz → xk_eqv [1, 2, 3, 4, 5, 6, 7, 8, 9, 10, 11, 12, 14, 15, 16, 17, 18, 19, 20, 21, 22, 23, 24, 25, 26, 27] g0 gz := by
  intro h
  unfold relzM_cancel_1 at h
  have s0 : xk_eqv [1, 2, 3, 4, 5, 6, 7, 8, 9, 10, 11, 12, 14, 15, 16, 17, 18, 19, 20, 21, 22, 23, 24, 25, 26, 27] g0 g0 := xk_eqv_rf
  obtain ⟨r2, g1, u1, v2⟩ := h
  have s3 : xk_eqv [1, 2, 3, 4, 5, 6, 7, 8, 9, 10, 11, 12, 14, 15, 16, 17, 18, 19, 20, 21, 22, 23, 24, 25, 26, 27] g0 g1 := xk_eqv_tr s0 (xk_eqv_sub (frzM_goes_111 _ _ _ u1) (by decide))
  obtain ⟨g2, u4, v5⟩ := v2
  have s6 : xk_eqv [1, 2, 3, 4, 5, 6, 7, 8, 9, 10, 11, 12, 14, 15, 16, 17, 18, 19, 20, 21, 22, 23, 24, 25, 26, 27] g0 g2 := by rw [u4]; repeat (first | exact s3 | refine xk_eqv_up (by decide) ?_)
  rw [v5.2.2]; exact s6
theorem iczM_cancel_1 (B : Nat) (g0 : xk_St) (rz : Int32) (gz : xk_St) : relzM_cancel_1 g0 rz gz → xk_cnt B g0 → xk_cnt (B + 0) gz := by
  intro h Ig0
  unfold relzM_cancel_1 at h
  have Ig0 : xk_cnt (B + 0) g0 := Ig0
  obtain ⟨r2, g1, u1, v2⟩ := h
  have Ig1 : xk_cnt (B + 0) g1 := xk_cnt_le (iczM_goes_111 (B + 0) _ _ _ u1 Ig0) (by omega)
  obtain ⟨g2, u3, v4⟩ := v2
  have Ig2 : xk_cnt (B + 0) g2 := by rw [u3]; repeat (first | exact Ig1 | refine xk_cnt_k (by decide) ?_ | refine xk_cnt_f (by decide) ?_ | refine xk_cnt_s ?_)
  rw [v4.2.2]; exact xk_cnt_le Ig2 (by omega)

