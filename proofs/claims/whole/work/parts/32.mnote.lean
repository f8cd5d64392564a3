def relzM_goes (g0 : xk_St) (k0 : Int32) (k1 : Int32) (k2 : Int32) (rz : Int32) (gz : xk_St) : Prop := ∃ (x1 : Int32), (if k0 = 0 then (x1 = 1) else (if k1 = 0 then (x1 = 2) else (if k2 = 0 then (x1 = 3) else (x1 = 0)))) ∧ (∃ (g1 : xk_St), g1 = va_up g0 0 (upd (g0 0) 0 x1) ∧ (∃ (x2 : Int32), (if x1 = 0 then (x2 = 1) else (x2 = 0)) ∧ (rz = x2 ∧ xk_b rz ∧ gz = g1)))
set_option maxHeartbeats 4000000 in
set_option maxRecDepth 100000 in
theorem kzM_goes (l : Launch) (G : va_G) (ac : Nat → ClassId) (ad : Nat → Nat) (g0 : xk_St) (k0 : Int32) (k1 : Int32) (k2 : Int32) (B : Nat) (Ig0 : xk_cnt B g0) (hB : B + 1 < 2147483648) : xk_CI l yzM_goes czM_goes 4 .boolean xk_WS xk_r0 G xk_cls (xk_tys ac) [.ref (ad 0), .int k0, .int k1, .int k2] (xk_wM ad ac g0) (fun rz (gz : xk_St) => relzM_goes g0 k0 k1 k2 rz gz) (fun gz => xk_wM ad ac gz) := by
  refine xk_ofI (by decide) (Nat.le_of_ble_eq_true rfl) ?_
  intro p e s m args below meth c A Q H locs ls C0 hret hP hD hS hl
  obtain ⟨hx, hb, hml, hts, hown, hK, hA⟩ := C0
  have hl : lv_has ls 4 [(0, .ref (ad 0)), (1, .int k0), (2, .int k1), (3, .int k2)] := hl
  have Ig0 : xk_cnt (B + 0) g0 := Ig0
  refine lv_aload_n (pc := 0) hx hb dzM_goes_0 rfl (lv_at hl 0 rfl) ?_
  refine lv_iload_n (pc := 1) hx hb dzM_goes_1 rfl (lv_at hl 1 rfl) ?_
  have K1 : ∀ (x1 : Int32), (if k0 = 0 then (x1 = 1) else (if k1 = 0 then (x1 = 2) else (if k2 = 0 then (x1 = 3) else (x1 = 0)))) → W p l e xk_r0 s m args below meth c H locs 0 0 Q (F0 m 26 ls [.int x1, .ref (ad 0)]) := by
    intro x1 R1
    refine xk_putf (pc := 26) hx hb hts hown hK hP hD hS pfzM_92 0 rfl rfl rfl (Nat.le_of_ble_eq_true rfl) dzM_goes_26 (fun H locs hP hD hS => ?_)
    obtain ⟨g1, eg1⟩ : ∃ z : xk_St, z = va_up g0 0 (upd (g0 0) 0 x1) := ⟨_, rfl⟩
    have hP : va_P G xk_cls (xk_wM ad ac g1) H := by rw [eg1]; exact hP
    have hD : va_D A (xk_wM ad ac g1) := by rw [eg1]; exact hD
    have Ig1 : xk_cnt (B + 0) g1 := by rw [eg1]; repeat (first | exact Ig0 | refine xk_cnt_k (by decide) ?_ | refine xk_cnt_f (by decide) ?_ | refine xk_cnt_s ?_)
    refine lv_aload_n (pc := 29) hx hb dzM_goes_29 rfl (lv_at hl 0 rfl) ?_
    refine xk_get (pc := 30) hx hb hts hown hK hP ffzM_92 0 rfl rfl dzM_goes_30 ?_
    refine xk_is (y := x1) (by rw [eg1]; rfl) ?_
    have K2 : ∀ (x2 : Int32), (if x1 = 0 then (x2 = 1) else (x2 = 0)) → (xk_b x2) → W p l e xk_r0 s m args below meth c H locs 0 0 Q (F0 m 41 ls [.int x2]) := by
      intro x2 R2 bx2
      exact hret _ g1 H locs 41 ls hP hS (xk_bn bx2) (by unfold relzM_goes; exact ⟨x1, R1, ⟨g1, eg1, ⟨x2, R2, ⟨rfl, bx2, rfl⟩⟩⟩⟩) dzM_goes_41
    refine lv_if_ne (pc := 33) (tgt := 40) hx hb dzM_goes_33 (by decide) (fun h4 => ?_) (fun h4 => ?_)
    ·
      refine lv_iconst (v := 0) (pc := 40) hx hb dzM_goes_40 (by decide) ?_
      exact K2 0 (Eq.mpr (if_neg h4) rfl) xk_b0
    ·
      refine lv_iconst (v := 1) (pc := 36) hx hb dzM_goes_36 (by decide) ?_
      refine lv_goto (tgt := 41) (pc := 37) hx hb dzM_goes_37 (by decide) ?_
      exact K2 1 (Eq.mpr (if_pos h4) rfl) xk_b1
  refine lv_if_ne (pc := 2) (tgt := 9) hx hb dzM_goes_2 (by decide) (fun h1 => ?_) (fun h1 => ?_)
  ·
    refine lv_iload_n (pc := 9) hx hb dzM_goes_9 rfl (lv_at hl 2 rfl) ?_
    refine lv_if_ne (pc := 10) (tgt := 17) hx hb dzM_goes_10 (by decide) (fun h2 => ?_) (fun h2 => ?_)
    ·
      refine lv_iload_n (pc := 17) hx hb dzM_goes_17 rfl (lv_at hl 3 rfl) ?_
      refine lv_if_ne (pc := 18) (tgt := 25) hx hb dzM_goes_18 (by decide) (fun h3 => ?_) (fun h3 => ?_)
      ·
        refine lv_iconst (v := 0) (pc := 25) hx hb dzM_goes_25 (by decide) ?_
        exact K1 0 (Eq.mpr (if_neg h1) (Eq.mpr (if_neg h2) (Eq.mpr (if_neg h3) rfl)))
      ·
        refine lv_iconst (v := 3) (pc := 21) hx hb dzM_goes_21 (by decide) ?_
        refine lv_goto (tgt := 26) (pc := 22) hx hb dzM_goes_22 (by decide) ?_
        exact K1 3 (Eq.mpr (if_neg h1) (Eq.mpr (if_neg h2) (Eq.mpr (if_pos h3) rfl)))
    ·
      refine lv_iconst (v := 2) (pc := 13) hx hb dzM_goes_13 (by decide) ?_
      refine lv_goto (tgt := 26) (pc := 14) hx hb dzM_goes_14 (by decide) ?_
      exact K1 2 (Eq.mpr (if_neg h1) (Eq.mpr (if_pos h2) rfl))
  ·
    refine lv_iconst (v := 1) (pc := 5) hx hb dzM_goes_5 (by decide) ?_
    refine lv_goto (tgt := 26) (pc := 6) hx hb dzM_goes_6 (by decide) ?_
    exact K1 1 (Eq.mpr (if_pos h1) rfl)
theorem frzM_goes (g0 : xk_St) (k0 : Int32) (k1 : Int32) (k2 : Int32) (rz : Int32) (gz : xk_St) : relzM_goes g0 k0 k1 k2 rz gz → xk_eqv [1, 2, 3, 4, 5, 6, 7, 8, 9, 10, 11, 12, 13, 14, 15, 16, 17, 18, 19, 20, 21, 22, 23, 24, 25, 26, 27] g0 gz := by
  intro h
  unfold relzM_goes at h
  have s0 : xk_eqv [1, 2, 3, 4, 5, 6, 7, 8, 9, 10, 11, 12, 13, 14, 15, 16, 17, 18, 19, 20, 21, 22, 23, 24, 25, 26, 27] g0 g0 := xk_eqv_rf
  obtain ⟨x1, u1, v2⟩ := h
  obtain ⟨g1, u3, v4⟩ := v2
  have s5 : xk_eqv [1, 2, 3, 4, 5, 6, 7, 8, 9, 10, 11, 12, 13, 14, 15, 16, 17, 18, 19, 20, 21, 22, 23, 24, 25, 26, 27] g0 g1 := by rw [u3]; repeat (first | exact s0 | refine xk_eqv_up (by decide) ?_)
  obtain ⟨x2, u6, v7⟩ := v4
  rw [v7.2.2]; exact s5
theorem iczM_goes (B : Nat) (g0 : xk_St) (k0 : Int32) (k1 : Int32) (k2 : Int32) (rz : Int32) (gz : xk_St) : relzM_goes g0 k0 k1 k2 rz gz → xk_cnt B g0 → xk_cnt (B + 0) gz := by
  intro h Ig0
  unfold relzM_goes at h
  have Ig0 : xk_cnt (B + 0) g0 := Ig0
  obtain ⟨x1, u1, v2⟩ := h
  obtain ⟨g1, u3, v4⟩ := v2
  have Ig1 : xk_cnt (B + 0) g1 := by rw [u3]; repeat (first | exact Ig0 | refine xk_cnt_k (by decide) ?_ | refine xk_cnt_f (by decide) ?_ | refine xk_cnt_s ?_)
  obtain ⟨x2, u5, v6⟩ := v4
  rw [v6.2.2]; exact xk_cnt_le Ig1 (by omega)

def relzM_note (g0 : xk_St) (k0 : Int32) (k1 : Int32) (gz : xk_St) : Prop := ∃ (g1 : xk_St), g1 = va_up g0 25 (upd (g0 25) (((g0 0 31) - (g0 0 31) / 64 * 64).toNatClampNeg) (g0 0 27)) ∧ (∃ (g2 : xk_St), g2 = va_up g1 26 (upd (g1 26) (((g1 0 31) - (g1 0 31) / 64 * 64).toNatClampNeg) k0) ∧ (∃ (g3 : xk_St), g3 = va_up g2 27 (upd (g2 27) (((g2 0 31) - (g2 0 31) / 64 * 64).toNatClampNeg) k1) ∧ (∃ (g4 : xk_St), g4 = va_up g3 0 (upd (g3 0) 31 ((g3 0 31) + 1)) ∧ (gz = g4))))
set_option maxHeartbeats 4000000 in
set_option maxRecDepth 100000 in
theorem kzM_note (l : Launch) (G : va_G) (ac : Nat → ClassId) (ad : Nat → Nat) (g0 : xk_St) (k0 : Int32) (k1 : Int32) (B : Nat) (Ig0 : xk_cnt B g0) (hB : B + 2 < 2147483648) : xk_CV l yzM_note czM_note 3 xk_WS xk_r0 G xk_cls (xk_tys ac) [.ref (ad 0), .int k0, .int k1] (xk_wM ad ac g0) (fun (gz : xk_St) => relzM_note g0 k0 k1 gz) (fun gz => xk_wM ad ac gz) := by
  refine xk_ofV (by decide) (Nat.le_of_ble_eq_true rfl) ?_
  intro p e s m args below meth c A Q H locs ls C0 hret hP hD hS hl
  obtain ⟨hx, hb, hml, hts, hown, hK, hA⟩ := C0
  have hl : lv_has ls 3 [(0, .ref (ad 0)), (1, .int k0), (2, .int k1)] := hl
  have Ig0 : xk_cnt (B + 0) g0 := Ig0
  refine lv_aload_n (pc := 0) hx hb dzM_note_0 rfl (lv_at hl 0 rfl) ?_
  refine xk_get (pc := 1) hx hb hts hown hK hP ffzM_83 0 rfl rfl dzM_note_1 ?_
  refine lv_aload_n (pc := 4) hx hb dzM_note_4 rfl (lv_at hl 0 rfl) ?_
  refine xk_get (pc := 5) hx hb hts hown hK hP ffzM_100 0 rfl rfl dzM_note_5 ?_
  refine lv_bipush (v := 64) (pc := 8) hx hb dzM_note_8 (by decide) ?_
  refine lv_irem (pc := 10) hx hb dzM_note_10 (by decide) ?_
  refine lv_aload_n (pc := 11) hx hb dzM_note_11 rfl (lv_at hl 0 rfl) ?_
  refine xk_get (pc := 12) hx hb hts hown hK hP ffzM_103 0 rfl rfl dzM_note_12 ?_
  refine xk_iast (q0 := 25) (t0 := 0) (j := ((g0 0 31) - (g0 0 31) / 64 * 64).toNatClampNeg) (pc := 15) hx hb hK hP hD hS rfl rfl (xk_rem64 (xk_cnt_nn Ig0 (by omega))) rfl dzM_note_15 (fun H locs hP hD hS => ?_)
  obtain ⟨g1, eg1⟩ : ∃ z : xk_St, z = va_up g0 25 (upd (g0 25) (((g0 0 31) - (g0 0 31) / 64 * 64).toNatClampNeg) (g0 0 27)) := ⟨_, rfl⟩
  have hP : va_P G xk_cls (xk_wM ad ac g1) H := by rw [eg1]; exact hP
  have hD : va_D A (xk_wM ad ac g1) := by rw [eg1]; exact hD
  have Ig1 : xk_cnt (B + 0) g1 := by rw [eg1]; repeat (first | exact Ig0 | refine xk_cnt_k (by decide) ?_ | refine xk_cnt_f (by decide) ?_ | refine xk_cnt_s ?_)
  refine lv_aload_n (pc := 16) hx hb dzM_note_16 rfl (lv_at hl 0 rfl) ?_
  refine xk_get (pc := 17) hx hb hts hown hK hP ffzM_86 0 rfl rfl dzM_note_17 ?_
  refine lv_aload_n (pc := 20) hx hb dzM_note_20 rfl (lv_at hl 0 rfl) ?_
  refine xk_get (pc := 21) hx hb hts hown hK hP ffzM_100 0 rfl rfl dzM_note_21 ?_
  refine lv_bipush (v := 64) (pc := 24) hx hb dzM_note_24 (by decide) ?_
  refine lv_irem (pc := 26) hx hb dzM_note_26 (by decide) ?_
  refine lv_iload_n (pc := 27) hx hb dzM_note_27 rfl (lv_at hl 1 rfl) ?_
  refine xk_iast (q0 := 26) (t0 := 0) (j := ((g1 0 31) - (g1 0 31) / 64 * 64).toNatClampNeg) (pc := 28) hx hb hK hP hD hS rfl rfl (xk_rem64 (xk_cnt_nn Ig1 (by omega))) rfl dzM_note_28 (fun H locs hP hD hS => ?_)
  obtain ⟨g2, eg2⟩ : ∃ z : xk_St, z = va_up g1 26 (upd (g1 26) (((g1 0 31) - (g1 0 31) / 64 * 64).toNatClampNeg) k0) := ⟨_, rfl⟩
  have hP : va_P G xk_cls (xk_wM ad ac g2) H := by rw [eg2]; exact hP
  have hD : va_D A (xk_wM ad ac g2) := by rw [eg2]; exact hD
  have Ig2 : xk_cnt (B + 0) g2 := by rw [eg2]; repeat (first | exact Ig1 | refine xk_cnt_k (by decide) ?_ | refine xk_cnt_f (by decide) ?_ | refine xk_cnt_s ?_)
  refine lv_aload_n (pc := 29) hx hb dzM_note_29 rfl (lv_at hl 0 rfl) ?_
  refine xk_get (pc := 30) hx hb hts hown hK hP ffzM_89 0 rfl rfl dzM_note_30 ?_
  refine lv_aload_n (pc := 33) hx hb dzM_note_33 rfl (lv_at hl 0 rfl) ?_
  refine xk_get (pc := 34) hx hb hts hown hK hP ffzM_100 0 rfl rfl dzM_note_34 ?_
  refine lv_bipush (v := 64) (pc := 37) hx hb dzM_note_37 (by decide) ?_
  refine lv_irem (pc := 39) hx hb dzM_note_39 (by decide) ?_
  refine lv_iload_n (pc := 40) hx hb dzM_note_40 rfl (lv_at hl 2 rfl) ?_
  refine xk_iast (q0 := 27) (t0 := 0) (j := ((g2 0 31) - (g2 0 31) / 64 * 64).toNatClampNeg) (pc := 41) hx hb hK hP hD hS rfl rfl (xk_rem64 (xk_cnt_nn Ig2 (by omega))) rfl dzM_note_41 (fun H locs hP hD hS => ?_)
  obtain ⟨g3, eg3⟩ : ∃ z : xk_St, z = va_up g2 27 (upd (g2 27) (((g2 0 31) - (g2 0 31) / 64 * 64).toNatClampNeg) k1) := ⟨_, rfl⟩
  have hP : va_P G xk_cls (xk_wM ad ac g3) H := by rw [eg3]; exact hP
  have hD : va_D A (xk_wM ad ac g3) := by rw [eg3]; exact hD
  have Ig3 : xk_cnt (B + 0) g3 := by rw [eg3]; repeat (first | exact Ig2 | refine xk_cnt_k (by decide) ?_ | refine xk_cnt_f (by decide) ?_ | refine xk_cnt_s ?_)
  refine lv_aload_n (pc := 42) hx hb dzM_note_42 rfl (lv_at hl 0 rfl) ?_
  refine lv_dup (pc := 43) hx hb dzM_note_43 rfl ?_
  refine xk_get (pc := 44) hx hb hts hown hK hP ffzM_100 0 rfl rfl dzM_note_44 ?_
  refine lv_iconst (v := 1) (pc := 47) hx hb dzM_note_47 (by decide) ?_
  refine lv_iadd (pc := 48) hx hb dzM_note_48 ?_
  refine xk_putf (pc := 49) hx hb hts hown hK hP hD hS pfzM_100 0 rfl rfl rfl (Nat.le_of_ble_eq_true rfl) dzM_note_49 (fun H locs hP hD hS => ?_)
  obtain ⟨g4, eg4⟩ : ∃ z : xk_St, z = va_up g3 0 (upd (g3 0) 31 ((g3 0 31) + 1)) := ⟨_, rfl⟩
  have hP : va_P G xk_cls (xk_wM ad ac g4) H := by rw [eg4]; exact hP
  have hD : va_D A (xk_wM ad ac g4) := by rw [eg4]; exact hD
  have Ig4 : xk_cnt (B + 1) g4 := by rw [eg4]; repeat (first | exact Ig3 | refine xk_cnt_k (by decide) ?_ | refine xk_cnt_f (by decide) ?_ | refine xk_cnt_s ?_)
  exact hret g4 H locs 52 ls hP hS (by unfold relzM_note; exact ⟨g1, eg1, ⟨g2, eg2, ⟨g3, eg3, ⟨g4, eg4, rfl⟩⟩⟩⟩) dzM_note_52
theorem frzM_note (g0 : xk_St) (k0 : Int32) (k1 : Int32) (gz : xk_St) : relzM_note g0 k0 k1 gz → xk_eqv [1, 2, 3, 4, 5, 6, 7, 8, 9, 10, 11, 12, 13, 14, 15, 16, 17, 18, 19, 20, 21, 22, 23, 24] g0 gz := by
  intro h
  unfold relzM_note at h
  have s0 : xk_eqv [1, 2, 3, 4, 5, 6, 7, 8, 9, 10, 11, 12, 13, 14, 15, 16, 17, 18, 19, 20, 21, 22, 23, 24] g0 g0 := xk_eqv_rf
  obtain ⟨g1, u1, v2⟩ := h
  have s3 : xk_eqv [1, 2, 3, 4, 5, 6, 7, 8, 9, 10, 11, 12, 13, 14, 15, 16, 17, 18, 19, 20, 21, 22, 23, 24] g0 g1 := by rw [u1]; repeat (first | exact s0 | refine xk_eqv_up (by decide) ?_)
  obtain ⟨g2, u4, v5⟩ := v2
  have s6 : xk_eqv [1, 2, 3, 4, 5, 6, 7, 8, 9, 10, 11, 12, 13, 14, 15, 16, 17, 18, 19, 20, 21, 22, 23, 24] g0 g2 := by rw [u4]; repeat (first | exact s3 | refine xk_eqv_up (by decide) ?_)
  obtain ⟨g3, u7, v8⟩ := v5
  have s9 : xk_eqv [1, 2, 3, 4, 5, 6, 7, 8, 9, 10, 11, 12, 13, 14, 15, 16, 17, 18, 19, 20, 21, 22, 23, 24] g0 g3 := by rw [u7]; repeat (first | exact s6 | refine xk_eqv_up (by decide) ?_)
  obtain ⟨g4, u10, v11⟩ := v8
  have s12 : xk_eqv [1, 2, 3, 4, 5, 6, 7, 8, 9, 10, 11, 12, 13, 14, 15, 16, 17, 18, 19, 20, 21, 22, 23, 24] g0 g4 := by rw [u10]; repeat (first | exact s9 | refine xk_eqv_up (by decide) ?_)
  rw [v11]; exact s12
theorem iczM_note (B : Nat) (g0 : xk_St) (k0 : Int32) (k1 : Int32) (gz : xk_St) : relzM_note g0 k0 k1 gz → xk_cnt B g0 → xk_cnt (B + 1) gz := by
  intro h Ig0
  unfold relzM_note at h
  have Ig0 : xk_cnt (B + 0) g0 := Ig0
  obtain ⟨g1, u1, v2⟩ := h
  have Ig1 : xk_cnt (B + 0) g1 := by rw [u1]; repeat (first | exact Ig0 | refine xk_cnt_k (by decide) ?_ | refine xk_cnt_f (by decide) ?_ | refine xk_cnt_s ?_)
  obtain ⟨g2, u3, v4⟩ := v2
  have Ig2 : xk_cnt (B + 0) g2 := by rw [u3]; repeat (first | exact Ig1 | refine xk_cnt_k (by decide) ?_ | refine xk_cnt_f (by decide) ?_ | refine xk_cnt_s ?_)
  obtain ⟨g3, u5, v6⟩ := v4
  have Ig3 : xk_cnt (B + 0) g3 := by rw [u5]; repeat (first | exact Ig2 | refine xk_cnt_k (by decide) ?_ | refine xk_cnt_f (by decide) ?_ | refine xk_cnt_s ?_)
  obtain ⟨g4, u7, v8⟩ := v6
  have Ig4 : xk_cnt (B + 1) g4 := by rw [u7]; repeat (first | exact Ig3 | refine xk_cnt_k (by decide) ?_ | refine xk_cnt_f (by decide) ?_ | refine xk_cnt_s ?_)
  rw [v8]; exact xk_cnt_le Ig4 (by omega)

def relzM_disturb_0 (g0 : xk_St) (gz : xk_St) : Prop := ∃ (g3 : xk_St), (if ((g0 5) 0) = 0 then (∃ (g1 : xk_St), g1 = va_up g0 5 (upd (g0 5) 0 1) ∧ (∃ (g2 : xk_St), relzM_note g1 1 0 g2 ∧ (g3 = g2))) else (g3 = g0)) ∧ (gz = g3)
set_option maxHeartbeats 4000000 in
set_option maxRecDepth 100000 in
theorem kzM_disturb_0 (l : Launch) (G : va_G) (ac : Nat → ClassId) (ad : Nat → Nat) (g0 : xk_St) (B : Nat) (Ig0 : xk_cnt B g0) (hB : B + 2 < 2147483648) : xk_CV l yzM_disturb czM_disturb 2 xk_WS xk_r1 G xk_cls (xk_tys ac) [.ref (ad 0), .int 0] (xk_wM ad ac g0) (fun (gz : xk_St) => relzM_disturb_0 g0 gz) (fun gz => xk_wM ad ac gz) := by
  refine xk_ofV (by decide) (Nat.le_of_ble_eq_true rfl) ?_
  intro p e s m args below meth c A Q H locs ls C0 hret hP hD hS hl
  obtain ⟨hx, hb, hml, hts, hown, hK, hA⟩ := C0
  have hl : lv_has ls 2 [(0, .ref (ad 0)), (1, .int 0)] := hl
  have Ig0 : xk_cnt (B + 0) g0 := Ig0
  refine lv_aload_n (pc := 0) hx hb dzM_disturb_0 rfl (lv_at hl 0 rfl) ?_
  refine xk_get (pc := 1) hx hb hts hown hK hP ffzM_23 0 rfl rfl dzM_disturb_1 ?_
  refine lv_iload_n (pc := 4) hx hb dzM_disturb_4 rfl (lv_at hl 1 rfl) ?_
  refine xk_zald (q0 := 5) (t0 := 1) (j := 0) (pc := 5) hx hb hK hP rfl rfl (pk_in 0 6 (by decide)) (pk_cl 0) dzM_disturb_5 ?_
  have K1 : ∀ (g3 : xk_St) (H : Heap) (locs : List Loc), (if ((g0 5) 0) = 0 then (∃ (g1 : xk_St), g1 = va_up g0 5 (upd (g0 5) 0 1) ∧ (∃ (g2 : xk_St), relzM_note g1 1 0 g2 ∧ (g3 = g2))) else (g3 = g0)) → (xk_cnt (B + 1) g3) → (va_P G xk_cls (xk_wM ad ac g3) H) → (va_D A (xk_wM ad ac g3)) → (va_S A s.heap H locs) → W p l e xk_r1 s m args below meth c H locs 0 0 Q (F0 m 22 ls []) := by
    intro g3 H locs R1 Ig3 hP hD hS
    exact hret g3 H locs 22 ls hP hS (by unfold relzM_disturb_0; exact ⟨g3, R1, rfl⟩) dzM_disturb_22
  refine lv_if_ne (pc := 6) (tgt := 22) hx hb dzM_disturb_6 (by decide) (fun h1 => ?_) (fun h1 => ?_)
  ·
    exact K1 g0 H locs (Eq.mpr (if_neg h1) rfl) (xk_cnt_le Ig0 (by omega)) hP hD hS
  ·
    refine lv_aload_n (pc := 9) hx hb dzM_disturb_9 rfl (lv_at hl 0 rfl) ?_
    refine xk_get (pc := 10) hx hb hts hown hK hP ffzM_23 0 rfl rfl dzM_disturb_10 ?_
    refine lv_iload_n (pc := 13) hx hb dzM_disturb_13 rfl (lv_at hl 1 rfl) ?_
    refine lv_iconst (v := 1) (pc := 14) hx hb dzM_disturb_14 (by decide) ?_
    refine xk_zast (q0 := 5) (t0 := 1) (j := 0) (pc := 15) hx hb hK hP hD hS rfl rfl (pk_in 0 6 (by decide)) (pk_cl 0) xk_b1 dzM_disturb_15 (fun H locs hP hD hS => ?_)
    obtain ⟨g1, eg1⟩ : ∃ z : xk_St, z = va_up g0 5 (upd (g0 5) 0 1) := ⟨_, rfl⟩
    have hP : va_P G xk_cls (xk_wM ad ac g1) H := by rw [eg1]; exact hP
    have hD : va_D A (xk_wM ad ac g1) := by rw [eg1]; exact hD
    have Ig1 : xk_cnt (B + 0) g1 := by rw [eg1]; repeat (first | exact Ig0 | refine xk_cnt_k (by decide) ?_ | refine xk_cnt_f (by decide) ?_ | refine xk_cnt_s ?_)
    refine lv_aload_n (pc := 16) hx hb dzM_disturb_16 rfl (lv_at hl 0 rfl) ?_
    refine lv_iconst (v := 1) (pc := 17) hx hb dzM_disturb_17 (by decide) ?_
    refine lv_iload_n (pc := 18) hx hb dzM_disturb_18 rfl (lv_at hl 1 rfl) ?_
    refine xk_allVV (As := [.int 1, .int 0]) (rest := []) (H0 := s.heap) (pc := 19) hx hb hml hts hown hK hA hP hD hS (kzM_note l G ac ad g1 1 0 (B + 0) Ig1 (by omega)) vfzM_106 (fun _ => rfl) 0 rfl rfl ⟨rfl, rfl⟩ ⟨Nat.le_of_ble_eq_true rfl, Nat.le_of_ble_eq_true rfl⟩ rfl hl.1 rfl (Nat.le_of_ble_eq_true rfl) ⟨Nat.zero_le _, Nat.zero_le _⟩ dzM_disturb_19 (fun g2 H locs hg2 hP hD hS => ?_)
    have hP : va_P G xk_cls (xk_wM ad ac g2) H := hP
    have hD : va_D A (xk_wM ad ac g2) := hD
    have Ig2 : xk_cnt (B + 1) g2 := xk_cnt_le (iczM_note (B + 0) _ _ _ _ hg2 Ig1) (by omega)
    exact K1 g2 H locs (Eq.mpr (if_pos h1) ⟨g1, eg1, ⟨g2, hg2, rfl⟩⟩) (xk_cnt_le Ig2 (by omega)) hP hD hS
theorem frzM_disturb_0 (g0 : xk_St) (gz : xk_St) : relzM_disturb_0 g0 gz → xk_eqv [1, 2, 3, 4, 6, 7, 8, 9, 10, 11, 12, 13, 14, 15, 16, 17, 18, 19, 20, 21, 22, 23, 24] g0 gz := by
  intro h
  unfold relzM_disturb_0 at h
  have s0 : xk_eqv [1, 2, 3, 4, 6, 7, 8, 9, 10, 11, 12, 13, 14, 15, 16, 17, 18, 19, 20, 21, 22, 23, 24] g0 g0 := xk_eqv_rf
  obtain ⟨g3, u1, v2⟩ := h
  have s3 : xk_eqv [1, 2, 3, 4, 6, 7, 8, 9, 10, 11, 12, 13, 14, 15, 16, 17, 18, 19, 20, 21, 22, 23, 24] g0 g3 := by
    by_cases hc : ((g0 5) 0) = 0
    · rw [if_pos hc] at u1
      obtain ⟨g1, u4, v5⟩ := u1
      have s6 : xk_eqv [1, 2, 3, 4, 6, 7, 8, 9, 10, 11, 12, 13, 14, 15, 16, 17, 18, 19, 20, 21, 22, 23, 24] g0 g1 := by rw [u4]; repeat (first | exact s0 | refine xk_eqv_up (by decide) ?_)
      obtain ⟨g2, u7, v8⟩ := v5
      have s9 : xk_eqv [1, 2, 3, 4, 6, 7, 8, 9, 10, 11, 12, 13, 14, 15, 16, 17, 18, 19, 20, 21, 22, 23, 24] g0 g2 := xk_eqv_tr s6 (xk_eqv_sub (frzM_note _ _ _ _ u7) (by decide))
      rw [v8]; exact s9
    · rw [if_neg hc] at u1
      rw [u1]; exact s0
  rw [v2]; exact s3
theorem iczM_disturb_0 (B : Nat) (g0 : xk_St) (gz : xk_St) : relzM_disturb_0 g0 gz → xk_cnt B g0 → xk_cnt (B + 1) gz := by
  intro h Ig0
  unfold relzM_disturb_0 at h
  have Ig0 : xk_cnt (B + 0) g0 := Ig0
  obtain ⟨g3, u1, v2⟩ := h
  have Ig3 : xk_cnt (B + 1) g3 := by
    by_cases hc : ((g0 5) 0) = 0
    · rw [if_pos hc] at u1
      obtain ⟨g1, u3, v4⟩ := u1
      have Ig1 : xk_cnt (B + 0) g1 := by rw [u3]; repeat (first | exact Ig0 | refine xk_cnt_k (by decide) ?_ | refine xk_cnt_f (by decide) ?_ | refine xk_cnt_s ?_)
      obtain ⟨g2, u5, v6⟩ := v4
      have Ig2 : xk_cnt (B + 1) g2 := xk_cnt_le (iczM_note (B + 0) _ _ _ _ u5 Ig1) (by omega)
      rw [v6]; exact xk_cnt_le Ig2 (by omega)
    · rw [if_neg hc] at u1
      rw [u1]; exact xk_cnt_le Ig0 (by omega)
  rw [v2]; exact xk_cnt_le Ig3 (by omega)

def relzM_disturb_1 (g0 : xk_St) (gz : xk_St) : Prop := ∃ (g3 : xk_St), (if ((g0 5) 1) = 0 then (∃ (g1 : xk_St), g1 = va_up g0 5 (upd (g0 5) 1 1) ∧ (∃ (g2 : xk_St), relzM_note g1 1 1 g2 ∧ (g3 = g2))) else (g3 = g0)) ∧ (gz = g3)
set_option maxHeartbeats 4000000 in
set_option maxRecDepth 100000 in
theorem kzM_disturb_1 (l : Launch) (G : va_G) (ac : Nat → ClassId) (ad : Nat → Nat) (g0 : xk_St) (B : Nat) (Ig0 : xk_cnt B g0) (hB : B + 2 < 2147483648) : xk_CV l yzM_disturb czM_disturb 2 xk_WS xk_r1 G xk_cls (xk_tys ac) [.ref (ad 0), .int 1] (xk_wM ad ac g0) (fun (gz : xk_St) => relzM_disturb_1 g0 gz) (fun gz => xk_wM ad ac gz) := by
  refine xk_ofV (by decide) (Nat.le_of_ble_eq_true rfl) ?_
  intro p e s m args below meth c A Q H locs ls C0 hret hP hD hS hl
  obtain ⟨hx, hb, hml, hts, hown, hK, hA⟩ := C0
  have hl : lv_has ls 2 [(0, .ref (ad 0)), (1, .int 1)] := hl
  have Ig0 : xk_cnt (B + 0) g0 := Ig0
  refine lv_aload_n (pc := 0) hx hb dzM_disturb_0 rfl (lv_at hl 0 rfl) ?_
  refine xk_get (pc := 1) hx hb hts hown hK hP ffzM_23 0 rfl rfl dzM_disturb_1 ?_
  refine lv_iload_n (pc := 4) hx hb dzM_disturb_4 rfl (lv_at hl 1 rfl) ?_
  refine xk_zald (q0 := 5) (t0 := 1) (j := 1) (pc := 5) hx hb hK hP rfl rfl (pk_in 1 6 (by decide)) (pk_cl 1) dzM_disturb_5 ?_
  have K1 : ∀ (g3 : xk_St) (H : Heap) (locs : List Loc), (if ((g0 5) 1) = 0 then (∃ (g1 : xk_St), g1 = va_up g0 5 (upd (g0 5) 1 1) ∧ (∃ (g2 : xk_St), relzM_note g1 1 1 g2 ∧ (g3 = g2))) else (g3 = g0)) → (xk_cnt (B + 1) g3) → (va_P G xk_cls (xk_wM ad ac g3) H) → (va_D A (xk_wM ad ac g3)) → (va_S A s.heap H locs) → W p l e xk_r1 s m args below meth c H locs 0 0 Q (F0 m 22 ls []) := by
    intro g3 H locs R1 Ig3 hP hD hS
    exact hret g3 H locs 22 ls hP hS (by unfold relzM_disturb_1; exact ⟨g3, R1, rfl⟩) dzM_disturb_22
  refine lv_if_ne (pc := 6) (tgt := 22) hx hb dzM_disturb_6 (by decide) (fun h1 => ?_) (fun h1 => ?_)
  ·
    exact K1 g0 H locs (Eq.mpr (if_neg h1) rfl) (xk_cnt_le Ig0 (by omega)) hP hD hS
  ·
    refine lv_aload_n (pc := 9) hx hb dzM_disturb_9 rfl (lv_at hl 0 rfl) ?_
    refine xk_get (pc := 10) hx hb hts hown hK hP ffzM_23 0 rfl rfl dzM_disturb_10 ?_
    refine lv_iload_n (pc := 13) hx hb dzM_disturb_13 rfl (lv_at hl 1 rfl) ?_
    refine lv_iconst (v := 1) (pc := 14) hx hb dzM_disturb_14 (by decide) ?_
    refine xk_zast (q0 := 5) (t0 := 1) (j := 1) (pc := 15) hx hb hK hP hD hS rfl rfl (pk_in 1 6 (by decide)) (pk_cl 1) xk_b1 dzM_disturb_15 (fun H locs hP hD hS => ?_)
    obtain ⟨g1, eg1⟩ : ∃ z : xk_St, z = va_up g0 5 (upd (g0 5) 1 1) := ⟨_, rfl⟩
    have hP : va_P G xk_cls (xk_wM ad ac g1) H := by rw [eg1]; exact hP
    have hD : va_D A (xk_wM ad ac g1) := by rw [eg1]; exact hD
    have Ig1 : xk_cnt (B + 0) g1 := by rw [eg1]; repeat (first | exact Ig0 | refine xk_cnt_k (by decide) ?_ | refine xk_cnt_f (by decide) ?_ | refine xk_cnt_s ?_)
    refine lv_aload_n (pc := 16) hx hb dzM_disturb_16 rfl (lv_at hl 0 rfl) ?_
    refine lv_iconst (v := 1) (pc := 17) hx hb dzM_disturb_17 (by decide) ?_
    refine lv_iload_n (pc := 18) hx hb dzM_disturb_18 rfl (lv_at hl 1 rfl) ?_
    refine xk_allVV (As := [.int 1, .int 1]) (rest := []) (H0 := s.heap) (pc := 19) hx hb hml hts hown hK hA hP hD hS (kzM_note l G ac ad g1 1 1 (B + 0) Ig1 (by omega)) vfzM_106 (fun _ => rfl) 0 rfl rfl ⟨rfl, rfl⟩ ⟨Nat.le_of_ble_eq_true rfl, Nat.le_of_ble_eq_true rfl⟩ rfl hl.1 rfl (Nat.le_of_ble_eq_true rfl) ⟨Nat.zero_le _, Nat.zero_le _⟩ dzM_disturb_19 (fun g2 H locs hg2 hP hD hS => ?_)
    have hP : va_P G xk_cls (xk_wM ad ac g2) H := hP
    have hD : va_D A (xk_wM ad ac g2) := hD
    have Ig2 : xk_cnt (B + 1) g2 := xk_cnt_le (iczM_note (B + 0) _ _ _ _ hg2 Ig1) (by omega)
    exact K1 g2 H locs (Eq.mpr (if_pos h1) ⟨g1, eg1, ⟨g2, hg2, rfl⟩⟩) (xk_cnt_le Ig2 (by omega)) hP hD hS
theorem frzM_disturb_1 (g0 : xk_St) (gz : xk_St) : relzM_disturb_1 g0 gz → xk_eqv [1, 2, 3, 4, 6, 7, 8, 9, 10, 11, 12, 13, 14, 15, 16, 17, 18, 19, 20, 21, 22, 23, 24] g0 gz := by
  intro h
  unfold relzM_disturb_1 at h
  have s0 : xk_eqv [1, 2, 3, 4, 6, 7, 8, 9, 10, 11, 12, 13, 14, 15, 16, 17, 18, 19, 20, 21, 22, 23, 24] g0 g0 := xk_eqv_rf
  obtain ⟨g3, u1, v2⟩ := h
  have s3 : xk_eqv [1, 2, 3, 4, 6, 7, 8, 9, 10, 11, 12, 13, 14, 15, 16, 17, 18, 19, 20, 21, 22, 23, 24] g0 g3 := by
    by_cases hc : ((g0 5) 1) = 0
    · rw [if_pos hc] at u1
      obtain ⟨g1, u4, v5⟩ := u1
      have s6 : xk_eqv [1, 2, 3, 4, 6, 7, 8, 9, 10, 11, 12, 13, 14, 15, 16, 17, 18, 19, 20, 21, 22, 23, 24] g0 g1 := by rw [u4]; repeat (first | exact s0 | refine xk_eqv_up (by decide) ?_)
      obtain ⟨g2, u7, v8⟩ := v5
      have s9 : xk_eqv [1, 2, 3, 4, 6, 7, 8, 9, 10, 11, 12, 13, 14, 15, 16, 17, 18, 19, 20, 21, 22, 23, 24] g0 g2 := xk_eqv_tr s6 (xk_eqv_sub (frzM_note _ _ _ _ u7) (by decide))
      rw [v8]; exact s9
    · rw [if_neg hc] at u1
      rw [u1]; exact s0
  rw [v2]; exact s3
theorem iczM_disturb_1 (B : Nat) (g0 : xk_St) (gz : xk_St) : relzM_disturb_1 g0 gz → xk_cnt B g0 → xk_cnt (B + 1) gz := by
  intro h Ig0
  unfold relzM_disturb_1 at h
  have Ig0 : xk_cnt (B + 0) g0 := Ig0
  obtain ⟨g3, u1, v2⟩ := h
  have Ig3 : xk_cnt (B + 1) g3 := by
    by_cases hc : ((g0 5) 1) = 0
    · rw [if_pos hc] at u1
      obtain ⟨g1, u3, v4⟩ := u1
      have Ig1 : xk_cnt (B + 0) g1 := by rw [u3]; repeat (first | exact Ig0 | refine xk_cnt_k (by decide) ?_ | refine xk_cnt_f (by decide) ?_ | refine xk_cnt_s ?_)
      obtain ⟨g2, u5, v6⟩ := v4
      have Ig2 : xk_cnt (B + 1) g2 := xk_cnt_le (iczM_note (B + 0) _ _ _ _ u5 Ig1) (by omega)
      rw [v6]; exact xk_cnt_le Ig2 (by omega)
    · rw [if_neg hc] at u1
      rw [u1]; exact xk_cnt_le Ig0 (by omega)
  rw [v2]; exact xk_cnt_le Ig3 (by omega)

def relzM_disturb_2 (g0 : xk_St) (gz : xk_St) : Prop := ∃ (g3 : xk_St), (if ((g0 5) 2) = 0 then (∃ (g1 : xk_St), g1 = va_up g0 5 (upd (g0 5) 2 1) ∧ (∃ (g2 : xk_St), relzM_note g1 1 2 g2 ∧ (g3 = g2))) else (g3 = g0)) ∧ (gz = g3)
set_option maxHeartbeats 4000000 in
set_option maxRecDepth 100000 in
theorem kzM_disturb_2 (l : Launch) (G : va_G) (ac : Nat → ClassId) (ad : Nat → Nat) (g0 : xk_St) (B : Nat) (Ig0 : xk_cnt B g0) (hB : B + 2 < 2147483648) : xk_CV l yzM_disturb czM_disturb 2 xk_WS xk_r1 G xk_cls (xk_tys ac) [.ref (ad 0), .int 2] (xk_wM ad ac g0) (fun (gz : xk_St) => relzM_disturb_2 g0 gz) (fun gz => xk_wM ad ac gz) := by
  refine xk_ofV (by decide) (Nat.le_of_ble_eq_true rfl) ?_
  intro p e s m args below meth c A Q H locs ls C0 hret hP hD hS hl
  obtain ⟨hx, hb, hml, hts, hown, hK, hA⟩ := C0
  have hl : lv_has ls 2 [(0, .ref (ad 0)), (1, .int 2)] := hl
  have Ig0 : xk_cnt (B + 0) g0 := Ig0
  refine lv_aload_n (pc := 0) hx hb dzM_disturb_0 rfl (lv_at hl 0 rfl) ?_
  refine xk_get (pc := 1) hx hb hts hown hK hP ffzM_23 0 rfl rfl dzM_disturb_1 ?_
  refine lv_iload_n (pc := 4) hx hb dzM_disturb_4 rfl (lv_at hl 1 rfl) ?_
  refine xk_zald (q0 := 5) (t0 := 1) (j := 2) (pc := 5) hx hb hK hP rfl rfl (pk_in 2 6 (by decide)) (pk_cl 2) dzM_disturb_5 ?_
  have K1 : ∀ (g3 : xk_St) (H : Heap) (locs : List Loc), (if ((g0 5) 2) = 0 then (∃ (g1 : xk_St), g1 = va_up g0 5 (upd (g0 5) 2 1) ∧ (∃ (g2 : xk_St), relzM_note g1 1 2 g2 ∧ (g3 = g2))) else (g3 = g0)) → (xk_cnt (B + 1) g3) → (va_P G xk_cls (xk_wM ad ac g3) H) → (va_D A (xk_wM ad ac g3)) → (va_S A s.heap H locs) → W p l e xk_r1 s m args below meth c H locs 0 0 Q (F0 m 22 ls []) := by
    intro g3 H locs R1 Ig3 hP hD hS
    exact hret g3 H locs 22 ls hP hS (by unfold relzM_disturb_2; exact ⟨g3, R1, rfl⟩) dzM_disturb_22
  refine lv_if_ne (pc := 6) (tgt := 22) hx hb dzM_disturb_6 (by decide) (fun h1 => ?_) (fun h1 => ?_)
  ·
    exact K1 g0 H locs (Eq.mpr (if_neg h1) rfl) (xk_cnt_le Ig0 (by omega)) hP hD hS
  ·
    refine lv_aload_n (pc := 9) hx hb dzM_disturb_9 rfl (lv_at hl 0 rfl) ?_
    refine xk_get (pc := 10) hx hb hts hown hK hP ffzM_23 0 rfl rfl dzM_disturb_10 ?_
    refine lv_iload_n (pc := 13) hx hb dzM_disturb_13 rfl (lv_at hl 1 rfl) ?_
    refine lv_iconst (v := 1) (pc := 14) hx hb dzM_disturb_14 (by decide) ?_
    refine xk_zast (q0 := 5) (t0 := 1) (j := 2) (pc := 15) hx hb hK hP hD hS rfl rfl (pk_in 2 6 (by decide)) (pk_cl 2) xk_b1 dzM_disturb_15 (fun H locs hP hD hS => ?_)
    obtain ⟨g1, eg1⟩ : ∃ z : xk_St, z = va_up g0 5 (upd (g0 5) 2 1) := ⟨_, rfl⟩
    have hP : va_P G xk_cls (xk_wM ad ac g1) H := by rw [eg1]; exact hP
    have hD : va_D A (xk_wM ad ac g1) := by rw [eg1]; exact hD
    have Ig1 : xk_cnt (B + 0) g1 := by rw [eg1]; repeat (first | exact Ig0 | refine xk_cnt_k (by decide) ?_ | refine xk_cnt_f (by decide) ?_ | refine xk_cnt_s ?_)
    refine lv_aload_n (pc := 16) hx hb dzM_disturb_16 rfl (lv_at hl 0 rfl) ?_
    refine lv_iconst (v := 1) (pc := 17) hx hb dzM_disturb_17 (by decide) ?_
    refine lv_iload_n (pc := 18) hx hb dzM_disturb_18 rfl (lv_at hl 1 rfl) ?_
    refine xk_allVV (As := [.int 1, .int 2]) (rest := []) (H0 := s.heap) (pc := 19) hx hb hml hts hown hK hA hP hD hS (kzM_note l G ac ad g1 1 2 (B + 0) Ig1 (by omega)) vfzM_106 (fun _ => rfl) 0 rfl rfl ⟨rfl, rfl⟩ ⟨Nat.le_of_ble_eq_true rfl, Nat.le_of_ble_eq_true rfl⟩ rfl hl.1 rfl (Nat.le_of_ble_eq_true rfl) ⟨Nat.zero_le _, Nat.zero_le _⟩ dzM_disturb_19 (fun g2 H locs hg2 hP hD hS => ?_)
    have hP : va_P G xk_cls (xk_wM ad ac g2) H := hP
    have hD : va_D A (xk_wM ad ac g2) := hD
    have Ig2 : xk_cnt (B + 1) g2 := xk_cnt_le (iczM_note (B + 0) _ _ _ _ hg2 Ig1) (by omega)
    exact K1 g2 H locs (Eq.mpr (if_pos h1) ⟨g1, eg1, ⟨g2, hg2, rfl⟩⟩) (xk_cnt_le Ig2 (by omega)) hP hD hS
theorem frzM_disturb_2 (g0 : xk_St) (gz : xk_St) : relzM_disturb_2 g0 gz → xk_eqv [1, 2, 3, 4, 6, 7, 8, 9, 10, 11, 12, 13, 14, 15, 16, 17, 18, 19, 20, 21, 22, 23, 24] g0 gz := by
  intro h
  unfold relzM_disturb_2 at h
  have s0 : xk_eqv [1, 2, 3, 4, 6, 7, 8, 9, 10, 11, 12, 13, 14, 15, 16, 17, 18, 19, 20, 21, 22, 23, 24] g0 g0 := xk_eqv_rf
  obtain ⟨g3, u1, v2⟩ := h
  have s3 : xk_eqv [1, 2, 3, 4, 6, 7, 8, 9, 10, 11, 12, 13, 14, 15, 16, 17, 18, 19, 20, 21, 22, 23, 24] g0 g3 := by
    by_cases hc : ((g0 5) 2) = 0
    · rw [if_pos hc] at u1
      obtain ⟨g1, u4, v5⟩ := u1
      have s6 : xk_eqv [1, 2, 3, 4, 6, 7, 8, 9, 10, 11, 12, 13, 14, 15, 16, 17, 18, 19, 20, 21, 22, 23, 24] g0 g1 := by rw [u4]; repeat (first | exact s0 | refine xk_eqv_up (by decide) ?_)
      obtain ⟨g2, u7, v8⟩ := v5
      have s9 : xk_eqv [1, 2, 3, 4, 6, 7, 8, 9, 10, 11, 12, 13, 14, 15, 16, 17, 18, 19, 20, 21, 22, 23, 24] g0 g2 := xk_eqv_tr s6 (xk_eqv_sub (frzM_note _ _ _ _ u7) (by decide))
      rw [v8]; exact s9
    · rw [if_neg hc] at u1
      rw [u1]; exact s0
  rw [v2]; exact s3
theorem iczM_disturb_2 (B : Nat) (g0 : xk_St) (gz : xk_St) : relzM_disturb_2 g0 gz → xk_cnt B g0 → xk_cnt (B + 1) gz := by
  intro h Ig0
  unfold relzM_disturb_2 at h
  have Ig0 : xk_cnt (B + 0) g0 := Ig0
  obtain ⟨g3, u1, v2⟩ := h
  have Ig3 : xk_cnt (B + 1) g3 := by
    by_cases hc : ((g0 5) 2) = 0
    · rw [if_pos hc] at u1
      obtain ⟨g1, u3, v4⟩ := u1
      have Ig1 : xk_cnt (B + 0) g1 := by rw [u3]; repeat (first | exact Ig0 | refine xk_cnt_k (by decide) ?_ | refine xk_cnt_f (by decide) ?_ | refine xk_cnt_s ?_)
      obtain ⟨g2, u5, v6⟩ := v4
      have Ig2 : xk_cnt (B + 1) g2 := xk_cnt_le (iczM_note (B + 0) _ _ _ _ u5 Ig1) (by omega)
      rw [v6]; exact xk_cnt_le Ig2 (by omega)
    · rw [if_neg hc] at u1
      rw [u1]; exact xk_cnt_le Ig0 (by omega)
  rw [v2]; exact xk_cnt_le Ig3 (by omega)

def relzM_disturb_3 (g0 : xk_St) (gz : xk_St) : Prop := ∃ (g3 : xk_St), (if ((g0 5) 3) = 0 then (∃ (g1 : xk_St), g1 = va_up g0 5 (upd (g0 5) 3 1) ∧ (∃ (g2 : xk_St), relzM_note g1 1 3 g2 ∧ (g3 = g2))) else (g3 = g0)) ∧ (gz = g3)
set_option maxHeartbeats 4000000 in
set_option maxRecDepth 100000 in
theorem kzM_disturb_3 (l : Launch) (G : va_G) (ac : Nat → ClassId) (ad : Nat → Nat) (g0 : xk_St) (B : Nat) (Ig0 : xk_cnt B g0) (hB : B + 2 < 2147483648) : xk_CV l yzM_disturb czM_disturb 2 xk_WS xk_r1 G xk_cls (xk_tys ac) [.ref (ad 0), .int 3] (xk_wM ad ac g0) (fun (gz : xk_St) => relzM_disturb_3 g0 gz) (fun gz => xk_wM ad ac gz) := by
  refine xk_ofV (by decide) (Nat.le_of_ble_eq_true rfl) ?_
  intro p e s m args below meth c A Q H locs ls C0 hret hP hD hS hl
  obtain ⟨hx, hb, hml, hts, hown, hK, hA⟩ := C0
  have hl : lv_has ls 2 [(0, .ref (ad 0)), (1, .int 3)] := hl
  have Ig0 : xk_cnt (B + 0) g0 := Ig0
  refine lv_aload_n (pc := 0) hx hb dzM_disturb_0 rfl (lv_at hl 0 rfl) ?_
  refine xk_get (pc := 1) hx hb hts hown hK hP ffzM_23 0 rfl rfl dzM_disturb_1 ?_
  refine lv_iload_n (pc := 4) hx hb dzM_disturb_4 rfl (lv_at hl 1 rfl) ?_
  refine xk_zald (q0 := 5) (t0 := 1) (j := 3) (pc := 5) hx hb hK hP rfl rfl (pk_in 3 6 (by decide)) (pk_cl 3) dzM_disturb_5 ?_
  have K1 : ∀ (g3 : xk_St) (H : Heap) (locs : List Loc), (if ((g0 5) 3) = 0 then (∃ (g1 : xk_St), g1 = va_up g0 5 (upd (g0 5) 3 1) ∧ (∃ (g2 : xk_St), relzM_note g1 1 3 g2 ∧ (g3 = g2))) else (g3 = g0)) → (xk_cnt (B + 1) g3) → (va_P G xk_cls (xk_wM ad ac g3) H) → (va_D A (xk_wM ad ac g3)) → (va_S A s.heap H locs) → W p l e xk_r1 s m args below meth c H locs 0 0 Q (F0 m 22 ls []) := by
    intro g3 H locs R1 Ig3 hP hD hS
    exact hret g3 H locs 22 ls hP hS (by unfold relzM_disturb_3; exact ⟨g3, R1, rfl⟩) dzM_disturb_22
  refine lv_if_ne (pc := 6) (tgt := 22) hx hb dzM_disturb_6 (by decide) (fun h1 => ?_) (fun h1 => ?_)
  ·
    exact K1 g0 H locs (Eq.mpr (if_neg h1) rfl) (xk_cnt_le Ig0 (by omega)) hP hD hS
  ·
    refine lv_aload_n (pc := 9) hx hb dzM_disturb_9 rfl (lv_at hl 0 rfl) ?_
    refine xk_get (pc := 10) hx hb hts hown hK hP ffzM_23 0 rfl rfl dzM_disturb_10 ?_
    refine lv_iload_n (pc := 13) hx hb dzM_disturb_13 rfl (lv_at hl 1 rfl) ?_
    refine lv_iconst (v := 1) (pc := 14) hx hb dzM_disturb_14 (by decide) ?_
    refine xk_zast (q0 := 5) (t0 := 1) (j := 3) (pc := 15) hx hb hK hP hD hS rfl rfl (pk_in 3 6 (by decide)) (pk_cl 3) xk_b1 dzM_disturb_15 (fun H locs hP hD hS => ?_)
    obtain ⟨g1, eg1⟩ : ∃ z : xk_St, z = va_up g0 5 (upd (g0 5) 3 1) := ⟨_, rfl⟩
    have hP : va_P G xk_cls (xk_wM ad ac g1) H := by rw [eg1]; exact hP
    have hD : va_D A (xk_wM ad ac g1) := by rw [eg1]; exact hD
    have Ig1 : xk_cnt (B + 0) g1 := by rw [eg1]; repeat (first | exact Ig0 | refine xk_cnt_k (by decide) ?_ | refine xk_cnt_f (by decide) ?_ | refine xk_cnt_s ?_)
    refine lv_aload_n (pc := 16) hx hb dzM_disturb_16 rfl (lv_at hl 0 rfl) ?_
    refine lv_iconst (v := 1) (pc := 17) hx hb dzM_disturb_17 (by decide) ?_
    refine lv_iload_n (pc := 18) hx hb dzM_disturb_18 rfl (lv_at hl 1 rfl) ?_
    refine xk_allVV (As := [.int 1, .int 3]) (rest := []) (H0 := s.heap) (pc := 19) hx hb hml hts hown hK hA hP hD hS (kzM_note l G ac ad g1 1 3 (B + 0) Ig1 (by omega)) vfzM_106 (fun _ => rfl) 0 rfl rfl ⟨rfl, rfl⟩ ⟨Nat.le_of_ble_eq_true rfl, Nat.le_of_ble_eq_true rfl⟩ rfl hl.1 rfl (Nat.le_of_ble_eq_true rfl) ⟨Nat.zero_le _, Nat.zero_le _⟩ dzM_disturb_19 (fun g2 H locs hg2 hP hD hS => ?_)
    have hP : va_P G xk_cls (xk_wM ad ac g2) H := hP
    have hD : va_D A (xk_wM ad ac g2) := hD
    have Ig2 : xk_cnt (B + 1) g2 := xk_cnt_le (iczM_note (B + 0) _ _ _ _ hg2 Ig1) (by omega)
    exact K1 g2 H locs (Eq.mpr (if_pos h1) ⟨g1, eg1, ⟨g2, hg2, rfl⟩⟩) (xk_cnt_le Ig2 (by omega)) hP hD hS
theorem frzM_disturb_3 (g0 : xk_St) (gz : xk_St) : relzM_disturb_3 g0 gz → xk_eqv [1, 2, 3, 4, 6, 7, 8, 9, 10, 11, 12, 13, 14, 15, 16, 17, 18, 19, 20, 21, 22, 23, 24] g0 gz := by
  intro h
  unfold relzM_disturb_3 at h
  have s0 : xk_eqv [1, 2, 3, 4, 6, 7, 8, 9, 10, 11, 12, 13, 14, 15, 16, 17, 18, 19, 20, 21, 22, 23, 24] g0 g0 := xk_eqv_rf
  obtain ⟨g3, u1, v2⟩ := h
  have s3 : xk_eqv [1, 2, 3, 4, 6, 7, 8, 9, 10, 11, 12, 13, 14, 15, 16, 17, 18, 19, 20, 21, 22, 23, 24] g0 g3 := by
    by_cases hc : ((g0 5) 3) = 0
    · rw [if_pos hc] at u1
      obtain ⟨g1, u4, v5⟩ := u1
      have s6 : xk_eqv [1, 2, 3, 4, 6, 7, 8, 9, 10, 11, 12, 13, 14, 15, 16, 17, 18, 19, 20, 21, 22, 23, 24] g0 g1 := by rw [u4]; repeat (first | exact s0 | refine xk_eqv_up (by decide) ?_)
      obtain ⟨g2, u7, v8⟩ := v5
      have s9 : xk_eqv [1, 2, 3, 4, 6, 7, 8, 9, 10, 11, 12, 13, 14, 15, 16, 17, 18, 19, 20, 21, 22, 23, 24] g0 g2 := xk_eqv_tr s6 (xk_eqv_sub (frzM_note _ _ _ _ u7) (by decide))
      rw [v8]; exact s9
    · rw [if_neg hc] at u1
      rw [u1]; exact s0
  rw [v2]; exact s3
theorem iczM_disturb_3 (B : Nat) (g0 : xk_St) (gz : xk_St) : relzM_disturb_3 g0 gz → xk_cnt B g0 → xk_cnt (B + 1) gz := by
  intro h Ig0
  unfold relzM_disturb_3 at h
  have Ig0 : xk_cnt (B + 0) g0 := Ig0
  obtain ⟨g3, u1, v2⟩ := h
  have Ig3 : xk_cnt (B + 1) g3 := by
    by_cases hc : ((g0 5) 3) = 0
    · rw [if_pos hc] at u1
      obtain ⟨g1, u3, v4⟩ := u1
      have Ig1 : xk_cnt (B + 0) g1 := by rw [u3]; repeat (first | exact Ig0 | refine xk_cnt_k (by decide) ?_ | refine xk_cnt_f (by decide) ?_ | refine xk_cnt_s ?_)
      obtain ⟨g2, u5, v6⟩ := v4
      have Ig2 : xk_cnt (B + 1) g2 := xk_cnt_le (iczM_note (B + 0) _ _ _ _ u5 Ig1) (by omega)
      rw [v6]; exact xk_cnt_le Ig2 (by omega)
    · rw [if_neg hc] at u1
      rw [u1]; exact xk_cnt_le Ig0 (by omega)
  rw [v2]; exact xk_cnt_le Ig3 (by omega)

def relzM_disturb_4 (g0 : xk_St) (gz : xk_St) : Prop := ∃ (g3 : xk_St), (if ((g0 5) 4) = 0 then (∃ (g1 : xk_St), g1 = va_up g0 5 (upd (g0 5) 4 1) ∧ (∃ (g2 : xk_St), relzM_note g1 1 4 g2 ∧ (g3 = g2))) else (g3 = g0)) ∧ (gz = g3)
set_option maxHeartbeats 4000000 in
set_option maxRecDepth 100000 in
theorem kzM_disturb_4 (l : Launch) (G : va_G) (ac : Nat → ClassId) (ad : Nat → Nat) (g0 : xk_St) (B : Nat) (Ig0 : xk_cnt B g0) (hB : B + 2 < 2147483648) : xk_CV l yzM_disturb czM_disturb 2 xk_WS xk_r1 G xk_cls (xk_tys ac) [.ref (ad 0), .int 4] (xk_wM ad ac g0) (fun (gz : xk_St) => relzM_disturb_4 g0 gz) (fun gz => xk_wM ad ac gz) := by
  refine xk_ofV (by decide) (Nat.le_of_ble_eq_true rfl) ?_
  intro p e s m args below meth c A Q H locs ls C0 hret hP hD hS hl
  obtain ⟨hx, hb, hml, hts, hown, hK, hA⟩ := C0
  have hl : lv_has ls 2 [(0, .ref (ad 0)), (1, .int 4)] := hl
  have Ig0 : xk_cnt (B + 0) g0 := Ig0
  refine lv_aload_n (pc := 0) hx hb dzM_disturb_0 rfl (lv_at hl 0 rfl) ?_
  refine xk_get (pc := 1) hx hb hts hown hK hP ffzM_23 0 rfl rfl dzM_disturb_1 ?_
  refine lv_iload_n (pc := 4) hx hb dzM_disturb_4 rfl (lv_at hl 1 rfl) ?_
  refine xk_zald (q0 := 5) (t0 := 1) (j := 4) (pc := 5) hx hb hK hP rfl rfl (pk_in 4 6 (by decide)) (pk_cl 4) dzM_disturb_5 ?_
  have K1 : ∀ (g3 : xk_St) (H : Heap) (locs : List Loc), (if ((g0 5) 4) = 0 then (∃ (g1 : xk_St), g1 = va_up g0 5 (upd (g0 5) 4 1) ∧ (∃ (g2 : xk_St), relzM_note g1 1 4 g2 ∧ (g3 = g2))) else (g3 = g0)) → (xk_cnt (B + 1) g3) → (va_P G xk_cls (xk_wM ad ac g3) H) → (va_D A (xk_wM ad ac g3)) → (va_S A s.heap H locs) → W p l e xk_r1 s m args below meth c H locs 0 0 Q (F0 m 22 ls []) := by
    intro g3 H locs R1 Ig3 hP hD hS
    exact hret g3 H locs 22 ls hP hS (by unfold relzM_disturb_4; exact ⟨g3, R1, rfl⟩) dzM_disturb_22
  refine lv_if_ne (pc := 6) (tgt := 22) hx hb dzM_disturb_6 (by decide) (fun h1 => ?_) (fun h1 => ?_)
  ·
    exact K1 g0 H locs (Eq.mpr (if_neg h1) rfl) (xk_cnt_le Ig0 (by omega)) hP hD hS
  ·
    refine lv_aload_n (pc := 9) hx hb dzM_disturb_9 rfl (lv_at hl 0 rfl) ?_
    refine xk_get (pc := 10) hx hb hts hown hK hP ffzM_23 0 rfl rfl dzM_disturb_10 ?_
    refine lv_iload_n (pc := 13) hx hb dzM_disturb_13 rfl (lv_at hl 1 rfl) ?_
    refine lv_iconst (v := 1) (pc := 14) hx hb dzM_disturb_14 (by decide) ?_
    refine xk_zast (q0 := 5) (t0 := 1) (j := 4) (pc := 15) hx hb hK hP hD hS rfl rfl (pk_in 4 6 (by decide)) (pk_cl 4) xk_b1 dzM_disturb_15 (fun H locs hP hD hS => ?_)
    obtain ⟨g1, eg1⟩ : ∃ z : xk_St, z = va_up g0 5 (upd (g0 5) 4 1) := ⟨_, rfl⟩
    have hP : va_P G xk_cls (xk_wM ad ac g1) H := by rw [eg1]; exact hP
    have hD : va_D A (xk_wM ad ac g1) := by rw [eg1]; exact hD
    have Ig1 : xk_cnt (B + 0) g1 := by rw [eg1]; repeat (first | exact Ig0 | refine xk_cnt_k (by decide) ?_ | refine xk_cnt_f (by decide) ?_ | refine xk_cnt_s ?_)
    refine lv_aload_n (pc := 16) hx hb dzM_disturb_16 rfl (lv_at hl 0 rfl) ?_
    refine lv_iconst (v := 1) (pc := 17) hx hb dzM_disturb_17 (by decide) ?_
    refine lv_iload_n (pc := 18) hx hb dzM_disturb_18 rfl (lv_at hl 1 rfl) ?_
    refine xk_allVV (As := [.int 1, .int 4]) (rest := []) (H0 := s.heap) (pc := 19) hx hb hml hts hown hK hA hP hD hS (kzM_note l G ac ad g1 1 4 (B + 0) Ig1 (by omega)) vfzM_106 (fun _ => rfl) 0 rfl rfl ⟨rfl, rfl⟩ ⟨Nat.le_of_ble_eq_true rfl, Nat.le_of_ble_eq_true rfl⟩ rfl hl.1 rfl (Nat.le_of_ble_eq_true rfl) ⟨Nat.zero_le _, Nat.zero_le _⟩ dzM_disturb_19 (fun g2 H locs hg2 hP hD hS => ?_)
    have hP : va_P G xk_cls (xk_wM ad ac g2) H := hP
    have hD : va_D A (xk_wM ad ac g2) := hD
    have Ig2 : xk_cnt (B + 1) g2 := xk_cnt_le (iczM_note (B + 0) _ _ _ _ hg2 Ig1) (by omega)
    exact K1 g2 H locs (Eq.mpr (if_pos h1) ⟨g1, eg1, ⟨g2, hg2, rfl⟩⟩) (xk_cnt_le Ig2 (by omega)) hP hD hS
theorem frzM_disturb_4 (g0 : xk_St) (gz : xk_St) : relzM_disturb_4 g0 gz → xk_eqv [1, 2, 3, 4, 6, 7, 8, 9, 10, 11, 12, 13, 14, 15, 16, 17, 18, 19, 20, 21, 22, 23, 24] g0 gz := by
  intro h
  unfold relzM_disturb_4 at h
  have s0 : xk_eqv [1, 2, 3, 4, 6, 7, 8, 9, 10, 11, 12, 13, 14, 15, 16, 17, 18, 19, 20, 21, 22, 23, 24] g0 g0 := xk_eqv_rf
  obtain ⟨g3, u1, v2⟩ := h
  have s3 : xk_eqv [1, 2, 3, 4, 6, 7, 8, 9, 10, 11, 12, 13, 14, 15, 16, 17, 18, 19, 20, 21, 22, 23, 24] g0 g3 := by
    by_cases hc : ((g0 5) 4) = 0
    · rw [if_pos hc] at u1
      obtain ⟨g1, u4, v5⟩ := u1
      have s6 : xk_eqv [1, 2, 3, 4, 6, 7, 8, 9, 10, 11, 12, 13, 14, 15, 16, 17, 18, 19, 20, 21, 22, 23, 24] g0 g1 := by rw [u4]; repeat (first | exact s0 | refine xk_eqv_up (by decide) ?_)
      obtain ⟨g2, u7, v8⟩ := v5
      have s9 : xk_eqv [1, 2, 3, 4, 6, 7, 8, 9, 10, 11, 12, 13, 14, 15, 16, 17, 18, 19, 20, 21, 22, 23, 24] g0 g2 := xk_eqv_tr s6 (xk_eqv_sub (frzM_note _ _ _ _ u7) (by decide))
      rw [v8]; exact s9
    · rw [if_neg hc] at u1
      rw [u1]; exact s0
  rw [v2]; exact s3
theorem iczM_disturb_4 (B : Nat) (g0 : xk_St) (gz : xk_St) : relzM_disturb_4 g0 gz → xk_cnt B g0 → xk_cnt (B + 1) gz := by
  intro h Ig0
  unfold relzM_disturb_4 at h
  have Ig0 : xk_cnt (B + 0) g0 := Ig0
  obtain ⟨g3, u1, v2⟩ := h
  have Ig3 : xk_cnt (B + 1) g3 := by
    by_cases hc : ((g0 5) 4) = 0
    · rw [if_pos hc] at u1
      obtain ⟨g1, u3, v4⟩ := u1
      have Ig1 : xk_cnt (B + 0) g1 := by rw [u3]; repeat (first | exact Ig0 | refine xk_cnt_k (by decide) ?_ | refine xk_cnt_f (by decide) ?_ | refine xk_cnt_s ?_)
      obtain ⟨g2, u5, v6⟩ := v4
      have Ig2 : xk_cnt (B + 1) g2 := xk_cnt_le (iczM_note (B + 0) _ _ _ _ u5 Ig1) (by omega)
      rw [v6]; exact xk_cnt_le Ig2 (by omega)
    · rw [if_neg hc] at u1
      rw [u1]; exact xk_cnt_le Ig0 (by omega)
  rw [v2]; exact xk_cnt_le Ig3 (by omega)

def relzM_disturb_5 (g0 : xk_St) (gz : xk_St) : Prop := ∃ (g3 : xk_St), (if ((g0 5) 5) = 0 then (∃ (g1 : xk_St), g1 = va_up g0 5 (upd (g0 5) 5 1) ∧ (∃ (g2 : xk_St), relzM_note g1 1 5 g2 ∧ (g3 = g2))) else (g3 = g0)) ∧ (gz = g3)
set_option maxHeartbeats 4000000 in
set_option maxRecDepth 100000 in
theorem kzM_disturb_5 (l : Launch) (G : va_G) (ac : Nat → ClassId) (ad : Nat → Nat) (g0 : xk_St) (B : Nat) (Ig0 : xk_cnt B g0) (hB : B + 2 < 2147483648) : xk_CV l yzM_disturb czM_disturb 2 xk_WS xk_r1 G xk_cls (xk_tys ac) [.ref (ad 0), .int 5] (xk_wM ad ac g0) (fun (gz : xk_St) => relzM_disturb_5 g0 gz) (fun gz => xk_wM ad ac gz) := by
  refine xk_ofV (by decide) (Nat.le_of_ble_eq_true rfl) ?_
  intro p e s m args below meth c A Q H locs ls C0 hret hP hD hS hl
  obtain ⟨hx, hb, hml, hts, hown, hK, hA⟩ := C0
  have hl : lv_has ls 2 [(0, .ref (ad 0)), (1, .int 5)] := hl
  have Ig0 : xk_cnt (B + 0) g0 := Ig0
  refine lv_aload_n (pc := 0) hx hb dzM_disturb_0 rfl (lv_at hl 0 rfl) ?_
  refine xk_get (pc := 1) hx hb hts hown hK hP ffzM_23 0 rfl rfl dzM_disturb_1 ?_
  refine lv_iload_n (pc := 4) hx hb dzM_disturb_4 rfl (lv_at hl 1 rfl) ?_
  refine xk_zald (q0 := 5) (t0 := 1) (j := 5) (pc := 5) hx hb hK hP rfl rfl (pk_in 5 6 (by decide)) (pk_cl 5) dzM_disturb_5 ?_
  have K1 : ∀ (g3 : xk_St) (H : Heap) (locs : List Loc), (if ((g0 5) 5) = 0 then (∃ (g1 : xk_St), g1 = va_up g0 5 (upd (g0 5) 5 1) ∧ (∃ (g2 : xk_St), relzM_note g1 1 5 g2 ∧ (g3 = g2))) else (g3 = g0)) → (xk_cnt (B + 1) g3) → (va_P G xk_cls (xk_wM ad ac g3) H) → (va_D A (xk_wM ad ac g3)) → (va_S A s.heap H locs) → W p l e xk_r1 s m args below meth c H locs 0 0 Q (F0 m 22 ls []) := by
    intro g3 H locs R1 Ig3 hP hD hS
    exact hret g3 H locs 22 ls hP hS (by unfold relzM_disturb_5; exact ⟨g3, R1, rfl⟩) dzM_disturb_22
  refine lv_if_ne (pc := 6) (tgt := 22) hx hb dzM_disturb_6 (by decide) (fun h1 => ?_) (fun h1 => ?_)
  ·
    exact K1 g0 H locs (Eq.mpr (if_neg h1) rfl) (xk_cnt_le Ig0 (by omega)) hP hD hS
  ·
    refine lv_aload_n (pc := 9) hx hb dzM_disturb_9 rfl (lv_at hl 0 rfl) ?_
    refine xk_get (pc := 10) hx hb hts hown hK hP ffzM_23 0 rfl rfl dzM_disturb_10 ?_
    refine lv_iload_n (pc := 13) hx hb dzM_disturb_13 rfl (lv_at hl 1 rfl) ?_
    refine lv_iconst (v := 1) (pc := 14) hx hb dzM_disturb_14 (by decide) ?_
    refine xk_zast (q0 := 5) (t0 := 1) (j := 5) (pc := 15) hx hb hK hP hD hS rfl rfl (pk_in 5 6 (by decide)) (pk_cl 5) xk_b1 dzM_disturb_15 (fun H locs hP hD hS => ?_)
    obtain ⟨g1, eg1⟩ : ∃ z : xk_St, z = va_up g0 5 (upd (g0 5) 5 1) := ⟨_, rfl⟩
    have hP : va_P G xk_cls (xk_wM ad ac g1) H := by rw [eg1]; exact hP
    have hD : va_D A (xk_wM ad ac g1) := by rw [eg1]; exact hD
    have Ig1 : xk_cnt (B + 0) g1 := by rw [eg1]; repeat (first | exact Ig0 | refine xk_cnt_k (by decide) ?_ | refine xk_cnt_f (by decide) ?_ | refine xk_cnt_s ?_)
    refine lv_aload_n (pc := 16) hx hb dzM_disturb_16 rfl (lv_at hl 0 rfl) ?_
    refine lv_iconst (v := 1) (pc := 17) hx hb dzM_disturb_17 (by decide) ?_
    refine lv_iload_n (pc := 18) hx hb dzM_disturb_18 rfl (lv_at hl 1 rfl) ?_
    refine xk_allVV (As := [.int 1, .int 5]) (rest := []) (H0 := s.heap) (pc := 19) hx hb hml hts hown hK hA hP hD hS (kzM_note l G ac ad g1 1 5 (B + 0) Ig1 (by omega)) vfzM_106 (fun _ => rfl) 0 rfl rfl ⟨rfl, rfl⟩ ⟨Nat.le_of_ble_eq_true rfl, Nat.le_of_ble_eq_true rfl⟩ rfl hl.1 rfl (Nat.le_of_ble_eq_true rfl) ⟨Nat.zero_le _, Nat.zero_le _⟩ dzM_disturb_19 (fun g2 H locs hg2 hP hD hS => ?_)
    have hP : va_P G xk_cls (xk_wM ad ac g2) H := hP
    have hD : va_D A (xk_wM ad ac g2) := hD
    have Ig2 : xk_cnt (B + 1) g2 := xk_cnt_le (iczM_note (B + 0) _ _ _ _ hg2 Ig1) (by omega)
    exact K1 g2 H locs (Eq.mpr (if_pos h1) ⟨g1, eg1, ⟨g2, hg2, rfl⟩⟩) (xk_cnt_le Ig2 (by omega)) hP hD hS
theorem frzM_disturb_5 (g0 : xk_St) (gz : xk_St) : relzM_disturb_5 g0 gz → xk_eqv [1, 2, 3, 4, 6, 7, 8, 9, 10, 11, 12, 13, 14, 15, 16, 17, 18, 19, 20, 21, 22, 23, 24] g0 gz := by
  intro h
  unfold relzM_disturb_5 at h
  have s0 : xk_eqv [1, 2, 3, 4, 6, 7, 8, 9, 10, 11, 12, 13, 14, 15, 16, 17, 18, 19, 20, 21, 22, 23, 24] g0 g0 := xk_eqv_rf
  obtain ⟨g3, u1, v2⟩ := h
  have s3 : xk_eqv [1, 2, 3, 4, 6, 7, 8, 9, 10, 11, 12, 13, 14, 15, 16, 17, 18, 19, 20, 21, 22, 23, 24] g0 g3 := by
    by_cases hc : ((g0 5) 5) = 0
    · rw [if_pos hc] at u1
      obtain ⟨g1, u4, v5⟩ := u1
      have s6 : xk_eqv [1, 2, 3, 4, 6, 7, 8, 9, 10, 11, 12, 13, 14, 15, 16, 17, 18, 19, 20, 21, 22, 23, 24] g0 g1 := by rw [u4]; repeat (first | exact s0 | refine xk_eqv_up (by decide) ?_)
      obtain ⟨g2, u7, v8⟩ := v5
      have s9 : xk_eqv [1, 2, 3, 4, 6, 7, 8, 9, 10, 11, 12, 13, 14, 15, 16, 17, 18, 19, 20, 21, 22, 23, 24] g0 g2 := xk_eqv_tr s6 (xk_eqv_sub (frzM_note _ _ _ _ u7) (by decide))
      rw [v8]; exact s9
    · rw [if_neg hc] at u1
      rw [u1]; exact s0
  rw [v2]; exact s3
theorem iczM_disturb_5 (B : Nat) (g0 : xk_St) (gz : xk_St) : relzM_disturb_5 g0 gz → xk_cnt B g0 → xk_cnt (B + 1) gz := by
  intro h Ig0
  unfold relzM_disturb_5 at h
  have Ig0 : xk_cnt (B + 0) g0 := Ig0
  obtain ⟨g3, u1, v2⟩ := h
  have Ig3 : xk_cnt (B + 1) g3 := by
    by_cases hc : ((g0 5) 5) = 0
    · rw [if_pos hc] at u1
      obtain ⟨g1, u3, v4⟩ := u1
      have Ig1 : xk_cnt (B + 0) g1 := by rw [u3]; repeat (first | exact Ig0 | refine xk_cnt_k (by decide) ?_ | refine xk_cnt_f (by decide) ?_ | refine xk_cnt_s ?_)
      obtain ⟨g2, u5, v6⟩ := v4
      have Ig2 : xk_cnt (B + 1) g2 := xk_cnt_le (iczM_note (B + 0) _ _ _ _ u5 Ig1) (by omega)
      rw [v6]; exact xk_cnt_le Ig2 (by omega)
    · rw [if_neg hc] at u1
      rw [u1]; exact xk_cnt_le Ig0 (by omega)
  rw [v2]; exact xk_cnt_le Ig3 (by omega)

def relzM_change_0 (g0 : xk_St) (k1 : Int32) (gz : xk_St) : Prop := ∃ (g1 : xk_St), g1 = va_up g0 3 (upd (g0 3) 0 (((g0 3) 0) + k1)) ∧ (∃ (g4 : xk_St), (if ((g1 3) 0) < 0 then (∃ (g2 : xk_St), relzM_disturb_0 g1 g2 ∧ (g4 = g2)) else (if ((g1 3) 0) ≤ 400 then (g4 = g1) else (∃ (g3 : xk_St), relzM_disturb_0 g1 g3 ∧ (g4 = g3)))) ∧ (gz = g4))
set_option maxHeartbeats 4000000 in
set_option maxRecDepth 100000 in
theorem kzM_change_0 (l : Launch) (G : va_G) (ac : Nat → ClassId) (ad : Nat → Nat) (g0 : xk_St) (k1 : Int32) (B : Nat) (Ig0 : xk_cnt B g0) (hB : B + 2 < 2147483648) : xk_CV l yzM_change czM_change 3 xk_WS xk_r2 G xk_cls (xk_tys ac) [.ref (ad 0), .int 0, .int k1] (xk_wM ad ac g0) (fun (gz : xk_St) => relzM_change_0 g0 k1 gz) (fun gz => xk_wM ad ac gz) := by
  refine xk_ofV (by decide) (Nat.le_of_ble_eq_true rfl) ?_
  intro p e s m args below meth c A Q H locs ls C0 hret hP hD hS hl
  obtain ⟨hx, hb, hml, hts, hown, hK, hA⟩ := C0
  have hl : lv_has ls 3 [(0, .ref (ad 0)), (1, .int 0), (2, .int k1)] := hl
  have Ig0 : xk_cnt (B + 0) g0 := Ig0
  refine lv_aload_n (pc := 0) hx hb dzM_change_0 rfl (lv_at hl 0 rfl) ?_
  refine xk_get (pc := 1) hx hb hts hown hK hP ffzM_17 0 rfl rfl dzM_change_1 ?_
  refine lv_iload_n (pc := 4) hx hb dzM_change_4 rfl (lv_at hl 1 rfl) ?_
  refine lv_aload_n (pc := 5) hx hb dzM_change_5 rfl (lv_at hl 0 rfl) ?_
  refine xk_get (pc := 6) hx hb hts hown hK hP ffzM_17 0 rfl rfl dzM_change_6 ?_
  refine lv_iload_n (pc := 9) hx hb dzM_change_9 rfl (lv_at hl 1 rfl) ?_
  refine xk_iald (q0 := 3) (t0 := 0) (j := 0) (pc := 10) hx hb hK hP rfl rfl (pk_in 0 6 (by decide)) (pk_cl 0) dzM_change_10 ?_
  refine lv_iload_n (pc := 11) hx hb dzM_change_11 rfl (lv_at hl 2 rfl) ?_
  refine lv_iadd (pc := 12) hx hb dzM_change_12 ?_
  refine xk_iast (q0 := 3) (t0 := 0) (j := 0) (pc := 13) hx hb hK hP hD hS rfl rfl (pk_in 0 6 (by decide)) (pk_cl 0) dzM_change_13 (fun H locs hP hD hS => ?_)
  obtain ⟨g1, eg1⟩ : ∃ z : xk_St, z = va_up g0 3 (upd (g0 3) 0 (((g0 3) 0) + k1)) := ⟨_, rfl⟩
  have hP : va_P G xk_cls (xk_wM ad ac g1) H := by rw [eg1]; exact hP
  have hD : va_D A (xk_wM ad ac g1) := by rw [eg1]; exact hD
  have Ig1 : xk_cnt (B + 0) g1 := by rw [eg1]; repeat (first | exact Ig0 | refine xk_cnt_k (by decide) ?_ | refine xk_cnt_f (by decide) ?_ | refine xk_cnt_s ?_)
  refine lv_aload_n (pc := 14) hx hb dzM_change_14 rfl (lv_at hl 0 rfl) ?_
  refine xk_get (pc := 15) hx hb hts hown hK hP ffzM_17 0 rfl rfl dzM_change_15 ?_
  refine lv_iload_n (pc := 18) hx hb dzM_change_18 rfl (lv_at hl 1 rfl) ?_
  refine xk_iald (q0 := 3) (t0 := 0) (j := 0) (pc := 19) hx hb hK hP rfl rfl (pk_in 0 6 (by decide)) (pk_cl 0) dzM_change_19 ?_
  have K1 : ∀ (g4 : xk_St) (H : Heap) (locs : List Loc), (if ((g1 3) 0) < 0 then (∃ (g2 : xk_St), relzM_disturb_0 g1 g2 ∧ (g4 = g2)) else (if ((g1 3) 0) ≤ 400 then (g4 = g1) else (∃ (g3 : xk_St), relzM_disturb_0 g1 g3 ∧ (g4 = g3)))) → (xk_cnt (B + 1) g4) → (va_P G xk_cls (xk_wM ad ac g4) H) → (va_D A (xk_wM ad ac g4)) → (va_S A s.heap H locs) → W p l e xk_r2 s m args below meth c H locs 0 0 Q (F0 m 40 ls []) := by
    intro g4 H locs R1 Ig4 hP hD hS
    exact hret g4 H locs 40 ls hP hS (by unfold relzM_change_0; exact ⟨g1, eg1, ⟨g4, R1, rfl⟩⟩) dzM_change_40
  refine lv_if_lt (pc := 20) (tgt := 35) hx hb dzM_change_20 (by decide) (fun h1 => ?_) (fun h1 => ?_)
  ·
    refine lv_aload_n (pc := 35) hx hb dzM_change_35 rfl (lv_at hl 0 rfl) ?_
    refine lv_iload_n (pc := 36) hx hb dzM_change_36 rfl (lv_at hl 1 rfl) ?_
    refine xk_allVV (As := [.int 0]) (rest := []) (H0 := s.heap) (pc := 37) hx hb hml hts hown hK hA hP hD hS (kzM_disturb_0 l G ac ad g1 (B + 0) Ig1 (by omega)) vfzM_118 (fun _ => rfl) 0 rfl rfl ⟨rfl, rfl⟩ ⟨Nat.le_of_ble_eq_true rfl, Nat.le_of_ble_eq_true rfl⟩ rfl hl.1 rfl (Nat.le_of_ble_eq_true rfl) ⟨Nat.zero_le _, Nat.zero_le _⟩ dzM_change_37 (fun g2 H locs hg2 hP hD hS => ?_)
    have hP : va_P G xk_cls (xk_wM ad ac g2) H := hP
    have hD : va_D A (xk_wM ad ac g2) := hD
    have Ig2 : xk_cnt (B + 1) g2 := xk_cnt_le (iczM_disturb_0 (B + 0) _ _ hg2 Ig1) (by omega)
    exact K1 g2 H locs (Eq.mpr (if_pos h1) ⟨g2, hg2, rfl⟩) (xk_cnt_le Ig2 (by omega)) hP hD hS
  ·
    refine lv_aload_n (pc := 23) hx hb dzM_change_23 rfl (lv_at hl 0 rfl) ?_
    refine xk_get (pc := 24) hx hb hts hown hK hP ffzM_17 0 rfl rfl dzM_change_24 ?_
    refine lv_iload_n (pc := 27) hx hb dzM_change_27 rfl (lv_at hl 1 rfl) ?_
    refine xk_iald (q0 := 3) (t0 := 0) (j := 0) (pc := 28) hx hb hK hP rfl rfl (pk_in 0 6 (by decide)) (pk_cl 0) dzM_change_28 ?_
    refine lv_sipush (v := 400) (pc := 29) hx hb dzM_change_29 (by decide) ?_
    refine lv_icmp_le (pc := 32) (tgt := 40) hx hb dzM_change_32 (by decide) (fun h2 => ?_) (fun h2 => ?_)
    ·
      exact K1 g1 H locs (Eq.mpr (if_neg h1) (Eq.mpr (if_pos h2) rfl)) (xk_cnt_le Ig1 (by omega)) hP hD hS
    ·
      refine lv_aload_n (pc := 35) hx hb dzM_change_35 rfl (lv_at hl 0 rfl) ?_
      refine lv_iload_n (pc := 36) hx hb dzM_change_36 rfl (lv_at hl 1 rfl) ?_
      refine xk_allVV (As := [.int 0]) (rest := []) (H0 := s.heap) (pc := 37) hx hb hml hts hown hK hA hP hD hS (kzM_disturb_0 l G ac ad g1 (B + 0) Ig1 (by omega)) vfzM_118 (fun _ => rfl) 0 rfl rfl ⟨rfl, rfl⟩ ⟨Nat.le_of_ble_eq_true rfl, Nat.le_of_ble_eq_true rfl⟩ rfl hl.1 rfl (Nat.le_of_ble_eq_true rfl) ⟨Nat.zero_le _, Nat.zero_le _⟩ dzM_change_37 (fun g3 H locs hg3 hP hD hS => ?_)
      have hP : va_P G xk_cls (xk_wM ad ac g3) H := hP
      have hD : va_D A (xk_wM ad ac g3) := hD
      have Ig3 : xk_cnt (B + 1) g3 := xk_cnt_le (iczM_disturb_0 (B + 0) _ _ hg3 Ig1) (by omega)
      exact K1 g3 H locs (Eq.mpr (if_neg h1) (Eq.mpr (if_neg h2) ⟨g3, hg3, rfl⟩)) (xk_cnt_le Ig3 (by omega)) hP hD hS
theorem frzM_change_0 (g0 : xk_St) (k1 : Int32) (gz : xk_St) : relzM_change_0 g0 k1 gz → xk_eqv [1, 2, 4, 6, 7, 8, 9, 10, 11, 12, 13, 14, 15, 16, 17, 18, 19, 20, 21, 22, 23, 24] g0 gz := by
  intro h
  unfold relzM_change_0 at h
  have s0 : xk_eqv [1, 2, 4, 6, 7, 8, 9, 10, 11, 12, 13, 14, 15, 16, 17, 18, 19, 20, 21, 22, 23, 24] g0 g0 := xk_eqv_rf
  obtain ⟨g1, u1, v2⟩ := h
  have s3 : xk_eqv [1, 2, 4, 6, 7, 8, 9, 10, 11, 12, 13, 14, 15, 16, 17, 18, 19, 20, 21, 22, 23, 24] g0 g1 := by rw [u1]; repeat (first | exact s0 | refine xk_eqv_up (by decide) ?_)
  obtain ⟨g4, u4, v5⟩ := v2
  have s6 : xk_eqv [1, 2, 4, 6, 7, 8, 9, 10, 11, 12, 13, 14, 15, 16, 17, 18, 19, 20, 21, 22, 23, 24] g0 g4 := by
    by_cases hc : ((g1 3) 0) < 0
    · rw [if_pos hc] at u4
      obtain ⟨g2, u7, v8⟩ := u4
      have s9 : xk_eqv [1, 2, 4, 6, 7, 8, 9, 10, 11, 12, 13, 14, 15, 16, 17, 18, 19, 20, 21, 22, 23, 24] g0 g2 := xk_eqv_tr s3 (xk_eqv_sub (frzM_disturb_0 _ _ u7) (by decide))
      rw [v8]; exact s9
    · rw [if_neg hc] at u4
      by_cases hc : ((g1 3) 0) ≤ 400
      · rw [if_pos hc] at u4
        rw [u4]; exact s3
      · rw [if_neg hc] at u4
        obtain ⟨g3, u10, v11⟩ := u4
        have s12 : xk_eqv [1, 2, 4, 6, 7, 8, 9, 10, 11, 12, 13, 14, 15, 16, 17, 18, 19, 20, 21, 22, 23, 24] g0 g3 := xk_eqv_tr s3 (xk_eqv_sub (frzM_disturb_0 _ _ u10) (by decide))
        rw [v11]; exact s12
  rw [v5]; exact s6
theorem iczM_change_0 (B : Nat) (g0 : xk_St) (k1 : Int32) (gz : xk_St) : relzM_change_0 g0 k1 gz → xk_cnt B g0 → xk_cnt (B + 1) gz := by
  intro h Ig0
  unfold relzM_change_0 at h
  have Ig0 : xk_cnt (B + 0) g0 := Ig0
  obtain ⟨g1, u1, v2⟩ := h
  have Ig1 : xk_cnt (B + 0) g1 := by rw [u1]; repeat (first | exact Ig0 | refine xk_cnt_k (by decide) ?_ | refine xk_cnt_f (by decide) ?_ | refine xk_cnt_s ?_)
  obtain ⟨g4, u3, v4⟩ := v2
  have Ig4 : xk_cnt (B + 1) g4 := by
    by_cases hc : ((g1 3) 0) < 0
    · rw [if_pos hc] at u3
      obtain ⟨g2, u5, v6⟩ := u3
      have Ig2 : xk_cnt (B + 1) g2 := xk_cnt_le (iczM_disturb_0 (B + 0) _ _ u5 Ig1) (by omega)
      rw [v6]; exact xk_cnt_le Ig2 (by omega)
    · rw [if_neg hc] at u3
      by_cases hc : ((g1 3) 0) ≤ 400
      · rw [if_pos hc] at u3
        rw [u3]; exact xk_cnt_le Ig1 (by omega)
      · rw [if_neg hc] at u3
        obtain ⟨g3, u7, v8⟩ := u3
        have Ig3 : xk_cnt (B + 1) g3 := xk_cnt_le (iczM_disturb_0 (B + 0) _ _ u7 Ig1) (by omega)
        rw [v8]; exact xk_cnt_le Ig3 (by omega)
  rw [v4]; exact xk_cnt_le Ig4 (by omega)

def relzM_change_1 (g0 : xk_St) (k1 : Int32) (gz : xk_St) : Prop := ∃ (g1 : xk_St), g1 = va_up g0 3 (upd (g0 3) 1 (((g0 3) 1) + k1)) ∧ (∃ (g4 : xk_St), (if ((g1 3) 1) < 0 then (∃ (g2 : xk_St), relzM_disturb_1 g1 g2 ∧ (g4 = g2)) else (if ((g1 3) 1) ≤ 400 then (g4 = g1) else (∃ (g3 : xk_St), relzM_disturb_1 g1 g3 ∧ (g4 = g3)))) ∧ (gz = g4))
set_option maxHeartbeats 4000000 in
set_option maxRecDepth 100000 in
theorem kzM_change_1 (l : Launch) (G : va_G) (ac : Nat → ClassId) (ad : Nat → Nat) (g0 : xk_St) (k1 : Int32) (B : Nat) (Ig0 : xk_cnt B g0) (hB : B + 2 < 2147483648) : xk_CV l yzM_change czM_change 3 xk_WS xk_r2 G xk_cls (xk_tys ac) [.ref (ad 0), .int 1, .int k1] (xk_wM ad ac g0) (fun (gz : xk_St) => relzM_change_1 g0 k1 gz) (fun gz => xk_wM ad ac gz) := by
  refine xk_ofV (by decide) (Nat.le_of_ble_eq_true rfl) ?_
  intro p e s m args below meth c A Q H locs ls C0 hret hP hD hS hl
  obtain ⟨hx, hb, hml, hts, hown, hK, hA⟩ := C0
  have hl : lv_has ls 3 [(0, .ref (ad 0)), (1, .int 1), (2, .int k1)] := hl
  have Ig0 : xk_cnt (B + 0) g0 := Ig0
  refine lv_aload_n (pc := 0) hx hb dzM_change_0 rfl (lv_at hl 0 rfl) ?_
  refine xk_get (pc := 1) hx hb hts hown hK hP ffzM_17 0 rfl rfl dzM_change_1 ?_
  refine lv_iload_n (pc := 4) hx hb dzM_change_4 rfl (lv_at hl 1 rfl) ?_
  refine lv_aload_n (pc := 5) hx hb dzM_change_5 rfl (lv_at hl 0 rfl) ?_
  refine xk_get (pc := 6) hx hb hts hown hK hP ffzM_17 0 rfl rfl dzM_change_6 ?_
  refine lv_iload_n (pc := 9) hx hb dzM_change_9 rfl (lv_at hl 1 rfl) ?_
  refine xk_iald (q0 := 3) (t0 := 0) (j := 1) (pc := 10) hx hb hK hP rfl rfl (pk_in 1 6 (by decide)) (pk_cl 1) dzM_change_10 ?_
  refine lv_iload_n (pc := 11) hx hb dzM_change_11 rfl (lv_at hl 2 rfl) ?_
  refine lv_iadd (pc := 12) hx hb dzM_change_12 ?_
  refine xk_iast (q0 := 3) (t0 := 0) (j := 1) (pc := 13) hx hb hK hP hD hS rfl rfl (pk_in 1 6 (by decide)) (pk_cl 1) dzM_change_13 (fun H locs hP hD hS => ?_)
  obtain ⟨g1, eg1⟩ : ∃ z : xk_St, z = va_up g0 3 (upd (g0 3) 1 (((g0 3) 1) + k1)) := ⟨_, rfl⟩
  have hP : va_P G xk_cls (xk_wM ad ac g1) H := by rw [eg1]; exact hP
  have hD : va_D A (xk_wM ad ac g1) := by rw [eg1]; exact hD
  have Ig1 : xk_cnt (B + 0) g1 := by rw [eg1]; repeat (first | exact Ig0 | refine xk_cnt_k (by decide) ?_ | refine xk_cnt_f (by decide) ?_ | refine xk_cnt_s ?_)
  refine lv_aload_n (pc := 14) hx hb dzM_change_14 rfl (lv_at hl 0 rfl) ?_
  refine xk_get (pc := 15) hx hb hts hown hK hP ffzM_17 0 rfl rfl dzM_change_15 ?_
  refine lv_iload_n (pc := 18) hx hb dzM_change_18 rfl (lv_at hl 1 rfl) ?_
  refine xk_iald (q0 := 3) (t0 := 0) (j := 1) (pc := 19) hx hb hK hP rfl rfl (pk_in 1 6 (by decide)) (pk_cl 1) dzM_change_19 ?_
  have K1 : ∀ (g4 : xk_St) (H : Heap) (locs : List Loc), (if ((g1 3) 1) < 0 then (∃ (g2 : xk_St), relzM_disturb_1 g1 g2 ∧ (g4 = g2)) else (if ((g1 3) 1) ≤ 400 then (g4 = g1) else (∃ (g3 : xk_St), relzM_disturb_1 g1 g3 ∧ (g4 = g3)))) → (xk_cnt (B + 1) g4) → (va_P G xk_cls (xk_wM ad ac g4) H) → (va_D A (xk_wM ad ac g4)) → (va_S A s.heap H locs) → W p l e xk_r2 s m args below meth c H locs 0 0 Q (F0 m 40 ls []) := by
    intro g4 H locs R1 Ig4 hP hD hS
    exact hret g4 H locs 40 ls hP hS (by unfold relzM_change_1; exact ⟨g1, eg1, ⟨g4, R1, rfl⟩⟩) dzM_change_40
  refine lv_if_lt (pc := 20) (tgt := 35) hx hb dzM_change_20 (by decide) (fun h1 => ?_) (fun h1 => ?_)
  ·
    refine lv_aload_n (pc := 35) hx hb dzM_change_35 rfl (lv_at hl 0 rfl) ?_
    refine lv_iload_n (pc := 36) hx hb dzM_change_36 rfl (lv_at hl 1 rfl) ?_
    refine xk_allVV (As := [.int 1]) (rest := []) (H0 := s.heap) (pc := 37) hx hb hml hts hown hK hA hP hD hS (kzM_disturb_1 l G ac ad g1 (B + 0) Ig1 (by omega)) vfzM_118 (fun _ => rfl) 0 rfl rfl ⟨rfl, rfl⟩ ⟨Nat.le_of_ble_eq_true rfl, Nat.le_of_ble_eq_true rfl⟩ rfl hl.1 rfl (Nat.le_of_ble_eq_true rfl) ⟨Nat.zero_le _, Nat.zero_le _⟩ dzM_change_37 (fun g2 H locs hg2 hP hD hS => ?_)
    have hP : va_P G xk_cls (xk_wM ad ac g2) H := hP
    have hD : va_D A (xk_wM ad ac g2) := hD
    have Ig2 : xk_cnt (B + 1) g2 := xk_cnt_le (iczM_disturb_1 (B + 0) _ _ hg2 Ig1) (by omega)
    exact K1 g2 H locs (Eq.mpr (if_pos h1) ⟨g2, hg2, rfl⟩) (xk_cnt_le Ig2 (by omega)) hP hD hS
  ·
    refine lv_aload_n (pc := 23) hx hb dzM_change_23 rfl (lv_at hl 0 rfl) ?_
    refine xk_get (pc := 24) hx hb hts hown hK hP ffzM_17 0 rfl rfl dzM_change_24 ?_
    refine lv_iload_n (pc := 27) hx hb dzM_change_27 rfl (lv_at hl 1 rfl) ?_
    refine xk_iald (q0 := 3) (t0 := 0) (j := 1) (pc := 28) hx hb hK hP rfl rfl (pk_in 1 6 (by decide)) (pk_cl 1) dzM_change_28 ?_
    refine lv_sipush (v := 400) (pc := 29) hx hb dzM_change_29 (by decide) ?_
    refine lv_icmp_le (pc := 32) (tgt := 40) hx hb dzM_change_32 (by decide) (fun h2 => ?_) (fun h2 => ?_)
    ·
      exact K1 g1 H locs (Eq.mpr (if_neg h1) (Eq.mpr (if_pos h2) rfl)) (xk_cnt_le Ig1 (by omega)) hP hD hS
    ·
      refine lv_aload_n (pc := 35) hx hb dzM_change_35 rfl (lv_at hl 0 rfl) ?_
      refine lv_iload_n (pc := 36) hx hb dzM_change_36 rfl (lv_at hl 1 rfl) ?_
      refine xk_allVV (As := [.int 1]) (rest := []) (H0 := s.heap) (pc := 37) hx hb hml hts hown hK hA hP hD hS (kzM_disturb_1 l G ac ad g1 (B + 0) Ig1 (by omega)) vfzM_118 (fun _ => rfl) 0 rfl rfl ⟨rfl, rfl⟩ ⟨Nat.le_of_ble_eq_true rfl, Nat.le_of_ble_eq_true rfl⟩ rfl hl.1 rfl (Nat.le_of_ble_eq_true rfl) ⟨Nat.zero_le _, Nat.zero_le _⟩ dzM_change_37 (fun g3 H locs hg3 hP hD hS => ?_)
      have hP : va_P G xk_cls (xk_wM ad ac g3) H := hP
      have hD : va_D A (xk_wM ad ac g3) := hD
      have Ig3 : xk_cnt (B + 1) g3 := xk_cnt_le (iczM_disturb_1 (B + 0) _ _ hg3 Ig1) (by omega)
      exact K1 g3 H locs (Eq.mpr (if_neg h1) (Eq.mpr (if_neg h2) ⟨g3, hg3, rfl⟩)) (xk_cnt_le Ig3 (by omega)) hP hD hS
theorem frzM_change_1 (g0 : xk_St) (k1 : Int32) (gz : xk_St) : relzM_change_1 g0 k1 gz → xk_eqv [1, 2, 4, 6, 7, 8, 9, 10, 11, 12, 13, 14, 15, 16, 17, 18, 19, 20, 21, 22, 23, 24] g0 gz := by
  intro h
  unfold relzM_change_1 at h
  have s0 : xk_eqv [1, 2, 4, 6, 7, 8, 9, 10, 11, 12, 13, 14, 15, 16, 17, 18, 19, 20, 21, 22, 23, 24] g0 g0 := xk_eqv_rf
  obtain ⟨g1, u1, v2⟩ := h
  have s3 : xk_eqv [1, 2, 4, 6, 7, 8, 9, 10, 11, 12, 13, 14, 15, 16, 17, 18, 19, 20, 21, 22, 23, 24] g0 g1 := by rw [u1]; repeat (first | exact s0 | refine xk_eqv_up (by decide) ?_)
  obtain ⟨g4, u4, v5⟩ := v2
  have s6 : xk_eqv [1, 2, 4, 6, 7, 8, 9, 10, 11, 12, 13, 14, 15, 16, 17, 18, 19, 20, 21, 22, 23, 24] g0 g4 := by
    by_cases hc : ((g1 3) 1) < 0
    · rw [if_pos hc] at u4
      obtain ⟨g2, u7, v8⟩ := u4
      have s9 : xk_eqv [1, 2, 4, 6, 7, 8, 9, 10, 11, 12, 13, 14, 15, 16, 17, 18, 19, 20, 21, 22, 23, 24] g0 g2 := xk_eqv_tr s3 (xk_eqv_sub (frzM_disturb_1 _ _ u7) (by decide))
      rw [v8]; exact s9
    · rw [if_neg hc] at u4
      by_cases hc : ((g1 3) 1) ≤ 400
      · rw [if_pos hc] at u4
        rw [u4]; exact s3
      · rw [if_neg hc] at u4
        obtain ⟨g3, u10, v11⟩ := u4
        have s12 : xk_eqv [1, 2, 4, 6, 7, 8, 9, 10, 11, 12, 13, 14, 15, 16, 17, 18, 19, 20, 21, 22, 23, 24] g0 g3 := xk_eqv_tr s3 (xk_eqv_sub (frzM_disturb_1 _ _ u10) (by decide))
        rw [v11]; exact s12
  rw [v5]; exact s6
theorem iczM_change_1 (B : Nat) (g0 : xk_St) (k1 : Int32) (gz : xk_St) : relzM_change_1 g0 k1 gz → xk_cnt B g0 → xk_cnt (B + 1) gz := by
  intro h Ig0
  unfold relzM_change_1 at h
  have Ig0 : xk_cnt (B + 0) g0 := Ig0
  obtain ⟨g1, u1, v2⟩ := h
  have Ig1 : xk_cnt (B + 0) g1 := by rw [u1]; repeat (first | exact Ig0 | refine xk_cnt_k (by decide) ?_ | refine xk_cnt_f (by decide) ?_ | refine xk_cnt_s ?_)
  obtain ⟨g4, u3, v4⟩ := v2
  have Ig4 : xk_cnt (B + 1) g4 := by
    by_cases hc : ((g1 3) 1) < 0
    · rw [if_pos hc] at u3
      obtain ⟨g2, u5, v6⟩ := u3
      have Ig2 : xk_cnt (B + 1) g2 := xk_cnt_le (iczM_disturb_1 (B + 0) _ _ u5 Ig1) (by omega)
      rw [v6]; exact xk_cnt_le Ig2 (by omega)
    · rw [if_neg hc] at u3
      by_cases hc : ((g1 3) 1) ≤ 400
      · rw [if_pos hc] at u3
        rw [u3]; exact xk_cnt_le Ig1 (by omega)
      · rw [if_neg hc] at u3
        obtain ⟨g3, u7, v8⟩ := u3
        have Ig3 : xk_cnt (B + 1) g3 := xk_cnt_le (iczM_disturb_1 (B + 0) _ _ u7 Ig1) (by omega)
        rw [v8]; exact xk_cnt_le Ig3 (by omega)
  rw [v4]; exact xk_cnt_le Ig4 (by omega)

def relzM_change_2 (g0 : xk_St) (k1 : Int32) (gz : xk_St) : Prop := ∃ (g1 : xk_St), g1 = va_up g0 3 (upd (g0 3) 2 (((g0 3) 2) + k1)) ∧ (∃ (g4 : xk_St), (if ((g1 3) 2) < 0 then (∃ (g2 : xk_St), relzM_disturb_2 g1 g2 ∧ (g4 = g2)) else (if ((g1 3) 2) ≤ 400 then (g4 = g1) else (∃ (g3 : xk_St), relzM_disturb_2 g1 g3 ∧ (g4 = g3)))) ∧ (gz = g4))
set_option maxHeartbeats 4000000 in
set_option maxRecDepth 100000 in
theorem kzM_change_2 (l : Launch) (G : va_G) (ac : Nat → ClassId) (ad : Nat → Nat) (g0 : xk_St) (k1 : Int32) (B : Nat) (Ig0 : xk_cnt B g0) (hB : B + 2 < 2147483648) : xk_CV l yzM_change czM_change 3 xk_WS xk_r2 G xk_cls (xk_tys ac) [.ref (ad 0), .int 2, .int k1] (xk_wM ad ac g0) (fun (gz : xk_St) => relzM_change_2 g0 k1 gz) (fun gz => xk_wM ad ac gz) := by
  refine xk_ofV (by decide) (Nat.le_of_ble_eq_true rfl) ?_
  intro p e s m args below meth c A Q H locs ls C0 hret hP hD hS hl
  obtain ⟨hx, hb, hml, hts, hown, hK, hA⟩ := C0
  have hl : lv_has ls 3 [(0, .ref (ad 0)), (1, .int 2), (2, .int k1)] := hl
  have Ig0 : xk_cnt (B + 0) g0 := Ig0
  refine lv_aload_n (pc := 0) hx hb dzM_change_0 rfl (lv_at hl 0 rfl) ?_
  refine xk_get (pc := 1) hx hb hts hown hK hP ffzM_17 0 rfl rfl dzM_change_1 ?_
  refine lv_iload_n (pc := 4) hx hb dzM_change_4 rfl (lv_at hl 1 rfl) ?_
  refine lv_aload_n (pc := 5) hx hb dzM_change_5 rfl (lv_at hl 0 rfl) ?_
  refine xk_get (pc := 6) hx hb hts hown hK hP ffzM_17 0 rfl rfl dzM_change_6 ?_
  refine lv_iload_n (pc := 9) hx hb dzM_change_9 rfl (lv_at hl 1 rfl) ?_
  refine xk_iald (q0 := 3) (t0 := 0) (j := 2) (pc := 10) hx hb hK hP rfl rfl (pk_in 2 6 (by decide)) (pk_cl 2) dzM_change_10 ?_
  refine lv_iload_n (pc := 11) hx hb dzM_change_11 rfl (lv_at hl 2 rfl) ?_
  refine lv_iadd (pc := 12) hx hb dzM_change_12 ?_
  refine xk_iast (q0 := 3) (t0 := 0) (j := 2) (pc := 13) hx hb hK hP hD hS rfl rfl (pk_in 2 6 (by decide)) (pk_cl 2) dzM_change_13 (fun H locs hP hD hS => ?_)
  obtain ⟨g1, eg1⟩ : ∃ z : xk_St, z = va_up g0 3 (upd (g0 3) 2 (((g0 3) 2) + k1)) := ⟨_, rfl⟩
  have hP : va_P G xk_cls (xk_wM ad ac g1) H := by rw [eg1]; exact hP
  have hD : va_D A (xk_wM ad ac g1) := by rw [eg1]; exact hD
  have Ig1 : xk_cnt (B + 0) g1 := by rw [eg1]; repeat (first | exact Ig0 | refine xk_cnt_k (by decide) ?_ | refine xk_cnt_f (by decide) ?_ | refine xk_cnt_s ?_)
  refine lv_aload_n (pc := 14) hx hb dzM_change_14 rfl (lv_at hl 0 rfl) ?_
  refine xk_get (pc := 15) hx hb hts hown hK hP ffzM_17 0 rfl rfl dzM_change_15 ?_
  refine lv_iload_n (pc := 18) hx hb dzM_change_18 rfl (lv_at hl 1 rfl) ?_
  refine xk_iald (q0 := 3) (t0 := 0) (j := 2) (pc := 19) hx hb hK hP rfl rfl (pk_in 2 6 (by decide)) (pk_cl 2) dzM_change_19 ?_
  have K1 : ∀ (g4 : xk_St) (H : Heap) (locs : List Loc), (if ((g1 3) 2) < 0 then (∃ (g2 : xk_St), relzM_disturb_2 g1 g2 ∧ (g4 = g2)) else (if ((g1 3) 2) ≤ 400 then (g4 = g1) else (∃ (g3 : xk_St), relzM_disturb_2 g1 g3 ∧ (g4 = g3)))) → (xk_cnt (B + 1) g4) → (va_P G xk_cls (xk_wM ad ac g4) H) → (va_D A (xk_wM ad ac g4)) → (va_S A s.heap H locs) → W p l e xk_r2 s m args below meth c H locs 0 0 Q (F0 m 40 ls []) := by
    intro g4 H locs R1 Ig4 hP hD hS
    exact hret g4 H locs 40 ls hP hS (by unfold relzM_change_2; exact ⟨g1, eg1, ⟨g4, R1, rfl⟩⟩) dzM_change_40
  refine lv_if_lt (pc := 20) (tgt := 35) hx hb dzM_change_20 (by decide) (fun h1 => ?_) (fun h1 => ?_)
  ·
    refine lv_aload_n (pc := 35) hx hb dzM_change_35 rfl (lv_at hl 0 rfl) ?_
    refine lv_iload_n (pc := 36) hx hb dzM_change_36 rfl (lv_at hl 1 rfl) ?_
    refine xk_allVV (As := [.int 2]) (rest := []) (H0 := s.heap) (pc := 37) hx hb hml hts hown hK hA hP hD hS (kzM_disturb_2 l G ac ad g1 (B + 0) Ig1 (by omega)) vfzM_118 (fun _ => rfl) 0 rfl rfl ⟨rfl, rfl⟩ ⟨Nat.le_of_ble_eq_true rfl, Nat.le_of_ble_eq_true rfl⟩ rfl hl.1 rfl (Nat.le_of_ble_eq_true rfl) ⟨Nat.zero_le _, Nat.zero_le _⟩ dzM_change_37 (fun g2 H locs hg2 hP hD hS => ?_)
    have hP : va_P G xk_cls (xk_wM ad ac g2) H := hP
    have hD : va_D A (xk_wM ad ac g2) := hD
    have Ig2 : xk_cnt (B + 1) g2 := xk_cnt_le (iczM_disturb_2 (B + 0) _ _ hg2 Ig1) (by omega)
    exact K1 g2 H locs (Eq.mpr (if_pos h1) ⟨g2, hg2, rfl⟩) (xk_cnt_le Ig2 (by omega)) hP hD hS
  ·
    refine lv_aload_n (pc := 23) hx hb dzM_change_23 rfl (lv_at hl 0 rfl) ?_
    refine xk_get (pc := 24) hx hb hts hown hK hP ffzM_17 0 rfl rfl dzM_change_24 ?_
    refine lv_iload_n (pc := 27) hx hb dzM_change_27 rfl (lv_at hl 1 rfl) ?_
    refine xk_iald (q0 := 3) (t0 := 0) (j := 2) (pc := 28) hx hb hK hP rfl rfl (pk_in 2 6 (by decide)) (pk_cl 2) dzM_change_28 ?_
    refine lv_sipush (v := 400) (pc := 29) hx hb dzM_change_29 (by decide) ?_
    refine lv_icmp_le (pc := 32) (tgt := 40) hx hb dzM_change_32 (by decide) (fun h2 => ?_) (fun h2 => ?_)
    ·
      exact K1 g1 H locs (Eq.mpr (if_neg h1) (Eq.mpr (if_pos h2) rfl)) (xk_cnt_le Ig1 (by omega)) hP hD hS
    ·
      refine lv_aload_n (pc := 35) hx hb dzM_change_35 rfl (lv_at hl 0 rfl) ?_
      refine lv_iload_n (pc := 36) hx hb dzM_change_36 rfl (lv_at hl 1 rfl) ?_
      refine xk_allVV (As := [.int 2]) (rest := []) (H0 := s.heap) (pc := 37) hx hb hml hts hown hK hA hP hD hS (kzM_disturb_2 l G ac ad g1 (B + 0) Ig1 (by omega)) vfzM_118 (fun _ => rfl) 0 rfl rfl ⟨rfl, rfl⟩ ⟨Nat.le_of_ble_eq_true rfl, Nat.le_of_ble_eq_true rfl⟩ rfl hl.1 rfl (Nat.le_of_ble_eq_true rfl) ⟨Nat.zero_le _, Nat.zero_le _⟩ dzM_change_37 (fun g3 H locs hg3 hP hD hS => ?_)
      have hP : va_P G xk_cls (xk_wM ad ac g3) H := hP
      have hD : va_D A (xk_wM ad ac g3) := hD
      have Ig3 : xk_cnt (B + 1) g3 := xk_cnt_le (iczM_disturb_2 (B + 0) _ _ hg3 Ig1) (by omega)
      exact K1 g3 H locs (Eq.mpr (if_neg h1) (Eq.mpr (if_neg h2) ⟨g3, hg3, rfl⟩)) (xk_cnt_le Ig3 (by omega)) hP hD hS
theorem frzM_change_2 (g0 : xk_St) (k1 : Int32) (gz : xk_St) : relzM_change_2 g0 k1 gz → xk_eqv [1, 2, 4, 6, 7, 8, 9, 10, 11, 12, 13, 14, 15, 16, 17, 18, 19, 20, 21, 22, 23, 24] g0 gz := by
  intro h
  unfold relzM_change_2 at h
  have s0 : xk_eqv [1, 2, 4, 6, 7, 8, 9, 10, 11, 12, 13, 14, 15, 16, 17, 18, 19, 20, 21, 22, 23, 24] g0 g0 := xk_eqv_rf
  obtain ⟨g1, u1, v2⟩ := h
  have s3 : xk_eqv [1, 2, 4, 6, 7, 8, 9, 10, 11, 12, 13, 14, 15, 16, 17, 18, 19, 20, 21, 22, 23, 24] g0 g1 := by rw [u1]; repeat (first | exact s0 | refine xk_eqv_up (by decide) ?_)
  obtain ⟨g4, u4, v5⟩ := v2
  have s6 : xk_eqv [1, 2, 4, 6, 7, 8, 9, 10, 11, 12, 13, 14, 15, 16, 17, 18, 19, 20, 21, 22, 23, 24] g0 g4 := by
    by_cases hc : ((g1 3) 2) < 0
    · rw [if_pos hc] at u4
      obtain ⟨g2, u7, v8⟩ := u4
      have s9 : xk_eqv [1, 2, 4, 6, 7, 8, 9, 10, 11, 12, 13, 14, 15, 16, 17, 18, 19, 20, 21, 22, 23, 24] g0 g2 := xk_eqv_tr s3 (xk_eqv_sub (frzM_disturb_2 _ _ u7) (by decide))
      rw [v8]; exact s9
    · rw [if_neg hc] at u4
      by_cases hc : ((g1 3) 2) ≤ 400
      · rw [if_pos hc] at u4
        rw [u4]; exact s3
      · rw [if_neg hc] at u4
        obtain ⟨g3, u10, v11⟩ := u4
        have s12 : xk_eqv [1, 2, 4, 6, 7, 8, 9, 10, 11, 12, 13, 14, 15, 16, 17, 18, 19, 20, 21, 22, 23, 24] g0 g3 := xk_eqv_tr s3 (xk_eqv_sub (frzM_disturb_2 _ _ u10) (by decide))
        rw [v11]; exact s12
  rw [v5]; exact s6
theorem iczM_change_2 (B : Nat) (g0 : xk_St) (k1 : Int32) (gz : xk_St) : relzM_change_2 g0 k1 gz → xk_cnt B g0 → xk_cnt (B + 1) gz := by
  intro h Ig0
  unfold relzM_change_2 at h
  have Ig0 : xk_cnt (B + 0) g0 := Ig0
  obtain ⟨g1, u1, v2⟩ := h
  have Ig1 : xk_cnt (B + 0) g1 := by rw [u1]; repeat (first | exact Ig0 | refine xk_cnt_k (by decide) ?_ | refine xk_cnt_f (by decide) ?_ | refine xk_cnt_s ?_)
  obtain ⟨g4, u3, v4⟩ := v2
  have Ig4 : xk_cnt (B + 1) g4 := by
    by_cases hc : ((g1 3) 2) < 0
    · rw [if_pos hc] at u3
      obtain ⟨g2, u5, v6⟩ := u3
      have Ig2 : xk_cnt (B + 1) g2 := xk_cnt_le (iczM_disturb_2 (B + 0) _ _ u5 Ig1) (by omega)
      rw [v6]; exact xk_cnt_le Ig2 (by omega)
    · rw [if_neg hc] at u3
      by_cases hc : ((g1 3) 2) ≤ 400
      · rw [if_pos hc] at u3
        rw [u3]; exact xk_cnt_le Ig1 (by omega)
      · rw [if_neg hc] at u3
        obtain ⟨g3, u7, v8⟩ := u3
        have Ig3 : xk_cnt (B + 1) g3 := xk_cnt_le (iczM_disturb_2 (B + 0) _ _ u7 Ig1) (by omega)
        rw [v8]; exact xk_cnt_le Ig3 (by omega)
  rw [v4]; exact xk_cnt_le Ig4 (by omega)

def relzM_change_3 (g0 : xk_St) (k1 : Int32) (gz : xk_St) : Prop := ∃ (g1 : xk_St), g1 = va_up g0 3 (upd (g0 3) 3 (((g0 3) 3) + k1)) ∧ (∃ (g4 : xk_St), (if ((g1 3) 3) < 0 then (∃ (g2 : xk_St), relzM_disturb_3 g1 g2 ∧ (g4 = g2)) else (if ((g1 3) 3) ≤ 400 then (g4 = g1) else (∃ (g3 : xk_St), relzM_disturb_3 g1 g3 ∧ (g4 = g3)))) ∧ (gz = g4))
set_option maxHeartbeats 4000000 in
set_option maxRecDepth 100000 in
theorem kzM_change_3 (l : Launch) (G : va_G) (ac : Nat → ClassId) (ad : Nat → Nat) (g0 : xk_St) (k1 : Int32) (B : Nat) (Ig0 : xk_cnt B g0) (hB : B + 2 < 2147483648) : xk_CV l yzM_change czM_change 3 xk_WS xk_r2 G xk_cls (xk_tys ac) [.ref (ad 0), .int 3, .int k1] (xk_wM ad ac g0) (fun (gz : xk_St) => relzM_change_3 g0 k1 gz) (fun gz => xk_wM ad ac gz) := by
  refine xk_ofV (by decide) (Nat.le_of_ble_eq_true rfl) ?_
  intro p e s m args below meth c A Q H locs ls C0 hret hP hD hS hl
  obtain ⟨hx, hb, hml, hts, hown, hK, hA⟩ := C0
  have hl : lv_has ls 3 [(0, .ref (ad 0)), (1, .int 3), (2, .int k1)] := hl
  have Ig0 : xk_cnt (B + 0) g0 := Ig0
  refine lv_aload_n (pc := 0) hx hb dzM_change_0 rfl (lv_at hl 0 rfl) ?_
  refine xk_get (pc := 1) hx hb hts hown hK hP ffzM_17 0 rfl rfl dzM_change_1 ?_
  refine lv_iload_n (pc := 4) hx hb dzM_change_4 rfl (lv_at hl 1 rfl) ?_
  refine lv_aload_n (pc := 5) hx hb dzM_change_5 rfl (lv_at hl 0 rfl) ?_
  refine xk_get (pc := 6) hx hb hts hown hK hP ffzM_17 0 rfl rfl dzM_change_6 ?_
  refine lv_iload_n (pc := 9) hx hb dzM_change_9 rfl (lv_at hl 1 rfl) ?_
  refine xk_iald (q0 := 3) (t0 := 0) (j := 3) (pc := 10) hx hb hK hP rfl rfl (pk_in 3 6 (by decide)) (pk_cl 3) dzM_change_10 ?_
  refine lv_iload_n (pc := 11) hx hb dzM_change_11 rfl (lv_at hl 2 rfl) ?_
  refine lv_iadd (pc := 12) hx hb dzM_change_12 ?_
  refine xk_iast (q0 := 3) (t0 := 0) (j := 3) (pc := 13) hx hb hK hP hD hS rfl rfl (pk_in 3 6 (by decide)) (pk_cl 3) dzM_change_13 (fun H locs hP hD hS => ?_)
  obtain ⟨g1, eg1⟩ : ∃ z : xk_St, z = va_up g0 3 (upd (g0 3) 3 (((g0 3) 3) + k1)) := ⟨_, rfl⟩
  have hP : va_P G xk_cls (xk_wM ad ac g1) H := by rw [eg1]; exact hP
  have hD : va_D A (xk_wM ad ac g1) := by rw [eg1]; exact hD
  have Ig1 : xk_cnt (B + 0) g1 := by rw [eg1]; repeat (first | exact Ig0 | refine xk_cnt_k (by decide) ?_ | refine xk_cnt_f (by decide) ?_ | refine xk_cnt_s ?_)
  refine lv_aload_n (pc := 14) hx hb dzM_change_14 rfl (lv_at hl 0 rfl) ?_
  refine xk_get (pc := 15) hx hb hts hown hK hP ffzM_17 0 rfl rfl dzM_change_15 ?_
  refine lv_iload_n (pc := 18) hx hb dzM_change_18 rfl (lv_at hl 1 rfl) ?_
  refine xk_iald (q0 := 3) (t0 := 0) (j := 3) (pc := 19) hx hb hK hP rfl rfl (pk_in 3 6 (by decide)) (pk_cl 3) dzM_change_19 ?_
  have K1 : ∀ (g4 : xk_St) (H : Heap) (locs : List Loc), (if ((g1 3) 3) < 0 then (∃ (g2 : xk_St), relzM_disturb_3 g1 g2 ∧ (g4 = g2)) else (if ((g1 3) 3) ≤ 400 then (g4 = g1) else (∃ (g3 : xk_St), relzM_disturb_3 g1 g3 ∧ (g4 = g3)))) → (xk_cnt (B + 1) g4) → (va_P G xk_cls (xk_wM ad ac g4) H) → (va_D A (xk_wM ad ac g4)) → (va_S A s.heap H locs) → W p l e xk_r2 s m args below meth c H locs 0 0 Q (F0 m 40 ls []) := by
    intro g4 H locs R1 Ig4 hP hD hS
    exact hret g4 H locs 40 ls hP hS (by unfold relzM_change_3; exact ⟨g1, eg1, ⟨g4, R1, rfl⟩⟩) dzM_change_40
  refine lv_if_lt (pc := 20) (tgt := 35) hx hb dzM_change_20 (by decide) (fun h1 => ?_) (fun h1 => ?_)
  ·
    refine lv_aload_n (pc := 35) hx hb dzM_change_35 rfl (lv_at hl 0 rfl) ?_
    refine lv_iload_n (pc := 36) hx hb dzM_change_36 rfl (lv_at hl 1 rfl) ?_
    refine xk_allVV (As := [.int 3]) (rest := []) (H0 := s.heap) (pc := 37) hx hb hml hts hown hK hA hP hD hS (kzM_disturb_3 l G ac ad g1 (B + 0) Ig1 (by omega)) vfzM_118 (fun _ => rfl) 0 rfl rfl ⟨rfl, rfl⟩ ⟨Nat.le_of_ble_eq_true rfl, Nat.le_of_ble_eq_true rfl⟩ rfl hl.1 rfl (Nat.le_of_ble_eq_true rfl) ⟨Nat.zero_le _, Nat.zero_le _⟩ dzM_change_37 (fun g2 H locs hg2 hP hD hS => ?_)
    have hP : va_P G xk_cls (xk_wM ad ac g2) H := hP
    have hD : va_D A (xk_wM ad ac g2) := hD
    have Ig2 : xk_cnt (B + 1) g2 := xk_cnt_le (iczM_disturb_3 (B + 0) _ _ hg2 Ig1) (by omega)
    exact K1 g2 H locs (Eq.mpr (if_pos h1) ⟨g2, hg2, rfl⟩) (xk_cnt_le Ig2 (by omega)) hP hD hS
  ·
    refine lv_aload_n (pc := 23) hx hb dzM_change_23 rfl (lv_at hl 0 rfl) ?_
    refine xk_get (pc := 24) hx hb hts hown hK hP ffzM_17 0 rfl rfl dzM_change_24 ?_
    refine lv_iload_n (pc := 27) hx hb dzM_change_27 rfl (lv_at hl 1 rfl) ?_
    refine xk_iald (q0 := 3) (t0 := 0) (j := 3) (pc := 28) hx hb hK hP rfl rfl (pk_in 3 6 (by decide)) (pk_cl 3) dzM_change_28 ?_
    refine lv_sipush (v := 400) (pc := 29) hx hb dzM_change_29 (by decide) ?_
    refine lv_icmp_le (pc := 32) (tgt := 40) hx hb dzM_change_32 (by decide) (fun h2 => ?_) (fun h2 => ?_)
    ·
      exact K1 g1 H locs (Eq.mpr (if_neg h1) (Eq.mpr (if_pos h2) rfl)) (xk_cnt_le Ig1 (by omega)) hP hD hS
    ·
      refine lv_aload_n (pc := 35) hx hb dzM_change_35 rfl (lv_at hl 0 rfl) ?_
      refine lv_iload_n (pc := 36) hx hb dzM_change_36 rfl (lv_at hl 1 rfl) ?_
      refine xk_allVV (As := [.int 3]) (rest := []) (H0 := s.heap) (pc := 37) hx hb hml hts hown hK hA hP hD hS (kzM_disturb_3 l G ac ad g1 (B + 0) Ig1 (by omega)) vfzM_118 (fun _ => rfl) 0 rfl rfl ⟨rfl, rfl⟩ ⟨Nat.le_of_ble_eq_true rfl, Nat.le_of_ble_eq_true rfl⟩ rfl hl.1 rfl (Nat.le_of_ble_eq_true rfl) ⟨Nat.zero_le _, Nat.zero_le _⟩ dzM_change_37 (fun g3 H locs hg3 hP hD hS => ?_)
      have hP : va_P G xk_cls (xk_wM ad ac g3) H := hP
      have hD : va_D A (xk_wM ad ac g3) := hD
      have Ig3 : xk_cnt (B + 1) g3 := xk_cnt_le (iczM_disturb_3 (B + 0) _ _ hg3 Ig1) (by omega)
      exact K1 g3 H locs (Eq.mpr (if_neg h1) (Eq.mpr (if_neg h2) ⟨g3, hg3, rfl⟩)) (xk_cnt_le Ig3 (by omega)) hP hD hS
theorem frzM_change_3 (g0 : xk_St) (k1 : Int32) (gz : xk_St) : relzM_change_3 g0 k1 gz → xk_eqv [1, 2, 4, 6, 7, 8, 9, 10, 11, 12, 13, 14, 15, 16, 17, 18, 19, 20, 21, 22, 23, 24] g0 gz := by
  intro h
  unfold relzM_change_3 at h
  have s0 : xk_eqv [1, 2, 4, 6, 7, 8, 9, 10, 11, 12, 13, 14, 15, 16, 17, 18, 19, 20, 21, 22, 23, 24] g0 g0 := xk_eqv_rf
  obtain ⟨g1, u1, v2⟩ := h
  have s3 : xk_eqv [1, 2, 4, 6, 7, 8, 9, 10, 11, 12, 13, 14, 15, 16, 17, 18, 19, 20, 21, 22, 23, 24] g0 g1 := by rw [u1]; repeat (first | exact s0 | refine xk_eqv_up (by decide) ?_)
  obtain ⟨g4, u4, v5⟩ := v2
  have s6 : xk_eqv [1, 2, 4, 6, 7, 8, 9, 10, 11, 12, 13, 14, 15, 16, 17, 18, 19, 20, 21, 22, 23, 24] g0 g4 := by
    by_cases hc : ((g1 3) 3) < 0
    · rw [if_pos hc] at u4
      obtain ⟨g2, u7, v8⟩ := u4
      have s9 : xk_eqv [1, 2, 4, 6, 7, 8, 9, 10, 11, 12, 13, 14, 15, 16, 17, 18, 19, 20, 21, 22, 23, 24] g0 g2 := xk_eqv_tr s3 (xk_eqv_sub (frzM_disturb_3 _ _ u7) (by decide))
      rw [v8]; exact s9
    · rw [if_neg hc] at u4
      by_cases hc : ((g1 3) 3) ≤ 400
      · rw [if_pos hc] at u4
        rw [u4]; exact s3
      · rw [if_neg hc] at u4
        obtain ⟨g3, u10, v11⟩ := u4
        have s12 : xk_eqv [1, 2, 4, 6, 7, 8, 9, 10, 11, 12, 13, 14, 15, 16, 17, 18, 19, 20, 21, 22, 23, 24] g0 g3 := xk_eqv_tr s3 (xk_eqv_sub (frzM_disturb_3 _ _ u10) (by decide))
        rw [v11]; exact s12
  rw [v5]; exact s6
theorem iczM_change_3 (B : Nat) (g0 : xk_St) (k1 : Int32) (gz : xk_St) : relzM_change_3 g0 k1 gz → xk_cnt B g0 → xk_cnt (B + 1) gz := by
  intro h Ig0
  unfold relzM_change_3 at h
  have Ig0 : xk_cnt (B + 0) g0 := Ig0
  obtain ⟨g1, u1, v2⟩ := h
  have Ig1 : xk_cnt (B + 0) g1 := by rw [u1]; repeat (first | exact Ig0 | refine xk_cnt_k (by decide) ?_ | refine xk_cnt_f (by decide) ?_ | refine xk_cnt_s ?_)
  obtain ⟨g4, u3, v4⟩ := v2
  have Ig4 : xk_cnt (B + 1) g4 := by
    by_cases hc : ((g1 3) 3) < 0
    · rw [if_pos hc] at u3
      obtain ⟨g2, u5, v6⟩ := u3
      have Ig2 : xk_cnt (B + 1) g2 := xk_cnt_le (iczM_disturb_3 (B + 0) _ _ u5 Ig1) (by omega)
      rw [v6]; exact xk_cnt_le Ig2 (by omega)
    · rw [if_neg hc] at u3
      by_cases hc : ((g1 3) 3) ≤ 400
      · rw [if_pos hc] at u3
        rw [u3]; exact xk_cnt_le Ig1 (by omega)
      · rw [if_neg hc] at u3
        obtain ⟨g3, u7, v8⟩ := u3
        have Ig3 : xk_cnt (B + 1) g3 := xk_cnt_le (iczM_disturb_3 (B + 0) _ _ u7 Ig1) (by omega)
        rw [v8]; exact xk_cnt_le Ig3 (by omega)
  rw [v4]; exact xk_cnt_le Ig4 (by omega)

def relzM_change_4 (g0 : xk_St) (k1 : Int32) (gz : xk_St) : Prop := ∃ (g1 : xk_St), g1 = va_up g0 3 (upd (g0 3) 4 (((g0 3) 4) + k1)) ∧ (∃ (g4 : xk_St), (if ((g1 3) 4) < 0 then (∃ (g2 : xk_St), relzM_disturb_4 g1 g2 ∧ (g4 = g2)) else (if ((g1 3) 4) ≤ 400 then (g4 = g1) else (∃ (g3 : xk_St), relzM_disturb_4 g1 g3 ∧ (g4 = g3)))) ∧ (gz = g4))
set_option maxHeartbeats 4000000 in
set_option maxRecDepth 100000 in
theorem kzM_change_4 (l : Launch) (G : va_G) (ac : Nat → ClassId) (ad : Nat → Nat) (g0 : xk_St) (k1 : Int32) (B : Nat) (Ig0 : xk_cnt B g0) (hB : B + 2 < 2147483648) : xk_CV l yzM_change czM_change 3 xk_WS xk_r2 G xk_cls (xk_tys ac) [.ref (ad 0), .int 4, .int k1] (xk_wM ad ac g0) (fun (gz : xk_St) => relzM_change_4 g0 k1 gz) (fun gz => xk_wM ad ac gz) := by
  refine xk_ofV (by decide) (Nat.le_of_ble_eq_true rfl) ?_
  intro p e s m args below meth c A Q H locs ls C0 hret hP hD hS hl
  obtain ⟨hx, hb, hml, hts, hown, hK, hA⟩ := C0
  have hl : lv_has ls 3 [(0, .ref (ad 0)), (1, .int 4), (2, .int k1)] := hl
  have Ig0 : xk_cnt (B + 0) g0 := Ig0
  refine lv_aload_n (pc := 0) hx hb dzM_change_0 rfl (lv_at hl 0 rfl) ?_
  refine xk_get (pc := 1) hx hb hts hown hK hP ffzM_17 0 rfl rfl dzM_change_1 ?_
  refine lv_iload_n (pc := 4) hx hb dzM_change_4 rfl (lv_at hl 1 rfl) ?_
  refine lv_aload_n (pc := 5) hx hb dzM_change_5 rfl (lv_at hl 0 rfl) ?_
  refine xk_get (pc := 6) hx hb hts hown hK hP ffzM_17 0 rfl rfl dzM_change_6 ?_
  refine lv_iload_n (pc := 9) hx hb dzM_change_9 rfl (lv_at hl 1 rfl) ?_
  refine xk_iald (q0 := 3) (t0 := 0) (j := 4) (pc := 10) hx hb hK hP rfl rfl (pk_in 4 6 (by decide)) (pk_cl 4) dzM_change_10 ?_
  refine lv_iload_n (pc := 11) hx hb dzM_change_11 rfl (lv_at hl 2 rfl) ?_
  refine lv_iadd (pc := 12) hx hb dzM_change_12 ?_
  refine xk_iast (q0 := 3) (t0 := 0) (j := 4) (pc := 13) hx hb hK hP hD hS rfl rfl (pk_in 4 6 (by decide)) (pk_cl 4) dzM_change_13 (fun H locs hP hD hS => ?_)
  obtain ⟨g1, eg1⟩ : ∃ z : xk_St, z = va_up g0 3 (upd (g0 3) 4 (((g0 3) 4) + k1)) := ⟨_, rfl⟩
  have hP : va_P G xk_cls (xk_wM ad ac g1) H := by rw [eg1]; exact hP
  have hD : va_D A (xk_wM ad ac g1) := by rw [eg1]; exact hD
  have Ig1 : xk_cnt (B + 0) g1 := by rw [eg1]; repeat (first | exact Ig0 | refine xk_cnt_k (by decide) ?_ | refine xk_cnt_f (by decide) ?_ | refine xk_cnt_s ?_)
  refine lv_aload_n (pc := 14) hx hb dzM_change_14 rfl (lv_at hl 0 rfl) ?_
  refine xk_get (pc := 15) hx hb hts hown hK hP ffzM_17 0 rfl rfl dzM_change_15 ?_
  refine lv_iload_n (pc := 18) hx hb dzM_change_18 rfl (lv_at hl 1 rfl) ?_
  refine xk_iald (q0 := 3) (t0 := 0) (j := 4) (pc := 19) hx hb hK hP rfl rfl (pk_in 4 6 (by decide)) (pk_cl 4) dzM_change_19 ?_
  have K1 : ∀ (g4 : xk_St) (H : Heap) (locs : List Loc), (if ((g1 3) 4) < 0 then (∃ (g2 : xk_St), relzM_disturb_4 g1 g2 ∧ (g4 = g2)) else (if ((g1 3) 4) ≤ 400 then (g4 = g1) else (∃ (g3 : xk_St), relzM_disturb_4 g1 g3 ∧ (g4 = g3)))) → (xk_cnt (B + 1) g4) → (va_P G xk_cls (xk_wM ad ac g4) H) → (va_D A (xk_wM ad ac g4)) → (va_S A s.heap H locs) → W p l e xk_r2 s m args below meth c H locs 0 0 Q (F0 m 40 ls []) := by
    intro g4 H locs R1 Ig4 hP hD hS
    exact hret g4 H locs 40 ls hP hS (by unfold relzM_change_4; exact ⟨g1, eg1, ⟨g4, R1, rfl⟩⟩) dzM_change_40
  refine lv_if_lt (pc := 20) (tgt := 35) hx hb dzM_change_20 (by decide) (fun h1 => ?_) (fun h1 => ?_)
  ·
    refine lv_aload_n (pc := 35) hx hb dzM_change_35 rfl (lv_at hl 0 rfl) ?_
    refine lv_iload_n (pc := 36) hx hb dzM_change_36 rfl (lv_at hl 1 rfl) ?_
    refine xk_allVV (As := [.int 4]) (rest := []) (H0 := s.heap) (pc := 37) hx hb hml hts hown hK hA hP hD hS (kzM_disturb_4 l G ac ad g1 (B + 0) Ig1 (by omega)) vfzM_118 (fun _ => rfl) 0 rfl rfl ⟨rfl, rfl⟩ ⟨Nat.le_of_ble_eq_true rfl, Nat.le_of_ble_eq_true rfl⟩ rfl hl.1 rfl (Nat.le_of_ble_eq_true rfl) ⟨Nat.zero_le _, Nat.zero_le _⟩ dzM_change_37 (fun g2 H locs hg2 hP hD hS => ?_)
    have hP : va_P G xk_cls (xk_wM ad ac g2) H := hP
    have hD : va_D A (xk_wM ad ac g2) := hD
    have Ig2 : xk_cnt (B + 1) g2 := xk_cnt_le (iczM_disturb_4 (B + 0) _ _ hg2 Ig1) (by omega)
    exact K1 g2 H locs (Eq.mpr (if_pos h1) ⟨g2, hg2, rfl⟩) (xk_cnt_le Ig2 (by omega)) hP hD hS
  ·
    refine lv_aload_n (pc := 23) hx hb dzM_change_23 rfl (lv_at hl 0 rfl) ?_
    refine xk_get (pc := 24) hx hb hts hown hK hP ffzM_17 0 rfl rfl dzM_change_24 ?_
    refine lv_iload_n (pc := 27) hx hb dzM_change_27 rfl (lv_at hl 1 rfl) ?_
    refine xk_iald (q0 := 3) (t0 := 0) (j := 4) (pc := 28) hx hb hK hP rfl rfl (pk_in 4 6 (by decide)) (pk_cl 4) dzM_change_28 ?_
    refine lv_sipush (v := 400) (pc := 29) hx hb dzM_change_29 (by decide) ?_
    refine lv_icmp_le (pc := 32) (tgt := 40) hx hb dzM_change_32 (by decide) (fun h2 => ?_) (fun h2 => ?_)
    ·
      exact K1 g1 H locs (Eq.mpr (if_neg h1) (Eq.mpr (if_pos h2) rfl)) (xk_cnt_le Ig1 (by omega)) hP hD hS
    ·
      refine lv_aload_n (pc := 35) hx hb dzM_change_35 rfl (lv_at hl 0 rfl) ?_
      refine lv_iload_n (pc := 36) hx hb dzM_change_36 rfl (lv_at hl 1 rfl) ?_
      refine xk_allVV (As := [.int 4]) (rest := []) (H0 := s.heap) (pc := 37) hx hb hml hts hown hK hA hP hD hS (kzM_disturb_4 l G ac ad g1 (B + 0) Ig1 (by omega)) vfzM_118 (fun _ => rfl) 0 rfl rfl ⟨rfl, rfl⟩ ⟨Nat.le_of_ble_eq_true rfl, Nat.le_of_ble_eq_true rfl⟩ rfl hl.1 rfl (Nat.le_of_ble_eq_true rfl) ⟨Nat.zero_le _, Nat.zero_le _⟩ dzM_change_37 (fun g3 H locs hg3 hP hD hS => ?_)
      have hP : va_P G xk_cls (xk_wM ad ac g3) H := hP
      have hD : va_D A (xk_wM ad ac g3) := hD
      have Ig3 : xk_cnt (B + 1) g3 := xk_cnt_le (iczM_disturb_4 (B + 0) _ _ hg3 Ig1) (by omega)
      exact K1 g3 H locs (Eq.mpr (if_neg h1) (Eq.mpr (if_neg h2) ⟨g3, hg3, rfl⟩)) (xk_cnt_le Ig3 (by omega)) hP hD hS
theorem frzM_change_4 (g0 : xk_St) (k1 : Int32) (gz : xk_St) : relzM_change_4 g0 k1 gz → xk_eqv [1, 2, 4, 6, 7, 8, 9, 10, 11, 12, 13, 14, 15, 16, 17, 18, 19, 20, 21, 22, 23, 24] g0 gz := by
  intro h
  unfold relzM_change_4 at h
  have s0 : xk_eqv [1, 2, 4, 6, 7, 8, 9, 10, 11, 12, 13, 14, 15, 16, 17, 18, 19, 20, 21, 22, 23, 24] g0 g0 := xk_eqv_rf
  obtain ⟨g1, u1, v2⟩ := h
  have s3 : xk_eqv [1, 2, 4, 6, 7, 8, 9, 10, 11, 12, 13, 14, 15, 16, 17, 18, 19, 20, 21, 22, 23, 24] g0 g1 := by rw [u1]; repeat (first | exact s0 | refine xk_eqv_up (by decide) ?_)
  obtain ⟨g4, u4, v5⟩ := v2
  have s6 : xk_eqv [1, 2, 4, 6, 7, 8, 9, 10, 11, 12, 13, 14, 15, 16, 17, 18, 19, 20, 21, 22, 23, 24] g0 g4 := by
    by_cases hc : ((g1 3) 4) < 0
    · rw [if_pos hc] at u4
      obtain ⟨g2, u7, v8⟩ := u4
      have s9 : xk_eqv [1, 2, 4, 6, 7, 8, 9, 10, 11, 12, 13, 14, 15, 16, 17, 18, 19, 20, 21, 22, 23, 24] g0 g2 := xk_eqv_tr s3 (xk_eqv_sub (frzM_disturb_4 _ _ u7) (by decide))
      rw [v8]; exact s9
    · rw [if_neg hc] at u4
      by_cases hc : ((g1 3) 4) ≤ 400
      · rw [if_pos hc] at u4
        rw [u4]; exact s3
      · rw [if_neg hc] at u4
        obtain ⟨g3, u10, v11⟩ := u4
        have s12 : xk_eqv [1, 2, 4, 6, 7, 8, 9, 10, 11, 12, 13, 14, 15, 16, 17, 18, 19, 20, 21, 22, 23, 24] g0 g3 := xk_eqv_tr s3 (xk_eqv_sub (frzM_disturb_4 _ _ u10) (by decide))
        rw [v11]; exact s12
  rw [v5]; exact s6
theorem iczM_change_4 (B : Nat) (g0 : xk_St) (k1 : Int32) (gz : xk_St) : relzM_change_4 g0 k1 gz → xk_cnt B g0 → xk_cnt (B + 1) gz := by
  intro h Ig0
  unfold relzM_change_4 at h
  have Ig0 : xk_cnt (B + 0) g0 := Ig0
  obtain ⟨g1, u1, v2⟩ := h
  have Ig1 : xk_cnt (B + 0) g1 := by rw [u1]; repeat (first | exact Ig0 | refine xk_cnt_k (by decide) ?_ | refine xk_cnt_f (by decide) ?_ | refine xk_cnt_s ?_)
  obtain ⟨g4, u3, v4⟩ := v2
  have Ig4 : xk_cnt (B + 1) g4 := by
    by_cases hc : ((g1 3) 4) < 0
    · rw [if_pos hc] at u3
      obtain ⟨g2, u5, v6⟩ := u3
      have Ig2 : xk_cnt (B + 1) g2 := xk_cnt_le (iczM_disturb_4 (B + 0) _ _ u5 Ig1) (by omega)
      rw [v6]; exact xk_cnt_le Ig2 (by omega)
    · rw [if_neg hc] at u3
      by_cases hc : ((g1 3) 4) ≤ 400
      · rw [if_pos hc] at u3
        rw [u3]; exact xk_cnt_le Ig1 (by omega)
      · rw [if_neg hc] at u3
        obtain ⟨g3, u7, v8⟩ := u3
        have Ig3 : xk_cnt (B + 1) g3 := xk_cnt_le (iczM_disturb_4 (B + 0) _ _ u7 Ig1) (by omega)
        rw [v8]; exact xk_cnt_le Ig3 (by omega)
  rw [v4]; exact xk_cnt_le Ig4 (by omega)

def relzM_change_5 (g0 : xk_St) (k1 : Int32) (gz : xk_St) : Prop := ∃ (g1 : xk_St), g1 = va_up g0 3 (upd (g0 3) 5 (((g0 3) 5) + k1)) ∧ (∃ (g4 : xk_St), (if ((g1 3) 5) < 0 then (∃ (g2 : xk_St), relzM_disturb_5 g1 g2 ∧ (g4 = g2)) else (if ((g1 3) 5) ≤ 400 then (g4 = g1) else (∃ (g3 : xk_St), relzM_disturb_5 g1 g3 ∧ (g4 = g3)))) ∧ (gz = g4))
set_option maxHeartbeats 4000000 in
set_option maxRecDepth 100000 in
theorem kzM_change_5 (l : Launch) (G : va_G) (ac : Nat → ClassId) (ad : Nat → Nat) (g0 : xk_St) (k1 : Int32) (B : Nat) (Ig0 : xk_cnt B g0) (hB : B + 2 < 2147483648) : xk_CV l yzM_change czM_change 3 xk_WS xk_r2 G xk_cls (xk_tys ac) [.ref (ad 0), .int 5, .int k1] (xk_wM ad ac g0) (fun (gz : xk_St) => relzM_change_5 g0 k1 gz) (fun gz => xk_wM ad ac gz) := by
  refine xk_ofV (by decide) (Nat.le_of_ble_eq_true rfl) ?_
  intro p e s m args below meth c A Q H locs ls C0 hret hP hD hS hl
  obtain ⟨hx, hb, hml, hts, hown, hK, hA⟩ := C0
  have hl : lv_has ls 3 [(0, .ref (ad 0)), (1, .int 5), (2, .int k1)] := hl
  have Ig0 : xk_cnt (B + 0) g0 := Ig0
  refine lv_aload_n (pc := 0) hx hb dzM_change_0 rfl (lv_at hl 0 rfl) ?_
  refine xk_get (pc := 1) hx hb hts hown hK hP ffzM_17 0 rfl rfl dzM_change_1 ?_
  refine lv_iload_n (pc := 4) hx hb dzM_change_4 rfl (lv_at hl 1 rfl) ?_
  refine lv_aload_n (pc := 5) hx hb dzM_change_5 rfl (lv_at hl 0 rfl) ?_
  refine xk_get (pc := 6) hx hb hts hown hK hP ffzM_17 0 rfl rfl dzM_change_6 ?_
  refine lv_iload_n (pc := 9) hx hb dzM_change_9 rfl (lv_at hl 1 rfl) ?_
  refine xk_iald (q0 := 3) (t0 := 0) (j := 5) (pc := 10) hx hb hK hP rfl rfl (pk_in 5 6 (by decide)) (pk_cl 5) dzM_change_10 ?_
  refine lv_iload_n (pc := 11) hx hb dzM_change_11 rfl (lv_at hl 2 rfl) ?_
  refine lv_iadd (pc := 12) hx hb dzM_change_12 ?_
  refine xk_iast (q0 := 3) (t0 := 0) (j := 5) (pc := 13) hx hb hK hP hD hS rfl rfl (pk_in 5 6 (by decide)) (pk_cl 5) dzM_change_13 (fun H locs hP hD hS => ?_)
  obtain ⟨g1, eg1⟩ : ∃ z : xk_St, z = va_up g0 3 (upd (g0 3) 5 (((g0 3) 5) + k1)) := ⟨_, rfl⟩
  have hP : va_P G xk_cls (xk_wM ad ac g1) H := by rw [eg1]; exact hP
  have hD : va_D A (xk_wM ad ac g1) := by rw [eg1]; exact hD
  have Ig1 : xk_cnt (B + 0) g1 := by rw [eg1]; repeat (first | exact Ig0 | refine xk_cnt_k (by decide) ?_ | refine xk_cnt_f (by decide) ?_ | refine xk_cnt_s ?_)
  refine lv_aload_n (pc := 14) hx hb dzM_change_14 rfl (lv_at hl 0 rfl) ?_
  refine xk_get (pc := 15) hx hb hts hown hK hP ffzM_17 0 rfl rfl dzM_change_15 ?_
  refine lv_iload_n (pc := 18) hx hb dzM_change_18 rfl (lv_at hl 1 rfl) ?_
  refine xk_iald (q0 := 3) (t0 := 0) (j := 5) (pc := 19) hx hb hK hP rfl rfl (pk_in 5 6 (by decide)) (pk_cl 5) dzM_change_19 ?_
  have K1 : ∀ (g4 : xk_St) (H : Heap) (locs : List Loc), (if ((g1 3) 5) < 0 then (∃ (g2 : xk_St), relzM_disturb_5 g1 g2 ∧ (g4 = g2)) else (if ((g1 3) 5) ≤ 400 then (g4 = g1) else (∃ (g3 : xk_St), relzM_disturb_5 g1 g3 ∧ (g4 = g3)))) → (xk_cnt (B + 1) g4) → (va_P G xk_cls (xk_wM ad ac g4) H) → (va_D A (xk_wM ad ac g4)) → (va_S A s.heap H locs) → W p l e xk_r2 s m args below meth c H locs 0 0 Q (F0 m 40 ls []) := by
    intro g4 H locs R1 Ig4 hP hD hS
    exact hret g4 H locs 40 ls hP hS (by unfold relzM_change_5; exact ⟨g1, eg1, ⟨g4, R1, rfl⟩⟩) dzM_change_40
  refine lv_if_lt (pc := 20) (tgt := 35) hx hb dzM_change_20 (by decide) (fun h1 => ?_) (fun h1 => ?_)
  ·
    refine lv_aload_n (pc := 35) hx hb dzM_change_35 rfl (lv_at hl 0 rfl) ?_
    refine lv_iload_n (pc := 36) hx hb dzM_change_36 rfl (lv_at hl 1 rfl) ?_
    refine xk_allVV (As := [.int 5]) (rest := []) (H0 := s.heap) (pc := 37) hx hb hml hts hown hK hA hP hD hS (kzM_disturb_5 l G ac ad g1 (B + 0) Ig1 (by omega)) vfzM_118 (fun _ => rfl) 0 rfl rfl ⟨rfl, rfl⟩ ⟨Nat.le_of_ble_eq_true rfl, Nat.le_of_ble_eq_true rfl⟩ rfl hl.1 rfl (Nat.le_of_ble_eq_true rfl) ⟨Nat.zero_le _, Nat.zero_le _⟩ dzM_change_37 (fun g2 H locs hg2 hP hD hS => ?_)
    have hP : va_P G xk_cls (xk_wM ad ac g2) H := hP
    have hD : va_D A (xk_wM ad ac g2) := hD
    have Ig2 : xk_cnt (B + 1) g2 := xk_cnt_le (iczM_disturb_5 (B + 0) _ _ hg2 Ig1) (by omega)
    exact K1 g2 H locs (Eq.mpr (if_pos h1) ⟨g2, hg2, rfl⟩) (xk_cnt_le Ig2 (by omega)) hP hD hS
  ·
    refine lv_aload_n (pc := 23) hx hb dzM_change_23 rfl (lv_at hl 0 rfl) ?_
    refine xk_get (pc := 24) hx hb hts hown hK hP ffzM_17 0 rfl rfl dzM_change_24 ?_
    refine lv_iload_n (pc := 27) hx hb dzM_change_27 rfl (lv_at hl 1 rfl) ?_
    refine xk_iald (q0 := 3) (t0 := 0) (j := 5) (pc := 28) hx hb hK hP rfl rfl (pk_in 5 6 (by decide)) (pk_cl 5) dzM_change_28 ?_
    refine lv_sipush (v := 400) (pc := 29) hx hb dzM_change_29 (by decide) ?_
    refine lv_icmp_le (pc := 32) (tgt := 40) hx hb dzM_change_32 (by decide) (fun h2 => ?_) (fun h2 => ?_)
    ·
      exact K1 g1 H locs (Eq.mpr (if_neg h1) (Eq.mpr (if_pos h2) rfl)) (xk_cnt_le Ig1 (by omega)) hP hD hS
    ·
      refine lv_aload_n (pc := 35) hx hb dzM_change_35 rfl (lv_at hl 0 rfl) ?_
      refine lv_iload_n (pc := 36) hx hb dzM_change_36 rfl (lv_at hl 1 rfl) ?_
      refine xk_allVV (As := [.int 5]) (rest := []) (H0 := s.heap) (pc := 37) hx hb hml hts hown hK hA hP hD hS (kzM_disturb_5 l G ac ad g1 (B + 0) Ig1 (by omega)) vfzM_118 (fun _ => rfl) 0 rfl rfl ⟨rfl, rfl⟩ ⟨Nat.le_of_ble_eq_true rfl, Nat.le_of_ble_eq_true rfl⟩ rfl hl.1 rfl (Nat.le_of_ble_eq_true rfl) ⟨Nat.zero_le _, Nat.zero_le _⟩ dzM_change_37 (fun g3 H locs hg3 hP hD hS => ?_)
      have hP : va_P G xk_cls (xk_wM ad ac g3) H := hP
      have hD : va_D A (xk_wM ad ac g3) := hD
      have Ig3 : xk_cnt (B + 1) g3 := xk_cnt_le (iczM_disturb_5 (B + 0) _ _ hg3 Ig1) (by omega)
      exact K1 g3 H locs (Eq.mpr (if_neg h1) (Eq.mpr (if_neg h2) ⟨g3, hg3, rfl⟩)) (xk_cnt_le Ig3 (by omega)) hP hD hS
theorem frzM_change_5 (g0 : xk_St) (k1 : Int32) (gz : xk_St) : relzM_change_5 g0 k1 gz → xk_eqv [1, 2, 4, 6, 7, 8, 9, 10, 11, 12, 13, 14, 15, 16, 17, 18, 19, 20, 21, 22, 23, 24] g0 gz := by
  intro h
  unfold relzM_change_5 at h
  have s0 : xk_eqv [1, 2, 4, 6, 7, 8, 9, 10, 11, 12, 13, 14, 15, 16, 17, 18, 19, 20, 21, 22, 23, 24] g0 g0 := xk_eqv_rf
  obtain ⟨g1, u1, v2⟩ := h
  have s3 : xk_eqv [1, 2, 4, 6, 7, 8, 9, 10, 11, 12, 13, 14, 15, 16, 17, 18, 19, 20, 21, 22, 23, 24] g0 g1 := by rw [u1]; repeat (first | exact s0 | refine xk_eqv_up (by decide) ?_)
  obtain ⟨g4, u4, v5⟩ := v2
  have s6 : xk_eqv [1, 2, 4, 6, 7, 8, 9, 10, 11, 12, 13, 14, 15, 16, 17, 18, 19, 20, 21, 22, 23, 24] g0 g4 := by
    by_cases hc : ((g1 3) 5) < 0
    · rw [if_pos hc] at u4
      obtain ⟨g2, u7, v8⟩ := u4
      have s9 : xk_eqv [1, 2, 4, 6, 7, 8, 9, 10, 11, 12, 13, 14, 15, 16, 17, 18, 19, 20, 21, 22, 23, 24] g0 g2 := xk_eqv_tr s3 (xk_eqv_sub (frzM_disturb_5 _ _ u7) (by decide))
      rw [v8]; exact s9
    · rw [if_neg hc] at u4
      by_cases hc : ((g1 3) 5) ≤ 400
      · rw [if_pos hc] at u4
        rw [u4]; exact s3
      · rw [if_neg hc] at u4
        obtain ⟨g3, u10, v11⟩ := u4
        have s12 : xk_eqv [1, 2, 4, 6, 7, 8, 9, 10, 11, 12, 13, 14, 15, 16, 17, 18, 19, 20, 21, 22, 23, 24] g0 g3 := xk_eqv_tr s3 (xk_eqv_sub (frzM_disturb_5 _ _ u10) (by decide))
        rw [v11]; exact s12
  rw [v5]; exact s6
theorem iczM_change_5 (B : Nat) (g0 : xk_St) (k1 : Int32) (gz : xk_St) : relzM_change_5 g0 k1 gz → xk_cnt B g0 → xk_cnt (B + 1) gz := by
  intro h Ig0
  unfold relzM_change_5 at h
  have Ig0 : xk_cnt (B + 0) g0 := Ig0
  obtain ⟨g1, u1, v2⟩ := h
  have Ig1 : xk_cnt (B + 0) g1 := by rw [u1]; repeat (first | exact Ig0 | refine xk_cnt_k (by decide) ?_ | refine xk_cnt_f (by decide) ?_ | refine xk_cnt_s ?_)
  obtain ⟨g4, u3, v4⟩ := v2
  have Ig4 : xk_cnt (B + 1) g4 := by
    by_cases hc : ((g1 3) 5) < 0
    · rw [if_pos hc] at u3
      obtain ⟨g2, u5, v6⟩ := u3
      have Ig2 : xk_cnt (B + 1) g2 := xk_cnt_le (iczM_disturb_5 (B + 0) _ _ u5 Ig1) (by omega)
      rw [v6]; exact xk_cnt_le Ig2 (by omega)
    · rw [if_neg hc] at u3
      by_cases hc : ((g1 3) 5) ≤ 400
      · rw [if_pos hc] at u3
        rw [u3]; exact xk_cnt_le Ig1 (by omega)
      · rw [if_neg hc] at u3
        obtain ⟨g3, u7, v8⟩ := u3
        have Ig3 : xk_cnt (B + 1) g3 := xk_cnt_le (iczM_disturb_5 (B + 0) _ _ u7 Ig1) (by omega)
        rw [v8]; exact xk_cnt_le Ig3 (by omega)
  rw [v4]; exact xk_cnt_le Ig4 (by omega)

