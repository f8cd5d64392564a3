def relzM_counts_0_0 (g0 : xk_St) (k2 : Int32) (gz : xk_St) : Prop := ∃ (x1 : Int32), (if k2 = 1 then (if ((g0 6) 0) = 0 then (x1 = (g0 7) 0) else (x1 = ((g0 7) 0) + 1)) else (x1 = (g0 7) 0)) ∧ (∃ (g1 : xk_St), g1 = va_up g0 7 (upd (g0 7) 0 x1) ∧ (∃ (x2 : Int32), (if k2 = (-1) then (if ((g1 6) 0) = 0 then (x2 = (g1 10) 0) else (x2 = ((g1 10) 0) + 1)) else (x2 = (g1 10) 0)) ∧ (∃ (g2 : xk_St), g2 = va_up g1 10 (upd (g1 10) 0 x2) ∧ (∃ (g3 : xk_St), relzM_change_0 g2 k2 g3 ∧ (∃ (g5 : xk_St), (if k2 = 1 then (∃ (g4 : xk_St), g4 = va_up g3 12 (upd (g3 12) 0 1) ∧ (g5 = g4)) else (g5 = g3)) ∧ (gz = g5))))))
set_option maxHeartbeats 4000000 in
set_option maxRecDepth 100000 in
theorem kzM_counts_0_0 (l : Launch) (G : va_G) (ac : Nat → ClassId) (ad : Nat → Nat) (g0 : xk_St) (k2 : Int32) (B : Nat) (Ig0 : xk_cnt B g0) (hB : B + 2 < 2147483648) : xk_CV l yzM_counts czM_counts 6 xk_WS xk_r3 G xk_cls (xk_tys ac) [.ref (ad 0), .int 0, .int 0, .int k2] (xk_wM ad ac g0) (fun (gz : xk_St) => relzM_counts_0_0 g0 k2 gz) (fun gz => xk_wM ad ac gz) := by
  refine xk_ofV (by decide) (Nat.le_of_ble_eq_true rfl) ?_
  intro p e s m args below meth c A Q H locs ls C0 hret hP hD hS hl
  obtain ⟨hx, hb, hml, hts, hown, hK, hA⟩ := C0
  have hl : lv_has ls 6 [(0, .ref (ad 0)), (1, .int 0), (2, .int 0), (3, .int k2)] := hl
  have Ig0 : xk_cnt (B + 0) g0 := Ig0
  refine lv_iconst (v := 3) (pc := 0) hx hb dzM_counts_0 (by decide) ?_
  refine lv_iload_n (pc := 1) hx hb dzM_counts_1 rfl (lv_at hl 1 rfl) ?_
  refine lv_imul (pc := 2) hx hb dzM_counts_2 ?_
  refine xk_is (y := 0) (by decide) ?_
  refine lv_iload_n (pc := 3) hx hb dzM_counts_3 rfl (lv_at hl 2 rfl) ?_
  refine lv_iadd (pc := 4) hx hb dzM_counts_4 ?_
  refine xk_is (y := 0) (by decide) ?_
  refine lv_iconst (v := 1) (pc := 5) hx hb dzM_counts_5 (by decide) ?_
  refine lv_isub (pc := 6) hx hb dzM_counts_6 ?_
  refine xk_is (y := (-1)) (by decide) ?_
  refine lv_istore (lv' := [(4, .int (-1)), (0, .ref (ad 0)), (1, .int 0), (2, .int 0), (3, .int k2)]) (pc := 7) hx hb dzM_counts_7 hl (by decide) rfl (fun ls hl => ?_)
  refine lv_iconst (v := 3) (pc := 9) hx hb dzM_counts_9 (by decide) ?_
  refine lv_iload_n (pc := 10) hx hb dzM_counts_10 rfl (lv_at hl 2 rfl) ?_
  refine lv_imul (pc := 11) hx hb dzM_counts_11 ?_
  refine xk_is (y := 0) (by decide) ?_
  refine lv_iload_n (pc := 12) hx hb dzM_counts_12 rfl (lv_at hl 3 rfl) ?_
  refine lv_iadd (pc := 13) hx hb dzM_counts_13 ?_
  refine xk_is (y := 0) (by decide) ?_
  refine lv_istore (lv' := [(5, .int 0), (4, .int (-1)), (0, .ref (ad 0)), (1, .int 0), (2, .int 0), (3, .int k2)]) (pc := 14) hx hb dzM_counts_14 hl (by decide) rfl (fun ls hl => ?_)
  refine lv_iload_n (pc := 16) hx hb dzM_counts_16 rfl (lv_at hl 4 rfl) ?_
  refine lv_if_le (pc := 17) (tgt := 110) hx hb dzM_counts_17 (by decide) (fun _ => ?_) (fun hq9 => absurd (by decide) hq9)
  refine lv_iload_n (pc := 110) hx hb dzM_counts_110 rfl (lv_at hl 4 rfl) ?_
  refine lv_iconst (v := 3) (pc := 111) hx hb dzM_counts_111 (by decide) ?_
  refine lv_icmp_ge (pc := 112) (tgt := 204) hx hb dzM_counts_112 (by decide) (fun hq9 => absurd hq9 (by decide)) (fun _ => ?_)
  refine lv_aload_n (pc := 115) hx hb dzM_counts_115 rfl (lv_at hl 2 rfl) ?_
  refine xk_get (pc := 116) hx hb hts hown hK hP ffzM_29 0 rfl rfl dzM_counts_116 ?_
  refine lv_iload (pc := 119) hx hb dzM_counts_119 (lv_at hl 0 rfl) ?_
  refine lv_iload_n (pc := 121) hx hb dzM_counts_121 rfl (lv_at hl 5 rfl) ?_
  refine lv_iconst (v := 1) (pc := 122) hx hb dzM_counts_122 (by decide) ?_
  have K1 : ∀ (x1 : Int32), (if k2 = 1 then (if ((g0 6) 0) = 0 then (x1 = (g0 7) 0) else (x1 = ((g0 7) 0) + 1)) else (x1 = (g0 7) 0)) → W p l e xk_r3 s m args below meth c H locs 0 0 Q (F0 m 155 ls [.int x1, .int 0, .ref (ad 7)]) := by
    intro x1 R1
    refine xk_iast (q0 := 7) (t0 := 0) (j := 0) (pc := 155) hx hb hK hP hD hS rfl rfl (pk_in 0 6 (by decide)) (pk_cl 0) dzM_counts_155 (fun H locs hP hD hS => ?_)
    obtain ⟨g1, eg1⟩ : ∃ z : xk_St, z = va_up g0 7 (upd (g0 7) 0 x1) := ⟨_, rfl⟩
    have hP : va_P G xk_cls (xk_wM ad ac g1) H := by rw [eg1]; exact hP
    have hD : va_D A (xk_wM ad ac g1) := by rw [eg1]; exact hD
    have Ig1 : xk_cnt (B + 0) g1 := by rw [eg1]; repeat (first | exact Ig0 | refine xk_cnt_k (by decide) ?_ | refine xk_cnt_f (by decide) ?_ | refine xk_cnt_s ?_)
    refine lv_aload_n (pc := 156) hx hb dzM_counts_156 rfl (lv_at hl 2 rfl) ?_
    refine xk_get (pc := 157) hx hb hts hown hK hP ffzM_38 0 rfl rfl dzM_counts_157 ?_
    refine lv_iload (pc := 160) hx hb dzM_counts_160 (lv_at hl 0 rfl) ?_
    refine lv_iload_n (pc := 162) hx hb dzM_counts_162 rfl (lv_at hl 5 rfl) ?_
    refine lv_iconst (v := (-1)) (pc := 163) hx hb dzM_counts_163 (by decide) ?_
    have K2 : ∀ (x2 : Int32), (if k2 = (-1) then (if ((g1 6) 0) = 0 then (x2 = (g1 10) 0) else (x2 = ((g1 10) 0) + 1)) else (x2 = (g1 10) 0)) → W p l e xk_r3 s m args below meth c H locs 0 0 Q (F0 m 196 ls [.int x2, .int 0, .ref (ad 10)]) := by
      intro x2 R2
      refine xk_iast (q0 := 10) (t0 := 0) (j := 0) (pc := 196) hx hb hK hP hD hS rfl rfl (pk_in 0 6 (by decide)) (pk_cl 0) dzM_counts_196 (fun H locs hP hD hS => ?_)
      obtain ⟨g2, eg2⟩ : ∃ z : xk_St, z = va_up g1 10 (upd (g1 10) 0 x2) := ⟨_, rfl⟩
      have hP : va_P G xk_cls (xk_wM ad ac g2) H := by rw [eg2]; exact hP
      have hD : va_D A (xk_wM ad ac g2) := by rw [eg2]; exact hD
      have Ig2 : xk_cnt (B + 0) g2 := by rw [eg2]; repeat (first | exact Ig1 | refine xk_cnt_k (by decide) ?_ | refine xk_cnt_f (by decide) ?_ | refine xk_cnt_s ?_)
      refine lv_aload_n (pc := 197) hx hb dzM_counts_197 rfl (lv_at hl 2 rfl) ?_
      refine lv_iload (pc := 198) hx hb dzM_counts_198 (lv_at hl 0 rfl) ?_
      refine lv_iload_n (pc := 200) hx hb dzM_counts_200 rfl (lv_at hl 5 rfl) ?_
      refine xk_allVV (As := [.int 0, .int k2]) (rest := []) (H0 := s.heap) (pc := 201) hx hb hml hts hown hK hA hP hD hS (kzM_change_0 l G ac ad g2 k2 (B + 0) Ig2 (by omega)) vfzM_138 (fun _ => rfl) 0 rfl rfl ⟨rfl, rfl⟩ ⟨Nat.le_of_ble_eq_true rfl, Nat.le_of_ble_eq_true rfl⟩ rfl hl.1 rfl (Nat.le_of_ble_eq_true rfl) ⟨Nat.zero_le _, Nat.zero_le _⟩ dzM_counts_201 (fun g3 H locs hg3 hP hD hS => ?_)
      have hP : va_P G xk_cls (xk_wM ad ac g3) H := hP
      have hD : va_D A (xk_wM ad ac g3) := hD
      have Ig3 : xk_cnt (B + 1) g3 := xk_cnt_le (iczM_change_0 (B + 0) _ _ _ hg3 Ig2) (by omega)
      refine lv_iload_n (pc := 204) hx hb dzM_counts_204 rfl (lv_at hl 4 rfl) ?_
      refine lv_if_ne (pc := 205) (tgt := 222) hx hb dzM_counts_205 (by decide) (fun hq9 => absurd (by decide) hq9) (fun _ => ?_)
      refine lv_iload_n (pc := 208) hx hb dzM_counts_208 rfl (lv_at hl 5 rfl) ?_
      refine lv_iconst (v := 1) (pc := 209) hx hb dzM_counts_209 (by decide) ?_
      have K3 : ∀ (g5 : xk_St) (H : Heap) (locs : List Loc), (if k2 = 1 then (∃ (g4 : xk_St), g4 = va_up g3 12 (upd (g3 12) 0 1) ∧ (g5 = g4)) else (g5 = g3)) → (xk_cnt (B + 1) g5) → (va_P G xk_cls (xk_wM ad ac g5) H) → (va_D A (xk_wM ad ac g5)) → (va_S A s.heap H locs) → W p l e xk_r3 s m args below meth c H locs 0 0 Q (F0 m 222 ls []) := by
        intro g5 H locs R3 Ig5 hP hD hS
        refine lv_iload_n (pc := 222) hx hb dzM_counts_222 rfl (lv_at hl 4 rfl) ?_
        refine lv_iconst (v := 3) (pc := 223) hx hb dzM_counts_223 (by decide) ?_
        refine lv_icmp_ne (pc := 224) (tgt := 243) hx hb dzM_counts_224 (by decide) (fun _ => ?_) (fun hq9 => absurd hq9 (by decide))
        exact hret g5 H locs 243 ls hP hS (by unfold relzM_counts_0_0; exact ⟨x1, R1, ⟨g1, eg1, ⟨x2, R2, ⟨g2, eg2, ⟨g3, hg3, ⟨g5, R3, rfl⟩⟩⟩⟩⟩⟩) dzM_counts_243
      refine lv_icmp_ne (pc := 210) (tgt := 222) hx hb dzM_counts_210 (by decide) (fun h5 => ?_) (fun h5 => ?_)
      ·
        exact K3 g3 H locs (Eq.mpr (if_neg h5) rfl) (xk_cnt_le Ig3 (by omega)) hP hD hS
      ·
        refine lv_aload_n (pc := 213) hx hb dzM_counts_213 rfl (lv_at hl 2 rfl) ?_
        refine xk_get (pc := 214) hx hb hts hown hK hP ffzM_44 0 rfl rfl dzM_counts_214 ?_
        refine lv_iconst (v := 2) (pc := 217) hx hb dzM_counts_217 (by decide) ?_
        refine lv_iload_n (pc := 218) hx hb dzM_counts_218 rfl (lv_at hl 3 rfl) ?_
        refine lv_imul (pc := 219) hx hb dzM_counts_219 ?_
        refine xk_is (y := 0) (by decide) ?_
        refine lv_iconst (v := 1) (pc := 220) hx hb dzM_counts_220 (by decide) ?_
        refine xk_zast (q0 := 12) (t0 := 1) (j := 0) (pc := 221) hx hb hK hP hD hS rfl rfl (pk_in 0 4 (by decide)) (pk_cl 0) xk_b1 dzM_counts_221 (fun H locs hP hD hS => ?_)
        obtain ⟨g4, eg4⟩ : ∃ z : xk_St, z = va_up g3 12 (upd (g3 12) 0 1) := ⟨_, rfl⟩
        have hP : va_P G xk_cls (xk_wM ad ac g4) H := by rw [eg4]; exact hP
        have hD : va_D A (xk_wM ad ac g4) := by rw [eg4]; exact hD
        have Ig4 : xk_cnt (B + 1) g4 := by rw [eg4]; repeat (first | exact Ig3 | refine xk_cnt_k (by decide) ?_ | refine xk_cnt_f (by decide) ?_ | refine xk_cnt_s ?_)
        exact K3 g4 H locs (Eq.mpr (if_pos h5) ⟨g4, eg4, rfl⟩) (xk_cnt_le Ig4 (by omega)) hP hD hS
    refine lv_icmp_ne (pc := 164) (tgt := 189) hx hb dzM_counts_164 (by decide) (fun h3 => ?_) (fun h3 => ?_)
    ·
      refine lv_aload_n (pc := 189) hx hb dzM_counts_189 rfl (lv_at hl 2 rfl) ?_
      refine xk_get (pc := 190) hx hb hts hown hK hP ffzM_38 0 rfl rfl dzM_counts_190 ?_
      refine lv_iload (pc := 193) hx hb dzM_counts_193 (lv_at hl 0 rfl) ?_
      refine xk_iald (q0 := 10) (t0 := 0) (j := 0) (pc := 195) hx hb hK hP rfl rfl (pk_in 0 6 (by decide)) (pk_cl 0) dzM_counts_195 ?_
      exact K2 ((g1 10) 0) (Eq.mpr (if_neg h3) rfl)
    ·
      refine lv_aload_n (pc := 167) hx hb dzM_counts_167 rfl (lv_at hl 2 rfl) ?_
      refine xk_get (pc := 168) hx hb hts hown hK hP ffzM_26 0 rfl rfl dzM_counts_168 ?_
      refine lv_iload (pc := 171) hx hb dzM_counts_171 (lv_at hl 0 rfl) ?_
      refine xk_iald (q0 := 6) (t0 := 0) (j := 0) (pc := 173) hx hb hK hP rfl rfl (pk_in 0 6 (by decide)) (pk_cl 0) dzM_counts_173 ?_
      refine lv_if_eq (pc := 174) (tgt := 189) hx hb dzM_counts_174 (by decide) (fun h4 => ?_) (fun h4 => ?_)
      ·
        refine lv_aload_n (pc := 189) hx hb dzM_counts_189 rfl (lv_at hl 2 rfl) ?_
        refine xk_get (pc := 190) hx hb hts hown hK hP ffzM_38 0 rfl rfl dzM_counts_190 ?_
        refine lv_iload (pc := 193) hx hb dzM_counts_193 (lv_at hl 0 rfl) ?_
        refine xk_iald (q0 := 10) (t0 := 0) (j := 0) (pc := 195) hx hb hK hP rfl rfl (pk_in 0 6 (by decide)) (pk_cl 0) dzM_counts_195 ?_
        exact K2 ((g1 10) 0) (Eq.mpr (if_pos h3) (Eq.mpr (if_pos h4) rfl))
      ·
        refine lv_aload_n (pc := 177) hx hb dzM_counts_177 rfl (lv_at hl 2 rfl) ?_
        refine xk_get (pc := 178) hx hb hts hown hK hP ffzM_38 0 rfl rfl dzM_counts_178 ?_
        refine lv_iload (pc := 181) hx hb dzM_counts_181 (lv_at hl 0 rfl) ?_
        refine xk_iald (q0 := 10) (t0 := 0) (j := 0) (pc := 183) hx hb hK hP rfl rfl (pk_in 0 6 (by decide)) (pk_cl 0) dzM_counts_183 ?_
        refine lv_iconst (v := 1) (pc := 184) hx hb dzM_counts_184 (by decide) ?_
        refine lv_iadd (pc := 185) hx hb dzM_counts_185 ?_
        refine lv_goto (tgt := 196) (pc := 186) hx hb dzM_counts_186 (by decide) ?_
        exact K2 (((g1 10) 0) + 1) (Eq.mpr (if_pos h3) (Eq.mpr (if_neg h4) rfl))
  refine lv_icmp_ne (pc := 123) (tgt := 148) hx hb dzM_counts_123 (by decide) (fun h1 => ?_) (fun h1 => ?_)
  ·
    refine lv_aload_n (pc := 148) hx hb dzM_counts_148 rfl (lv_at hl 2 rfl) ?_
    refine xk_get (pc := 149) hx hb hts hown hK hP ffzM_29 0 rfl rfl dzM_counts_149 ?_
    refine lv_iload (pc := 152) hx hb dzM_counts_152 (lv_at hl 0 rfl) ?_
    refine xk_iald (q0 := 7) (t0 := 0) (j := 0) (pc := 154) hx hb hK hP rfl rfl (pk_in 0 6 (by decide)) (pk_cl 0) dzM_counts_154 ?_
    exact K1 ((g0 7) 0) (Eq.mpr (if_neg h1) rfl)
  ·
    refine lv_aload_n (pc := 126) hx hb dzM_counts_126 rfl (lv_at hl 2 rfl) ?_
    refine xk_get (pc := 127) hx hb hts hown hK hP ffzM_26 0 rfl rfl dzM_counts_127 ?_
    refine lv_iload (pc := 130) hx hb dzM_counts_130 (lv_at hl 0 rfl) ?_
    refine xk_iald (q0 := 6) (t0 := 0) (j := 0) (pc := 132) hx hb hK hP rfl rfl (pk_in 0 6 (by decide)) (pk_cl 0) dzM_counts_132 ?_
    refine lv_if_eq (pc := 133) (tgt := 148) hx hb dzM_counts_133 (by decide) (fun h2 => ?_) (fun h2 => ?_)
    ·
      refine lv_aload_n (pc := 148) hx hb dzM_counts_148 rfl (lv_at hl 2 rfl) ?_
      refine xk_get (pc := 149) hx hb hts hown hK hP ffzM_29 0 rfl rfl dzM_counts_149 ?_
      refine lv_iload (pc := 152) hx hb dzM_counts_152 (lv_at hl 0 rfl) ?_
      refine xk_iald (q0 := 7) (t0 := 0) (j := 0) (pc := 154) hx hb hK hP rfl rfl (pk_in 0 6 (by decide)) (pk_cl 0) dzM_counts_154 ?_
      exact K1 ((g0 7) 0) (Eq.mpr (if_pos h1) (Eq.mpr (if_pos h2) rfl))
    ·
      refine lv_aload_n (pc := 136) hx hb dzM_counts_136 rfl (lv_at hl 2 rfl) ?_
      refine xk_get (pc := 137) hx hb hts hown hK hP ffzM_29 0 rfl rfl dzM_counts_137 ?_
      refine lv_iload (pc := 140) hx hb dzM_counts_140 (lv_at hl 0 rfl) ?_
      refine xk_iald (q0 := 7) (t0 := 0) (j := 0) (pc := 142) hx hb hK hP rfl rfl (pk_in 0 6 (by decide)) (pk_cl 0) dzM_counts_142 ?_
      refine lv_iconst (v := 1) (pc := 143) hx hb dzM_counts_143 (by decide) ?_
      refine lv_iadd (pc := 144) hx hb dzM_counts_144 ?_
      refine lv_goto (tgt := 155) (pc := 145) hx hb dzM_counts_145 (by decide) ?_
      exact K1 (((g0 7) 0) + 1) (Eq.mpr (if_pos h1) (Eq.mpr (if_neg h2) rfl))
theorem frzM_counts_0_0 (g0 : xk_St) (k2 : Int32) (gz : xk_St) : relzM_counts_0_0 g0 k2 gz → xk_eqv [1, 2, 4, 6, 8, 9, 11, 13, 14, 15, 16, 17, 18, 19, 20, 21, 22, 23, 24] g0 gz := by
  intro h
  unfold relzM_counts_0_0 at h
  have s0 : xk_eqv [1, 2, 4, 6, 8, 9, 11, 13, 14, 15, 16, 17, 18, 19, 20, 21, 22, 23, 24] g0 g0 := xk_eqv_rf
  obtain ⟨x1, u1, v2⟩ := h
  obtain ⟨g1, u3, v4⟩ := v2
  have s5 : xk_eqv [1, 2, 4, 6, 8, 9, 11, 13, 14, 15, 16, 17, 18, 19, 20, 21, 22, 23, 24] g0 g1 := by rw [u3]; repeat (first | exact s0 | refine xk_eqv_up (by decide) ?_)
  obtain ⟨x2, u6, v7⟩ := v4
  obtain ⟨g2, u8, v9⟩ := v7
  have s10 : xk_eqv [1, 2, 4, 6, 8, 9, 11, 13, 14, 15, 16, 17, 18, 19, 20, 21, 22, 23, 24] g0 g2 := by rw [u8]; repeat (first | exact s5 | refine xk_eqv_up (by decide) ?_)
  obtain ⟨g3, u11, v12⟩ := v9
  have s13 : xk_eqv [1, 2, 4, 6, 8, 9, 11, 13, 14, 15, 16, 17, 18, 19, 20, 21, 22, 23, 24] g0 g3 := xk_eqv_tr s10 (xk_eqv_sub (frzM_change_0 _ _ _ u11) (by decide))
  obtain ⟨g5, u14, v15⟩ := v12
  have s16 : xk_eqv [1, 2, 4, 6, 8, 9, 11, 13, 14, 15, 16, 17, 18, 19, 20, 21, 22, 23, 24] g0 g5 := by
    by_cases hc : k2 = 1
    · rw [if_pos hc] at u14
      obtain ⟨g4, u17, v18⟩ := u14
      have s19 : xk_eqv [1, 2, 4, 6, 8, 9, 11, 13, 14, 15, 16, 17, 18, 19, 20, 21, 22, 23, 24] g0 g4 := by rw [u17]; repeat (first | exact s13 | refine xk_eqv_up (by decide) ?_)
      rw [v18]; exact s19
    · rw [if_neg hc] at u14
      rw [u14]; exact s13
  rw [v15]; exact s16
theorem iczM_counts_0_0 (B : Nat) (g0 : xk_St) (k2 : Int32) (gz : xk_St) : relzM_counts_0_0 g0 k2 gz → xk_cnt B g0 → xk_cnt (B + 1) gz := by
  intro h Ig0
  unfold relzM_counts_0_0 at h
  have Ig0 : xk_cnt (B + 0) g0 := Ig0
  obtain ⟨x1, u1, v2⟩ := h
  obtain ⟨g1, u3, v4⟩ := v2
  have Ig1 : xk_cnt (B + 0) g1 := by rw [u3]; repeat (first | exact Ig0 | refine xk_cnt_k (by decide) ?_ | refine xk_cnt_f (by decide) ?_ | refine xk_cnt_s ?_)
  obtain ⟨x2, u5, v6⟩ := v4
  obtain ⟨g2, u7, v8⟩ := v6
  have Ig2 : xk_cnt (B + 0) g2 := by rw [u7]; repeat (first | exact Ig1 | refine xk_cnt_k (by decide) ?_ | refine xk_cnt_f (by decide) ?_ | refine xk_cnt_s ?_)
  obtain ⟨g3, u9, v10⟩ := v8
  have Ig3 : xk_cnt (B + 1) g3 := xk_cnt_le (iczM_change_0 (B + 0) _ _ _ u9 Ig2) (by omega)
  obtain ⟨g5, u11, v12⟩ := v10
  have Ig5 : xk_cnt (B + 1) g5 := by
    by_cases hc : k2 = 1
    · rw [if_pos hc] at u11
      obtain ⟨g4, u13, v14⟩ := u11
      have Ig4 : xk_cnt (B + 1) g4 := by rw [u13]; repeat (first | exact Ig3 | refine xk_cnt_k (by decide) ?_ | refine xk_cnt_f (by decide) ?_ | refine xk_cnt_s ?_)
      rw [v14]; exact xk_cnt_le Ig4 (by omega)
    · rw [if_neg hc] at u11
      rw [u11]; exact xk_cnt_le Ig3 (by omega)
  rw [v12]; exact xk_cnt_le Ig5 (by omega)

def relzM_counts_0_1 (g0 : xk_St) (k2 : Int32) (gz : xk_St) : Prop := ∃ (x1 : Int32), (if k2 = 1 then (if ((g0 6) 0) = 0 then (x1 = (g0 8) 0) else (x1 = ((g0 8) 0) + 1)) else (x1 = (g0 8) 0)) ∧ (∃ (g1 : xk_St), g1 = va_up g0 8 (upd (g0 8) 0 x1) ∧ (∃ (x2 : Int32), (if k2 = (-1) then (if ((g1 6) 0) = 0 then (x2 = (g1 9) 0) else (x2 = ((g1 9) 0) + 1)) else (x2 = (g1 9) 0)) ∧ (∃ (g2 : xk_St), g2 = va_up g1 9 (upd (g1 9) 0 x2) ∧ (∃ (g3 : xk_St), relzM_change_0 g2 (-k2) g3 ∧ (∃ (x3 : Int32), (if k2 = 1 then (if ((g3 6) 1) = 0 then (x3 = (g3 7) 1) else (x3 = ((g3 7) 1) + 1)) else (x3 = (g3 7) 1)) ∧ (∃ (g4 : xk_St), g4 = va_up g3 7 (upd (g3 7) 1 x3) ∧ (∃ (x4 : Int32), (if k2 = (-1) then (if ((g4 6) 1) = 0 then (x4 = (g4 10) 1) else (x4 = ((g4 10) 1) + 1)) else (x4 = (g4 10) 1)) ∧ (∃ (g5 : xk_St), g5 = va_up g4 10 (upd (g4 10) 1 x4) ∧ (∃ (g6 : xk_St), relzM_change_1 g5 k2 g6 ∧ (gz = g6))))))))))
set_option maxHeartbeats 4000000 in
set_option maxRecDepth 100000 in
theorem kzM_counts_0_1 (l : Launch) (G : va_G) (ac : Nat → ClassId) (ad : Nat → Nat) (g0 : xk_St) (k2 : Int32) (B : Nat) (Ig0 : xk_cnt B g0) (hB : B + 3 < 2147483648) : xk_CV l yzM_counts czM_counts 6 xk_WS xk_r3 G xk_cls (xk_tys ac) [.ref (ad 0), .int 0, .int 1, .int k2] (xk_wM ad ac g0) (fun (gz : xk_St) => relzM_counts_0_1 g0 k2 gz) (fun gz => xk_wM ad ac gz) := by
  refine xk_ofV (by decide) (Nat.le_of_ble_eq_true rfl) ?_
  intro p e s m args below meth c A Q H locs ls C0 hret hP hD hS hl
  obtain ⟨hx, hb, hml, hts, hown, hK, hA⟩ := C0
  have hl : lv_has ls 6 [(0, .ref (ad 0)), (1, .int 0), (2, .int 1), (3, .int k2)] := hl
  have Ig0 : xk_cnt (B + 0) g0 := Ig0
  refine lv_iconst (v := 3) (pc := 0) hx hb dzM_counts_0 (by decide) ?_
  refine lv_iload_n (pc := 1) hx hb dzM_counts_1 rfl (lv_at hl 1 rfl) ?_
  refine lv_imul (pc := 2) hx hb dzM_counts_2 ?_
  refine xk_is (y := 0) (by decide) ?_
  refine lv_iload_n (pc := 3) hx hb dzM_counts_3 rfl (lv_at hl 2 rfl) ?_
  refine lv_iadd (pc := 4) hx hb dzM_counts_4 ?_
  refine xk_is (y := 1) (by decide) ?_
  refine lv_iconst (v := 1) (pc := 5) hx hb dzM_counts_5 (by decide) ?_
  refine lv_isub (pc := 6) hx hb dzM_counts_6 ?_
  refine xk_is (y := 0) (by decide) ?_
  refine lv_istore (lv' := [(4, .int 0), (0, .ref (ad 0)), (1, .int 0), (2, .int 1), (3, .int k2)]) (pc := 7) hx hb dzM_counts_7 hl (by decide) rfl (fun ls hl => ?_)
  refine lv_iconst (v := 3) (pc := 9) hx hb dzM_counts_9 (by decide) ?_
  refine lv_iload_n (pc := 10) hx hb dzM_counts_10 rfl (lv_at hl 2 rfl) ?_
  refine lv_imul (pc := 11) hx hb dzM_counts_11 ?_
  refine xk_is (y := 0) (by decide) ?_
  refine lv_iload_n (pc := 12) hx hb dzM_counts_12 rfl (lv_at hl 3 rfl) ?_
  refine lv_iadd (pc := 13) hx hb dzM_counts_13 ?_
  refine xk_is (y := 1) (by decide) ?_
  refine lv_istore (lv' := [(5, .int 1), (4, .int 0), (0, .ref (ad 0)), (1, .int 0), (2, .int 1), (3, .int k2)]) (pc := 14) hx hb dzM_counts_14 hl (by decide) rfl (fun ls hl => ?_)
  refine lv_iload_n (pc := 16) hx hb dzM_counts_16 rfl (lv_at hl 4 rfl) ?_
  refine lv_if_le (pc := 17) (tgt := 110) hx hb dzM_counts_17 (by decide) (fun hq9 => absurd hq9 (by decide)) (fun _ => ?_)
  refine lv_aload_n (pc := 20) hx hb dzM_counts_20 rfl (lv_at hl 2 rfl) ?_
  refine xk_get (pc := 21) hx hb hts hown hK hP ffzM_32 0 rfl rfl dzM_counts_21 ?_
  refine lv_iload (pc := 24) hx hb dzM_counts_24 (lv_at hl 1 rfl) ?_
  refine lv_iload_n (pc := 26) hx hb dzM_counts_26 rfl (lv_at hl 5 rfl) ?_
  refine lv_iconst (v := 1) (pc := 27) hx hb dzM_counts_27 (by decide) ?_
  have K1 : ∀ (x1 : Int32), (if k2 = 1 then (if ((g0 6) 0) = 0 then (x1 = (g0 8) 0) else (x1 = ((g0 8) 0) + 1)) else (x1 = (g0 8) 0)) → W p l e xk_r3 s m args below meth c H locs 0 0 Q (F0 m 60 ls [.int x1, .int 0, .ref (ad 8)]) := by
    intro x1 R1
    refine xk_iast (q0 := 8) (t0 := 0) (j := 0) (pc := 60) hx hb hK hP hD hS rfl rfl (pk_in 0 6 (by decide)) (pk_cl 0) dzM_counts_60 (fun H locs hP hD hS => ?_)
    obtain ⟨g1, eg1⟩ : ∃ z : xk_St, z = va_up g0 8 (upd (g0 8) 0 x1) := ⟨_, rfl⟩
    have hP : va_P G xk_cls (xk_wM ad ac g1) H := by rw [eg1]; exact hP
    have hD : va_D A (xk_wM ad ac g1) := by rw [eg1]; exact hD
    have Ig1 : xk_cnt (B + 0) g1 := by rw [eg1]; repeat (first | exact Ig0 | refine xk_cnt_k (by decide) ?_ | refine xk_cnt_f (by decide) ?_ | refine xk_cnt_s ?_)
    refine lv_aload_n (pc := 61) hx hb dzM_counts_61 rfl (lv_at hl 2 rfl) ?_
    refine xk_get (pc := 62) hx hb hts hown hK hP ffzM_35 0 rfl rfl dzM_counts_62 ?_
    refine lv_iload (pc := 65) hx hb dzM_counts_65 (lv_at hl 1 rfl) ?_
    refine lv_iload_n (pc := 67) hx hb dzM_counts_67 rfl (lv_at hl 5 rfl) ?_
    refine lv_iconst (v := (-1)) (pc := 68) hx hb dzM_counts_68 (by decide) ?_
    have K2 : ∀ (x2 : Int32), (if k2 = (-1) then (if ((g1 6) 0) = 0 then (x2 = (g1 9) 0) else (x2 = ((g1 9) 0) + 1)) else (x2 = (g1 9) 0)) → W p l e xk_r3 s m args below meth c H locs 0 0 Q (F0 m 101 ls [.int x2, .int 0, .ref (ad 9)]) := by
      intro x2 R2
      refine xk_iast (q0 := 9) (t0 := 0) (j := 0) (pc := 101) hx hb hK hP hD hS rfl rfl (pk_in 0 6 (by decide)) (pk_cl 0) dzM_counts_101 (fun H locs hP hD hS => ?_)
      obtain ⟨g2, eg2⟩ : ∃ z : xk_St, z = va_up g1 9 (upd (g1 9) 0 x2) := ⟨_, rfl⟩
      have hP : va_P G xk_cls (xk_wM ad ac g2) H := by rw [eg2]; exact hP
      have hD : va_D A (xk_wM ad ac g2) := by rw [eg2]; exact hD
      have Ig2 : xk_cnt (B + 0) g2 := by rw [eg2]; repeat (first | exact Ig1 | refine xk_cnt_k (by decide) ?_ | refine xk_cnt_f (by decide) ?_ | refine xk_cnt_s ?_)
      refine lv_aload_n (pc := 102) hx hb dzM_counts_102 rfl (lv_at hl 2 rfl) ?_
      refine lv_iload (pc := 103) hx hb dzM_counts_103 (lv_at hl 1 rfl) ?_
      refine lv_iload_n (pc := 105) hx hb dzM_counts_105 rfl (lv_at hl 5 rfl) ?_
      refine lv_ineg (pc := 106) hx hb dzM_counts_106 ?_
      refine xk_allVV (As := [.int 0, .int (-k2)]) (rest := []) (H0 := s.heap) (pc := 107) hx hb hml hts hown hK hA hP hD hS (kzM_change_0 l G ac ad g2 (-k2) (B + 0) Ig2 (by omega)) vfzM_138 (fun _ => rfl) 0 rfl rfl ⟨rfl, rfl⟩ ⟨Nat.le_of_ble_eq_true rfl, Nat.le_of_ble_eq_true rfl⟩ rfl hl.1 rfl (Nat.le_of_ble_eq_true rfl) ⟨Nat.zero_le _, Nat.zero_le _⟩ dzM_counts_107 (fun g3 H locs hg3 hP hD hS => ?_)
      have hP : va_P G xk_cls (xk_wM ad ac g3) H := hP
      have hD : va_D A (xk_wM ad ac g3) := hD
      have Ig3 : xk_cnt (B + 1) g3 := xk_cnt_le (iczM_change_0 (B + 0) _ _ _ hg3 Ig2) (by omega)
      refine lv_iload_n (pc := 110) hx hb dzM_counts_110 rfl (lv_at hl 4 rfl) ?_
      refine lv_iconst (v := 3) (pc := 111) hx hb dzM_counts_111 (by decide) ?_
      refine lv_icmp_ge (pc := 112) (tgt := 204) hx hb dzM_counts_112 (by decide) (fun hq9 => absurd hq9 (by decide)) (fun _ => ?_)
      refine lv_aload_n (pc := 115) hx hb dzM_counts_115 rfl (lv_at hl 2 rfl) ?_
      refine xk_get (pc := 116) hx hb hts hown hK hP ffzM_29 0 rfl rfl dzM_counts_116 ?_
      refine lv_iload (pc := 119) hx hb dzM_counts_119 (lv_at hl 0 rfl) ?_
      refine lv_iload_n (pc := 121) hx hb dzM_counts_121 rfl (lv_at hl 5 rfl) ?_
      refine lv_iconst (v := 1) (pc := 122) hx hb dzM_counts_122 (by decide) ?_
      have K3 : ∀ (x3 : Int32), (if k2 = 1 then (if ((g3 6) 1) = 0 then (x3 = (g3 7) 1) else (x3 = ((g3 7) 1) + 1)) else (x3 = (g3 7) 1)) → W p l e xk_r3 s m args below meth c H locs 0 0 Q (F0 m 155 ls [.int x3, .int 1, .ref (ad 7)]) := by
        intro x3 R3
        refine xk_iast (q0 := 7) (t0 := 0) (j := 1) (pc := 155) hx hb hK hP hD hS rfl rfl (pk_in 1 6 (by decide)) (pk_cl 1) dzM_counts_155 (fun H locs hP hD hS => ?_)
        obtain ⟨g4, eg4⟩ : ∃ z : xk_St, z = va_up g3 7 (upd (g3 7) 1 x3) := ⟨_, rfl⟩
        have hP : va_P G xk_cls (xk_wM ad ac g4) H := by rw [eg4]; exact hP
        have hD : va_D A (xk_wM ad ac g4) := by rw [eg4]; exact hD
        have Ig4 : xk_cnt (B + 1) g4 := by rw [eg4]; repeat (first | exact Ig3 | refine xk_cnt_k (by decide) ?_ | refine xk_cnt_f (by decide) ?_ | refine xk_cnt_s ?_)
        refine lv_aload_n (pc := 156) hx hb dzM_counts_156 rfl (lv_at hl 2 rfl) ?_
        refine xk_get (pc := 157) hx hb hts hown hK hP ffzM_38 0 rfl rfl dzM_counts_157 ?_
        refine lv_iload (pc := 160) hx hb dzM_counts_160 (lv_at hl 0 rfl) ?_
        refine lv_iload_n (pc := 162) hx hb dzM_counts_162 rfl (lv_at hl 5 rfl) ?_
        refine lv_iconst (v := (-1)) (pc := 163) hx hb dzM_counts_163 (by decide) ?_
        have K4 : ∀ (x4 : Int32), (if k2 = (-1) then (if ((g4 6) 1) = 0 then (x4 = (g4 10) 1) else (x4 = ((g4 10) 1) + 1)) else (x4 = (g4 10) 1)) → W p l e xk_r3 s m args below meth c H locs 0 0 Q (F0 m 196 ls [.int x4, .int 1, .ref (ad 10)]) := by
          intro x4 R4
          refine xk_iast (q0 := 10) (t0 := 0) (j := 1) (pc := 196) hx hb hK hP hD hS rfl rfl (pk_in 1 6 (by decide)) (pk_cl 1) dzM_counts_196 (fun H locs hP hD hS => ?_)
          obtain ⟨g5, eg5⟩ : ∃ z : xk_St, z = va_up g4 10 (upd (g4 10) 1 x4) := ⟨_, rfl⟩
          have hP : va_P G xk_cls (xk_wM ad ac g5) H := by rw [eg5]; exact hP
          have hD : va_D A (xk_wM ad ac g5) := by rw [eg5]; exact hD
          have Ig5 : xk_cnt (B + 1) g5 := by rw [eg5]; repeat (first | exact Ig4 | refine xk_cnt_k (by decide) ?_ | refine xk_cnt_f (by decide) ?_ | refine xk_cnt_s ?_)
          refine lv_aload_n (pc := 197) hx hb dzM_counts_197 rfl (lv_at hl 2 rfl) ?_
          refine lv_iload (pc := 198) hx hb dzM_counts_198 (lv_at hl 0 rfl) ?_
          refine lv_iload_n (pc := 200) hx hb dzM_counts_200 rfl (lv_at hl 5 rfl) ?_
          refine xk_allVV (As := [.int 1, .int k2]) (rest := []) (H0 := s.heap) (pc := 201) hx hb hml hts hown hK hA hP hD hS (kzM_change_1 l G ac ad g5 k2 (B + 1) Ig5 (by omega)) vfzM_138 (fun _ => rfl) 0 rfl rfl ⟨rfl, rfl⟩ ⟨Nat.le_of_ble_eq_true rfl, Nat.le_of_ble_eq_true rfl⟩ rfl hl.1 rfl (Nat.le_of_ble_eq_true rfl) ⟨Nat.zero_le _, Nat.zero_le _⟩ dzM_counts_201 (fun g6 H locs hg6 hP hD hS => ?_)
          have hP : va_P G xk_cls (xk_wM ad ac g6) H := hP
          have hD : va_D A (xk_wM ad ac g6) := hD
          have Ig6 : xk_cnt (B + 2) g6 := xk_cnt_le (iczM_change_1 (B + 1) _ _ _ hg6 Ig5) (by omega)
          refine lv_iload_n (pc := 204) hx hb dzM_counts_204 rfl (lv_at hl 4 rfl) ?_
          refine lv_if_ne (pc := 205) (tgt := 222) hx hb dzM_counts_205 (by decide) (fun _ => ?_) (fun hq9 => absurd hq9 (by decide))
          refine lv_iload_n (pc := 222) hx hb dzM_counts_222 rfl (lv_at hl 4 rfl) ?_
          refine lv_iconst (v := 3) (pc := 223) hx hb dzM_counts_223 (by decide) ?_
          refine lv_icmp_ne (pc := 224) (tgt := 243) hx hb dzM_counts_224 (by decide) (fun _ => ?_) (fun hq9 => absurd hq9 (by decide))
          exact hret g6 H locs 243 ls hP hS (by unfold relzM_counts_0_1; exact ⟨x1, R1, ⟨g1, eg1, ⟨x2, R2, ⟨g2, eg2, ⟨g3, hg3, ⟨x3, R3, ⟨g4, eg4, ⟨x4, R4, ⟨g5, eg5, ⟨g6, hg6, rfl⟩⟩⟩⟩⟩⟩⟩⟩⟩⟩) dzM_counts_243
        refine lv_icmp_ne (pc := 164) (tgt := 189) hx hb dzM_counts_164 (by decide) (fun h7 => ?_) (fun h7 => ?_)
        ·
          refine lv_aload_n (pc := 189) hx hb dzM_counts_189 rfl (lv_at hl 2 rfl) ?_
          refine xk_get (pc := 190) hx hb hts hown hK hP ffzM_38 0 rfl rfl dzM_counts_190 ?_
          refine lv_iload (pc := 193) hx hb dzM_counts_193 (lv_at hl 0 rfl) ?_
          refine xk_iald (q0 := 10) (t0 := 0) (j := 1) (pc := 195) hx hb hK hP rfl rfl (pk_in 1 6 (by decide)) (pk_cl 1) dzM_counts_195 ?_
          exact K4 ((g4 10) 1) (Eq.mpr (if_neg h7) rfl)
        ·
          refine lv_aload_n (pc := 167) hx hb dzM_counts_167 rfl (lv_at hl 2 rfl) ?_
          refine xk_get (pc := 168) hx hb hts hown hK hP ffzM_26 0 rfl rfl dzM_counts_168 ?_
          refine lv_iload (pc := 171) hx hb dzM_counts_171 (lv_at hl 0 rfl) ?_
          refine xk_iald (q0 := 6) (t0 := 0) (j := 1) (pc := 173) hx hb hK hP rfl rfl (pk_in 1 6 (by decide)) (pk_cl 1) dzM_counts_173 ?_
          refine lv_if_eq (pc := 174) (tgt := 189) hx hb dzM_counts_174 (by decide) (fun h8 => ?_) (fun h8 => ?_)
          ·
            refine lv_aload_n (pc := 189) hx hb dzM_counts_189 rfl (lv_at hl 2 rfl) ?_
            refine xk_get (pc := 190) hx hb hts hown hK hP ffzM_38 0 rfl rfl dzM_counts_190 ?_
            refine lv_iload (pc := 193) hx hb dzM_counts_193 (lv_at hl 0 rfl) ?_
            refine xk_iald (q0 := 10) (t0 := 0) (j := 1) (pc := 195) hx hb hK hP rfl rfl (pk_in 1 6 (by decide)) (pk_cl 1) dzM_counts_195 ?_
            exact K4 ((g4 10) 1) (Eq.mpr (if_pos h7) (Eq.mpr (if_pos h8) rfl))
          ·
            refine lv_aload_n (pc := 177) hx hb dzM_counts_177 rfl (lv_at hl 2 rfl) ?_
            refine xk_get (pc := 178) hx hb hts hown hK hP ffzM_38 0 rfl rfl dzM_counts_178 ?_
            refine lv_iload (pc := 181) hx hb dzM_counts_181 (lv_at hl 0 rfl) ?_
            refine xk_iald (q0 := 10) (t0 := 0) (j := 1) (pc := 183) hx hb hK hP rfl rfl (pk_in 1 6 (by decide)) (pk_cl 1) dzM_counts_183 ?_
            refine lv_iconst (v := 1) (pc := 184) hx hb dzM_counts_184 (by decide) ?_
            refine lv_iadd (pc := 185) hx hb dzM_counts_185 ?_
            refine lv_goto (tgt := 196) (pc := 186) hx hb dzM_counts_186 (by decide) ?_
            exact K4 (((g4 10) 1) + 1) (Eq.mpr (if_pos h7) (Eq.mpr (if_neg h8) rfl))
      refine lv_icmp_ne (pc := 123) (tgt := 148) hx hb dzM_counts_123 (by decide) (fun h5 => ?_) (fun h5 => ?_)
      ·
        refine lv_aload_n (pc := 148) hx hb dzM_counts_148 rfl (lv_at hl 2 rfl) ?_
        refine xk_get (pc := 149) hx hb hts hown hK hP ffzM_29 0 rfl rfl dzM_counts_149 ?_
        refine lv_iload (pc := 152) hx hb dzM_counts_152 (lv_at hl 0 rfl) ?_
        refine xk_iald (q0 := 7) (t0 := 0) (j := 1) (pc := 154) hx hb hK hP rfl rfl (pk_in 1 6 (by decide)) (pk_cl 1) dzM_counts_154 ?_
        exact K3 ((g3 7) 1) (Eq.mpr (if_neg h5) rfl)
      ·
        refine lv_aload_n (pc := 126) hx hb dzM_counts_126 rfl (lv_at hl 2 rfl) ?_
        refine xk_get (pc := 127) hx hb hts hown hK hP ffzM_26 0 rfl rfl dzM_counts_127 ?_
        refine lv_iload (pc := 130) hx hb dzM_counts_130 (lv_at hl 0 rfl) ?_
        refine xk_iald (q0 := 6) (t0 := 0) (j := 1) (pc := 132) hx hb hK hP rfl rfl (pk_in 1 6 (by decide)) (pk_cl 1) dzM_counts_132 ?_
        refine lv_if_eq (pc := 133) (tgt := 148) hx hb dzM_counts_133 (by decide) (fun h6 => ?_) (fun h6 => ?_)
        ·
          refine lv_aload_n (pc := 148) hx hb dzM_counts_148 rfl (lv_at hl 2 rfl) ?_
          refine xk_get (pc := 149) hx hb hts hown hK hP ffzM_29 0 rfl rfl dzM_counts_149 ?_
          refine lv_iload (pc := 152) hx hb dzM_counts_152 (lv_at hl 0 rfl) ?_
          refine xk_iald (q0 := 7) (t0 := 0) (j := 1) (pc := 154) hx hb hK hP rfl rfl (pk_in 1 6 (by decide)) (pk_cl 1) dzM_counts_154 ?_
          exact K3 ((g3 7) 1) (Eq.mpr (if_pos h5) (Eq.mpr (if_pos h6) rfl))
        ·
          refine lv_aload_n (pc := 136) hx hb dzM_counts_136 rfl (lv_at hl 2 rfl) ?_
          refine xk_get (pc := 137) hx hb hts hown hK hP ffzM_29 0 rfl rfl dzM_counts_137 ?_
          refine lv_iload (pc := 140) hx hb dzM_counts_140 (lv_at hl 0 rfl) ?_
          refine xk_iald (q0 := 7) (t0 := 0) (j := 1) (pc := 142) hx hb hK hP rfl rfl (pk_in 1 6 (by decide)) (pk_cl 1) dzM_counts_142 ?_
          refine lv_iconst (v := 1) (pc := 143) hx hb dzM_counts_143 (by decide) ?_
          refine lv_iadd (pc := 144) hx hb dzM_counts_144 ?_
          refine lv_goto (tgt := 155) (pc := 145) hx hb dzM_counts_145 (by decide) ?_
          exact K3 (((g3 7) 1) + 1) (Eq.mpr (if_pos h5) (Eq.mpr (if_neg h6) rfl))
    refine lv_icmp_ne (pc := 69) (tgt := 94) hx hb dzM_counts_69 (by decide) (fun h3 => ?_) (fun h3 => ?_)
    ·
      refine lv_aload_n (pc := 94) hx hb dzM_counts_94 rfl (lv_at hl 2 rfl) ?_
      refine xk_get (pc := 95) hx hb hts hown hK hP ffzM_35 0 rfl rfl dzM_counts_95 ?_
      refine lv_iload (pc := 98) hx hb dzM_counts_98 (lv_at hl 1 rfl) ?_
      refine xk_iald (q0 := 9) (t0 := 0) (j := 0) (pc := 100) hx hb hK hP rfl rfl (pk_in 0 6 (by decide)) (pk_cl 0) dzM_counts_100 ?_
      exact K2 ((g1 9) 0) (Eq.mpr (if_neg h3) rfl)
    ·
      refine lv_aload_n (pc := 72) hx hb dzM_counts_72 rfl (lv_at hl 2 rfl) ?_
      refine xk_get (pc := 73) hx hb hts hown hK hP ffzM_26 0 rfl rfl dzM_counts_73 ?_
      refine lv_iload (pc := 76) hx hb dzM_counts_76 (lv_at hl 1 rfl) ?_
      refine xk_iald (q0 := 6) (t0 := 0) (j := 0) (pc := 78) hx hb hK hP rfl rfl (pk_in 0 6 (by decide)) (pk_cl 0) dzM_counts_78 ?_
      refine lv_if_eq (pc := 79) (tgt := 94) hx hb dzM_counts_79 (by decide) (fun h4 => ?_) (fun h4 => ?_)
      ·
        refine lv_aload_n (pc := 94) hx hb dzM_counts_94 rfl (lv_at hl 2 rfl) ?_
        refine xk_get (pc := 95) hx hb hts hown hK hP ffzM_35 0 rfl rfl dzM_counts_95 ?_
        refine lv_iload (pc := 98) hx hb dzM_counts_98 (lv_at hl 1 rfl) ?_
        refine xk_iald (q0 := 9) (t0 := 0) (j := 0) (pc := 100) hx hb hK hP rfl rfl (pk_in 0 6 (by decide)) (pk_cl 0) dzM_counts_100 ?_
        exact K2 ((g1 9) 0) (Eq.mpr (if_pos h3) (Eq.mpr (if_pos h4) rfl))
      ·
        refine lv_aload_n (pc := 82) hx hb dzM_counts_82 rfl (lv_at hl 2 rfl) ?_
        refine xk_get (pc := 83) hx hb hts hown hK hP ffzM_35 0 rfl rfl dzM_counts_83 ?_
        refine lv_iload (pc := 86) hx hb dzM_counts_86 (lv_at hl 1 rfl) ?_
        refine xk_iald (q0 := 9) (t0 := 0) (j := 0) (pc := 88) hx hb hK hP rfl rfl (pk_in 0 6 (by decide)) (pk_cl 0) dzM_counts_88 ?_
        refine lv_iconst (v := 1) (pc := 89) hx hb dzM_counts_89 (by decide) ?_
        refine lv_iadd (pc := 90) hx hb dzM_counts_90 ?_
        refine lv_goto (tgt := 101) (pc := 91) hx hb dzM_counts_91 (by decide) ?_
        exact K2 (((g1 9) 0) + 1) (Eq.mpr (if_pos h3) (Eq.mpr (if_neg h4) rfl))
  refine lv_icmp_ne (pc := 28) (tgt := 53) hx hb dzM_counts_28 (by decide) (fun h1 => ?_) (fun h1 => ?_)
  ·
    refine lv_aload_n (pc := 53) hx hb dzM_counts_53 rfl (lv_at hl 2 rfl) ?_
    refine xk_get (pc := 54) hx hb hts hown hK hP ffzM_32 0 rfl rfl dzM_counts_54 ?_
    refine lv_iload (pc := 57) hx hb dzM_counts_57 (lv_at hl 1 rfl) ?_
    refine xk_iald (q0 := 8) (t0 := 0) (j := 0) (pc := 59) hx hb hK hP rfl rfl (pk_in 0 6 (by decide)) (pk_cl 0) dzM_counts_59 ?_
    exact K1 ((g0 8) 0) (Eq.mpr (if_neg h1) rfl)
  ·
    refine lv_aload_n (pc := 31) hx hb dzM_counts_31 rfl (lv_at hl 2 rfl) ?_
    refine xk_get (pc := 32) hx hb hts hown hK hP ffzM_26 0 rfl rfl dzM_counts_32 ?_
    refine lv_iload (pc := 35) hx hb dzM_counts_35 (lv_at hl 1 rfl) ?_
    refine xk_iald (q0 := 6) (t0 := 0) (j := 0) (pc := 37) hx hb hK hP rfl rfl (pk_in 0 6 (by decide)) (pk_cl 0) dzM_counts_37 ?_
    refine lv_if_eq (pc := 38) (tgt := 53) hx hb dzM_counts_38 (by decide) (fun h2 => ?_) (fun h2 => ?_)
    ·
      refine lv_aload_n (pc := 53) hx hb dzM_counts_53 rfl (lv_at hl 2 rfl) ?_
      refine xk_get (pc := 54) hx hb hts hown hK hP ffzM_32 0 rfl rfl dzM_counts_54 ?_
      refine lv_iload (pc := 57) hx hb dzM_counts_57 (lv_at hl 1 rfl) ?_
      refine xk_iald (q0 := 8) (t0 := 0) (j := 0) (pc := 59) hx hb hK hP rfl rfl (pk_in 0 6 (by decide)) (pk_cl 0) dzM_counts_59 ?_
      exact K1 ((g0 8) 0) (Eq.mpr (if_pos h1) (Eq.mpr (if_pos h2) rfl))
    ·
      refine lv_aload_n (pc := 41) hx hb dzM_counts_41 rfl (lv_at hl 2 rfl) ?_
      refine xk_get (pc := 42) hx hb hts hown hK hP ffzM_32 0 rfl rfl dzM_counts_42 ?_
      refine lv_iload (pc := 45) hx hb dzM_counts_45 (lv_at hl 1 rfl) ?_
      refine xk_iald (q0 := 8) (t0 := 0) (j := 0) (pc := 47) hx hb hK hP rfl rfl (pk_in 0 6 (by decide)) (pk_cl 0) dzM_counts_47 ?_
      refine lv_iconst (v := 1) (pc := 48) hx hb dzM_counts_48 (by decide) ?_
      refine lv_iadd (pc := 49) hx hb dzM_counts_49 ?_
      refine lv_goto (tgt := 60) (pc := 50) hx hb dzM_counts_50 (by decide) ?_
      exact K1 (((g0 8) 0) + 1) (Eq.mpr (if_pos h1) (Eq.mpr (if_neg h2) rfl))
theorem frzM_counts_0_1 (g0 : xk_St) (k2 : Int32) (gz : xk_St) : relzM_counts_0_1 g0 k2 gz → xk_eqv [1, 2, 4, 6, 11, 12, 13, 14, 15, 16, 17, 18, 19, 20, 21, 22, 23, 24] g0 gz := by
  intro h
  unfold relzM_counts_0_1 at h
  have s0 : xk_eqv [1, 2, 4, 6, 11, 12, 13, 14, 15, 16, 17, 18, 19, 20, 21, 22, 23, 24] g0 g0 := xk_eqv_rf
  obtain ⟨x1, u1, v2⟩ := h
  obtain ⟨g1, u3, v4⟩ := v2
  have s5 : xk_eqv [1, 2, 4, 6, 11, 12, 13, 14, 15, 16, 17, 18, 19, 20, 21, 22, 23, 24] g0 g1 := by rw [u3]; repeat (first | exact s0 | refine xk_eqv_up (by decide) ?_)
  obtain ⟨x2, u6, v7⟩ := v4
  obtain ⟨g2, u8, v9⟩ := v7
  have s10 : xk_eqv [1, 2, 4, 6, 11, 12, 13, 14, 15, 16, 17, 18, 19, 20, 21, 22, 23, 24] g0 g2 := by rw [u8]; repeat (first | exact s5 | refine xk_eqv_up (by decide) ?_)
  obtain ⟨g3, u11, v12⟩ := v9
  have s13 : xk_eqv [1, 2, 4, 6, 11, 12, 13, 14, 15, 16, 17, 18, 19, 20, 21, 22, 23, 24] g0 g3 := xk_eqv_tr s10 (xk_eqv_sub (frzM_change_0 _ _ _ u11) (by decide))
  obtain ⟨x3, u14, v15⟩ := v12
  obtain ⟨g4, u16, v17⟩ := v15
  have s18 : xk_eqv [1, 2, 4, 6, 11, 12, 13, 14, 15, 16, 17, 18, 19, 20, 21, 22, 23, 24] g0 g4 := by rw [u16]; repeat (first | exact s13 | refine xk_eqv_up (by decide) ?_)
  obtain ⟨x4, u19, v20⟩ := v17
  obtain ⟨g5, u21, v22⟩ := v20
  have s23 : xk_eqv [1, 2, 4, 6, 11, 12, 13, 14, 15, 16, 17, 18, 19, 20, 21, 22, 23, 24] g0 g5 := by rw [u21]; repeat (first | exact s18 | refine xk_eqv_up (by decide) ?_)
  obtain ⟨g6, u24, v25⟩ := v22
  have s26 : xk_eqv [1, 2, 4, 6, 11, 12, 13, 14, 15, 16, 17, 18, 19, 20, 21, 22, 23, 24] g0 g6 := xk_eqv_tr s23 (xk_eqv_sub (frzM_change_1 _ _ _ u24) (by decide))
  rw [v25]; exact s26
theorem iczM_counts_0_1 (B : Nat) (g0 : xk_St) (k2 : Int32) (gz : xk_St) : relzM_counts_0_1 g0 k2 gz → xk_cnt B g0 → xk_cnt (B + 2) gz := by
  intro h Ig0
  unfold relzM_counts_0_1 at h
  have Ig0 : xk_cnt (B + 0) g0 := Ig0
  obtain ⟨x1, u1, v2⟩ := h
  obtain ⟨g1, u3, v4⟩ := v2
  have Ig1 : xk_cnt (B + 0) g1 := by rw [u3]; repeat (first | exact Ig0 | refine xk_cnt_k (by decide) ?_ | refine xk_cnt_f (by decide) ?_ | refine xk_cnt_s ?_)
  obtain ⟨x2, u5, v6⟩ := v4
  obtain ⟨g2, u7, v8⟩ := v6
  have Ig2 : xk_cnt (B + 0) g2 := by rw [u7]; repeat (first | exact Ig1 | refine xk_cnt_k (by decide) ?_ | refine xk_cnt_f (by decide) ?_ | refine xk_cnt_s ?_)
  obtain ⟨g3, u9, v10⟩ := v8
  have Ig3 : xk_cnt (B + 1) g3 := xk_cnt_le (iczM_change_0 (B + 0) _ _ _ u9 Ig2) (by omega)
  obtain ⟨x3, u11, v12⟩ := v10
  obtain ⟨g4, u13, v14⟩ := v12
  have Ig4 : xk_cnt (B + 1) g4 := by rw [u13]; repeat (first | exact Ig3 | refine xk_cnt_k (by decide) ?_ | refine xk_cnt_f (by decide) ?_ | refine xk_cnt_s ?_)
  obtain ⟨x4, u15, v16⟩ := v14
  obtain ⟨g5, u17, v18⟩ := v16
  have Ig5 : xk_cnt (B + 1) g5 := by rw [u17]; repeat (first | exact Ig4 | refine xk_cnt_k (by decide) ?_ | refine xk_cnt_f (by decide) ?_ | refine xk_cnt_s ?_)
  obtain ⟨g6, u19, v20⟩ := v18
  have Ig6 : xk_cnt (B + 2) g6 := xk_cnt_le (iczM_change_1 (B + 1) _ _ _ u19 Ig5) (by omega)
  rw [v20]; exact xk_cnt_le Ig6 (by omega)

def relzM_counts_0_2 (g0 : xk_St) (k2 : Int32) (gz : xk_St) : Prop := ∃ (x1 : Int32), (if k2 = 1 then (if ((g0 6) 1) = 0 then (x1 = (g0 8) 1) else (x1 = ((g0 8) 1) + 1)) else (x1 = (g0 8) 1)) ∧ (∃ (g1 : xk_St), g1 = va_up g0 8 (upd (g0 8) 1 x1) ∧ (∃ (x2 : Int32), (if k2 = (-1) then (if ((g1 6) 1) = 0 then (x2 = (g1 9) 1) else (x2 = ((g1 9) 1) + 1)) else (x2 = (g1 9) 1)) ∧ (∃ (g2 : xk_St), g2 = va_up g1 9 (upd (g1 9) 1 x2) ∧ (∃ (g3 : xk_St), relzM_change_1 g2 (-k2) g3 ∧ (∃ (x3 : Int32), (if k2 = 1 then (if ((g3 6) 2) = 0 then (x3 = (g3 7) 2) else (x3 = ((g3 7) 2) + 1)) else (x3 = (g3 7) 2)) ∧ (∃ (g4 : xk_St), g4 = va_up g3 7 (upd (g3 7) 2 x3) ∧ (∃ (x4 : Int32), (if k2 = (-1) then (if ((g4 6) 2) = 0 then (x4 = (g4 10) 2) else (x4 = ((g4 10) 2) + 1)) else (x4 = (g4 10) 2)) ∧ (∃ (g5 : xk_St), g5 = va_up g4 10 (upd (g4 10) 2 x4) ∧ (∃ (g6 : xk_St), relzM_change_2 g5 k2 g6 ∧ (gz = g6))))))))))
set_option maxHeartbeats 4000000 in
set_option maxRecDepth 100000 in
theorem kzM_counts_0_2 (l : Launch) (G : va_G) (ac : Nat → ClassId) (ad : Nat → Nat) (g0 : xk_St) (k2 : Int32) (B : Nat) (Ig0 : xk_cnt B g0) (hB : B + 3 < 2147483648) : xk_CV l yzM_counts czM_counts 6 xk_WS xk_r3 G xk_cls (xk_tys ac) [.ref (ad 0), .int 0, .int 2, .int k2] (xk_wM ad ac g0) (fun (gz : xk_St) => relzM_counts_0_2 g0 k2 gz) (fun gz => xk_wM ad ac gz) := by
  refine xk_ofV (by decide) (Nat.le_of_ble_eq_true rfl) ?_
  intro p e s m args below meth c A Q H locs ls C0 hret hP hD hS hl
  obtain ⟨hx, hb, hml, hts, hown, hK, hA⟩ := C0
  have hl : lv_has ls 6 [(0, .ref (ad 0)), (1, .int 0), (2, .int 2), (3, .int k2)] := hl
  have Ig0 : xk_cnt (B + 0) g0 := Ig0
  refine lv_iconst (v := 3) (pc := 0) hx hb dzM_counts_0 (by decide) ?_
  refine lv_iload_n (pc := 1) hx hb dzM_counts_1 rfl (lv_at hl 1 rfl) ?_
  refine lv_imul (pc := 2) hx hb dzM_counts_2 ?_
  refine xk_is (y := 0) (by decide) ?_
  refine lv_iload_n (pc := 3) hx hb dzM_counts_3 rfl (lv_at hl 2 rfl) ?_
  refine lv_iadd (pc := 4) hx hb dzM_counts_4 ?_
  refine xk_is (y := 2) (by decide) ?_
  refine lv_iconst (v := 1) (pc := 5) hx hb dzM_counts_5 (by decide) ?_
  refine lv_isub (pc := 6) hx hb dzM_counts_6 ?_
  refine xk_is (y := 1) (by decide) ?_
  refine lv_istore (lv' := [(4, .int 1), (0, .ref (ad 0)), (1, .int 0), (2, .int 2), (3, .int k2)]) (pc := 7) hx hb dzM_counts_7 hl (by decide) rfl (fun ls hl => ?_)
  refine lv_iconst (v := 3) (pc := 9) hx hb dzM_counts_9 (by decide) ?_
  refine lv_iload_n (pc := 10) hx hb dzM_counts_10 rfl (lv_at hl 2 rfl) ?_
  refine lv_imul (pc := 11) hx hb dzM_counts_11 ?_
  refine xk_is (y := 0) (by decide) ?_
  refine lv_iload_n (pc := 12) hx hb dzM_counts_12 rfl (lv_at hl 3 rfl) ?_
  refine lv_iadd (pc := 13) hx hb dzM_counts_13 ?_
  refine xk_is (y := 2) (by decide) ?_
  refine lv_istore (lv' := [(5, .int 2), (4, .int 1), (0, .ref (ad 0)), (1, .int 0), (2, .int 2), (3, .int k2)]) (pc := 14) hx hb dzM_counts_14 hl (by decide) rfl (fun ls hl => ?_)
  refine lv_iload_n (pc := 16) hx hb dzM_counts_16 rfl (lv_at hl 4 rfl) ?_
  refine lv_if_le (pc := 17) (tgt := 110) hx hb dzM_counts_17 (by decide) (fun hq9 => absurd hq9 (by decide)) (fun _ => ?_)
  refine lv_aload_n (pc := 20) hx hb dzM_counts_20 rfl (lv_at hl 2 rfl) ?_
  refine xk_get (pc := 21) hx hb hts hown hK hP ffzM_32 0 rfl rfl dzM_counts_21 ?_
  refine lv_iload (pc := 24) hx hb dzM_counts_24 (lv_at hl 1 rfl) ?_
  refine lv_iload_n (pc := 26) hx hb dzM_counts_26 rfl (lv_at hl 5 rfl) ?_
  refine lv_iconst (v := 1) (pc := 27) hx hb dzM_counts_27 (by decide) ?_
  have K1 : ∀ (x1 : Int32), (if k2 = 1 then (if ((g0 6) 1) = 0 then (x1 = (g0 8) 1) else (x1 = ((g0 8) 1) + 1)) else (x1 = (g0 8) 1)) → W p l e xk_r3 s m args below meth c H locs 0 0 Q (F0 m 60 ls [.int x1, .int 1, .ref (ad 8)]) := by
    intro x1 R1
    refine xk_iast (q0 := 8) (t0 := 0) (j := 1) (pc := 60) hx hb hK hP hD hS rfl rfl (pk_in 1 6 (by decide)) (pk_cl 1) dzM_counts_60 (fun H locs hP hD hS => ?_)
    obtain ⟨g1, eg1⟩ : ∃ z : xk_St, z = va_up g0 8 (upd (g0 8) 1 x1) := ⟨_, rfl⟩
    have hP : va_P G xk_cls (xk_wM ad ac g1) H := by rw [eg1]; exact hP
    have hD : va_D A (xk_wM ad ac g1) := by rw [eg1]; exact hD
    have Ig1 : xk_cnt (B + 0) g1 := by rw [eg1]; repeat (first | exact Ig0 | refine xk_cnt_k (by decide) ?_ | refine xk_cnt_f (by decide) ?_ | refine xk_cnt_s ?_)
    refine lv_aload_n (pc := 61) hx hb dzM_counts_61 rfl (lv_at hl 2 rfl) ?_
    refine xk_get (pc := 62) hx hb hts hown hK hP ffzM_35 0 rfl rfl dzM_counts_62 ?_
    refine lv_iload (pc := 65) hx hb dzM_counts_65 (lv_at hl 1 rfl) ?_
    refine lv_iload_n (pc := 67) hx hb dzM_counts_67 rfl (lv_at hl 5 rfl) ?_
    refine lv_iconst (v := (-1)) (pc := 68) hx hb dzM_counts_68 (by decide) ?_
    have K2 : ∀ (x2 : Int32), (if k2 = (-1) then (if ((g1 6) 1) = 0 then (x2 = (g1 9) 1) else (x2 = ((g1 9) 1) + 1)) else (x2 = (g1 9) 1)) → W p l e xk_r3 s m args below meth c H locs 0 0 Q (F0 m 101 ls [.int x2, .int 1, .ref (ad 9)]) := by
      intro x2 R2
      refine xk_iast (q0 := 9) (t0 := 0) (j := 1) (pc := 101) hx hb hK hP hD hS rfl rfl (pk_in 1 6 (by decide)) (pk_cl 1) dzM_counts_101 (fun H locs hP hD hS => ?_)
      obtain ⟨g2, eg2⟩ : ∃ z : xk_St, z = va_up g1 9 (upd (g1 9) 1 x2) := ⟨_, rfl⟩
      have hP : va_P G xk_cls (xk_wM ad ac g2) H := by rw [eg2]; exact hP
      have hD : va_D A (xk_wM ad ac g2) := by rw [eg2]; exact hD
      have Ig2 : xk_cnt (B + 0) g2 := by rw [eg2]; repeat (first | exact Ig1 | refine xk_cnt_k (by decide) ?_ | refine xk_cnt_f (by decide) ?_ | refine xk_cnt_s ?_)
      refine lv_aload_n (pc := 102) hx hb dzM_counts_102 rfl (lv_at hl 2 rfl) ?_
      refine lv_iload (pc := 103) hx hb dzM_counts_103 (lv_at hl 1 rfl) ?_
      refine lv_iload_n (pc := 105) hx hb dzM_counts_105 rfl (lv_at hl 5 rfl) ?_
      refine lv_ineg (pc := 106) hx hb dzM_counts_106 ?_
      refine xk_allVV (As := [.int 1, .int (-k2)]) (rest := []) (H0 := s.heap) (pc := 107) hx hb hml hts hown hK hA hP hD hS (kzM_change_1 l G ac ad g2 (-k2) (B + 0) Ig2 (by omega)) vfzM_138 (fun _ => rfl) 0 rfl rfl ⟨rfl, rfl⟩ ⟨Nat.le_of_ble_eq_true rfl, Nat.le_of_ble_eq_true rfl⟩ rfl hl.1 rfl (Nat.le_of_ble_eq_true rfl) ⟨Nat.zero_le _, Nat.zero_le _⟩ dzM_counts_107 (fun g3 H locs hg3 hP hD hS => ?_)
      have hP : va_P G xk_cls (xk_wM ad ac g3) H := hP
      have hD : va_D A (xk_wM ad ac g3) := hD
      have Ig3 : xk_cnt (B + 1) g3 := xk_cnt_le (iczM_change_1 (B + 0) _ _ _ hg3 Ig2) (by omega)
      refine lv_iload_n (pc := 110) hx hb dzM_counts_110 rfl (lv_at hl 4 rfl) ?_
      refine lv_iconst (v := 3) (pc := 111) hx hb dzM_counts_111 (by decide) ?_
      refine lv_icmp_ge (pc := 112) (tgt := 204) hx hb dzM_counts_112 (by decide) (fun hq9 => absurd hq9 (by decide)) (fun _ => ?_)
      refine lv_aload_n (pc := 115) hx hb dzM_counts_115 rfl (lv_at hl 2 rfl) ?_
      refine xk_get (pc := 116) hx hb hts hown hK hP ffzM_29 0 rfl rfl dzM_counts_116 ?_
      refine lv_iload (pc := 119) hx hb dzM_counts_119 (lv_at hl 0 rfl) ?_
      refine lv_iload_n (pc := 121) hx hb dzM_counts_121 rfl (lv_at hl 5 rfl) ?_
      refine lv_iconst (v := 1) (pc := 122) hx hb dzM_counts_122 (by decide) ?_
      have K3 : ∀ (x3 : Int32), (if k2 = 1 then (if ((g3 6) 2) = 0 then (x3 = (g3 7) 2) else (x3 = ((g3 7) 2) + 1)) else (x3 = (g3 7) 2)) → W p l e xk_r3 s m args below meth c H locs 0 0 Q (F0 m 155 ls [.int x3, .int 2, .ref (ad 7)]) := by
        intro x3 R3
        refine xk_iast (q0 := 7) (t0 := 0) (j := 2) (pc := 155) hx hb hK hP hD hS rfl rfl (pk_in 2 6 (by decide)) (pk_cl 2) dzM_counts_155 (fun H locs hP hD hS => ?_)
        obtain ⟨g4, eg4⟩ : ∃ z : xk_St, z = va_up g3 7 (upd (g3 7) 2 x3) := ⟨_, rfl⟩
        have hP : va_P G xk_cls (xk_wM ad ac g4) H := by rw [eg4]; exact hP
        have hD : va_D A (xk_wM ad ac g4) := by rw [eg4]; exact hD
        have Ig4 : xk_cnt (B + 1) g4 := by rw [eg4]; repeat (first | exact Ig3 | refine xk_cnt_k (by decide) ?_ | refine xk_cnt_f (by decide) ?_ | refine xk_cnt_s ?_)
        refine lv_aload_n (pc := 156) hx hb dzM_counts_156 rfl (lv_at hl 2 rfl) ?_
        refine xk_get (pc := 157) hx hb hts hown hK hP ffzM_38 0 rfl rfl dzM_counts_157 ?_
        refine lv_iload (pc := 160) hx hb dzM_counts_160 (lv_at hl 0 rfl) ?_
        refine lv_iload_n (pc := 162) hx hb dzM_counts_162 rfl (lv_at hl 5 rfl) ?_
        refine lv_iconst (v := (-1)) (pc := 163) hx hb dzM_counts_163 (by decide) ?_
        have K4 : ∀ (x4 : Int32), (if k2 = (-1) then (if ((g4 6) 2) = 0 then (x4 = (g4 10) 2) else (x4 = ((g4 10) 2) + 1)) else (x4 = (g4 10) 2)) → W p l e xk_r3 s m args below meth c H locs 0 0 Q (F0 m 196 ls [.int x4, .int 2, .ref (ad 10)]) := by
          intro x4 R4
          refine xk_iast (q0 := 10) (t0 := 0) (j := 2) (pc := 196) hx hb hK hP hD hS rfl rfl (pk_in 2 6 (by decide)) (pk_cl 2) dzM_counts_196 (fun H locs hP hD hS => ?_)
          obtain ⟨g5, eg5⟩ : ∃ z : xk_St, z = va_up g4 10 (upd (g4 10) 2 x4) := ⟨_, rfl⟩
          have hP : va_P G xk_cls (xk_wM ad ac g5) H := by rw [eg5]; exact hP
          have hD : va_D A (xk_wM ad ac g5) := by rw [eg5]; exact hD
          have Ig5 : xk_cnt (B + 1) g5 := by rw [eg5]; repeat (first | exact Ig4 | refine xk_cnt_k (by decide) ?_ | refine xk_cnt_f (by decide) ?_ | refine xk_cnt_s ?_)
          refine lv_aload_n (pc := 197) hx hb dzM_counts_197 rfl (lv_at hl 2 rfl) ?_
          refine lv_iload (pc := 198) hx hb dzM_counts_198 (lv_at hl 0 rfl) ?_
          refine lv_iload_n (pc := 200) hx hb dzM_counts_200 rfl (lv_at hl 5 rfl) ?_
          refine xk_allVV (As := [.int 2, .int k2]) (rest := []) (H0 := s.heap) (pc := 201) hx hb hml hts hown hK hA hP hD hS (kzM_change_2 l G ac ad g5 k2 (B + 1) Ig5 (by omega)) vfzM_138 (fun _ => rfl) 0 rfl rfl ⟨rfl, rfl⟩ ⟨Nat.le_of_ble_eq_true rfl, Nat.le_of_ble_eq_true rfl⟩ rfl hl.1 rfl (Nat.le_of_ble_eq_true rfl) ⟨Nat.zero_le _, Nat.zero_le _⟩ dzM_counts_201 (fun g6 H locs hg6 hP hD hS => ?_)
          have hP : va_P G xk_cls (xk_wM ad ac g6) H := hP
          have hD : va_D A (xk_wM ad ac g6) := hD
          have Ig6 : xk_cnt (B + 2) g6 := xk_cnt_le (iczM_change_2 (B + 1) _ _ _ hg6 Ig5) (by omega)
          refine lv_iload_n (pc := 204) hx hb dzM_counts_204 rfl (lv_at hl 4 rfl) ?_
          refine lv_if_ne (pc := 205) (tgt := 222) hx hb dzM_counts_205 (by decide) (fun _ => ?_) (fun hq9 => absurd hq9 (by decide))
          refine lv_iload_n (pc := 222) hx hb dzM_counts_222 rfl (lv_at hl 4 rfl) ?_
          refine lv_iconst (v := 3) (pc := 223) hx hb dzM_counts_223 (by decide) ?_
          refine lv_icmp_ne (pc := 224) (tgt := 243) hx hb dzM_counts_224 (by decide) (fun _ => ?_) (fun hq9 => absurd hq9 (by decide))
          exact hret g6 H locs 243 ls hP hS (by unfold relzM_counts_0_2; exact ⟨x1, R1, ⟨g1, eg1, ⟨x2, R2, ⟨g2, eg2, ⟨g3, hg3, ⟨x3, R3, ⟨g4, eg4, ⟨x4, R4, ⟨g5, eg5, ⟨g6, hg6, rfl⟩⟩⟩⟩⟩⟩⟩⟩⟩⟩) dzM_counts_243
        refine lv_icmp_ne (pc := 164) (tgt := 189) hx hb dzM_counts_164 (by decide) (fun h7 => ?_) (fun h7 => ?_)
        ·
          refine lv_aload_n (pc := 189) hx hb dzM_counts_189 rfl (lv_at hl 2 rfl) ?_
          refine xk_get (pc := 190) hx hb hts hown hK hP ffzM_38 0 rfl rfl dzM_counts_190 ?_
          refine lv_iload (pc := 193) hx hb dzM_counts_193 (lv_at hl 0 rfl) ?_
          refine xk_iald (q0 := 10) (t0 := 0) (j := 2) (pc := 195) hx hb hK hP rfl rfl (pk_in 2 6 (by decide)) (pk_cl 2) dzM_counts_195 ?_
          exact K4 ((g4 10) 2) (Eq.mpr (if_neg h7) rfl)
        ·
          refine lv_aload_n (pc := 167) hx hb dzM_counts_167 rfl (lv_at hl 2 rfl) ?_
          refine xk_get (pc := 168) hx hb hts hown hK hP ffzM_26 0 rfl rfl dzM_counts_168 ?_
          refine lv_iload (pc := 171) hx hb dzM_counts_171 (lv_at hl 0 rfl) ?_
          refine xk_iald (q0 := 6) (t0 := 0) (j := 2) (pc := 173) hx hb hK hP rfl rfl (pk_in 2 6 (by decide)) (pk_cl 2) dzM_counts_173 ?_
          refine lv_if_eq (pc := 174) (tgt := 189) hx hb dzM_counts_174 (by decide) (fun h8 => ?_) (fun h8 => ?_)
          ·
            refine lv_aload_n (pc := 189) hx hb dzM_counts_189 rfl (lv_at hl 2 rfl) ?_
            refine xk_get (pc := 190) hx hb hts hown hK hP ffzM_38 0 rfl rfl dzM_counts_190 ?_
            refine lv_iload (pc := 193) hx hb dzM_counts_193 (lv_at hl 0 rfl) ?_
            refine xk_iald (q0 := 10) (t0 := 0) (j := 2) (pc := 195) hx hb hK hP rfl rfl (pk_in 2 6 (by decide)) (pk_cl 2) dzM_counts_195 ?_
            exact K4 ((g4 10) 2) (Eq.mpr (if_pos h7) (Eq.mpr (if_pos h8) rfl))
          ·
            refine lv_aload_n (pc := 177) hx hb dzM_counts_177 rfl (lv_at hl 2 rfl) ?_
            refine xk_get (pc := 178) hx hb hts hown hK hP ffzM_38 0 rfl rfl dzM_counts_178 ?_
            refine lv_iload (pc := 181) hx hb dzM_counts_181 (lv_at hl 0 rfl) ?_
            refine xk_iald (q0 := 10) (t0 := 0) (j := 2) (pc := 183) hx hb hK hP rfl rfl (pk_in 2 6 (by decide)) (pk_cl 2) dzM_counts_183 ?_
            refine lv_iconst (v := 1) (pc := 184) hx hb dzM_counts_184 (by decide) ?_
            refine lv_iadd (pc := 185) hx hb dzM_counts_185 ?_
            refine lv_goto (tgt := 196) (pc := 186) hx hb dzM_counts_186 (by decide) ?_
            exact K4 (((g4 10) 2) + 1) (Eq.mpr (if_pos h7) (Eq.mpr (if_neg h8) rfl))
      refine lv_icmp_ne (pc := 123) (tgt := 148) hx hb dzM_counts_123 (by decide) (fun h5 => ?_) (fun h5 => ?_)
      ·
        refine lv_aload_n (pc := 148) hx hb dzM_counts_148 rfl (lv_at hl 2 rfl) ?_
        refine xk_get (pc := 149) hx hb hts hown hK hP ffzM_29 0 rfl rfl dzM_counts_149 ?_
        refine lv_iload (pc := 152) hx hb dzM_counts_152 (lv_at hl 0 rfl) ?_
        refine xk_iald (q0 := 7) (t0 := 0) (j := 2) (pc := 154) hx hb hK hP rfl rfl (pk_in 2 6 (by decide)) (pk_cl 2) dzM_counts_154 ?_
        exact K3 ((g3 7) 2) (Eq.mpr (if_neg h5) rfl)
      ·
        refine lv_aload_n (pc := 126) hx hb dzM_counts_126 rfl (lv_at hl 2 rfl) ?_
        refine xk_get (pc := 127) hx hb hts hown hK hP ffzM_26 0 rfl rfl dzM_counts_127 ?_
        refine lv_iload (pc := 130) hx hb dzM_counts_130 (lv_at hl 0 rfl) ?_
        refine xk_iald (q0 := 6) (t0 := 0) (j := 2) (pc := 132) hx hb hK hP rfl rfl (pk_in 2 6 (by decide)) (pk_cl 2) dzM_counts_132 ?_
        refine lv_if_eq (pc := 133) (tgt := 148) hx hb dzM_counts_133 (by decide) (fun h6 => ?_) (fun h6 => ?_)
        ·
          refine lv_aload_n (pc := 148) hx hb dzM_counts_148 rfl (lv_at hl 2 rfl) ?_
          refine xk_get (pc := 149) hx hb hts hown hK hP ffzM_29 0 rfl rfl dzM_counts_149 ?_
          refine lv_iload (pc := 152) hx hb dzM_counts_152 (lv_at hl 0 rfl) ?_
          refine xk_iald (q0 := 7) (t0 := 0) (j := 2) (pc := 154) hx hb hK hP rfl rfl (pk_in 2 6 (by decide)) (pk_cl 2) dzM_counts_154 ?_
          exact K3 ((g3 7) 2) (Eq.mpr (if_pos h5) (Eq.mpr (if_pos h6) rfl))
        ·
          refine lv_aload_n (pc := 136) hx hb dzM_counts_136 rfl (lv_at hl 2 rfl) ?_
          refine xk_get (pc := 137) hx hb hts hown hK hP ffzM_29 0 rfl rfl dzM_counts_137 ?_
          refine lv_iload (pc := 140) hx hb dzM_counts_140 (lv_at hl 0 rfl) ?_
          refine xk_iald (q0 := 7) (t0 := 0) (j := 2) (pc := 142) hx hb hK hP rfl rfl (pk_in 2 6 (by decide)) (pk_cl 2) dzM_counts_142 ?_
          refine lv_iconst (v := 1) (pc := 143) hx hb dzM_counts_143 (by decide) ?_
          refine lv_iadd (pc := 144) hx hb dzM_counts_144 ?_
          refine lv_goto (tgt := 155) (pc := 145) hx hb dzM_counts_145 (by decide) ?_
          exact K3 (((g3 7) 2) + 1) (Eq.mpr (if_pos h5) (Eq.mpr (if_neg h6) rfl))
    refine lv_icmp_ne (pc := 69) (tgt := 94) hx hb dzM_counts_69 (by decide) (fun h3 => ?_) (fun h3 => ?_)
    ·
      refine lv_aload_n (pc := 94) hx hb dzM_counts_94 rfl (lv_at hl 2 rfl) ?_
      refine xk_get (pc := 95) hx hb hts hown hK hP ffzM_35 0 rfl rfl dzM_counts_95 ?_
      refine lv_iload (pc := 98) hx hb dzM_counts_98 (lv_at hl 1 rfl) ?_
      refine xk_iald (q0 := 9) (t0 := 0) (j := 1) (pc := 100) hx hb hK hP rfl rfl (pk_in 1 6 (by decide)) (pk_cl 1) dzM_counts_100 ?_
      exact K2 ((g1 9) 1) (Eq.mpr (if_neg h3) rfl)
    ·
      refine lv_aload_n (pc := 72) hx hb dzM_counts_72 rfl (lv_at hl 2 rfl) ?_
      refine xk_get (pc := 73) hx hb hts hown hK hP ffzM_26 0 rfl rfl dzM_counts_73 ?_
      refine lv_iload (pc := 76) hx hb dzM_counts_76 (lv_at hl 1 rfl) ?_
      refine xk_iald (q0 := 6) (t0 := 0) (j := 1) (pc := 78) hx hb hK hP rfl rfl (pk_in 1 6 (by decide)) (pk_cl 1) dzM_counts_78 ?_
      refine lv_if_eq (pc := 79) (tgt := 94) hx hb dzM_counts_79 (by decide) (fun h4 => ?_) (fun h4 => ?_)
      ·
        refine lv_aload_n (pc := 94) hx hb dzM_counts_94 rfl (lv_at hl 2 rfl) ?_
        refine xk_get (pc := 95) hx hb hts hown hK hP ffzM_35 0 rfl rfl dzM_counts_95 ?_
        refine lv_iload (pc := 98) hx hb dzM_counts_98 (lv_at hl 1 rfl) ?_
        refine xk_iald (q0 := 9) (t0 := 0) (j := 1) (pc := 100) hx hb hK hP rfl rfl (pk_in 1 6 (by decide)) (pk_cl 1) dzM_counts_100 ?_
        exact K2 ((g1 9) 1) (Eq.mpr (if_pos h3) (Eq.mpr (if_pos h4) rfl))
      ·
        refine lv_aload_n (pc := 82) hx hb dzM_counts_82 rfl (lv_at hl 2 rfl) ?_
        refine xk_get (pc := 83) hx hb hts hown hK hP ffzM_35 0 rfl rfl dzM_counts_83 ?_
        refine lv_iload (pc := 86) hx hb dzM_counts_86 (lv_at hl 1 rfl) ?_
        refine xk_iald (q0 := 9) (t0 := 0) (j := 1) (pc := 88) hx hb hK hP rfl rfl (pk_in 1 6 (by decide)) (pk_cl 1) dzM_counts_88 ?_
        refine lv_iconst (v := 1) (pc := 89) hx hb dzM_counts_89 (by decide) ?_
        refine lv_iadd (pc := 90) hx hb dzM_counts_90 ?_
        refine lv_goto (tgt := 101) (pc := 91) hx hb dzM_counts_91 (by decide) ?_
        exact K2 (((g1 9) 1) + 1) (Eq.mpr (if_pos h3) (Eq.mpr (if_neg h4) rfl))
  refine lv_icmp_ne (pc := 28) (tgt := 53) hx hb dzM_counts_28 (by decide) (fun h1 => ?_) (fun h1 => ?_)
  ·
    refine lv_aload_n (pc := 53) hx hb dzM_counts_53 rfl (lv_at hl 2 rfl) ?_
    refine xk_get (pc := 54) hx hb hts hown hK hP ffzM_32 0 rfl rfl dzM_counts_54 ?_
    refine lv_iload (pc := 57) hx hb dzM_counts_57 (lv_at hl 1 rfl) ?_
    refine xk_iald (q0 := 8) (t0 := 0) (j := 1) (pc := 59) hx hb hK hP rfl rfl (pk_in 1 6 (by decide)) (pk_cl 1) dzM_counts_59 ?_
    exact K1 ((g0 8) 1) (Eq.mpr (if_neg h1) rfl)
  ·
    refine lv_aload_n (pc := 31) hx hb dzM_counts_31 rfl (lv_at hl 2 rfl) ?_
    refine xk_get (pc := 32) hx hb hts hown hK hP ffzM_26 0 rfl rfl dzM_counts_32 ?_
    refine lv_iload (pc := 35) hx hb dzM_counts_35 (lv_at hl 1 rfl) ?_
    refine xk_iald (q0 := 6) (t0 := 0) (j := 1) (pc := 37) hx hb hK hP rfl rfl (pk_in 1 6 (by decide)) (pk_cl 1) dzM_counts_37 ?_
    refine lv_if_eq (pc := 38) (tgt := 53) hx hb dzM_counts_38 (by decide) (fun h2 => ?_) (fun h2 => ?_)
    ·
      refine lv_aload_n (pc := 53) hx hb dzM_counts_53 rfl (lv_at hl 2 rfl) ?_
      refine xk_get (pc := 54) hx hb hts hown hK hP ffzM_32 0 rfl rfl dzM_counts_54 ?_
      refine lv_iload (pc := 57) hx hb dzM_counts_57 (lv_at hl 1 rfl) ?_
      refine xk_iald (q0 := 8) (t0 := 0) (j := 1) (pc := 59) hx hb hK hP rfl rfl (pk_in 1 6 (by decide)) (pk_cl 1) dzM_counts_59 ?_
      exact K1 ((g0 8) 1) (Eq.mpr (if_pos h1) (Eq.mpr (if_pos h2) rfl))
    ·
      refine lv_aload_n (pc := 41) hx hb dzM_counts_41 rfl (lv_at hl 2 rfl) ?_
      refine xk_get (pc := 42) hx hb hts hown hK hP ffzM_32 0 rfl rfl dzM_counts_42 ?_
      refine lv_iload (pc := 45) hx hb dzM_counts_45 (lv_at hl 1 rfl) ?_
      refine xk_iald (q0 := 8) (t0 := 0) (j := 1) (pc := 47) hx hb hK hP rfl rfl (pk_in 1 6 (by decide)) (pk_cl 1) dzM_counts_47 ?_
      refine lv_iconst (v := 1) (pc := 48) hx hb dzM_counts_48 (by decide) ?_
      refine lv_iadd (pc := 49) hx hb dzM_counts_49 ?_
      refine lv_goto (tgt := 60) (pc := 50) hx hb dzM_counts_50 (by decide) ?_
      exact K1 (((g0 8) 1) + 1) (Eq.mpr (if_pos h1) (Eq.mpr (if_neg h2) rfl))
theorem frzM_counts_0_2 (g0 : xk_St) (k2 : Int32) (gz : xk_St) : relzM_counts_0_2 g0 k2 gz → xk_eqv [1, 2, 4, 6, 11, 12, 13, 14, 15, 16, 17, 18, 19, 20, 21, 22, 23, 24] g0 gz := by
  intro h
  unfold relzM_counts_0_2 at h
  have s0 : xk_eqv [1, 2, 4, 6, 11, 12, 13, 14, 15, 16, 17, 18, 19, 20, 21, 22, 23, 24] g0 g0 := xk_eqv_rf
  obtain ⟨x1, u1, v2⟩ := h
  obtain ⟨g1, u3, v4⟩ := v2
  have s5 : xk_eqv [1, 2, 4, 6, 11, 12, 13, 14, 15, 16, 17, 18, 19, 20, 21, 22, 23, 24] g0 g1 := by rw [u3]; repeat (first | exact s0 | refine xk_eqv_up (by decide) ?_)
  obtain ⟨x2, u6, v7⟩ := v4
  obtain ⟨g2, u8, v9⟩ := v7
  have s10 : xk_eqv [1, 2, 4, 6, 11, 12, 13, 14, 15, 16, 17, 18, 19, 20, 21, 22, 23, 24] g0 g2 := by rw [u8]; repeat (first | exact s5 | refine xk_eqv_up (by decide) ?_)
  obtain ⟨g3, u11, v12⟩ := v9
  have s13 : xk_eqv [1, 2, 4, 6, 11, 12, 13, 14, 15, 16, 17, 18, 19, 20, 21, 22, 23, 24] g0 g3 := xk_eqv_tr s10 (xk_eqv_sub (frzM_change_1 _ _ _ u11) (by decide))
  obtain ⟨x3, u14, v15⟩ := v12
  obtain ⟨g4, u16, v17⟩ := v15
  have s18 : xk_eqv [1, 2, 4, 6, 11, 12, 13, 14, 15, 16, 17, 18, 19, 20, 21, 22, 23, 24] g0 g4 := by rw [u16]; repeat (first | exact s13 | refine xk_eqv_up (by decide) ?_)
  obtain ⟨x4, u19, v20⟩ := v17
  obtain ⟨g5, u21, v22⟩ := v20
  have s23 : xk_eqv [1, 2, 4, 6, 11, 12, 13, 14, 15, 16, 17, 18, 19, 20, 21, 22, 23, 24] g0 g5 := by rw [u21]; repeat (first | exact s18 | refine xk_eqv_up (by decide) ?_)
  obtain ⟨g6, u24, v25⟩ := v22
  have s26 : xk_eqv [1, 2, 4, 6, 11, 12, 13, 14, 15, 16, 17, 18, 19, 20, 21, 22, 23, 24] g0 g6 := xk_eqv_tr s23 (xk_eqv_sub (frzM_change_2 _ _ _ u24) (by decide))
  rw [v25]; exact s26
theorem iczM_counts_0_2 (B : Nat) (g0 : xk_St) (k2 : Int32) (gz : xk_St) : relzM_counts_0_2 g0 k2 gz → xk_cnt B g0 → xk_cnt (B + 2) gz := by
  intro h Ig0
  unfold relzM_counts_0_2 at h
  have Ig0 : xk_cnt (B + 0) g0 := Ig0
  obtain ⟨x1, u1, v2⟩ := h
  obtain ⟨g1, u3, v4⟩ := v2
  have Ig1 : xk_cnt (B + 0) g1 := by rw [u3]; repeat (first | exact Ig0 | refine xk_cnt_k (by decide) ?_ | refine xk_cnt_f (by decide) ?_ | refine xk_cnt_s ?_)
  obtain ⟨x2, u5, v6⟩ := v4
  obtain ⟨g2, u7, v8⟩ := v6
  have Ig2 : xk_cnt (B + 0) g2 := by rw [u7]; repeat (first | exact Ig1 | refine xk_cnt_k (by decide) ?_ | refine xk_cnt_f (by decide) ?_ | refine xk_cnt_s ?_)
  obtain ⟨g3, u9, v10⟩ := v8
  have Ig3 : xk_cnt (B + 1) g3 := xk_cnt_le (iczM_change_1 (B + 0) _ _ _ u9 Ig2) (by omega)
  obtain ⟨x3, u11, v12⟩ := v10
  obtain ⟨g4, u13, v14⟩ := v12
  have Ig4 : xk_cnt (B + 1) g4 := by rw [u13]; repeat (first | exact Ig3 | refine xk_cnt_k (by decide) ?_ | refine xk_cnt_f (by decide) ?_ | refine xk_cnt_s ?_)
  obtain ⟨x4, u15, v16⟩ := v14
  obtain ⟨g5, u17, v18⟩ := v16
  have Ig5 : xk_cnt (B + 1) g5 := by rw [u17]; repeat (first | exact Ig4 | refine xk_cnt_k (by decide) ?_ | refine xk_cnt_f (by decide) ?_ | refine xk_cnt_s ?_)
  obtain ⟨g6, u19, v20⟩ := v18
  have Ig6 : xk_cnt (B + 2) g6 := xk_cnt_le (iczM_change_2 (B + 1) _ _ _ u19 Ig5) (by omega)
  rw [v20]; exact xk_cnt_le Ig6 (by omega)

def relzM_counts_0_3 (g0 : xk_St) (k2 : Int32) (gz : xk_St) : Prop := ∃ (x1 : Int32), (if k2 = 1 then (if ((g0 6) 2) = 0 then (x1 = (g0 8) 2) else (x1 = ((g0 8) 2) + 1)) else (x1 = (g0 8) 2)) ∧ (∃ (g1 : xk_St), g1 = va_up g0 8 (upd (g0 8) 2 x1) ∧ (∃ (x2 : Int32), (if k2 = (-1) then (if ((g1 6) 2) = 0 then (x2 = (g1 9) 2) else (x2 = ((g1 9) 2) + 1)) else (x2 = (g1 9) 2)) ∧ (∃ (g2 : xk_St), g2 = va_up g1 9 (upd (g1 9) 2 x2) ∧ (∃ (g3 : xk_St), relzM_change_2 g2 (-k2) g3 ∧ (∃ (g5 : xk_St), (if k2 = (-1) then (∃ (g4 : xk_St), g4 = va_up g3 12 (upd (g3 12) 1 1) ∧ (g5 = g4)) else (g5 = g3)) ∧ (gz = g5))))))
set_option maxHeartbeats 4000000 in
set_option maxRecDepth 100000 in
theorem kzM_counts_0_3 (l : Launch) (G : va_G) (ac : Nat → ClassId) (ad : Nat → Nat) (g0 : xk_St) (k2 : Int32) (B : Nat) (Ig0 : xk_cnt B g0) (hB : B + 2 < 2147483648) : xk_CV l yzM_counts czM_counts 6 xk_WS xk_r3 G xk_cls (xk_tys ac) [.ref (ad 0), .int 0, .int 3, .int k2] (xk_wM ad ac g0) (fun (gz : xk_St) => relzM_counts_0_3 g0 k2 gz) (fun gz => xk_wM ad ac gz) := by
  refine xk_ofV (by decide) (Nat.le_of_ble_eq_true rfl) ?_
  intro p e s m args below meth c A Q H locs ls C0 hret hP hD hS hl
  obtain ⟨hx, hb, hml, hts, hown, hK, hA⟩ := C0
  have hl : lv_has ls 6 [(0, .ref (ad 0)), (1, .int 0), (2, .int 3), (3, .int k2)] := hl
  have Ig0 : xk_cnt (B + 0) g0 := Ig0
  refine lv_iconst (v := 3) (pc := 0) hx hb dzM_counts_0 (by decide) ?_
  refine lv_iload_n (pc := 1) hx hb dzM_counts_1 rfl (lv_at hl 1 rfl) ?_
  refine lv_imul (pc := 2) hx hb dzM_counts_2 ?_
  refine xk_is (y := 0) (by decide) ?_
  refine lv_iload_n (pc := 3) hx hb dzM_counts_3 rfl (lv_at hl 2 rfl) ?_
  refine lv_iadd (pc := 4) hx hb dzM_counts_4 ?_
  refine xk_is (y := 3) (by decide) ?_
  refine lv_iconst (v := 1) (pc := 5) hx hb dzM_counts_5 (by decide) ?_
  refine lv_isub (pc := 6) hx hb dzM_counts_6 ?_
  refine xk_is (y := 2) (by decide) ?_
  refine lv_istore (lv' := [(4, .int 2), (0, .ref (ad 0)), (1, .int 0), (2, .int 3), (3, .int k2)]) (pc := 7) hx hb dzM_counts_7 hl (by decide) rfl (fun ls hl => ?_)
  refine lv_iconst (v := 3) (pc := 9) hx hb dzM_counts_9 (by decide) ?_
  refine lv_iload_n (pc := 10) hx hb dzM_counts_10 rfl (lv_at hl 2 rfl) ?_
  refine lv_imul (pc := 11) hx hb dzM_counts_11 ?_
  refine xk_is (y := 0) (by decide) ?_
  refine lv_iload_n (pc := 12) hx hb dzM_counts_12 rfl (lv_at hl 3 rfl) ?_
  refine lv_iadd (pc := 13) hx hb dzM_counts_13 ?_
  refine xk_is (y := 3) (by decide) ?_
  refine lv_istore (lv' := [(5, .int 3), (4, .int 2), (0, .ref (ad 0)), (1, .int 0), (2, .int 3), (3, .int k2)]) (pc := 14) hx hb dzM_counts_14 hl (by decide) rfl (fun ls hl => ?_)
  refine lv_iload_n (pc := 16) hx hb dzM_counts_16 rfl (lv_at hl 4 rfl) ?_
  refine lv_if_le (pc := 17) (tgt := 110) hx hb dzM_counts_17 (by decide) (fun hq9 => absurd hq9 (by decide)) (fun _ => ?_)
  refine lv_aload_n (pc := 20) hx hb dzM_counts_20 rfl (lv_at hl 2 rfl) ?_
  refine xk_get (pc := 21) hx hb hts hown hK hP ffzM_32 0 rfl rfl dzM_counts_21 ?_
  refine lv_iload (pc := 24) hx hb dzM_counts_24 (lv_at hl 1 rfl) ?_
  refine lv_iload_n (pc := 26) hx hb dzM_counts_26 rfl (lv_at hl 5 rfl) ?_
  refine lv_iconst (v := 1) (pc := 27) hx hb dzM_counts_27 (by decide) ?_
  have K1 : ∀ (x1 : Int32), (if k2 = 1 then (if ((g0 6) 2) = 0 then (x1 = (g0 8) 2) else (x1 = ((g0 8) 2) + 1)) else (x1 = (g0 8) 2)) → W p l e xk_r3 s m args below meth c H locs 0 0 Q (F0 m 60 ls [.int x1, .int 2, .ref (ad 8)]) := by
    intro x1 R1
    refine xk_iast (q0 := 8) (t0 := 0) (j := 2) (pc := 60) hx hb hK hP hD hS rfl rfl (pk_in 2 6 (by decide)) (pk_cl 2) dzM_counts_60 (fun H locs hP hD hS => ?_)
    obtain ⟨g1, eg1⟩ : ∃ z : xk_St, z = va_up g0 8 (upd (g0 8) 2 x1) := ⟨_, rfl⟩
    have hP : va_P G xk_cls (xk_wM ad ac g1) H := by rw [eg1]; exact hP
    have hD : va_D A (xk_wM ad ac g1) := by rw [eg1]; exact hD
    have Ig1 : xk_cnt (B + 0) g1 := by rw [eg1]; repeat (first | exact Ig0 | refine xk_cnt_k (by decide) ?_ | refine xk_cnt_f (by decide) ?_ | refine xk_cnt_s ?_)
    refine lv_aload_n (pc := 61) hx hb dzM_counts_61 rfl (lv_at hl 2 rfl) ?_
    refine xk_get (pc := 62) hx hb hts hown hK hP ffzM_35 0 rfl rfl dzM_counts_62 ?_
    refine lv_iload (pc := 65) hx hb dzM_counts_65 (lv_at hl 1 rfl) ?_
    refine lv_iload_n (pc := 67) hx hb dzM_counts_67 rfl (lv_at hl 5 rfl) ?_
    refine lv_iconst (v := (-1)) (pc := 68) hx hb dzM_counts_68 (by decide) ?_
    have K2 : ∀ (x2 : Int32), (if k2 = (-1) then (if ((g1 6) 2) = 0 then (x2 = (g1 9) 2) else (x2 = ((g1 9) 2) + 1)) else (x2 = (g1 9) 2)) → W p l e xk_r3 s m args below meth c H locs 0 0 Q (F0 m 101 ls [.int x2, .int 2, .ref (ad 9)]) := by
      intro x2 R2
      refine xk_iast (q0 := 9) (t0 := 0) (j := 2) (pc := 101) hx hb hK hP hD hS rfl rfl (pk_in 2 6 (by decide)) (pk_cl 2) dzM_counts_101 (fun H locs hP hD hS => ?_)
      obtain ⟨g2, eg2⟩ : ∃ z : xk_St, z = va_up g1 9 (upd (g1 9) 2 x2) := ⟨_, rfl⟩
      have hP : va_P G xk_cls (xk_wM ad ac g2) H := by rw [eg2]; exact hP
      have hD : va_D A (xk_wM ad ac g2) := by rw [eg2]; exact hD
      have Ig2 : xk_cnt (B + 0) g2 := by rw [eg2]; repeat (first | exact Ig1 | refine xk_cnt_k (by decide) ?_ | refine xk_cnt_f (by decide) ?_ | refine xk_cnt_s ?_)
      refine lv_aload_n (pc := 102) hx hb dzM_counts_102 rfl (lv_at hl 2 rfl) ?_
      refine lv_iload (pc := 103) hx hb dzM_counts_103 (lv_at hl 1 rfl) ?_
      refine lv_iload_n (pc := 105) hx hb dzM_counts_105 rfl (lv_at hl 5 rfl) ?_
      refine lv_ineg (pc := 106) hx hb dzM_counts_106 ?_
      refine xk_allVV (As := [.int 2, .int (-k2)]) (rest := []) (H0 := s.heap) (pc := 107) hx hb hml hts hown hK hA hP hD hS (kzM_change_2 l G ac ad g2 (-k2) (B + 0) Ig2 (by omega)) vfzM_138 (fun _ => rfl) 0 rfl rfl ⟨rfl, rfl⟩ ⟨Nat.le_of_ble_eq_true rfl, Nat.le_of_ble_eq_true rfl⟩ rfl hl.1 rfl (Nat.le_of_ble_eq_true rfl) ⟨Nat.zero_le _, Nat.zero_le _⟩ dzM_counts_107 (fun g3 H locs hg3 hP hD hS => ?_)
      have hP : va_P G xk_cls (xk_wM ad ac g3) H := hP
      have hD : va_D A (xk_wM ad ac g3) := hD
      have Ig3 : xk_cnt (B + 1) g3 := xk_cnt_le (iczM_change_2 (B + 0) _ _ _ hg3 Ig2) (by omega)
      refine lv_iload_n (pc := 110) hx hb dzM_counts_110 rfl (lv_at hl 4 rfl) ?_
      refine lv_iconst (v := 3) (pc := 111) hx hb dzM_counts_111 (by decide) ?_
      refine lv_icmp_ge (pc := 112) (tgt := 204) hx hb dzM_counts_112 (by decide) (fun _ => ?_) (fun hq9 => absurd (by decide) hq9)
      refine lv_iload_n (pc := 204) hx hb dzM_counts_204 rfl (lv_at hl 4 rfl) ?_
      refine lv_if_ne (pc := 205) (tgt := 222) hx hb dzM_counts_205 (by decide) (fun _ => ?_) (fun hq9 => absurd hq9 (by decide))
      refine lv_iload_n (pc := 222) hx hb dzM_counts_222 rfl (lv_at hl 4 rfl) ?_
      refine lv_iconst (v := 3) (pc := 223) hx hb dzM_counts_223 (by decide) ?_
      refine lv_icmp_ne (pc := 224) (tgt := 243) hx hb dzM_counts_224 (by decide) (fun hq9 => absurd (by decide) hq9) (fun _ => ?_)
      refine lv_iload_n (pc := 227) hx hb dzM_counts_227 rfl (lv_at hl 5 rfl) ?_
      refine lv_iconst (v := (-1)) (pc := 228) hx hb dzM_counts_228 (by decide) ?_
      have K3 : ∀ (g5 : xk_St) (H : Heap) (locs : List Loc), (if k2 = (-1) then (∃ (g4 : xk_St), g4 = va_up g3 12 (upd (g3 12) 1 1) ∧ (g5 = g4)) else (g5 = g3)) → (xk_cnt (B + 1) g5) → (va_P G xk_cls (xk_wM ad ac g5) H) → (va_D A (xk_wM ad ac g5)) → (va_S A s.heap H locs) → W p l e xk_r3 s m args below meth c H locs 0 0 Q (F0 m 243 ls []) := by
        intro g5 H locs R3 Ig5 hP hD hS
        exact hret g5 H locs 243 ls hP hS (by unfold relzM_counts_0_3; exact ⟨x1, R1, ⟨g1, eg1, ⟨x2, R2, ⟨g2, eg2, ⟨g3, hg3, ⟨g5, R3, rfl⟩⟩⟩⟩⟩⟩) dzM_counts_243
      refine lv_icmp_ne (pc := 229) (tgt := 243) hx hb dzM_counts_229 (by decide) (fun h5 => ?_) (fun h5 => ?_)
      ·
        exact K3 g3 H locs (Eq.mpr (if_neg h5) rfl) (xk_cnt_le Ig3 (by omega)) hP hD hS
      ·
        refine lv_aload_n (pc := 232) hx hb dzM_counts_232 rfl (lv_at hl 2 rfl) ?_
        refine xk_get (pc := 233) hx hb hts hown hK hP ffzM_44 0 rfl rfl dzM_counts_233 ?_
        refine lv_iconst (v := 2) (pc := 236) hx hb dzM_counts_236 (by decide) ?_
        refine lv_iload_n (pc := 237) hx hb dzM_counts_237 rfl (lv_at hl 3 rfl) ?_
        refine lv_imul (pc := 238) hx hb dzM_counts_238 ?_
        refine xk_is (y := 0) (by decide) ?_
        refine lv_iconst (v := 1) (pc := 239) hx hb dzM_counts_239 (by decide) ?_
        refine lv_iadd (pc := 240) hx hb dzM_counts_240 ?_
        refine xk_is (y := 1) (by decide) ?_
        refine lv_iconst (v := 1) (pc := 241) hx hb dzM_counts_241 (by decide) ?_
        refine xk_zast (q0 := 12) (t0 := 1) (j := 1) (pc := 242) hx hb hK hP hD hS rfl rfl (pk_in 1 4 (by decide)) (pk_cl 1) xk_b1 dzM_counts_242 (fun H locs hP hD hS => ?_)
        obtain ⟨g4, eg4⟩ : ∃ z : xk_St, z = va_up g3 12 (upd (g3 12) 1 1) := ⟨_, rfl⟩
        have hP : va_P G xk_cls (xk_wM ad ac g4) H := by rw [eg4]; exact hP
        have hD : va_D A (xk_wM ad ac g4) := by rw [eg4]; exact hD
        have Ig4 : xk_cnt (B + 1) g4 := by rw [eg4]; repeat (first | exact Ig3 | refine xk_cnt_k (by decide) ?_ | refine xk_cnt_f (by decide) ?_ | refine xk_cnt_s ?_)
        exact K3 g4 H locs (Eq.mpr (if_pos h5) ⟨g4, eg4, rfl⟩) (xk_cnt_le Ig4 (by omega)) hP hD hS
    refine lv_icmp_ne (pc := 69) (tgt := 94) hx hb dzM_counts_69 (by decide) (fun h3 => ?_) (fun h3 => ?_)
    ·
      refine lv_aload_n (pc := 94) hx hb dzM_counts_94 rfl (lv_at hl 2 rfl) ?_
      refine xk_get (pc := 95) hx hb hts hown hK hP ffzM_35 0 rfl rfl dzM_counts_95 ?_
      refine lv_iload (pc := 98) hx hb dzM_counts_98 (lv_at hl 1 rfl) ?_
      refine xk_iald (q0 := 9) (t0 := 0) (j := 2) (pc := 100) hx hb hK hP rfl rfl (pk_in 2 6 (by decide)) (pk_cl 2) dzM_counts_100 ?_
      exact K2 ((g1 9) 2) (Eq.mpr (if_neg h3) rfl)
    ·
      refine lv_aload_n (pc := 72) hx hb dzM_counts_72 rfl (lv_at hl 2 rfl) ?_
      refine xk_get (pc := 73) hx hb hts hown hK hP ffzM_26 0 rfl rfl dzM_counts_73 ?_
      refine lv_iload (pc := 76) hx hb dzM_counts_76 (lv_at hl 1 rfl) ?_
      refine xk_iald (q0 := 6) (t0 := 0) (j := 2) (pc := 78) hx hb hK hP rfl rfl (pk_in 2 6 (by decide)) (pk_cl 2) dzM_counts_78 ?_
      refine lv_if_eq (pc := 79) (tgt := 94) hx hb dzM_counts_79 (by decide) (fun h4 => ?_) (fun h4 => ?_)
      ·
        refine lv_aload_n (pc := 94) hx hb dzM_counts_94 rfl (lv_at hl 2 rfl) ?_
        refine xk_get (pc := 95) hx hb hts hown hK hP ffzM_35 0 rfl rfl dzM_counts_95 ?_
        refine lv_iload (pc := 98) hx hb dzM_counts_98 (lv_at hl 1 rfl) ?_
        refine xk_iald (q0 := 9) (t0 := 0) (j := 2) (pc := 100) hx hb hK hP rfl rfl (pk_in 2 6 (by decide)) (pk_cl 2) dzM_counts_100 ?_
        exact K2 ((g1 9) 2) (Eq.mpr (if_pos h3) (Eq.mpr (if_pos h4) rfl))
      ·
        refine lv_aload_n (pc := 82) hx hb dzM_counts_82 rfl (lv_at hl 2 rfl) ?_
        refine xk_get (pc := 83) hx hb hts hown hK hP ffzM_35 0 rfl rfl dzM_counts_83 ?_
        refine lv_iload (pc := 86) hx hb dzM_counts_86 (lv_at hl 1 rfl) ?_
        refine xk_iald (q0 := 9) (t0 := 0) (j := 2) (pc := 88) hx hb hK hP rfl rfl (pk_in 2 6 (by decide)) (pk_cl 2) dzM_counts_88 ?_
        refine lv_iconst (v := 1) (pc := 89) hx hb dzM_counts_89 (by decide) ?_
        refine lv_iadd (pc := 90) hx hb dzM_counts_90 ?_
        refine lv_goto (tgt := 101) (pc := 91) hx hb dzM_counts_91 (by decide) ?_
        exact K2 (((g1 9) 2) + 1) (Eq.mpr (if_pos h3) (Eq.mpr (if_neg h4) rfl))
  refine lv_icmp_ne (pc := 28) (tgt := 53) hx hb dzM_counts_28 (by decide) (fun h1 => ?_) (fun h1 => ?_)
  ·
    refine lv_aload_n (pc := 53) hx hb dzM_counts_53 rfl (lv_at hl 2 rfl) ?_
    refine xk_get (pc := 54) hx hb hts hown hK hP ffzM_32 0 rfl rfl dzM_counts_54 ?_
    refine lv_iload (pc := 57) hx hb dzM_counts_57 (lv_at hl 1 rfl) ?_
    refine xk_iald (q0 := 8) (t0 := 0) (j := 2) (pc := 59) hx hb hK hP rfl rfl (pk_in 2 6 (by decide)) (pk_cl 2) dzM_counts_59 ?_
    exact K1 ((g0 8) 2) (Eq.mpr (if_neg h1) rfl)
  ·
    refine lv_aload_n (pc := 31) hx hb dzM_counts_31 rfl (lv_at hl 2 rfl) ?_
    refine xk_get (pc := 32) hx hb hts hown hK hP ffzM_26 0 rfl rfl dzM_counts_32 ?_
    refine lv_iload (pc := 35) hx hb dzM_counts_35 (lv_at hl 1 rfl) ?_
    refine xk_iald (q0 := 6) (t0 := 0) (j := 2) (pc := 37) hx hb hK hP rfl rfl (pk_in 2 6 (by decide)) (pk_cl 2) dzM_counts_37 ?_
    refine lv_if_eq (pc := 38) (tgt := 53) hx hb dzM_counts_38 (by decide) (fun h2 => ?_) (fun h2 => ?_)
    ·
      refine lv_aload_n (pc := 53) hx hb dzM_counts_53 rfl (lv_at hl 2 rfl) ?_
      refine xk_get (pc := 54) hx hb hts hown hK hP ffzM_32 0 rfl rfl dzM_counts_54 ?_
      refine lv_iload (pc := 57) hx hb dzM_counts_57 (lv_at hl 1 rfl) ?_
      refine xk_iald (q0 := 8) (t0 := 0) (j := 2) (pc := 59) hx hb hK hP rfl rfl (pk_in 2 6 (by decide)) (pk_cl 2) dzM_counts_59 ?_
      exact K1 ((g0 8) 2) (Eq.mpr (if_pos h1) (Eq.mpr (if_pos h2) rfl))
    ·
      refine lv_aload_n (pc := 41) hx hb dzM_counts_41 rfl (lv_at hl 2 rfl) ?_
      refine xk_get (pc := 42) hx hb hts hown hK hP ffzM_32 0 rfl rfl dzM_counts_42 ?_
      refine lv_iload (pc := 45) hx hb dzM_counts_45 (lv_at hl 1 rfl) ?_
      refine xk_iald (q0 := 8) (t0 := 0) (j := 2) (pc := 47) hx hb hK hP rfl rfl (pk_in 2 6 (by decide)) (pk_cl 2) dzM_counts_47 ?_
      refine lv_iconst (v := 1) (pc := 48) hx hb dzM_counts_48 (by decide) ?_
      refine lv_iadd (pc := 49) hx hb dzM_counts_49 ?_
      refine lv_goto (tgt := 60) (pc := 50) hx hb dzM_counts_50 (by decide) ?_
      exact K1 (((g0 8) 2) + 1) (Eq.mpr (if_pos h1) (Eq.mpr (if_neg h2) rfl))
theorem frzM_counts_0_3 (g0 : xk_St) (k2 : Int32) (gz : xk_St) : relzM_counts_0_3 g0 k2 gz → xk_eqv [1, 2, 4, 6, 7, 10, 11, 13, 14, 15, 16, 17, 18, 19, 20, 21, 22, 23, 24] g0 gz := by
  intro h
  unfold relzM_counts_0_3 at h
  have s0 : xk_eqv [1, 2, 4, 6, 7, 10, 11, 13, 14, 15, 16, 17, 18, 19, 20, 21, 22, 23, 24] g0 g0 := xk_eqv_rf
  obtain ⟨x1, u1, v2⟩ := h
  obtain ⟨g1, u3, v4⟩ := v2
  have s5 : xk_eqv [1, 2, 4, 6, 7, 10, 11, 13, 14, 15, 16, 17, 18, 19, 20, 21, 22, 23, 24] g0 g1 := by rw [u3]; repeat (first | exact s0 | refine xk_eqv_up (by decide) ?_)
  obtain ⟨x2, u6, v7⟩ := v4
  obtain ⟨g2, u8, v9⟩ := v7
  have s10 : xk_eqv [1, 2, 4, 6, 7, 10, 11, 13, 14, 15, 16, 17, 18, 19, 20, 21, 22, 23, 24] g0 g2 := by rw [u8]; repeat (first | exact s5 | refine xk_eqv_up (by decide) ?_)
  obtain ⟨g3, u11, v12⟩ := v9
  have s13 : xk_eqv [1, 2, 4, 6, 7, 10, 11, 13, 14, 15, 16, 17, 18, 19, 20, 21, 22, 23, 24] g0 g3 := xk_eqv_tr s10 (xk_eqv_sub (frzM_change_2 _ _ _ u11) (by decide))
  obtain ⟨g5, u14, v15⟩ := v12
  have s16 : xk_eqv [1, 2, 4, 6, 7, 10, 11, 13, 14, 15, 16, 17, 18, 19, 20, 21, 22, 23, 24] g0 g5 := by
    by_cases hc : k2 = (-1)
    · rw [if_pos hc] at u14
      obtain ⟨g4, u17, v18⟩ := u14
      have s19 : xk_eqv [1, 2, 4, 6, 7, 10, 11, 13, 14, 15, 16, 17, 18, 19, 20, 21, 22, 23, 24] g0 g4 := by rw [u17]; repeat (first | exact s13 | refine xk_eqv_up (by decide) ?_)
      rw [v18]; exact s19
    · rw [if_neg hc] at u14
      rw [u14]; exact s13
  rw [v15]; exact s16
theorem iczM_counts_0_3 (B : Nat) (g0 : xk_St) (k2 : Int32) (gz : xk_St) : relzM_counts_0_3 g0 k2 gz → xk_cnt B g0 → xk_cnt (B + 1) gz := by
  intro h Ig0
  unfold relzM_counts_0_3 at h
  have Ig0 : xk_cnt (B + 0) g0 := Ig0
  obtain ⟨x1, u1, v2⟩ := h
  obtain ⟨g1, u3, v4⟩ := v2
  have Ig1 : xk_cnt (B + 0) g1 := by rw [u3]; repeat (first | exact Ig0 | refine xk_cnt_k (by decide) ?_ | refine xk_cnt_f (by decide) ?_ | refine xk_cnt_s ?_)
  obtain ⟨x2, u5, v6⟩ := v4
  obtain ⟨g2, u7, v8⟩ := v6
  have Ig2 : xk_cnt (B + 0) g2 := by rw [u7]; repeat (first | exact Ig1 | refine xk_cnt_k (by decide) ?_ | refine xk_cnt_f (by decide) ?_ | refine xk_cnt_s ?_)
  obtain ⟨g3, u9, v10⟩ := v8
  have Ig3 : xk_cnt (B + 1) g3 := xk_cnt_le (iczM_change_2 (B + 0) _ _ _ u9 Ig2) (by omega)
  obtain ⟨g5, u11, v12⟩ := v10
  have Ig5 : xk_cnt (B + 1) g5 := by
    by_cases hc : k2 = (-1)
    · rw [if_pos hc] at u11
      obtain ⟨g4, u13, v14⟩ := u11
      have Ig4 : xk_cnt (B + 1) g4 := by rw [u13]; repeat (first | exact Ig3 | refine xk_cnt_k (by decide) ?_ | refine xk_cnt_f (by decide) ?_ | refine xk_cnt_s ?_)
      rw [v14]; exact xk_cnt_le Ig4 (by omega)
    · rw [if_neg hc] at u11
      rw [u11]; exact xk_cnt_le Ig3 (by omega)
  rw [v12]; exact xk_cnt_le Ig5 (by omega)

def relzM_counts_1_0 (g0 : xk_St) (k2 : Int32) (gz : xk_St) : Prop := ∃ (x1 : Int32), (if k2 = 1 then (if ((g0 6) 3) = 0 then (x1 = (g0 7) 3) else (x1 = ((g0 7) 3) + 1)) else (x1 = (g0 7) 3)) ∧ (∃ (g1 : xk_St), g1 = va_up g0 7 (upd (g0 7) 3 x1) ∧ (∃ (x2 : Int32), (if k2 = (-1) then (if ((g1 6) 3) = 0 then (x2 = (g1 10) 3) else (x2 = ((g1 10) 3) + 1)) else (x2 = (g1 10) 3)) ∧ (∃ (g2 : xk_St), g2 = va_up g1 10 (upd (g1 10) 3 x2) ∧ (∃ (g3 : xk_St), relzM_change_3 g2 k2 g3 ∧ (∃ (g5 : xk_St), (if k2 = 1 then (∃ (g4 : xk_St), g4 = va_up g3 12 (upd (g3 12) 2 1) ∧ (g5 = g4)) else (g5 = g3)) ∧ (gz = g5))))))
set_option maxHeartbeats 4000000 in
set_option maxRecDepth 100000 in
theorem kzM_counts_1_0 (l : Launch) (G : va_G) (ac : Nat → ClassId) (ad : Nat → Nat) (g0 : xk_St) (k2 : Int32) (B : Nat) (Ig0 : xk_cnt B g0) (hB : B + 2 < 2147483648) : xk_CV l yzM_counts czM_counts 6 xk_WS xk_r3 G xk_cls (xk_tys ac) [.ref (ad 0), .int 1, .int 0, .int k2] (xk_wM ad ac g0) (fun (gz : xk_St) => relzM_counts_1_0 g0 k2 gz) (fun gz => xk_wM ad ac gz) := by
  refine xk_ofV (by decide) (Nat.le_of_ble_eq_true rfl) ?_
  intro p e s m args below meth c A Q H locs ls C0 hret hP hD hS hl
  obtain ⟨hx, hb, hml, hts, hown, hK, hA⟩ := C0
  have hl : lv_has ls 6 [(0, .ref (ad 0)), (1, .int 1), (2, .int 0), (3, .int k2)] := hl
  have Ig0 : xk_cnt (B + 0) g0 := Ig0
  refine lv_iconst (v := 3) (pc := 0) hx hb dzM_counts_0 (by decide) ?_
  refine lv_iload_n (pc := 1) hx hb dzM_counts_1 rfl (lv_at hl 1 rfl) ?_
  refine lv_imul (pc := 2) hx hb dzM_counts_2 ?_
  refine xk_is (y := 3) (by decide) ?_
  refine lv_iload_n (pc := 3) hx hb dzM_counts_3 rfl (lv_at hl 2 rfl) ?_
  refine lv_iadd (pc := 4) hx hb dzM_counts_4 ?_
  refine xk_is (y := 3) (by decide) ?_
  refine lv_iconst (v := 1) (pc := 5) hx hb dzM_counts_5 (by decide) ?_
  refine lv_isub (pc := 6) hx hb dzM_counts_6 ?_
  refine xk_is (y := 2) (by decide) ?_
  refine lv_istore (lv' := [(4, .int 2), (0, .ref (ad 0)), (1, .int 1), (2, .int 0), (3, .int k2)]) (pc := 7) hx hb dzM_counts_7 hl (by decide) rfl (fun ls hl => ?_)
  refine lv_iconst (v := 3) (pc := 9) hx hb dzM_counts_9 (by decide) ?_
  refine lv_iload_n (pc := 10) hx hb dzM_counts_10 rfl (lv_at hl 2 rfl) ?_
  refine lv_imul (pc := 11) hx hb dzM_counts_11 ?_
  refine xk_is (y := 3) (by decide) ?_
  refine lv_iload_n (pc := 12) hx hb dzM_counts_12 rfl (lv_at hl 3 rfl) ?_
  refine lv_iadd (pc := 13) hx hb dzM_counts_13 ?_
  refine xk_is (y := 3) (by decide) ?_
  refine lv_istore (lv' := [(5, .int 3), (4, .int 2), (0, .ref (ad 0)), (1, .int 1), (2, .int 0), (3, .int k2)]) (pc := 14) hx hb dzM_counts_14 hl (by decide) rfl (fun ls hl => ?_)
  refine lv_iload_n (pc := 16) hx hb dzM_counts_16 rfl (lv_at hl 4 rfl) ?_
  refine lv_if_le (pc := 17) (tgt := 110) hx hb dzM_counts_17 (by decide) (fun _ => ?_) (fun hq9 => absurd (by decide) hq9)
  refine lv_iload_n (pc := 110) hx hb dzM_counts_110 rfl (lv_at hl 4 rfl) ?_
  refine lv_iconst (v := 3) (pc := 111) hx hb dzM_counts_111 (by decide) ?_
  refine lv_icmp_ge (pc := 112) (tgt := 204) hx hb dzM_counts_112 (by decide) (fun hq9 => absurd hq9 (by decide)) (fun _ => ?_)
  refine lv_aload_n (pc := 115) hx hb dzM_counts_115 rfl (lv_at hl 2 rfl) ?_
  refine xk_get (pc := 116) hx hb hts hown hK hP ffzM_29 0 rfl rfl dzM_counts_116 ?_
  refine lv_iload (pc := 119) hx hb dzM_counts_119 (lv_at hl 0 rfl) ?_
  refine lv_iload_n (pc := 121) hx hb dzM_counts_121 rfl (lv_at hl 5 rfl) ?_
  refine lv_iconst (v := 1) (pc := 122) hx hb dzM_counts_122 (by decide) ?_
  have K1 : ∀ (x1 : Int32), (if k2 = 1 then (if ((g0 6) 3) = 0 then (x1 = (g0 7) 3) else (x1 = ((g0 7) 3) + 1)) else (x1 = (g0 7) 3)) → W p l e xk_r3 s m args below meth c H locs 0 0 Q (F0 m 155 ls [.int x1, .int 3, .ref (ad 7)]) := by
    intro x1 R1
    refine xk_iast (q0 := 7) (t0 := 0) (j := 3) (pc := 155) hx hb hK hP hD hS rfl rfl (pk_in 3 6 (by decide)) (pk_cl 3) dzM_counts_155 (fun H locs hP hD hS => ?_)
    obtain ⟨g1, eg1⟩ : ∃ z : xk_St, z = va_up g0 7 (upd (g0 7) 3 x1) := ⟨_, rfl⟩
    have hP : va_P G xk_cls (xk_wM ad ac g1) H := by rw [eg1]; exact hP
    have hD : va_D A (xk_wM ad ac g1) := by rw [eg1]; exact hD
    have Ig1 : xk_cnt (B + 0) g1 := by rw [eg1]; repeat (first | exact Ig0 | refine xk_cnt_k (by decide) ?_ | refine xk_cnt_f (by decide) ?_ | refine xk_cnt_s ?_)
    refine lv_aload_n (pc := 156) hx hb dzM_counts_156 rfl (lv_at hl 2 rfl) ?_
    refine xk_get (pc := 157) hx hb hts hown hK hP ffzM_38 0 rfl rfl dzM_counts_157 ?_
    refine lv_iload (pc := 160) hx hb dzM_counts_160 (lv_at hl 0 rfl) ?_
    refine lv_iload_n (pc := 162) hx hb dzM_counts_162 rfl (lv_at hl 5 rfl) ?_
    refine lv_iconst (v := (-1)) (pc := 163) hx hb dzM_counts_163 (by decide) ?_
    have K2 : ∀ (x2 : Int32), (if k2 = (-1) then (if ((g1 6) 3) = 0 then (x2 = (g1 10) 3) else (x2 = ((g1 10) 3) + 1)) else (x2 = (g1 10) 3)) → W p l e xk_r3 s m args below meth c H locs 0 0 Q (F0 m 196 ls [.int x2, .int 3, .ref (ad 10)]) := by
      intro x2 R2
      refine xk_iast (q0 := 10) (t0 := 0) (j := 3) (pc := 196) hx hb hK hP hD hS rfl rfl (pk_in 3 6 (by decide)) (pk_cl 3) dzM_counts_196 (fun H locs hP hD hS => ?_)
      obtain ⟨g2, eg2⟩ : ∃ z : xk_St, z = va_up g1 10 (upd (g1 10) 3 x2) := ⟨_, rfl⟩
      have hP : va_P G xk_cls (xk_wM ad ac g2) H := by rw [eg2]; exact hP
      have hD : va_D A (xk_wM ad ac g2) := by rw [eg2]; exact hD
      have Ig2 : xk_cnt (B + 0) g2 := by rw [eg2]; repeat (first | exact Ig1 | refine xk_cnt_k (by decide) ?_ | refine xk_cnt_f (by decide) ?_ | refine xk_cnt_s ?_)
      refine lv_aload_n (pc := 197) hx hb dzM_counts_197 rfl (lv_at hl 2 rfl) ?_
      refine lv_iload (pc := 198) hx hb dzM_counts_198 (lv_at hl 0 rfl) ?_
      refine lv_iload_n (pc := 200) hx hb dzM_counts_200 rfl (lv_at hl 5 rfl) ?_
      refine xk_allVV (As := [.int 3, .int k2]) (rest := []) (H0 := s.heap) (pc := 201) hx hb hml hts hown hK hA hP hD hS (kzM_change_3 l G ac ad g2 k2 (B + 0) Ig2 (by omega)) vfzM_138 (fun _ => rfl) 0 rfl rfl ⟨rfl, rfl⟩ ⟨Nat.le_of_ble_eq_true rfl, Nat.le_of_ble_eq_true rfl⟩ rfl hl.1 rfl (Nat.le_of_ble_eq_true rfl) ⟨Nat.zero_le _, Nat.zero_le _⟩ dzM_counts_201 (fun g3 H locs hg3 hP hD hS => ?_)
      have hP : va_P G xk_cls (xk_wM ad ac g3) H := hP
      have hD : va_D A (xk_wM ad ac g3) := hD
      have Ig3 : xk_cnt (B + 1) g3 := xk_cnt_le (iczM_change_3 (B + 0) _ _ _ hg3 Ig2) (by omega)
      refine lv_iload_n (pc := 204) hx hb dzM_counts_204 rfl (lv_at hl 4 rfl) ?_
      refine lv_if_ne (pc := 205) (tgt := 222) hx hb dzM_counts_205 (by decide) (fun hq9 => absurd (by decide) hq9) (fun _ => ?_)
      refine lv_iload_n (pc := 208) hx hb dzM_counts_208 rfl (lv_at hl 5 rfl) ?_
      refine lv_iconst (v := 1) (pc := 209) hx hb dzM_counts_209 (by decide) ?_
      have K3 : ∀ (g5 : xk_St) (H : Heap) (locs : List Loc), (if k2 = 1 then (∃ (g4 : xk_St), g4 = va_up g3 12 (upd (g3 12) 2 1) ∧ (g5 = g4)) else (g5 = g3)) → (xk_cnt (B + 1) g5) → (va_P G xk_cls (xk_wM ad ac g5) H) → (va_D A (xk_wM ad ac g5)) → (va_S A s.heap H locs) → W p l e xk_r3 s m args below meth c H locs 0 0 Q (F0 m 222 ls []) := by
        intro g5 H locs R3 Ig5 hP hD hS
        refine lv_iload_n (pc := 222) hx hb dzM_counts_222 rfl (lv_at hl 4 rfl) ?_
        refine lv_iconst (v := 3) (pc := 223) hx hb dzM_counts_223 (by decide) ?_
        refine lv_icmp_ne (pc := 224) (tgt := 243) hx hb dzM_counts_224 (by decide) (fun _ => ?_) (fun hq9 => absurd hq9 (by decide))
        exact hret g5 H locs 243 ls hP hS (by unfold relzM_counts_1_0; exact ⟨x1, R1, ⟨g1, eg1, ⟨x2, R2, ⟨g2, eg2, ⟨g3, hg3, ⟨g5, R3, rfl⟩⟩⟩⟩⟩⟩) dzM_counts_243
      refine lv_icmp_ne (pc := 210) (tgt := 222) hx hb dzM_counts_210 (by decide) (fun h5 => ?_) (fun h5 => ?_)
      ·
        exact K3 g3 H locs (Eq.mpr (if_neg h5) rfl) (xk_cnt_le Ig3 (by omega)) hP hD hS
      ·
        refine lv_aload_n (pc := 213) hx hb dzM_counts_213 rfl (lv_at hl 2 rfl) ?_
        refine xk_get (pc := 214) hx hb hts hown hK hP ffzM_44 0 rfl rfl dzM_counts_214 ?_
        refine lv_iconst (v := 2) (pc := 217) hx hb dzM_counts_217 (by decide) ?_
        refine lv_iload_n (pc := 218) hx hb dzM_counts_218 rfl (lv_at hl 3 rfl) ?_
        refine lv_imul (pc := 219) hx hb dzM_counts_219 ?_
        refine xk_is (y := 2) (by decide) ?_
        refine lv_iconst (v := 1) (pc := 220) hx hb dzM_counts_220 (by decide) ?_
        refine xk_zast (q0 := 12) (t0 := 1) (j := 2) (pc := 221) hx hb hK hP hD hS rfl rfl (pk_in 2 4 (by decide)) (pk_cl 2) xk_b1 dzM_counts_221 (fun H locs hP hD hS => ?_)
        obtain ⟨g4, eg4⟩ : ∃ z : xk_St, z = va_up g3 12 (upd (g3 12) 2 1) := ⟨_, rfl⟩
        have hP : va_P G xk_cls (xk_wM ad ac g4) H := by rw [eg4]; exact hP
        have hD : va_D A (xk_wM ad ac g4) := by rw [eg4]; exact hD
        have Ig4 : xk_cnt (B + 1) g4 := by rw [eg4]; repeat (first | exact Ig3 | refine xk_cnt_k (by decide) ?_ | refine xk_cnt_f (by decide) ?_ | refine xk_cnt_s ?_)
        exact K3 g4 H locs (Eq.mpr (if_pos h5) ⟨g4, eg4, rfl⟩) (xk_cnt_le Ig4 (by omega)) hP hD hS
    refine lv_icmp_ne (pc := 164) (tgt := 189) hx hb dzM_counts_164 (by decide) (fun h3 => ?_) (fun h3 => ?_)
    ·
      refine lv_aload_n (pc := 189) hx hb dzM_counts_189 rfl (lv_at hl 2 rfl) ?_
      refine xk_get (pc := 190) hx hb hts hown hK hP ffzM_38 0 rfl rfl dzM_counts_190 ?_
      refine lv_iload (pc := 193) hx hb dzM_counts_193 (lv_at hl 0 rfl) ?_
      refine xk_iald (q0 := 10) (t0 := 0) (j := 3) (pc := 195) hx hb hK hP rfl rfl (pk_in 3 6 (by decide)) (pk_cl 3) dzM_counts_195 ?_
      exact K2 ((g1 10) 3) (Eq.mpr (if_neg h3) rfl)
    ·
      refine lv_aload_n (pc := 167) hx hb dzM_counts_167 rfl (lv_at hl 2 rfl) ?_
      refine xk_get (pc := 168) hx hb hts hown hK hP ffzM_26 0 rfl rfl dzM_counts_168 ?_
      refine lv_iload (pc := 171) hx hb dzM_counts_171 (lv_at hl 0 rfl) ?_
      refine xk_iald (q0 := 6) (t0 := 0) (j := 3) (pc := 173) hx hb hK hP rfl rfl (pk_in 3 6 (by decide)) (pk_cl 3) dzM_counts_173 ?_
      refine lv_if_eq (pc := 174) (tgt := 189) hx hb dzM_counts_174 (by decide) (fun h4 => ?_) (fun h4 => ?_)
      ·
        refine lv_aload_n (pc := 189) hx hb dzM_counts_189 rfl (lv_at hl 2 rfl) ?_
        refine xk_get (pc := 190) hx hb hts hown hK hP ffzM_38 0 rfl rfl dzM_counts_190 ?_
        refine lv_iload (pc := 193) hx hb dzM_counts_193 (lv_at hl 0 rfl) ?_
        refine xk_iald (q0 := 10) (t0 := 0) (j := 3) (pc := 195) hx hb hK hP rfl rfl (pk_in 3 6 (by decide)) (pk_cl 3) dzM_counts_195 ?_
        exact K2 ((g1 10) 3) (Eq.mpr (if_pos h3) (Eq.mpr (if_pos h4) rfl))
      ·
        refine lv_aload_n (pc := 177) hx hb dzM_counts_177 rfl (lv_at hl 2 rfl) ?_
        refine xk_get (pc := 178) hx hb hts hown hK hP ffzM_38 0 rfl rfl dzM_counts_178 ?_
        refine lv_iload (pc := 181) hx hb dzM_counts_181 (lv_at hl 0 rfl) ?_
        refine xk_iald (q0 := 10) (t0 := 0) (j := 3) (pc := 183) hx hb hK hP rfl rfl (pk_in 3 6 (by decide)) (pk_cl 3) dzM_counts_183 ?_
        refine lv_iconst (v := 1) (pc := 184) hx hb dzM_counts_184 (by decide) ?_
        refine lv_iadd (pc := 185) hx hb dzM_counts_185 ?_
        refine lv_goto (tgt := 196) (pc := 186) hx hb dzM_counts_186 (by decide) ?_
        exact K2 (((g1 10) 3) + 1) (Eq.mpr (if_pos h3) (Eq.mpr (if_neg h4) rfl))
  refine lv_icmp_ne (pc := 123) (tgt := 148) hx hb dzM_counts_123 (by decide) (fun h1 => ?_) (fun h1 => ?_)
  ·
    refine lv_aload_n (pc := 148) hx hb dzM_counts_148 rfl (lv_at hl 2 rfl) ?_
    refine xk_get (pc := 149) hx hb hts hown hK hP ffzM_29 0 rfl rfl dzM_counts_149 ?_
    refine lv_iload (pc := 152) hx hb dzM_counts_152 (lv_at hl 0 rfl) ?_
    refine xk_iald (q0 := 7) (t0 := 0) (j := 3) (pc := 154) hx hb hK hP rfl rfl (pk_in 3 6 (by decide)) (pk_cl 3) dzM_counts_154 ?_
    exact K1 ((g0 7) 3) (Eq.mpr (if_neg h1) rfl)
  ·
    refine lv_aload_n (pc := 126) hx hb dzM_counts_126 rfl (lv_at hl 2 rfl) ?_
    refine xk_get (pc := 127) hx hb hts hown hK hP ffzM_26 0 rfl rfl dzM_counts_127 ?_
    refine lv_iload (pc := 130) hx hb dzM_counts_130 (lv_at hl 0 rfl) ?_
    refine xk_iald (q0 := 6) (t0 := 0) (j := 3) (pc := 132) hx hb hK hP rfl rfl (pk_in 3 6 (by decide)) (pk_cl 3) dzM_counts_132 ?_
    refine lv_if_eq (pc := 133) (tgt := 148) hx hb dzM_counts_133 (by decide) (fun h2 => ?_) (fun h2 => ?_)
    ·
      refine lv_aload_n (pc := 148) hx hb dzM_counts_148 rfl (lv_at hl 2 rfl) ?_
      refine xk_get (pc := 149) hx hb hts hown hK hP ffzM_29 0 rfl rfl dzM_counts_149 ?_
      refine lv_iload (pc := 152) hx hb dzM_counts_152 (lv_at hl 0 rfl) ?_
      refine xk_iald (q0 := 7) (t0 := 0) (j := 3) (pc := 154) hx hb hK hP rfl rfl (pk_in 3 6 (by decide)) (pk_cl 3) dzM_counts_154 ?_
      exact K1 ((g0 7) 3) (Eq.mpr (if_pos h1) (Eq.mpr (if_pos h2) rfl))
    ·
      refine lv_aload_n (pc := 136) hx hb dzM_counts_136 rfl (lv_at hl 2 rfl) ?_
      refine xk_get (pc := 137) hx hb hts hown hK hP ffzM_29 0 rfl rfl dzM_counts_137 ?_
      refine lv_iload (pc := 140) hx hb dzM_counts_140 (lv_at hl 0 rfl) ?_
      refine xk_iald (q0 := 7) (t0 := 0) (j := 3) (pc := 142) hx hb hK hP rfl rfl (pk_in 3 6 (by decide)) (pk_cl 3) dzM_counts_142 ?_
      refine lv_iconst (v := 1) (pc := 143) hx hb dzM_counts_143 (by decide) ?_
      refine lv_iadd (pc := 144) hx hb dzM_counts_144 ?_
      refine lv_goto (tgt := 155) (pc := 145) hx hb dzM_counts_145 (by decide) ?_
      exact K1 (((g0 7) 3) + 1) (Eq.mpr (if_pos h1) (Eq.mpr (if_neg h2) rfl))
theorem frzM_counts_1_0 (g0 : xk_St) (k2 : Int32) (gz : xk_St) : relzM_counts_1_0 g0 k2 gz → xk_eqv [1, 2, 4, 6, 8, 9, 11, 13, 14, 15, 16, 17, 18, 19, 20, 21, 22, 23, 24] g0 gz := by
  intro h
  unfold relzM_counts_1_0 at h
  have s0 : xk_eqv [1, 2, 4, 6, 8, 9, 11, 13, 14, 15, 16, 17, 18, 19, 20, 21, 22, 23, 24] g0 g0 := xk_eqv_rf
  obtain ⟨x1, u1, v2⟩ := h
  obtain ⟨g1, u3, v4⟩ := v2
  have s5 : xk_eqv [1, 2, 4, 6, 8, 9, 11, 13, 14, 15, 16, 17, 18, 19, 20, 21, 22, 23, 24] g0 g1 := by rw [u3]; repeat (first | exact s0 | refine xk_eqv_up (by decide) ?_)
  obtain ⟨x2, u6, v7⟩ := v4
  obtain ⟨g2, u8, v9⟩ := v7
  have s10 : xk_eqv [1, 2, 4, 6, 8, 9, 11, 13, 14, 15, 16, 17, 18, 19, 20, 21, 22, 23, 24] g0 g2 := by rw [u8]; repeat (first | exact s5 | refine xk_eqv_up (by decide) ?_)
  obtain ⟨g3, u11, v12⟩ := v9
  have s13 : xk_eqv [1, 2, 4, 6, 8, 9, 11, 13, 14, 15, 16, 17, 18, 19, 20, 21, 22, 23, 24] g0 g3 := xk_eqv_tr s10 (xk_eqv_sub (frzM_change_3 _ _ _ u11) (by decide))
  obtain ⟨g5, u14, v15⟩ := v12
  have s16 : xk_eqv [1, 2, 4, 6, 8, 9, 11, 13, 14, 15, 16, 17, 18, 19, 20, 21, 22, 23, 24] g0 g5 := by
    by_cases hc : k2 = 1
    · rw [if_pos hc] at u14
      obtain ⟨g4, u17, v18⟩ := u14
      have s19 : xk_eqv [1, 2, 4, 6, 8, 9, 11, 13, 14, 15, 16, 17, 18, 19, 20, 21, 22, 23, 24] g0 g4 := by rw [u17]; repeat (first | exact s13 | refine xk_eqv_up (by decide) ?_)
      rw [v18]; exact s19
    · rw [if_neg hc] at u14
      rw [u14]; exact s13
  rw [v15]; exact s16
theorem iczM_counts_1_0 (B : Nat) (g0 : xk_St) (k2 : Int32) (gz : xk_St) : relzM_counts_1_0 g0 k2 gz → xk_cnt B g0 → xk_cnt (B + 1) gz := by
  intro h Ig0
  unfold relzM_counts_1_0 at h
  have Ig0 : xk_cnt (B + 0) g0 := Ig0
  obtain ⟨x1, u1, v2⟩ := h
  obtain ⟨g1, u3, v4⟩ := v2
  have Ig1 : xk_cnt (B + 0) g1 := by rw [u3]; repeat (first | exact Ig0 | refine xk_cnt_k (by decide) ?_ | refine xk_cnt_f (by decide) ?_ | refine xk_cnt_s ?_)
  obtain ⟨x2, u5, v6⟩ := v4
  obtain ⟨g2, u7, v8⟩ := v6
  have Ig2 : xk_cnt (B + 0) g2 := by rw [u7]; repeat (first | exact Ig1 | refine xk_cnt_k (by decide) ?_ | refine xk_cnt_f (by decide) ?_ | refine xk_cnt_s ?_)
  obtain ⟨g3, u9, v10⟩ := v8
  have Ig3 : xk_cnt (B + 1) g3 := xk_cnt_le (iczM_change_3 (B + 0) _ _ _ u9 Ig2) (by omega)
  obtain ⟨g5, u11, v12⟩ := v10
  have Ig5 : xk_cnt (B + 1) g5 := by
    by_cases hc : k2 = 1
    · rw [if_pos hc] at u11
      obtain ⟨g4, u13, v14⟩ := u11
      have Ig4 : xk_cnt (B + 1) g4 := by rw [u13]; repeat (first | exact Ig3 | refine xk_cnt_k (by decide) ?_ | refine xk_cnt_f (by decide) ?_ | refine xk_cnt_s ?_)
      rw [v14]; exact xk_cnt_le Ig4 (by omega)
    · rw [if_neg hc] at u11
      rw [u11]; exact xk_cnt_le Ig3 (by omega)
  rw [v12]; exact xk_cnt_le Ig5 (by omega)

def relzM_counts_1_1 (g0 : xk_St) (k2 : Int32) (gz : xk_St) : Prop := ∃ (x1 : Int32), (if k2 = 1 then (if ((g0 6) 3) = 0 then (x1 = (g0 8) 3) else (x1 = ((g0 8) 3) + 1)) else (x1 = (g0 8) 3)) ∧ (∃ (g1 : xk_St), g1 = va_up g0 8 (upd (g0 8) 3 x1) ∧ (∃ (x2 : Int32), (if k2 = (-1) then (if ((g1 6) 3) = 0 then (x2 = (g1 9) 3) else (x2 = ((g1 9) 3) + 1)) else (x2 = (g1 9) 3)) ∧ (∃ (g2 : xk_St), g2 = va_up g1 9 (upd (g1 9) 3 x2) ∧ (∃ (g3 : xk_St), relzM_change_3 g2 (-k2) g3 ∧ (∃ (x3 : Int32), (if k2 = 1 then (if ((g3 6) 4) = 0 then (x3 = (g3 7) 4) else (x3 = ((g3 7) 4) + 1)) else (x3 = (g3 7) 4)) ∧ (∃ (g4 : xk_St), g4 = va_up g3 7 (upd (g3 7) 4 x3) ∧ (∃ (x4 : Int32), (if k2 = (-1) then (if ((g4 6) 4) = 0 then (x4 = (g4 10) 4) else (x4 = ((g4 10) 4) + 1)) else (x4 = (g4 10) 4)) ∧ (∃ (g5 : xk_St), g5 = va_up g4 10 (upd (g4 10) 4 x4) ∧ (∃ (g6 : xk_St), relzM_change_4 g5 k2 g6 ∧ (gz = g6))))))))))
set_option maxHeartbeats 4000000 in
set_option maxRecDepth 100000 in
theorem kzM_counts_1_1 (l : Launch) (G : va_G) (ac : Nat → ClassId) (ad : Nat → Nat) (g0 : xk_St) (k2 : Int32) (B : Nat) (Ig0 : xk_cnt B g0) (hB : B + 3 < 2147483648) : xk_CV l yzM_counts czM_counts 6 xk_WS xk_r3 G xk_cls (xk_tys ac) [.ref (ad 0), .int 1, .int 1, .int k2] (xk_wM ad ac g0) (fun (gz : xk_St) => relzM_counts_1_1 g0 k2 gz) (fun gz => xk_wM ad ac gz) := by
  refine xk_ofV (by decide) (Nat.le_of_ble_eq_true rfl) ?_
  intro p e s m args below meth c A Q H locs ls C0 hret hP hD hS hl
  obtain ⟨hx, hb, hml, hts, hown, hK, hA⟩ := C0
  have hl : lv_has ls 6 [(0, .ref (ad 0)), (1, .int 1), (2, .int 1), (3, .int k2)] := hl
  have Ig0 : xk_cnt (B + 0) g0 := Ig0
  refine lv_iconst (v := 3) (pc := 0) hx hb dzM_counts_0 (by decide) ?_
  refine lv_iload_n (pc := 1) hx hb dzM_counts_1 rfl (lv_at hl 1 rfl) ?_
  refine lv_imul (pc := 2) hx hb dzM_counts_2 ?_
  refine xk_is (y := 3) (by decide) ?_
  refine lv_iload_n (pc := 3) hx hb dzM_counts_3 rfl (lv_at hl 2 rfl) ?_
  refine lv_iadd (pc := 4) hx hb dzM_counts_4 ?_
  refine xk_is (y := 4) (by decide) ?_
  refine lv_iconst (v := 1) (pc := 5) hx hb dzM_counts_5 (by decide) ?_
  refine lv_isub (pc := 6) hx hb dzM_counts_6 ?_
  refine xk_is (y := 3) (by decide) ?_
  refine lv_istore (lv' := [(4, .int 3), (0, .ref (ad 0)), (1, .int 1), (2, .int 1), (3, .int k2)]) (pc := 7) hx hb dzM_counts_7 hl (by decide) rfl (fun ls hl => ?_)
  refine lv_iconst (v := 3) (pc := 9) hx hb dzM_counts_9 (by decide) ?_
  refine lv_iload_n (pc := 10) hx hb dzM_counts_10 rfl (lv_at hl 2 rfl) ?_
  refine lv_imul (pc := 11) hx hb dzM_counts_11 ?_
  refine xk_is (y := 3) (by decide) ?_
  refine lv_iload_n (pc := 12) hx hb dzM_counts_12 rfl (lv_at hl 3 rfl) ?_
  refine lv_iadd (pc := 13) hx hb dzM_counts_13 ?_
  refine xk_is (y := 4) (by decide) ?_
  refine lv_istore (lv' := [(5, .int 4), (4, .int 3), (0, .ref (ad 0)), (1, .int 1), (2, .int 1), (3, .int k2)]) (pc := 14) hx hb dzM_counts_14 hl (by decide) rfl (fun ls hl => ?_)
  refine lv_iload_n (pc := 16) hx hb dzM_counts_16 rfl (lv_at hl 4 rfl) ?_
  refine lv_if_le (pc := 17) (tgt := 110) hx hb dzM_counts_17 (by decide) (fun hq9 => absurd hq9 (by decide)) (fun _ => ?_)
  refine lv_aload_n (pc := 20) hx hb dzM_counts_20 rfl (lv_at hl 2 rfl) ?_
  refine xk_get (pc := 21) hx hb hts hown hK hP ffzM_32 0 rfl rfl dzM_counts_21 ?_
  refine lv_iload (pc := 24) hx hb dzM_counts_24 (lv_at hl 1 rfl) ?_
  refine lv_iload_n (pc := 26) hx hb dzM_counts_26 rfl (lv_at hl 5 rfl) ?_
  refine lv_iconst (v := 1) (pc := 27) hx hb dzM_counts_27 (by decide) ?_
  have K1 : ∀ (x1 : Int32), (if k2 = 1 then (if ((g0 6) 3) = 0 then (x1 = (g0 8) 3) else (x1 = ((g0 8) 3) + 1)) else (x1 = (g0 8) 3)) → W p l e xk_r3 s m args below meth c H locs 0 0 Q (F0 m 60 ls [.int x1, .int 3, .ref (ad 8)]) := by
    intro x1 R1
    refine xk_iast (q0 := 8) (t0 := 0) (j := 3) (pc := 60) hx hb hK hP hD hS rfl rfl (pk_in 3 6 (by decide)) (pk_cl 3) dzM_counts_60 (fun H locs hP hD hS => ?_)
    obtain ⟨g1, eg1⟩ : ∃ z : xk_St, z = va_up g0 8 (upd (g0 8) 3 x1) := ⟨_, rfl⟩
    have hP : va_P G xk_cls (xk_wM ad ac g1) H := by rw [eg1]; exact hP
    have hD : va_D A (xk_wM ad ac g1) := by rw [eg1]; exact hD
    have Ig1 : xk_cnt (B + 0) g1 := by rw [eg1]; repeat (first | exact Ig0 | refine xk_cnt_k (by decide) ?_ | refine xk_cnt_f (by decide) ?_ | refine xk_cnt_s ?_)
    refine lv_aload_n (pc := 61) hx hb dzM_counts_61 rfl (lv_at hl 2 rfl) ?_
    refine xk_get (pc := 62) hx hb hts hown hK hP ffzM_35 0 rfl rfl dzM_counts_62 ?_
    refine lv_iload (pc := 65) hx hb dzM_counts_65 (lv_at hl 1 rfl) ?_
    refine lv_iload_n (pc := 67) hx hb dzM_counts_67 rfl (lv_at hl 5 rfl) ?_
    refine lv_iconst (v := (-1)) (pc := 68) hx hb dzM_counts_68 (by decide) ?_
    have K2 : ∀ (x2 : Int32), (if k2 = (-1) then (if ((g1 6) 3) = 0 then (x2 = (g1 9) 3) else (x2 = ((g1 9) 3) + 1)) else (x2 = (g1 9) 3)) → W p l e xk_r3 s m args below meth c H locs 0 0 Q (F0 m 101 ls [.int x2, .int 3, .ref (ad 9)]) := by
      intro x2 R2
      refine xk_iast (q0 := 9) (t0 := 0) (j := 3) (pc := 101) hx hb hK hP hD hS rfl rfl (pk_in 3 6 (by decide)) (pk_cl 3) dzM_counts_101 (fun H locs hP hD hS => ?_)
      obtain ⟨g2, eg2⟩ : ∃ z : xk_St, z = va_up g1 9 (upd (g1 9) 3 x2) := ⟨_, rfl⟩
      have hP : va_P G xk_cls (xk_wM ad ac g2) H := by rw [eg2]; exact hP
      have hD : va_D A (xk_wM ad ac g2) := by rw [eg2]; exact hD
      have Ig2 : xk_cnt (B + 0) g2 := by rw [eg2]; repeat (first | exact Ig1 | refine xk_cnt_k (by decide) ?_ | refine xk_cnt_f (by decide) ?_ | refine xk_cnt_s ?_)
      refine lv_aload_n (pc := 102) hx hb dzM_counts_102 rfl (lv_at hl 2 rfl) ?_
      refine lv_iload (pc := 103) hx hb dzM_counts_103 (lv_at hl 1 rfl) ?_
      refine lv_iload_n (pc := 105) hx hb dzM_counts_105 rfl (lv_at hl 5 rfl) ?_
      refine lv_ineg (pc := 106) hx hb dzM_counts_106 ?_
      refine xk_allVV (As := [.int 3, .int (-k2)]) (rest := []) (H0 := s.heap) (pc := 107) hx hb hml hts hown hK hA hP hD hS (kzM_change_3 l G ac ad g2 (-k2) (B + 0) Ig2 (by omega)) vfzM_138 (fun _ => rfl) 0 rfl rfl ⟨rfl, rfl⟩ ⟨Nat.le_of_ble_eq_true rfl, Nat.le_of_ble_eq_true rfl⟩ rfl hl.1 rfl (Nat.le_of_ble_eq_true rfl) ⟨Nat.zero_le _, Nat.zero_le _⟩ dzM_counts_107 (fun g3 H locs hg3 hP hD hS => ?_)
      have hP : va_P G xk_cls (xk_wM ad ac g3) H := hP
      have hD : va_D A (xk_wM ad ac g3) := hD
      have Ig3 : xk_cnt (B + 1) g3 := xk_cnt_le (iczM_change_3 (B + 0) _ _ _ hg3 Ig2) (by omega)
      refine lv_iload_n (pc := 110) hx hb dzM_counts_110 rfl (lv_at hl 4 rfl) ?_
      refine lv_iconst (v := 3) (pc := 111) hx hb dzM_counts_111 (by decide) ?_
      refine lv_icmp_ge (pc := 112) (tgt := 204) hx hb dzM_counts_112 (by decide) (fun hq9 => absurd hq9 (by decide)) (fun _ => ?_)
      refine lv_aload_n (pc := 115) hx hb dzM_counts_115 rfl (lv_at hl 2 rfl) ?_
      refine xk_get (pc := 116) hx hb hts hown hK hP ffzM_29 0 rfl rfl dzM_counts_116 ?_
      refine lv_iload (pc := 119) hx hb dzM_counts_119 (lv_at hl 0 rfl) ?_
      refine lv_iload_n (pc := 121) hx hb dzM_counts_121 rfl (lv_at hl 5 rfl) ?_
      refine lv_iconst (v := 1) (pc := 122) hx hb dzM_counts_122 (by decide) ?_
      have K3 : ∀ (x3 : Int32), (if k2 = 1 then (if ((g3 6) 4) = 0 then (x3 = (g3 7) 4) else (x3 = ((g3 7) 4) + 1)) else (x3 = (g3 7) 4)) → W p l e xk_r3 s m args below meth c H locs 0 0 Q (F0 m 155 ls [.int x3, .int 4, .ref (ad 7)]) := by
        intro x3 R3
        refine xk_iast (q0 := 7) (t0 := 0) (j := 4) (pc := 155) hx hb hK hP hD hS rfl rfl (pk_in 4 6 (by decide)) (pk_cl 4) dzM_counts_155 (fun H locs hP hD hS => ?_)
        obtain ⟨g4, eg4⟩ : ∃ z : xk_St, z = va_up g3 7 (upd (g3 7) 4 x3) := ⟨_, rfl⟩
        have hP : va_P G xk_cls (xk_wM ad ac g4) H := by rw [eg4]; exact hP
        have hD : va_D A (xk_wM ad ac g4) := by rw [eg4]; exact hD
        have Ig4 : xk_cnt (B + 1) g4 := by rw [eg4]; repeat (first | exact Ig3 | refine xk_cnt_k (by decide) ?_ | refine xk_cnt_f (by decide) ?_ | refine xk_cnt_s ?_)
        refine lv_aload_n (pc := 156) hx hb dzM_counts_156 rfl (lv_at hl 2 rfl) ?_
        refine xk_get (pc := 157) hx hb hts hown hK hP ffzM_38 0 rfl rfl dzM_counts_157 ?_
        refine lv_iload (pc := 160) hx hb dzM_counts_160 (lv_at hl 0 rfl) ?_
        refine lv_iload_n (pc := 162) hx hb dzM_counts_162 rfl (lv_at hl 5 rfl) ?_
        refine lv_iconst (v := (-1)) (pc := 163) hx hb dzM_counts_163 (by decide) ?_
        have K4 : ∀ (x4 : Int32), (if k2 = (-1) then (if ((g4 6) 4) = 0 then (x4 = (g4 10) 4) else (x4 = ((g4 10) 4) + 1)) else (x4 = (g4 10) 4)) → W p l e xk_r3 s m args below meth c H locs 0 0 Q (F0 m 196 ls [.int x4, .int 4, .ref (ad 10)]) := by
          intro x4 R4
          refine xk_iast (q0 := 10) (t0 := 0) (j := 4) (pc := 196) hx hb hK hP hD hS rfl rfl (pk_in 4 6 (by decide)) (pk_cl 4) dzM_counts_196 (fun H locs hP hD hS => ?_)
          obtain ⟨g5, eg5⟩ : ∃ z : xk_St, z = va_up g4 10 (upd (g4 10) 4 x4) := ⟨_, rfl⟩
          have hP : va_P G xk_cls (xk_wM ad ac g5) H := by rw [eg5]; exact hP
          have hD : va_D A (xk_wM ad ac g5) := by rw [eg5]; exact hD
          have Ig5 : xk_cnt (B + 1) g5 := by rw [eg5]; repeat (first | exact Ig4 | refine xk_cnt_k (by decide) ?_ | refine xk_cnt_f (by decide) ?_ | refine xk_cnt_s ?_)
          refine lv_aload_n (pc := 197) hx hb dzM_counts_197 rfl (lv_at hl 2 rfl) ?_
          refine lv_iload (pc := 198) hx hb dzM_counts_198 (lv_at hl 0 rfl) ?_
          refine lv_iload_n (pc := 200) hx hb dzM_counts_200 rfl (lv_at hl 5 rfl) ?_
          refine xk_allVV (As := [.int 4, .int k2]) (rest := []) (H0 := s.heap) (pc := 201) hx hb hml hts hown hK hA hP hD hS (kzM_change_4 l G ac ad g5 k2 (B + 1) Ig5 (by omega)) vfzM_138 (fun _ => rfl) 0 rfl rfl ⟨rfl, rfl⟩ ⟨Nat.le_of_ble_eq_true rfl, Nat.le_of_ble_eq_true rfl⟩ rfl hl.1 rfl (Nat.le_of_ble_eq_true rfl) ⟨Nat.zero_le _, Nat.zero_le _⟩ dzM_counts_201 (fun g6 H locs hg6 hP hD hS => ?_)
          have hP : va_P G xk_cls (xk_wM ad ac g6) H := hP
          have hD : va_D A (xk_wM ad ac g6) := hD
          have Ig6 : xk_cnt (B + 2) g6 := xk_cnt_le (iczM_change_4 (B + 1) _ _ _ hg6 Ig5) (by omega)
          refine lv_iload_n (pc := 204) hx hb dzM_counts_204 rfl (lv_at hl 4 rfl) ?_
          refine lv_if_ne (pc := 205) (tgt := 222) hx hb dzM_counts_205 (by decide) (fun _ => ?_) (fun hq9 => absurd hq9 (by decide))
          refine lv_iload_n (pc := 222) hx hb dzM_counts_222 rfl (lv_at hl 4 rfl) ?_
          refine lv_iconst (v := 3) (pc := 223) hx hb dzM_counts_223 (by decide) ?_
          refine lv_icmp_ne (pc := 224) (tgt := 243) hx hb dzM_counts_224 (by decide) (fun _ => ?_) (fun hq9 => absurd hq9 (by decide))
          exact hret g6 H locs 243 ls hP hS (by unfold relzM_counts_1_1; exact ⟨x1, R1, ⟨g1, eg1, ⟨x2, R2, ⟨g2, eg2, ⟨g3, hg3, ⟨x3, R3, ⟨g4, eg4, ⟨x4, R4, ⟨g5, eg5, ⟨g6, hg6, rfl⟩⟩⟩⟩⟩⟩⟩⟩⟩⟩) dzM_counts_243
        refine lv_icmp_ne (pc := 164) (tgt := 189) hx hb dzM_counts_164 (by decide) (fun h7 => ?_) (fun h7 => ?_)
        ·
          refine lv_aload_n (pc := 189) hx hb dzM_counts_189 rfl (lv_at hl 2 rfl) ?_
          refine xk_get (pc := 190) hx hb hts hown hK hP ffzM_38 0 rfl rfl dzM_counts_190 ?_
          refine lv_iload (pc := 193) hx hb dzM_counts_193 (lv_at hl 0 rfl) ?_
          refine xk_iald (q0 := 10) (t0 := 0) (j := 4) (pc := 195) hx hb hK hP rfl rfl (pk_in 4 6 (by decide)) (pk_cl 4) dzM_counts_195 ?_
          exact K4 ((g4 10) 4) (Eq.mpr (if_neg h7) rfl)
        ·
          refine lv_aload_n (pc := 167) hx hb dzM_counts_167 rfl (lv_at hl 2 rfl) ?_
          refine xk_get (pc := 168) hx hb hts hown hK hP ffzM_26 0 rfl rfl dzM_counts_168 ?_
          refine lv_iload (pc := 171) hx hb dzM_counts_171 (lv_at hl 0 rfl) ?_
          refine xk_iald (q0 := 6) (t0 := 0) (j := 4) (pc := 173) hx hb hK hP rfl rfl (pk_in 4 6 (by decide)) (pk_cl 4) dzM_counts_173 ?_
          refine lv_if_eq (pc := 174) (tgt := 189) hx hb dzM_counts_174 (by decide) (fun h8 => ?_) (fun h8 => ?_)
          ·
            refine lv_aload_n (pc := 189) hx hb dzM_counts_189 rfl (lv_at hl 2 rfl) ?_
            refine xk_get (pc := 190) hx hb hts hown hK hP ffzM_38 0 rfl rfl dzM_counts_190 ?_
            refine lv_iload (pc := 193) hx hb dzM_counts_193 (lv_at hl 0 rfl) ?_
            refine xk_iald (q0 := 10) (t0 := 0) (j := 4) (pc := 195) hx hb hK hP rfl rfl (pk_in 4 6 (by decide)) (pk_cl 4) dzM_counts_195 ?_
            exact K4 ((g4 10) 4) (Eq.mpr (if_pos h7) (Eq.mpr (if_pos h8) rfl))
          ·
            refine lv_aload_n (pc := 177) hx hb dzM_counts_177 rfl (lv_at hl 2 rfl) ?_
            refine xk_get (pc := 178) hx hb hts hown hK hP ffzM_38 0 rfl rfl dzM_counts_178 ?_
            refine lv_iload (pc := 181) hx hb dzM_counts_181 (lv_at hl 0 rfl) ?_
            refine xk_iald (q0 := 10) (t0 := 0) (j := 4) (pc := 183) hx hb hK hP rfl rfl (pk_in 4 6 (by decide)) (pk_cl 4) dzM_counts_183 ?_
            refine lv_iconst (v := 1) (pc := 184) hx hb dzM_counts_184 (by decide) ?_
            refine lv_iadd (pc := 185) hx hb dzM_counts_185 ?_
            refine lv_goto (tgt := 196) (pc := 186) hx hb dzM_counts_186 (by decide) ?_
            exact K4 (((g4 10) 4) + 1) (Eq.mpr (if_pos h7) (Eq.mpr (if_neg h8) rfl))
      refine lv_icmp_ne (pc := 123) (tgt := 148) hx hb dzM_counts_123 (by decide) (fun h5 => ?_) (fun h5 => ?_)
      ·
        refine lv_aload_n (pc := 148) hx hb dzM_counts_148 rfl (lv_at hl 2 rfl) ?_
        refine xk_get (pc := 149) hx hb hts hown hK hP ffzM_29 0 rfl rfl dzM_counts_149 ?_
        refine lv_iload (pc := 152) hx hb dzM_counts_152 (lv_at hl 0 rfl) ?_
        refine xk_iald (q0 := 7) (t0 := 0) (j := 4) (pc := 154) hx hb hK hP rfl rfl (pk_in 4 6 (by decide)) (pk_cl 4) dzM_counts_154 ?_
        exact K3 ((g3 7) 4) (Eq.mpr (if_neg h5) rfl)
      ·
        refine lv_aload_n (pc := 126) hx hb dzM_counts_126 rfl (lv_at hl 2 rfl) ?_
        refine xk_get (pc := 127) hx hb hts hown hK hP ffzM_26 0 rfl rfl dzM_counts_127 ?_
        refine lv_iload (pc := 130) hx hb dzM_counts_130 (lv_at hl 0 rfl) ?_
        refine xk_iald (q0 := 6) (t0 := 0) (j := 4) (pc := 132) hx hb hK hP rfl rfl (pk_in 4 6 (by decide)) (pk_cl 4) dzM_counts_132 ?_
        refine lv_if_eq (pc := 133) (tgt := 148) hx hb dzM_counts_133 (by decide) (fun h6 => ?_) (fun h6 => ?_)
        ·
          refine lv_aload_n (pc := 148) hx hb dzM_counts_148 rfl (lv_at hl 2 rfl) ?_
          refine xk_get (pc := 149) hx hb hts hown hK hP ffzM_29 0 rfl rfl dzM_counts_149 ?_
          refine lv_iload (pc := 152) hx hb dzM_counts_152 (lv_at hl 0 rfl) ?_
          refine xk_iald (q0 := 7) (t0 := 0) (j := 4) (pc := 154) hx hb hK hP rfl rfl (pk_in 4 6 (by decide)) (pk_cl 4) dzM_counts_154 ?_
          exact K3 ((g3 7) 4) (Eq.mpr (if_pos h5) (Eq.mpr (if_pos h6) rfl))
        ·
          refine lv_aload_n (pc := 136) hx hb dzM_counts_136 rfl (lv_at hl 2 rfl) ?_
          refine xk_get (pc := 137) hx hb hts hown hK hP ffzM_29 0 rfl rfl dzM_counts_137 ?_
          refine lv_iload (pc := 140) hx hb dzM_counts_140 (lv_at hl 0 rfl) ?_
          refine xk_iald (q0 := 7) (t0 := 0) (j := 4) (pc := 142) hx hb hK hP rfl rfl (pk_in 4 6 (by decide)) (pk_cl 4) dzM_counts_142 ?_
          refine lv_iconst (v := 1) (pc := 143) hx hb dzM_counts_143 (by decide) ?_
          refine lv_iadd (pc := 144) hx hb dzM_counts_144 ?_
          refine lv_goto (tgt := 155) (pc := 145) hx hb dzM_counts_145 (by decide) ?_
          exact K3 (((g3 7) 4) + 1) (Eq.mpr (if_pos h5) (Eq.mpr (if_neg h6) rfl))
    refine lv_icmp_ne (pc := 69) (tgt := 94) hx hb dzM_counts_69 (by decide) (fun h3 => ?_) (fun h3 => ?_)
    ·
      refine lv_aload_n (pc := 94) hx hb dzM_counts_94 rfl (lv_at hl 2 rfl) ?_
      refine xk_get (pc := 95) hx hb hts hown hK hP ffzM_35 0 rfl rfl dzM_counts_95 ?_
      refine lv_iload (pc := 98) hx hb dzM_counts_98 (lv_at hl 1 rfl) ?_
      refine xk_iald (q0 := 9) (t0 := 0) (j := 3) (pc := 100) hx hb hK hP rfl rfl (pk_in 3 6 (by decide)) (pk_cl 3) dzM_counts_100 ?_
      exact K2 ((g1 9) 3) (Eq.mpr (if_neg h3) rfl)
    ·
      refine lv_aload_n (pc := 72) hx hb dzM_counts_72 rfl (lv_at hl 2 rfl) ?_
      refine xk_get (pc := 73) hx hb hts hown hK hP ffzM_26 0 rfl rfl dzM_counts_73 ?_
      refine lv_iload (pc := 76) hx hb dzM_counts_76 (lv_at hl 1 rfl) ?_
      refine xk_iald (q0 := 6) (t0 := 0) (j := 3) (pc := 78) hx hb hK hP rfl rfl (pk_in 3 6 (by decide)) (pk_cl 3) dzM_counts_78 ?_
      refine lv_if_eq (pc := 79) (tgt := 94) hx hb dzM_counts_79 (by decide) (fun h4 => ?_) (fun h4 => ?_)
      ·
        refine lv_aload_n (pc := 94) hx hb dzM_counts_94 rfl (lv_at hl 2 rfl) ?_
        refine xk_get (pc := 95) hx hb hts hown hK hP ffzM_35 0 rfl rfl dzM_counts_95 ?_
        refine lv_iload (pc := 98) hx hb dzM_counts_98 (lv_at hl 1 rfl) ?_
        refine xk_iald (q0 := 9) (t0 := 0) (j := 3) (pc := 100) hx hb hK hP rfl rfl (pk_in 3 6 (by decide)) (pk_cl 3) dzM_counts_100 ?_
        exact K2 ((g1 9) 3) (Eq.mpr (if_pos h3) (Eq.mpr (if_pos h4) rfl))
      ·
        refine lv_aload_n (pc := 82) hx hb dzM_counts_82 rfl (lv_at hl 2 rfl) ?_
        refine xk_get (pc := 83) hx hb hts hown hK hP ffzM_35 0 rfl rfl dzM_counts_83 ?_
        refine lv_iload (pc := 86) hx hb dzM_counts_86 (lv_at hl 1 rfl) ?_
        refine xk_iald (q0 := 9) (t0 := 0) (j := 3) (pc := 88) hx hb hK hP rfl rfl (pk_in 3 6 (by decide)) (pk_cl 3) dzM_counts_88 ?_
        refine lv_iconst (v := 1) (pc := 89) hx hb dzM_counts_89 (by decide) ?_
        refine lv_iadd (pc := 90) hx hb dzM_counts_90 ?_
        refine lv_goto (tgt := 101) (pc := 91) hx hb dzM_counts_91 (by decide) ?_
        exact K2 (((g1 9) 3) + 1) (Eq.mpr (if_pos h3) (Eq.mpr (if_neg h4) rfl))
  refine lv_icmp_ne (pc := 28) (tgt := 53) hx hb dzM_counts_28 (by decide) (fun h1 => ?_) (fun h1 => ?_)
  ·
    refine lv_aload_n (pc := 53) hx hb dzM_counts_53 rfl (lv_at hl 2 rfl) ?_
    refine xk_get (pc := 54) hx hb hts hown hK hP ffzM_32 0 rfl rfl dzM_counts_54 ?_
    refine lv_iload (pc := 57) hx hb dzM_counts_57 (lv_at hl 1 rfl) ?_
    refine xk_iald (q0 := 8) (t0 := 0) (j := 3) (pc := 59) hx hb hK hP rfl rfl (pk_in 3 6 (by decide)) (pk_cl 3) dzM_counts_59 ?_
    exact K1 ((g0 8) 3) (Eq.mpr (if_neg h1) rfl)
  ·
    refine lv_aload_n (pc := 31) hx hb dzM_counts_31 rfl (lv_at hl 2 rfl) ?_
    refine xk_get (pc := 32) hx hb hts hown hK hP ffzM_26 0 rfl rfl dzM_counts_32 ?_
    refine lv_iload (pc := 35) hx hb dzM_counts_35 (lv_at hl 1 rfl) ?_
    refine xk_iald (q0 := 6) (t0 := 0) (j := 3) (pc := 37) hx hb hK hP rfl rfl (pk_in 3 6 (by decide)) (pk_cl 3) dzM_counts_37 ?_
    refine lv_if_eq (pc := 38) (tgt := 53) hx hb dzM_counts_38 (by decide) (fun h2 => ?_) (fun h2 => ?_)
    ·
      refine lv_aload_n (pc := 53) hx hb dzM_counts_53 rfl (lv_at hl 2 rfl) ?_
      refine xk_get (pc := 54) hx hb hts hown hK hP ffzM_32 0 rfl rfl dzM_counts_54 ?_
      refine lv_iload (pc := 57) hx hb dzM_counts_57 (lv_at hl 1 rfl) ?_
      refine xk_iald (q0 := 8) (t0 := 0) (j := 3) (pc := 59) hx hb hK hP rfl rfl (pk_in 3 6 (by decide)) (pk_cl 3) dzM_counts_59 ?_
      exact K1 ((g0 8) 3) (Eq.mpr (if_pos h1) (Eq.mpr (if_pos h2) rfl))
    ·
      refine lv_aload_n (pc := 41) hx hb dzM_counts_41 rfl (lv_at hl 2 rfl) ?_
      refine xk_get (pc := 42) hx hb hts hown hK hP ffzM_32 0 rfl rfl dzM_counts_42 ?_
      refine lv_iload (pc := 45) hx hb dzM_counts_45 (lv_at hl 1 rfl) ?_
      refine xk_iald (q0 := 8) (t0 := 0) (j := 3) (pc := 47) hx hb hK hP rfl rfl (pk_in 3 6 (by decide)) (pk_cl 3) dzM_counts_47 ?_
      refine lv_iconst (v := 1) (pc := 48) hx hb dzM_counts_48 (by decide) ?_
      refine lv_iadd (pc := 49) hx hb dzM_counts_49 ?_
      refine lv_goto (tgt := 60) (pc := 50) hx hb dzM_counts_50 (by decide) ?_
      exact K1 (((g0 8) 3) + 1) (Eq.mpr (if_pos h1) (Eq.mpr (if_neg h2) rfl))
theorem frzM_counts_1_1 (g0 : xk_St) (k2 : Int32) (gz : xk_St) : relzM_counts_1_1 g0 k2 gz → xk_eqv [1, 2, 4, 6, 11, 12, 13, 14, 15, 16, 17, 18, 19, 20, 21, 22, 23, 24] g0 gz := by
  intro h
  unfold relzM_counts_1_1 at h
  have s0 : xk_eqv [1, 2, 4, 6, 11, 12, 13, 14, 15, 16, 17, 18, 19, 20, 21, 22, 23, 24] g0 g0 := xk_eqv_rf
  obtain ⟨x1, u1, v2⟩ := h
  obtain ⟨g1, u3, v4⟩ := v2
  have s5 : xk_eqv [1, 2, 4, 6, 11, 12, 13, 14, 15, 16, 17, 18, 19, 20, 21, 22, 23, 24] g0 g1 := by rw [u3]; repeat (first | exact s0 | refine xk_eqv_up (by decide) ?_)
  obtain ⟨x2, u6, v7⟩ := v4
  obtain ⟨g2, u8, v9⟩ := v7
  have s10 : xk_eqv [1, 2, 4, 6, 11, 12, 13, 14, 15, 16, 17, 18, 19, 20, 21, 22, 23, 24] g0 g2 := by rw [u8]; repeat (first | exact s5 | refine xk_eqv_up (by decide) ?_)
  obtain ⟨g3, u11, v12⟩ := v9
  have s13 : xk_eqv [1, 2, 4, 6, 11, 12, 13, 14, 15, 16, 17, 18, 19, 20, 21, 22, 23, 24] g0 g3 := xk_eqv_tr s10 (xk_eqv_sub (frzM_change_3 _ _ _ u11) (by decide))
  obtain ⟨x3, u14, v15⟩ := v12
  obtain ⟨g4, u16, v17⟩ := v15
  have s18 : xk_eqv [1, 2, 4, 6, 11, 12, 13, 14, 15, 16, 17, 18, 19, 20, 21, 22, 23, 24] g0 g4 := by rw [u16]; repeat (first | exact s13 | refine xk_eqv_up (by decide) ?_)
  obtain ⟨x4, u19, v20⟩ := v17
  obtain ⟨g5, u21, v22⟩ := v20
  have s23 : xk_eqv [1, 2, 4, 6, 11, 12, 13, 14, 15, 16, 17, 18, 19, 20, 21, 22, 23, 24] g0 g5 := by rw [u21]; repeat (first | exact s18 | refine xk_eqv_up (by decide) ?_)
  obtain ⟨g6, u24, v25⟩ := v22
  have s26 : xk_eqv [1, 2, 4, 6, 11, 12, 13, 14, 15, 16, 17, 18, 19, 20, 21, 22, 23, 24] g0 g6 := xk_eqv_tr s23 (xk_eqv_sub (frzM_change_4 _ _ _ u24) (by decide))
  rw [v25]; exact s26
theorem iczM_counts_1_1 (B : Nat) (g0 : xk_St) (k2 : Int32) (gz : xk_St) : relzM_counts_1_1 g0 k2 gz → xk_cnt B g0 → xk_cnt (B + 2) gz := by
  intro h Ig0
  unfold relzM_counts_1_1 at h
  have Ig0 : xk_cnt (B + 0) g0 := Ig0
  obtain ⟨x1, u1, v2⟩ := h
  obtain ⟨g1, u3, v4⟩ := v2
  have Ig1 : xk_cnt (B + 0) g1 := by rw [u3]; repeat (first | exact Ig0 | refine xk_cnt_k (by decide) ?_ | refine xk_cnt_f (by decide) ?_ | refine xk_cnt_s ?_)
  obtain ⟨x2, u5, v6⟩ := v4
  obtain ⟨g2, u7, v8⟩ := v6
  have Ig2 : xk_cnt (B + 0) g2 := by rw [u7]; repeat (first | exact Ig1 | refine xk_cnt_k (by decide) ?_ | refine xk_cnt_f (by decide) ?_ | refine xk_cnt_s ?_)
  obtain ⟨g3, u9, v10⟩ := v8
  have Ig3 : xk_cnt (B + 1) g3 := xk_cnt_le (iczM_change_3 (B + 0) _ _ _ u9 Ig2) (by omega)
  obtain ⟨x3, u11, v12⟩ := v10
  obtain ⟨g4, u13, v14⟩ := v12
  have Ig4 : xk_cnt (B + 1) g4 := by rw [u13]; repeat (first | exact Ig3 | refine xk_cnt_k (by decide) ?_ | refine xk_cnt_f (by decide) ?_ | refine xk_cnt_s ?_)
  obtain ⟨x4, u15, v16⟩ := v14
  obtain ⟨g5, u17, v18⟩ := v16
  have Ig5 : xk_cnt (B + 1) g5 := by rw [u17]; repeat (first | exact Ig4 | refine xk_cnt_k (by decide) ?_ | refine xk_cnt_f (by decide) ?_ | refine xk_cnt_s ?_)
  obtain ⟨g6, u19, v20⟩ := v18
  have Ig6 : xk_cnt (B + 2) g6 := xk_cnt_le (iczM_change_4 (B + 1) _ _ _ u19 Ig5) (by omega)
  rw [v20]; exact xk_cnt_le Ig6 (by omega)

def relzM_counts_1_2 (g0 : xk_St) (k2 : Int32) (gz : xk_St) : Prop := ∃ (x1 : Int32), (if k2 = 1 then (if ((g0 6) 4) = 0 then (x1 = (g0 8) 4) else (x1 = ((g0 8) 4) + 1)) else (x1 = (g0 8) 4)) ∧ (∃ (g1 : xk_St), g1 = va_up g0 8 (upd (g0 8) 4 x1) ∧ (∃ (x2 : Int32), (if k2 = (-1) then (if ((g1 6) 4) = 0 then (x2 = (g1 9) 4) else (x2 = ((g1 9) 4) + 1)) else (x2 = (g1 9) 4)) ∧ (∃ (g2 : xk_St), g2 = va_up g1 9 (upd (g1 9) 4 x2) ∧ (∃ (g3 : xk_St), relzM_change_4 g2 (-k2) g3 ∧ (∃ (x3 : Int32), (if k2 = 1 then (if ((g3 6) 5) = 0 then (x3 = (g3 7) 5) else (x3 = ((g3 7) 5) + 1)) else (x3 = (g3 7) 5)) ∧ (∃ (g4 : xk_St), g4 = va_up g3 7 (upd (g3 7) 5 x3) ∧ (∃ (x4 : Int32), (if k2 = (-1) then (if ((g4 6) 5) = 0 then (x4 = (g4 10) 5) else (x4 = ((g4 10) 5) + 1)) else (x4 = (g4 10) 5)) ∧ (∃ (g5 : xk_St), g5 = va_up g4 10 (upd (g4 10) 5 x4) ∧ (∃ (g6 : xk_St), relzM_change_5 g5 k2 g6 ∧ (gz = g6))))))))))
set_option maxHeartbeats 4000000 in
set_option maxRecDepth 100000 in
theorem kzM_counts_1_2 (l : Launch) (G : va_G) (ac : Nat → ClassId) (ad : Nat → Nat) (g0 : xk_St) (k2 : Int32) (B : Nat) (Ig0 : xk_cnt B g0) (hB : B + 3 < 2147483648) : xk_CV l yzM_counts czM_counts 6 xk_WS xk_r3 G xk_cls (xk_tys ac) [.ref (ad 0), .int 1, .int 2, .int k2] (xk_wM ad ac g0) (fun (gz : xk_St) => relzM_counts_1_2 g0 k2 gz) (fun gz => xk_wM ad ac gz) := by
  refine xk_ofV (by decide) (Nat.le_of_ble_eq_true rfl) ?_
  intro p e s m args below meth c A Q H locs ls C0 hret hP hD hS hl
  obtain ⟨hx, hb, hml, hts, hown, hK, hA⟩ := C0
  have hl : lv_has ls 6 [(0, .ref (ad 0)), (1, .int 1), (2, .int 2), (3, .int k2)] := hl
  have Ig0 : xk_cnt (B + 0) g0 := Ig0
  refine lv_iconst (v := 3) (pc := 0) hx hb dzM_counts_0 (by decide) ?_
  refine lv_iload_n (pc := 1) hx hb dzM_counts_1 rfl (lv_at hl 1 rfl) ?_
  refine lv_imul (pc := 2) hx hb dzM_counts_2 ?_
  refine xk_is (y := 3) (by decide) ?_
  refine lv_iload_n (pc := 3) hx hb dzM_counts_3 rfl (lv_at hl 2 rfl) ?_
  refine lv_iadd (pc := 4) hx hb dzM_counts_4 ?_
  refine xk_is (y := 5) (by decide) ?_
  refine lv_iconst (v := 1) (pc := 5) hx hb dzM_counts_5 (by decide) ?_
  refine lv_isub (pc := 6) hx hb dzM_counts_6 ?_
  refine xk_is (y := 4) (by decide) ?_
  refine lv_istore (lv' := [(4, .int 4), (0, .ref (ad 0)), (1, .int 1), (2, .int 2), (3, .int k2)]) (pc := 7) hx hb dzM_counts_7 hl (by decide) rfl (fun ls hl => ?_)
  refine lv_iconst (v := 3) (pc := 9) hx hb dzM_counts_9 (by decide) ?_
  refine lv_iload_n (pc := 10) hx hb dzM_counts_10 rfl (lv_at hl 2 rfl) ?_
  refine lv_imul (pc := 11) hx hb dzM_counts_11 ?_
  refine xk_is (y := 3) (by decide) ?_
  refine lv_iload_n (pc := 12) hx hb dzM_counts_12 rfl (lv_at hl 3 rfl) ?_
  refine lv_iadd (pc := 13) hx hb dzM_counts_13 ?_
  refine xk_is (y := 5) (by decide) ?_
  refine lv_istore (lv' := [(5, .int 5), (4, .int 4), (0, .ref (ad 0)), (1, .int 1), (2, .int 2), (3, .int k2)]) (pc := 14) hx hb dzM_counts_14 hl (by decide) rfl (fun ls hl => ?_)
  refine lv_iload_n (pc := 16) hx hb dzM_counts_16 rfl (lv_at hl 4 rfl) ?_
  refine lv_if_le (pc := 17) (tgt := 110) hx hb dzM_counts_17 (by decide) (fun hq9 => absurd hq9 (by decide)) (fun _ => ?_)
  refine lv_aload_n (pc := 20) hx hb dzM_counts_20 rfl (lv_at hl 2 rfl) ?_
  refine xk_get (pc := 21) hx hb hts hown hK hP ffzM_32 0 rfl rfl dzM_counts_21 ?_
  refine lv_iload (pc := 24) hx hb dzM_counts_24 (lv_at hl 1 rfl) ?_
  refine lv_iload_n (pc := 26) hx hb dzM_counts_26 rfl (lv_at hl 5 rfl) ?_
  refine lv_iconst (v := 1) (pc := 27) hx hb dzM_counts_27 (by decide) ?_
  have K1 : ∀ (x1 : Int32), (if k2 = 1 then (if ((g0 6) 4) = 0 then (x1 = (g0 8) 4) else (x1 = ((g0 8) 4) + 1)) else (x1 = (g0 8) 4)) → W p l e xk_r3 s m args below meth c H locs 0 0 Q (F0 m 60 ls [.int x1, .int 4, .ref (ad 8)]) := by
    intro x1 R1
    refine xk_iast (q0 := 8) (t0 := 0) (j := 4) (pc := 60) hx hb hK hP hD hS rfl rfl (pk_in 4 6 (by decide)) (pk_cl 4) dzM_counts_60 (fun H locs hP hD hS => ?_)
    obtain ⟨g1, eg1⟩ : ∃ z : xk_St, z = va_up g0 8 (upd (g0 8) 4 x1) := ⟨_, rfl⟩
    have hP : va_P G xk_cls (xk_wM ad ac g1) H := by rw [eg1]; exact hP
    have hD : va_D A (xk_wM ad ac g1) := by rw [eg1]; exact hD
    have Ig1 : xk_cnt (B + 0) g1 := by rw [eg1]; repeat (first | exact Ig0 | refine xk_cnt_k (by decide) ?_ | refine xk_cnt_f (by decide) ?_ | refine xk_cnt_s ?_)
    refine lv_aload_n (pc := 61) hx hb dzM_counts_61 rfl (lv_at hl 2 rfl) ?_
    refine xk_get (pc := 62) hx hb hts hown hK hP ffzM_35 0 rfl rfl dzM_counts_62 ?_
    refine lv_iload (pc := 65) hx hb dzM_counts_65 (lv_at hl 1 rfl) ?_
    refine lv_iload_n (pc := 67) hx hb dzM_counts_67 rfl (lv_at hl 5 rfl) ?_
    refine lv_iconst (v := (-1)) (pc := 68) hx hb dzM_counts_68 (by decide) ?_
    have K2 : ∀ (x2 : Int32), (if k2 = (-1) then (if ((g1 6) 4) = 0 then (x2 = (g1 9) 4) else (x2 = ((g1 9) 4) + 1)) else (x2 = (g1 9) 4)) → W p l e xk_r3 s m args below meth c H locs 0 0 Q (F0 m 101 ls [.int x2, .int 4, .ref (ad 9)]) := by
      intro x2 R2
      refine xk_iast (q0 := 9) (t0 := 0) (j := 4) (pc := 101) hx hb hK hP hD hS rfl rfl (pk_in 4 6 (by decide)) (pk_cl 4) dzM_counts_101 (fun H locs hP hD hS => ?_)
      obtain ⟨g2, eg2⟩ : ∃ z : xk_St, z = va_up g1 9 (upd (g1 9) 4 x2) := ⟨_, rfl⟩
      have hP : va_P G xk_cls (xk_wM ad ac g2) H := by rw [eg2]; exact hP
      have hD : va_D A (xk_wM ad ac g2) := by rw [eg2]; exact hD
      have Ig2 : xk_cnt (B + 0) g2 := by rw [eg2]; repeat (first | exact Ig1 | refine xk_cnt_k (by decide) ?_ | refine xk_cnt_f (by decide) ?_ | refine xk_cnt_s ?_)
      refine lv_aload_n (pc := 102) hx hb dzM_counts_102 rfl (lv_at hl 2 rfl) ?_
      refine lv_iload (pc := 103) hx hb dzM_counts_103 (lv_at hl 1 rfl) ?_
      refine lv_iload_n (pc := 105) hx hb dzM_counts_105 rfl (lv_at hl 5 rfl) ?_
      refine lv_ineg (pc := 106) hx hb dzM_counts_106 ?_
      refine xk_allVV (As := [.int 4, .int (-k2)]) (rest := []) (H0 := s.heap) (pc := 107) hx hb hml hts hown hK hA hP hD hS (kzM_change_4 l G ac ad g2 (-k2) (B + 0) Ig2 (by omega)) vfzM_138 (fun _ => rfl) 0 rfl rfl ⟨rfl, rfl⟩ ⟨Nat.le_of_ble_eq_true rfl, Nat.le_of_ble_eq_true rfl⟩ rfl hl.1 rfl (Nat.le_of_ble_eq_true rfl) ⟨Nat.zero_le _, Nat.zero_le _⟩ dzM_counts_107 (fun g3 H locs hg3 hP hD hS => ?_)
      have hP : va_P G xk_cls (xk_wM ad ac g3) H := hP
      have hD : va_D A (xk_wM ad ac g3) := hD
      have Ig3 : xk_cnt (B + 1) g3 := xk_cnt_le (iczM_change_4 (B + 0) _ _ _ hg3 Ig2) (by omega)
      refine lv_iload_n (pc := 110) hx hb dzM_counts_110 rfl (lv_at hl 4 rfl) ?_
      refine lv_iconst (v := 3) (pc := 111) hx hb dzM_counts_111 (by decide) ?_
      refine lv_icmp_ge (pc := 112) (tgt := 204) hx hb dzM_counts_112 (by decide) (fun hq9 => absurd hq9 (by decide)) (fun _ => ?_)
      refine lv_aload_n (pc := 115) hx hb dzM_counts_115 rfl (lv_at hl 2 rfl) ?_
      refine xk_get (pc := 116) hx hb hts hown hK hP ffzM_29 0 rfl rfl dzM_counts_116 ?_
      refine lv_iload (pc := 119) hx hb dzM_counts_119 (lv_at hl 0 rfl) ?_
      refine lv_iload_n (pc := 121) hx hb dzM_counts_121 rfl (lv_at hl 5 rfl) ?_
      refine lv_iconst (v := 1) (pc := 122) hx hb dzM_counts_122 (by decide) ?_
      have K3 : ∀ (x3 : Int32), (if k2 = 1 then (if ((g3 6) 5) = 0 then (x3 = (g3 7) 5) else (x3 = ((g3 7) 5) + 1)) else (x3 = (g3 7) 5)) → W p l e xk_r3 s m args below meth c H locs 0 0 Q (F0 m 155 ls [.int x3, .int 5, .ref (ad 7)]) := by
        intro x3 R3
        refine xk_iast (q0 := 7) (t0 := 0) (j := 5) (pc := 155) hx hb hK hP hD hS rfl rfl (pk_in 5 6 (by decide)) (pk_cl 5) dzM_counts_155 (fun H locs hP hD hS => ?_)
        obtain ⟨g4, eg4⟩ : ∃ z : xk_St, z = va_up g3 7 (upd (g3 7) 5 x3) := ⟨_, rfl⟩
        have hP : va_P G xk_cls (xk_wM ad ac g4) H := by rw [eg4]; exact hP
        have hD : va_D A (xk_wM ad ac g4) := by rw [eg4]; exact hD
        have Ig4 : xk_cnt (B + 1) g4 := by rw [eg4]; repeat (first | exact Ig3 | refine xk_cnt_k (by decide) ?_ | refine xk_cnt_f (by decide) ?_ | refine xk_cnt_s ?_)
        refine lv_aload_n (pc := 156) hx hb dzM_counts_156 rfl (lv_at hl 2 rfl) ?_
        refine xk_get (pc := 157) hx hb hts hown hK hP ffzM_38 0 rfl rfl dzM_counts_157 ?_
        refine lv_iload (pc := 160) hx hb dzM_counts_160 (lv_at hl 0 rfl) ?_
        refine lv_iload_n (pc := 162) hx hb dzM_counts_162 rfl (lv_at hl 5 rfl) ?_
        refine lv_iconst (v := (-1)) (pc := 163) hx hb dzM_counts_163 (by decide) ?_
        have K4 : ∀ (x4 : Int32), (if k2 = (-1) then (if ((g4 6) 5) = 0 then (x4 = (g4 10) 5) else (x4 = ((g4 10) 5) + 1)) else (x4 = (g4 10) 5)) → W p l e xk_r3 s m args below meth c H locs 0 0 Q (F0 m 196 ls [.int x4, .int 5, .ref (ad 10)]) := by
          intro x4 R4
          refine xk_iast (q0 := 10) (t0 := 0) (j := 5) (pc := 196) hx hb hK hP hD hS rfl rfl (pk_in 5 6 (by decide)) (pk_cl 5) dzM_counts_196 (fun H locs hP hD hS => ?_)
          obtain ⟨g5, eg5⟩ : ∃ z : xk_St, z = va_up g4 10 (upd (g4 10) 5 x4) := ⟨_, rfl⟩
          have hP : va_P G xk_cls (xk_wM ad ac g5) H := by rw [eg5]; exact hP
          have hD : va_D A (xk_wM ad ac g5) := by rw [eg5]; exact hD
          have Ig5 : xk_cnt (B + 1) g5 := by rw [eg5]; repeat (first | exact Ig4 | refine xk_cnt_k (by decide) ?_ | refine xk_cnt_f (by decide) ?_ | refine xk_cnt_s ?_)
          refine lv_aload_n (pc := 197) hx hb dzM_counts_197 rfl (lv_at hl 2 rfl) ?_
          refine lv_iload (pc := 198) hx hb dzM_counts_198 (lv_at hl 0 rfl) ?_
          refine lv_iload_n (pc := 200) hx hb dzM_counts_200 rfl (lv_at hl 5 rfl) ?_
          refine xk_allVV (As := [.int 5, .int k2]) (rest := []) (H0 := s.heap) (pc := 201) hx hb hml hts hown hK hA hP hD hS (kzM_change_5 l G ac ad g5 k2 (B + 1) Ig5 (by omega)) vfzM_138 (fun _ => rfl) 0 rfl rfl ⟨rfl, rfl⟩ ⟨Nat.le_of_ble_eq_true rfl, Nat.le_of_ble_eq_true rfl⟩ rfl hl.1 rfl (Nat.le_of_ble_eq_true rfl) ⟨Nat.zero_le _, Nat.zero_le _⟩ dzM_counts_201 (fun g6 H locs hg6 hP hD hS => ?_)
          have hP : va_P G xk_cls (xk_wM ad ac g6) H := hP
          have hD : va_D A (xk_wM ad ac g6) := hD
          have Ig6 : xk_cnt (B + 2) g6 := xk_cnt_le (iczM_change_5 (B + 1) _ _ _ hg6 Ig5) (by omega)
          refine lv_iload_n (pc := 204) hx hb dzM_counts_204 rfl (lv_at hl 4 rfl) ?_
          refine lv_if_ne (pc := 205) (tgt := 222) hx hb dzM_counts_205 (by decide) (fun _ => ?_) (fun hq9 => absurd hq9 (by decide))
          refine lv_iload_n (pc := 222) hx hb dzM_counts_222 rfl (lv_at hl 4 rfl) ?_
          refine lv_iconst (v := 3) (pc := 223) hx hb dzM_counts_223 (by decide) ?_
          refine lv_icmp_ne (pc := 224) (tgt := 243) hx hb dzM_counts_224 (by decide) (fun _ => ?_) (fun hq9 => absurd hq9 (by decide))
          exact hret g6 H locs 243 ls hP hS (by unfold relzM_counts_1_2; exact ⟨x1, R1, ⟨g1, eg1, ⟨x2, R2, ⟨g2, eg2, ⟨g3, hg3, ⟨x3, R3, ⟨g4, eg4, ⟨x4, R4, ⟨g5, eg5, ⟨g6, hg6, rfl⟩⟩⟩⟩⟩⟩⟩⟩⟩⟩) dzM_counts_243
        refine lv_icmp_ne (pc := 164) (tgt := 189) hx hb dzM_counts_164 (by decide) (fun h7 => ?_) (fun h7 => ?_)
        ·
          refine lv_aload_n (pc := 189) hx hb dzM_counts_189 rfl (lv_at hl 2 rfl) ?_
          refine xk_get (pc := 190) hx hb hts hown hK hP ffzM_38 0 rfl rfl dzM_counts_190 ?_
          refine lv_iload (pc := 193) hx hb dzM_counts_193 (lv_at hl 0 rfl) ?_
          refine xk_iald (q0 := 10) (t0 := 0) (j := 5) (pc := 195) hx hb hK hP rfl rfl (pk_in 5 6 (by decide)) (pk_cl 5) dzM_counts_195 ?_
          exact K4 ((g4 10) 5) (Eq.mpr (if_neg h7) rfl)
        ·
          refine lv_aload_n (pc := 167) hx hb dzM_counts_167 rfl (lv_at hl 2 rfl) ?_
          refine xk_get (pc := 168) hx hb hts hown hK hP ffzM_26 0 rfl rfl dzM_counts_168 ?_
          refine lv_iload (pc := 171) hx hb dzM_counts_171 (lv_at hl 0 rfl) ?_
          refine xk_iald (q0 := 6) (t0 := 0) (j := 5) (pc := 173) hx hb hK hP rfl rfl (pk_in 5 6 (by decide)) (pk_cl 5) dzM_counts_173 ?_
          refine lv_if_eq (pc := 174) (tgt := 189) hx hb dzM_counts_174 (by decide) (fun h8 => ?_) (fun h8 => ?_)
          ·
            refine lv_aload_n (pc := 189) hx hb dzM_counts_189 rfl (lv_at hl 2 rfl) ?_
            refine xk_get (pc := 190) hx hb hts hown hK hP ffzM_38 0 rfl rfl dzM_counts_190 ?_
            refine lv_iload (pc := 193) hx hb dzM_counts_193 (lv_at hl 0 rfl) ?_
            refine xk_iald (q0 := 10) (t0 := 0) (j := 5) (pc := 195) hx hb hK hP rfl rfl (pk_in 5 6 (by decide)) (pk_cl 5) dzM_counts_195 ?_
            exact K4 ((g4 10) 5) (Eq.mpr (if_pos h7) (Eq.mpr (if_pos h8) rfl))
          ·
            refine lv_aload_n (pc := 177) hx hb dzM_counts_177 rfl (lv_at hl 2 rfl) ?_
            refine xk_get (pc := 178) hx hb hts hown hK hP ffzM_38 0 rfl rfl dzM_counts_178 ?_
            refine lv_iload (pc := 181) hx hb dzM_counts_181 (lv_at hl 0 rfl) ?_
            refine xk_iald (q0 := 10) (t0 := 0) (j := 5) (pc := 183) hx hb hK hP rfl rfl (pk_in 5 6 (by decide)) (pk_cl 5) dzM_counts_183 ?_
            refine lv_iconst (v := 1) (pc := 184) hx hb dzM_counts_184 (by decide) ?_
            refine lv_iadd (pc := 185) hx hb dzM_counts_185 ?_
            refine lv_goto (tgt := 196) (pc := 186) hx hb dzM_counts_186 (by decide) ?_
            exact K4 (((g4 10) 5) + 1) (Eq.mpr (if_pos h7) (Eq.mpr (if_neg h8) rfl))
      refine lv_icmp_ne (pc := 123) (tgt := 148) hx hb dzM_counts_123 (by decide) (fun h5 => ?_) (fun h5 => ?_)
      ·
        refine lv_aload_n (pc := 148) hx hb dzM_counts_148 rfl (lv_at hl 2 rfl) ?_
        refine xk_get (pc := 149) hx hb hts hown hK hP ffzM_29 0 rfl rfl dzM_counts_149 ?_
        refine lv_iload (pc := 152) hx hb dzM_counts_152 (lv_at hl 0 rfl) ?_
        refine xk_iald (q0 := 7) (t0 := 0) (j := 5) (pc := 154) hx hb hK hP rfl rfl (pk_in 5 6 (by decide)) (pk_cl 5) dzM_counts_154 ?_
        exact K3 ((g3 7) 5) (Eq.mpr (if_neg h5) rfl)
      ·
        refine lv_aload_n (pc := 126) hx hb dzM_counts_126 rfl (lv_at hl 2 rfl) ?_
        refine xk_get (pc := 127) hx hb hts hown hK hP ffzM_26 0 rfl rfl dzM_counts_127 ?_
        refine lv_iload (pc := 130) hx hb dzM_counts_130 (lv_at hl 0 rfl) ?_
        refine xk_iald (q0 := 6) (t0 := 0) (j := 5) (pc := 132) hx hb hK hP rfl rfl (pk_in 5 6 (by decide)) (pk_cl 5) dzM_counts_132 ?_
        refine lv_if_eq (pc := 133) (tgt := 148) hx hb dzM_counts_133 (by decide) (fun h6 => ?_) (fun h6 => ?_)
        ·
          refine lv_aload_n (pc := 148) hx hb dzM_counts_148 rfl (lv_at hl 2 rfl) ?_
          refine xk_get (pc := 149) hx hb hts hown hK hP ffzM_29 0 rfl rfl dzM_counts_149 ?_
          refine lv_iload (pc := 152) hx hb dzM_counts_152 (lv_at hl 0 rfl) ?_
          refine xk_iald (q0 := 7) (t0 := 0) (j := 5) (pc := 154) hx hb hK hP rfl rfl (pk_in 5 6 (by decide)) (pk_cl 5) dzM_counts_154 ?_
          exact K3 ((g3 7) 5) (Eq.mpr (if_pos h5) (Eq.mpr (if_pos h6) rfl))
        ·
          refine lv_aload_n (pc := 136) hx hb dzM_counts_136 rfl (lv_at hl 2 rfl) ?_
          refine xk_get (pc := 137) hx hb hts hown hK hP ffzM_29 0 rfl rfl dzM_counts_137 ?_
          refine lv_iload (pc := 140) hx hb dzM_counts_140 (lv_at hl 0 rfl) ?_
          refine xk_iald (q0 := 7) (t0 := 0) (j := 5) (pc := 142) hx hb hK hP rfl rfl (pk_in 5 6 (by decide)) (pk_cl 5) dzM_counts_142 ?_
          refine lv_iconst (v := 1) (pc := 143) hx hb dzM_counts_143 (by decide) ?_
          refine lv_iadd (pc := 144) hx hb dzM_counts_144 ?_
          refine lv_goto (tgt := 155) (pc := 145) hx hb dzM_counts_145 (by decide) ?_
          exact K3 (((g3 7) 5) + 1) (Eq.mpr (if_pos h5) (Eq.mpr (if_neg h6) rfl))
    refine lv_icmp_ne (pc := 69) (tgt := 94) hx hb dzM_counts_69 (by decide) (fun h3 => ?_) (fun h3 => ?_)
    ·
      refine lv_aload_n (pc := 94) hx hb dzM_counts_94 rfl (lv_at hl 2 rfl) ?_
      refine xk_get (pc := 95) hx hb hts hown hK hP ffzM_35 0 rfl rfl dzM_counts_95 ?_
      refine lv_iload (pc := 98) hx hb dzM_counts_98 (lv_at hl 1 rfl) ?_
      refine xk_iald (q0 := 9) (t0 := 0) (j := 4) (pc := 100) hx hb hK hP rfl rfl (pk_in 4 6 (by decide)) (pk_cl 4) dzM_counts_100 ?_
      exact K2 ((g1 9) 4) (Eq.mpr (if_neg h3) rfl)
    ·
      refine lv_aload_n (pc := 72) hx hb dzM_counts_72 rfl (lv_at hl 2 rfl) ?_
      refine xk_get (pc := 73) hx hb hts hown hK hP ffzM_26 0 rfl rfl dzM_counts_73 ?_
      refine lv_iload (pc := 76) hx hb dzM_counts_76 (lv_at hl 1 rfl) ?_
      refine xk_iald (q0 := 6) (t0 := 0) (j := 4) (pc := 78) hx hb hK hP rfl rfl (pk_in 4 6 (by decide)) (pk_cl 4) dzM_counts_78 ?_
      refine lv_if_eq (pc := 79) (tgt := 94) hx hb dzM_counts_79 (by decide) (fun h4 => ?_) (fun h4 => ?_)
      ·
        refine lv_aload_n (pc := 94) hx hb dzM_counts_94 rfl (lv_at hl 2 rfl) ?_
        refine xk_get (pc := 95) hx hb hts hown hK hP ffzM_35 0 rfl rfl dzM_counts_95 ?_
        refine lv_iload (pc := 98) hx hb dzM_counts_98 (lv_at hl 1 rfl) ?_
        refine xk_iald (q0 := 9) (t0 := 0) (j := 4) (pc := 100) hx hb hK hP rfl rfl (pk_in 4 6 (by decide)) (pk_cl 4) dzM_counts_100 ?_
        exact K2 ((g1 9) 4) (Eq.mpr (if_pos h3) (Eq.mpr (if_pos h4) rfl))
      ·
        refine lv_aload_n (pc := 82) hx hb dzM_counts_82 rfl (lv_at hl 2 rfl) ?_
        refine xk_get (pc := 83) hx hb hts hown hK hP ffzM_35 0 rfl rfl dzM_counts_83 ?_
        refine lv_iload (pc := 86) hx hb dzM_counts_86 (lv_at hl 1 rfl) ?_
        refine xk_iald (q0 := 9) (t0 := 0) (j := 4) (pc := 88) hx hb hK hP rfl rfl (pk_in 4 6 (by decide)) (pk_cl 4) dzM_counts_88 ?_
        refine lv_iconst (v := 1) (pc := 89) hx hb dzM_counts_89 (by decide) ?_
        refine lv_iadd (pc := 90) hx hb dzM_counts_90 ?_
        refine lv_goto (tgt := 101) (pc := 91) hx hb dzM_counts_91 (by decide) ?_
        exact K2 (((g1 9) 4) + 1) (Eq.mpr (if_pos h3) (Eq.mpr (if_neg h4) rfl))
  refine lv_icmp_ne (pc := 28) (tgt := 53) hx hb dzM_counts_28 (by decide) (fun h1 => ?_) (fun h1 => ?_)
  ·
    refine lv_aload_n (pc := 53) hx hb dzM_counts_53 rfl (lv_at hl 2 rfl) ?_
    refine xk_get (pc := 54) hx hb hts hown hK hP ffzM_32 0 rfl rfl dzM_counts_54 ?_
    refine lv_iload (pc := 57) hx hb dzM_counts_57 (lv_at hl 1 rfl) ?_
    refine xk_iald (q0 := 8) (t0 := 0) (j := 4) (pc := 59) hx hb hK hP rfl rfl (pk_in 4 6 (by decide)) (pk_cl 4) dzM_counts_59 ?_
    exact K1 ((g0 8) 4) (Eq.mpr (if_neg h1) rfl)
  ·
    refine lv_aload_n (pc := 31) hx hb dzM_counts_31 rfl (lv_at hl 2 rfl) ?_
    refine xk_get (pc := 32) hx hb hts hown hK hP ffzM_26 0 rfl rfl dzM_counts_32 ?_
    refine lv_iload (pc := 35) hx hb dzM_counts_35 (lv_at hl 1 rfl) ?_
    refine xk_iald (q0 := 6) (t0 := 0) (j := 4) (pc := 37) hx hb hK hP rfl rfl (pk_in 4 6 (by decide)) (pk_cl 4) dzM_counts_37 ?_
    refine lv_if_eq (pc := 38) (tgt := 53) hx hb dzM_counts_38 (by decide) (fun h2 => ?_) (fun h2 => ?_)
    ·
      refine lv_aload_n (pc := 53) hx hb dzM_counts_53 rfl (lv_at hl 2 rfl) ?_
      refine xk_get (pc := 54) hx hb hts hown hK hP ffzM_32 0 rfl rfl dzM_counts_54 ?_
      refine lv_iload (pc := 57) hx hb dzM_counts_57 (lv_at hl 1 rfl) ?_
      refine xk_iald (q0 := 8) (t0 := 0) (j := 4) (pc := 59) hx hb hK hP rfl rfl (pk_in 4 6 (by decide)) (pk_cl 4) dzM_counts_59 ?_
      exact K1 ((g0 8) 4) (Eq.mpr (if_pos h1) (Eq.mpr (if_pos h2) rfl))
    ·
      refine lv_aload_n (pc := 41) hx hb dzM_counts_41 rfl (lv_at hl 2 rfl) ?_
      refine xk_get (pc := 42) hx hb hts hown hK hP ffzM_32 0 rfl rfl dzM_counts_42 ?_
      refine lv_iload (pc := 45) hx hb dzM_counts_45 (lv_at hl 1 rfl) ?_
      refine xk_iald (q0 := 8) (t0 := 0) (j := 4) (pc := 47) hx hb hK hP rfl rfl (pk_in 4 6 (by decide)) (pk_cl 4) dzM_counts_47 ?_
      refine lv_iconst (v := 1) (pc := 48) hx hb dzM_counts_48 (by decide) ?_
      refine lv_iadd (pc := 49) hx hb dzM_counts_49 ?_
      refine lv_goto (tgt := 60) (pc := 50) hx hb dzM_counts_50 (by decide) ?_
      exact K1 (((g0 8) 4) + 1) (Eq.mpr (if_pos h1) (Eq.mpr (if_neg h2) rfl))
theorem frzM_counts_1_2 (g0 : xk_St) (k2 : Int32) (gz : xk_St) : relzM_counts_1_2 g0 k2 gz → xk_eqv [1, 2, 4, 6, 11, 12, 13, 14, 15, 16, 17, 18, 19, 20, 21, 22, 23, 24] g0 gz := by
  intro h
  unfold relzM_counts_1_2 at h
  have s0 : xk_eqv [1, 2, 4, 6, 11, 12, 13, 14, 15, 16, 17, 18, 19, 20, 21, 22, 23, 24] g0 g0 := xk_eqv_rf
  obtain ⟨x1, u1, v2⟩ := h
  obtain ⟨g1, u3, v4⟩ := v2
  have s5 : xk_eqv [1, 2, 4, 6, 11, 12, 13, 14, 15, 16, 17, 18, 19, 20, 21, 22, 23, 24] g0 g1 := by rw [u3]; repeat (first | exact s0 | refine xk_eqv_up (by decide) ?_)
  obtain ⟨x2, u6, v7⟩ := v4
  obtain ⟨g2, u8, v9⟩ := v7
  have s10 : xk_eqv [1, 2, 4, 6, 11, 12, 13, 14, 15, 16, 17, 18, 19, 20, 21, 22, 23, 24] g0 g2 := by rw [u8]; repeat (first | exact s5 | refine xk_eqv_up (by decide) ?_)
  obtain ⟨g3, u11, v12⟩ := v9
  have s13 : xk_eqv [1, 2, 4, 6, 11, 12, 13, 14, 15, 16, 17, 18, 19, 20, 21, 22, 23, 24] g0 g3 := xk_eqv_tr s10 (xk_eqv_sub (frzM_change_4 _ _ _ u11) (by decide))
  obtain ⟨x3, u14, v15⟩ := v12
  obtain ⟨g4, u16, v17⟩ := v15
  have s18 : xk_eqv [1, 2, 4, 6, 11, 12, 13, 14, 15, 16, 17, 18, 19, 20, 21, 22, 23, 24] g0 g4 := by rw [u16]; repeat (first | exact s13 | refine xk_eqv_up (by decide) ?_)
  obtain ⟨x4, u19, v20⟩ := v17
  obtain ⟨g5, u21, v22⟩ := v20
  have s23 : xk_eqv [1, 2, 4, 6, 11, 12, 13, 14, 15, 16, 17, 18, 19, 20, 21, 22, 23, 24] g0 g5 := by rw [u21]; repeat (first | exact s18 | refine xk_eqv_up (by decide) ?_)
  obtain ⟨g6, u24, v25⟩ := v22
  have s26 : xk_eqv [1, 2, 4, 6, 11, 12, 13, 14, 15, 16, 17, 18, 19, 20, 21, 22, 23, 24] g0 g6 := xk_eqv_tr s23 (xk_eqv_sub (frzM_change_5 _ _ _ u24) (by decide))
  rw [v25]; exact s26
theorem iczM_counts_1_2 (B : Nat) (g0 : xk_St) (k2 : Int32) (gz : xk_St) : relzM_counts_1_2 g0 k2 gz → xk_cnt B g0 → xk_cnt (B + 2) gz := by
  intro h Ig0
  unfold relzM_counts_1_2 at h
  have Ig0 : xk_cnt (B + 0) g0 := Ig0
  obtain ⟨x1, u1, v2⟩ := h
  obtain ⟨g1, u3, v4⟩ := v2
  have Ig1 : xk_cnt (B + 0) g1 := by rw [u3]; repeat (first | exact Ig0 | refine xk_cnt_k (by decide) ?_ | refine xk_cnt_f (by decide) ?_ | refine xk_cnt_s ?_)
  obtain ⟨x2, u5, v6⟩ := v4
  obtain ⟨g2, u7, v8⟩ := v6
  have Ig2 : xk_cnt (B + 0) g2 := by rw [u7]; repeat (first | exact Ig1 | refine xk_cnt_k (by decide) ?_ | refine xk_cnt_f (by decide) ?_ | refine xk_cnt_s ?_)
  obtain ⟨g3, u9, v10⟩ := v8
  have Ig3 : xk_cnt (B + 1) g3 := xk_cnt_le (iczM_change_4 (B + 0) _ _ _ u9 Ig2) (by omega)
  obtain ⟨x3, u11, v12⟩ := v10
  obtain ⟨g4, u13, v14⟩ := v12
  have Ig4 : xk_cnt (B + 1) g4 := by rw [u13]; repeat (first | exact Ig3 | refine xk_cnt_k (by decide) ?_ | refine xk_cnt_f (by decide) ?_ | refine xk_cnt_s ?_)
  obtain ⟨x4, u15, v16⟩ := v14
  obtain ⟨g5, u17, v18⟩ := v16
  have Ig5 : xk_cnt (B + 1) g5 := by rw [u17]; repeat (first | exact Ig4 | refine xk_cnt_k (by decide) ?_ | refine xk_cnt_f (by decide) ?_ | refine xk_cnt_s ?_)
  obtain ⟨g6, u19, v20⟩ := v18
  have Ig6 : xk_cnt (B + 2) g6 := xk_cnt_le (iczM_change_5 (B + 1) _ _ _ u19 Ig5) (by omega)
  rw [v20]; exact xk_cnt_le Ig6 (by omega)

def relzM_counts_1_3 (g0 : xk_St) (k2 : Int32) (gz : xk_St) : Prop := ∃ (x1 : Int32), (if k2 = 1 then (if ((g0 6) 5) = 0 then (x1 = (g0 8) 5) else (x1 = ((g0 8) 5) + 1)) else (x1 = (g0 8) 5)) ∧ (∃ (g1 : xk_St), g1 = va_up g0 8 (upd (g0 8) 5 x1) ∧ (∃ (x2 : Int32), (if k2 = (-1) then (if ((g1 6) 5) = 0 then (x2 = (g1 9) 5) else (x2 = ((g1 9) 5) + 1)) else (x2 = (g1 9) 5)) ∧ (∃ (g2 : xk_St), g2 = va_up g1 9 (upd (g1 9) 5 x2) ∧ (∃ (g3 : xk_St), relzM_change_5 g2 (-k2) g3 ∧ (∃ (g5 : xk_St), (if k2 = (-1) then (∃ (g4 : xk_St), g4 = va_up g3 12 (upd (g3 12) 3 1) ∧ (g5 = g4)) else (g5 = g3)) ∧ (gz = g5))))))
set_option maxHeartbeats 4000000 in
set_option maxRecDepth 100000 in
theorem kzM_counts_1_3 (l : Launch) (G : va_G) (ac : Nat → ClassId) (ad : Nat → Nat) (g0 : xk_St) (k2 : Int32) (B : Nat) (Ig0 : xk_cnt B g0) (hB : B + 2 < 2147483648) : xk_CV l yzM_counts czM_counts 6 xk_WS xk_r3 G xk_cls (xk_tys ac) [.ref (ad 0), .int 1, .int 3, .int k2] (xk_wM ad ac g0) (fun (gz : xk_St) => relzM_counts_1_3 g0 k2 gz) (fun gz => xk_wM ad ac gz) := by
  refine xk_ofV (by decide) (Nat.le_of_ble_eq_true rfl) ?_
  intro p e s m args below meth c A Q H locs ls C0 hret hP hD hS hl
  obtain ⟨hx, hb, hml, hts, hown, hK, hA⟩ := C0
  have hl : lv_has ls 6 [(0, .ref (ad 0)), (1, .int 1), (2, .int 3), (3, .int k2)] := hl
  have Ig0 : xk_cnt (B + 0) g0 := Ig0
  refine lv_iconst (v := 3) (pc := 0) hx hb dzM_counts_0 (by decide) ?_
  refine lv_iload_n (pc := 1) hx hb dzM_counts_1 rfl (lv_at hl 1 rfl) ?_
  refine lv_imul (pc := 2) hx hb dzM_counts_2 ?_
  refine xk_is (y := 3) (by decide) ?_
  refine lv_iload_n (pc := 3) hx hb dzM_counts_3 rfl (lv_at hl 2 rfl) ?_
  refine lv_iadd (pc := 4) hx hb dzM_counts_4 ?_
  refine xk_is (y := 6) (by decide) ?_
  refine lv_iconst (v := 1) (pc := 5) hx hb dzM_counts_5 (by decide) ?_
  refine lv_isub (pc := 6) hx hb dzM_counts_6 ?_
  refine xk_is (y := 5) (by decide) ?_
  refine lv_istore (lv' := [(4, .int 5), (0, .ref (ad 0)), (1, .int 1), (2, .int 3), (3, .int k2)]) (pc := 7) hx hb dzM_counts_7 hl (by decide) rfl (fun ls hl => ?_)
  refine lv_iconst (v := 3) (pc := 9) hx hb dzM_counts_9 (by decide) ?_
  refine lv_iload_n (pc := 10) hx hb dzM_counts_10 rfl (lv_at hl 2 rfl) ?_
  refine lv_imul (pc := 11) hx hb dzM_counts_11 ?_
  refine xk_is (y := 3) (by decide) ?_
  refine lv_iload_n (pc := 12) hx hb dzM_counts_12 rfl (lv_at hl 3 rfl) ?_
  refine lv_iadd (pc := 13) hx hb dzM_counts_13 ?_
  refine xk_is (y := 6) (by decide) ?_
  refine lv_istore (lv' := [(5, .int 6), (4, .int 5), (0, .ref (ad 0)), (1, .int 1), (2, .int 3), (3, .int k2)]) (pc := 14) hx hb dzM_counts_14 hl (by decide) rfl (fun ls hl => ?_)
  refine lv_iload_n (pc := 16) hx hb dzM_counts_16 rfl (lv_at hl 4 rfl) ?_
  refine lv_if_le (pc := 17) (tgt := 110) hx hb dzM_counts_17 (by decide) (fun hq9 => absurd hq9 (by decide)) (fun _ => ?_)
  refine lv_aload_n (pc := 20) hx hb dzM_counts_20 rfl (lv_at hl 2 rfl) ?_
  refine xk_get (pc := 21) hx hb hts hown hK hP ffzM_32 0 rfl rfl dzM_counts_21 ?_
  refine lv_iload (pc := 24) hx hb dzM_counts_24 (lv_at hl 1 rfl) ?_
  refine lv_iload_n (pc := 26) hx hb dzM_counts_26 rfl (lv_at hl 5 rfl) ?_
  refine lv_iconst (v := 1) (pc := 27) hx hb dzM_counts_27 (by decide) ?_
  have K1 : ∀ (x1 : Int32), (if k2 = 1 then (if ((g0 6) 5) = 0 then (x1 = (g0 8) 5) else (x1 = ((g0 8) 5) + 1)) else (x1 = (g0 8) 5)) → W p l e xk_r3 s m args below meth c H locs 0 0 Q (F0 m 60 ls [.int x1, .int 5, .ref (ad 8)]) := by
    intro x1 R1
    refine xk_iast (q0 := 8) (t0 := 0) (j := 5) (pc := 60) hx hb hK hP hD hS rfl rfl (pk_in 5 6 (by decide)) (pk_cl 5) dzM_counts_60 (fun H locs hP hD hS => ?_)
    obtain ⟨g1, eg1⟩ : ∃ z : xk_St, z = va_up g0 8 (upd (g0 8) 5 x1) := ⟨_, rfl⟩
    have hP : va_P G xk_cls (xk_wM ad ac g1) H := by rw [eg1]; exact hP
    have hD : va_D A (xk_wM ad ac g1) := by rw [eg1]; exact hD
    have Ig1 : xk_cnt (B + 0) g1 := by rw [eg1]; repeat (first | exact Ig0 | refine xk_cnt_k (by decide) ?_ | refine xk_cnt_f (by decide) ?_ | refine xk_cnt_s ?_)
    refine lv_aload_n (pc := 61) hx hb dzM_counts_61 rfl (lv_at hl 2 rfl) ?_
    refine xk_get (pc := 62) hx hb hts hown hK hP ffzM_35 0 rfl rfl dzM_counts_62 ?_
    refine lv_iload (pc := 65) hx hb dzM_counts_65 (lv_at hl 1 rfl) ?_
    refine lv_iload_n (pc := 67) hx hb dzM_counts_67 rfl (lv_at hl 5 rfl) ?_
    refine lv_iconst (v := (-1)) (pc := 68) hx hb dzM_counts_68 (by decide) ?_
    have K2 : ∀ (x2 : Int32), (if k2 = (-1) then (if ((g1 6) 5) = 0 then (x2 = (g1 9) 5) else (x2 = ((g1 9) 5) + 1)) else (x2 = (g1 9) 5)) → W p l e xk_r3 s m args below meth c H locs 0 0 Q (F0 m 101 ls [.int x2, .int 5, .ref (ad 9)]) := by
      intro x2 R2
      refine xk_iast (q0 := 9) (t0 := 0) (j := 5) (pc := 101) hx hb hK hP hD hS rfl rfl (pk_in 5 6 (by decide)) (pk_cl 5) dzM_counts_101 (fun H locs hP hD hS => ?_)
      obtain ⟨g2, eg2⟩ : ∃ z : xk_St, z = va_up g1 9 (upd (g1 9) 5 x2) := ⟨_, rfl⟩
      have hP : va_P G xk_cls (xk_wM ad ac g2) H := by rw [eg2]; exact hP
      have hD : va_D A (xk_wM ad ac g2) := by rw [eg2]; exact hD
      have Ig2 : xk_cnt (B + 0) g2 := by rw [eg2]; repeat (first | exact Ig1 | refine xk_cnt_k (by decide) ?_ | refine xk_cnt_f (by decide) ?_ | refine xk_cnt_s ?_)
      refine lv_aload_n (pc := 102) hx hb dzM_counts_102 rfl (lv_at hl 2 rfl) ?_
      refine lv_iload (pc := 103) hx hb dzM_counts_103 (lv_at hl 1 rfl) ?_
      refine lv_iload_n (pc := 105) hx hb dzM_counts_105 rfl (lv_at hl 5 rfl) ?_
      refine lv_ineg (pc := 106) hx hb dzM_counts_106 ?_
      refine xk_allVV (As := [.int 5, .int (-k2)]) (rest := []) (H0 := s.heap) (pc := 107) hx hb hml hts hown hK hA hP hD hS (kzM_change_5 l G ac ad g2 (-k2) (B + 0) Ig2 (by omega)) vfzM_138 (fun _ => rfl) 0 rfl rfl ⟨rfl, rfl⟩ ⟨Nat.le_of_ble_eq_true rfl, Nat.le_of_ble_eq_true rfl⟩ rfl hl.1 rfl (Nat.le_of_ble_eq_true rfl) ⟨Nat.zero_le _, Nat.zero_le _⟩ dzM_counts_107 (fun g3 H locs hg3 hP hD hS => ?_)
      have hP : va_P G xk_cls (xk_wM ad ac g3) H := hP
      have hD : va_D A (xk_wM ad ac g3) := hD
      have Ig3 : xk_cnt (B + 1) g3 := xk_cnt_le (iczM_change_5 (B + 0) _ _ _ hg3 Ig2) (by omega)
      refine lv_iload_n (pc := 110) hx hb dzM_counts_110 rfl (lv_at hl 4 rfl) ?_
      refine lv_iconst (v := 3) (pc := 111) hx hb dzM_counts_111 (by decide) ?_
      refine lv_icmp_ge (pc := 112) (tgt := 204) hx hb dzM_counts_112 (by decide) (fun _ => ?_) (fun hq9 => absurd (by decide) hq9)
      refine lv_iload_n (pc := 204) hx hb dzM_counts_204 rfl (lv_at hl 4 rfl) ?_
      refine lv_if_ne (pc := 205) (tgt := 222) hx hb dzM_counts_205 (by decide) (fun _ => ?_) (fun hq9 => absurd hq9 (by decide))
      refine lv_iload_n (pc := 222) hx hb dzM_counts_222 rfl (lv_at hl 4 rfl) ?_
      refine lv_iconst (v := 3) (pc := 223) hx hb dzM_counts_223 (by decide) ?_
      refine lv_icmp_ne (pc := 224) (tgt := 243) hx hb dzM_counts_224 (by decide) (fun hq9 => absurd (by decide) hq9) (fun _ => ?_)
      refine lv_iload_n (pc := 227) hx hb dzM_counts_227 rfl (lv_at hl 5 rfl) ?_
      refine lv_iconst (v := (-1)) (pc := 228) hx hb dzM_counts_228 (by decide) ?_
      have K3 : ∀ (g5 : xk_St) (H : Heap) (locs : List Loc), (if k2 = (-1) then (∃ (g4 : xk_St), g4 = va_up g3 12 (upd (g3 12) 3 1) ∧ (g5 = g4)) else (g5 = g3)) → (xk_cnt (B + 1) g5) → (va_P G xk_cls (xk_wM ad ac g5) H) → (va_D A (xk_wM ad ac g5)) → (va_S A s.heap H locs) → W p l e xk_r3 s m args below meth c H locs 0 0 Q (F0 m 243 ls []) := by
        intro g5 H locs R3 Ig5 hP hD hS
        exact hret g5 H locs 243 ls hP hS (by unfold relzM_counts_1_3; exact ⟨x1, R1, ⟨g1, eg1, ⟨x2, R2, ⟨g2, eg2, ⟨g3, hg3, ⟨g5, R3, rfl⟩⟩⟩⟩⟩⟩) dzM_counts_243
      refine lv_icmp_ne (pc := 229) (tgt := 243) hx hb dzM_counts_229 (by decide) (fun h5 => ?_) (fun h5 => ?_)
      ·
        exact K3 g3 H locs (Eq.mpr (if_neg h5) rfl) (xk_cnt_le Ig3 (by omega)) hP hD hS
      ·
        refine lv_aload_n (pc := 232) hx hb dzM_counts_232 rfl (lv_at hl 2 rfl) ?_
        refine xk_get (pc := 233) hx hb hts hown hK hP ffzM_44 0 rfl rfl dzM_counts_233 ?_
        refine lv_iconst (v := 2) (pc := 236) hx hb dzM_counts_236 (by decide) ?_
        refine lv_iload_n (pc := 237) hx hb dzM_counts_237 rfl (lv_at hl 3 rfl) ?_
        refine lv_imul (pc := 238) hx hb dzM_counts_238 ?_
        refine xk_is (y := 2) (by decide) ?_
        refine lv_iconst (v := 1) (pc := 239) hx hb dzM_counts_239 (by decide) ?_
        refine lv_iadd (pc := 240) hx hb dzM_counts_240 ?_
        refine xk_is (y := 3) (by decide) ?_
        refine lv_iconst (v := 1) (pc := 241) hx hb dzM_counts_241 (by decide) ?_
        refine xk_zast (q0 := 12) (t0 := 1) (j := 3) (pc := 242) hx hb hK hP hD hS rfl rfl (pk_in 3 4 (by decide)) (pk_cl 3) xk_b1 dzM_counts_242 (fun H locs hP hD hS => ?_)
        obtain ⟨g4, eg4⟩ : ∃ z : xk_St, z = va_up g3 12 (upd (g3 12) 3 1) := ⟨_, rfl⟩
        have hP : va_P G xk_cls (xk_wM ad ac g4) H := by rw [eg4]; exact hP
        have hD : va_D A (xk_wM ad ac g4) := by rw [eg4]; exact hD
        have Ig4 : xk_cnt (B + 1) g4 := by rw [eg4]; repeat (first | exact Ig3 | refine xk_cnt_k (by decide) ?_ | refine xk_cnt_f (by decide) ?_ | refine xk_cnt_s ?_)
        exact K3 g4 H locs (Eq.mpr (if_pos h5) ⟨g4, eg4, rfl⟩) (xk_cnt_le Ig4 (by omega)) hP hD hS
    refine lv_icmp_ne (pc := 69) (tgt := 94) hx hb dzM_counts_69 (by decide) (fun h3 => ?_) (fun h3 => ?_)
    ·
      refine lv_aload_n (pc := 94) hx hb dzM_counts_94 rfl (lv_at hl 2 rfl) ?_
      refine xk_get (pc := 95) hx hb hts hown hK hP ffzM_35 0 rfl rfl dzM_counts_95 ?_
      refine lv_iload (pc := 98) hx hb dzM_counts_98 (lv_at hl 1 rfl) ?_
      refine xk_iald (q0 := 9) (t0 := 0) (j := 5) (pc := 100) hx hb hK hP rfl rfl (pk_in 5 6 (by decide)) (pk_cl 5) dzM_counts_100 ?_
      exact K2 ((g1 9) 5) (Eq.mpr (if_neg h3) rfl)
    ·
      refine lv_aload_n (pc := 72) hx hb dzM_counts_72 rfl (lv_at hl 2 rfl) ?_
      refine xk_get (pc := 73) hx hb hts hown hK hP ffzM_26 0 rfl rfl dzM_counts_73 ?_
      refine lv_iload (pc := 76) hx hb dzM_counts_76 (lv_at hl 1 rfl) ?_
      refine xk_iald (q0 := 6) (t0 := 0) (j := 5) (pc := 78) hx hb hK hP rfl rfl (pk_in 5 6 (by decide)) (pk_cl 5) dzM_counts_78 ?_
      refine lv_if_eq (pc := 79) (tgt := 94) hx hb dzM_counts_79 (by decide) (fun h4 => ?_) (fun h4 => ?_)
      ·
        refine lv_aload_n (pc := 94) hx hb dzM_counts_94 rfl (lv_at hl 2 rfl) ?_
        refine xk_get (pc := 95) hx hb hts hown hK hP ffzM_35 0 rfl rfl dzM_counts_95 ?_
        refine lv_iload (pc := 98) hx hb dzM_counts_98 (lv_at hl 1 rfl) ?_
        refine xk_iald (q0 := 9) (t0 := 0) (j := 5) (pc := 100) hx hb hK hP rfl rfl (pk_in 5 6 (by decide)) (pk_cl 5) dzM_counts_100 ?_
        exact K2 ((g1 9) 5) (Eq.mpr (if_pos h3) (Eq.mpr (if_pos h4) rfl))
      ·
        refine lv_aload_n (pc := 82) hx hb dzM_counts_82 rfl (lv_at hl 2 rfl) ?_
        refine xk_get (pc := 83) hx hb hts hown hK hP ffzM_35 0 rfl rfl dzM_counts_83 ?_
        refine lv_iload (pc := 86) hx hb dzM_counts_86 (lv_at hl 1 rfl) ?_
        refine xk_iald (q0 := 9) (t0 := 0) (j := 5) (pc := 88) hx hb hK hP rfl rfl (pk_in 5 6 (by decide)) (pk_cl 5) dzM_counts_88 ?_
        refine lv_iconst (v := 1) (pc := 89) hx hb dzM_counts_89 (by decide) ?_
        refine lv_iadd (pc := 90) hx hb dzM_counts_90 ?_
        refine lv_goto (tgt := 101) (pc := 91) hx hb dzM_counts_91 (by decide) ?_
        exact K2 (((g1 9) 5) + 1) (Eq.mpr (if_pos h3) (Eq.mpr (if_neg h4) rfl))
  refine lv_icmp_ne (pc := 28) (tgt := 53) hx hb dzM_counts_28 (by decide) (fun h1 => ?_) (fun h1 => ?_)
  ·
    refine lv_aload_n (pc := 53) hx hb dzM_counts_53 rfl (lv_at hl 2 rfl) ?_
    refine xk_get (pc := 54) hx hb hts hown hK hP ffzM_32 0 rfl rfl dzM_counts_54 ?_
    refine lv_iload (pc := 57) hx hb dzM_counts_57 (lv_at hl 1 rfl) ?_
    refine xk_iald (q0 := 8) (t0 := 0) (j := 5) (pc := 59) hx hb hK hP rfl rfl (pk_in 5 6 (by decide)) (pk_cl 5) dzM_counts_59 ?_
    exact K1 ((g0 8) 5) (Eq.mpr (if_neg h1) rfl)
  ·
    refine lv_aload_n (pc := 31) hx hb dzM_counts_31 rfl (lv_at hl 2 rfl) ?_
    refine xk_get (pc := 32) hx hb hts hown hK hP ffzM_26 0 rfl rfl dzM_counts_32 ?_
    refine lv_iload (pc := 35) hx hb dzM_counts_35 (lv_at hl 1 rfl) ?_
    refine xk_iald (q0 := 6) (t0 := 0) (j := 5) (pc := 37) hx hb hK hP rfl rfl (pk_in 5 6 (by decide)) (pk_cl 5) dzM_counts_37 ?_
    refine lv_if_eq (pc := 38) (tgt := 53) hx hb dzM_counts_38 (by decide) (fun h2 => ?_) (fun h2 => ?_)
    ·
      refine lv_aload_n (pc := 53) hx hb dzM_counts_53 rfl (lv_at hl 2 rfl) ?_
      refine xk_get (pc := 54) hx hb hts hown hK hP ffzM_32 0 rfl rfl dzM_counts_54 ?_
      refine lv_iload (pc := 57) hx hb dzM_counts_57 (lv_at hl 1 rfl) ?_
      refine xk_iald (q0 := 8) (t0 := 0) (j := 5) (pc := 59) hx hb hK hP rfl rfl (pk_in 5 6 (by decide)) (pk_cl 5) dzM_counts_59 ?_
      exact K1 ((g0 8) 5) (Eq.mpr (if_pos h1) (Eq.mpr (if_pos h2) rfl))
    ·
      refine lv_aload_n (pc := 41) hx hb dzM_counts_41 rfl (lv_at hl 2 rfl) ?_
      refine xk_get (pc := 42) hx hb hts hown hK hP ffzM_32 0 rfl rfl dzM_counts_42 ?_
      refine lv_iload (pc := 45) hx hb dzM_counts_45 (lv_at hl 1 rfl) ?_
      refine xk_iald (q0 := 8) (t0 := 0) (j := 5) (pc := 47) hx hb hK hP rfl rfl (pk_in 5 6 (by decide)) (pk_cl 5) dzM_counts_47 ?_
      refine lv_iconst (v := 1) (pc := 48) hx hb dzM_counts_48 (by decide) ?_
      refine lv_iadd (pc := 49) hx hb dzM_counts_49 ?_
      refine lv_goto (tgt := 60) (pc := 50) hx hb dzM_counts_50 (by decide) ?_
      exact K1 (((g0 8) 5) + 1) (Eq.mpr (if_pos h1) (Eq.mpr (if_neg h2) rfl))
theorem frzM_counts_1_3 (g0 : xk_St) (k2 : Int32) (gz : xk_St) : relzM_counts_1_3 g0 k2 gz → xk_eqv [1, 2, 4, 6, 7, 10, 11, 13, 14, 15, 16, 17, 18, 19, 20, 21, 22, 23, 24] g0 gz := by
  intro h
  unfold relzM_counts_1_3 at h
  have s0 : xk_eqv [1, 2, 4, 6, 7, 10, 11, 13, 14, 15, 16, 17, 18, 19, 20, 21, 22, 23, 24] g0 g0 := xk_eqv_rf
  obtain ⟨x1, u1, v2⟩ := h
  obtain ⟨g1, u3, v4⟩ := v2
  have s5 : xk_eqv [1, 2, 4, 6, 7, 10, 11, 13, 14, 15, 16, 17, 18, 19, 20, 21, 22, 23, 24] g0 g1 := by rw [u3]; repeat (first | exact s0 | refine xk_eqv_up (by decide) ?_)
  obtain ⟨x2, u6, v7⟩ := v4
  obtain ⟨g2, u8, v9⟩ := v7
  have s10 : xk_eqv [1, 2, 4, 6, 7, 10, 11, 13, 14, 15, 16, 17, 18, 19, 20, 21, 22, 23, 24] g0 g2 := by rw [u8]; repeat (first | exact s5 | refine xk_eqv_up (by decide) ?_)
  obtain ⟨g3, u11, v12⟩ := v9
  have s13 : xk_eqv [1, 2, 4, 6, 7, 10, 11, 13, 14, 15, 16, 17, 18, 19, 20, 21, 22, 23, 24] g0 g3 := xk_eqv_tr s10 (xk_eqv_sub (frzM_change_5 _ _ _ u11) (by decide))
  obtain ⟨g5, u14, v15⟩ := v12
  have s16 : xk_eqv [1, 2, 4, 6, 7, 10, 11, 13, 14, 15, 16, 17, 18, 19, 20, 21, 22, 23, 24] g0 g5 := by
    by_cases hc : k2 = (-1)
    · rw [if_pos hc] at u14
      obtain ⟨g4, u17, v18⟩ := u14
      have s19 : xk_eqv [1, 2, 4, 6, 7, 10, 11, 13, 14, 15, 16, 17, 18, 19, 20, 21, 22, 23, 24] g0 g4 := by rw [u17]; repeat (first | exact s13 | refine xk_eqv_up (by decide) ?_)
      rw [v18]; exact s19
    · rw [if_neg hc] at u14
      rw [u14]; exact s13
  rw [v15]; exact s16
theorem iczM_counts_1_3 (B : Nat) (g0 : xk_St) (k2 : Int32) (gz : xk_St) : relzM_counts_1_3 g0 k2 gz → xk_cnt B g0 → xk_cnt (B + 1) gz := by
  intro h Ig0
  unfold relzM_counts_1_3 at h
  have Ig0 : xk_cnt (B + 0) g0 := Ig0
  obtain ⟨x1, u1, v2⟩ := h
  obtain ⟨g1, u3, v4⟩ := v2
  have Ig1 : xk_cnt (B + 0) g1 := by rw [u3]; repeat (first | exact Ig0 | refine xk_cnt_k (by decide) ?_ | refine xk_cnt_f (by decide) ?_ | refine xk_cnt_s ?_)
  obtain ⟨x2, u5, v6⟩ := v4
  obtain ⟨g2, u7, v8⟩ := v6
  have Ig2 : xk_cnt (B + 0) g2 := by rw [u7]; repeat (first | exact Ig1 | refine xk_cnt_k (by decide) ?_ | refine xk_cnt_f (by decide) ?_ | refine xk_cnt_s ?_)
  obtain ⟨g3, u9, v10⟩ := v8
  have Ig3 : xk_cnt (B + 1) g3 := xk_cnt_le (iczM_change_5 (B + 0) _ _ _ u9 Ig2) (by omega)
  obtain ⟨g5, u11, v12⟩ := v10
  have Ig5 : xk_cnt (B + 1) g5 := by
    by_cases hc : k2 = (-1)
    · rw [if_pos hc] at u11
      obtain ⟨g4, u13, v14⟩ := u11
      have Ig4 : xk_cnt (B + 1) g4 := by rw [u13]; repeat (first | exact Ig3 | refine xk_cnt_k (by decide) ?_ | refine xk_cnt_f (by decide) ?_ | refine xk_cnt_s ?_)
      rw [v14]; exact xk_cnt_le Ig4 (by omega)
    · rw [if_neg hc] at u11
      rw [u11]; exact xk_cnt_le Ig3 (by omega)
  rw [v12]; exact xk_cnt_le Ig5 (by omega)

