def relzM_goOn (g0 : xk_St) (gz : xk_St) : Prop := ∃ (r1 : Int32), relzM_demand g0 r1 ∧ (∃ (g1 : xk_St), g1 = va_up g0 0 (upd (g0 0) 29 ((g0 0 29) + 1)) ∧ (∃ (x1 : Int32), (if (g1 0 28) = 4 then (if r1 = 0 then (x1 = (g1 0 30) + 1) else (x1 = 0)) else (x1 = 0)) ∧ (∃ (g2 : xk_St), g2 = va_up g1 0 (upd (g1 0) 30 x1) ∧ (∃ (x8 : Int32), (if (g2 0 28) = 0 then (∃ (x2 : Int32), (if r1 = 0 then (x2 = 0) else (x2 = 1)) ∧ (x8 = x2)) else (if (g2 0 28) = 1 then (∃ (x3 : Int32), (if (g2 0 29) < 30 then (x3 = 1) else (x3 = 2)) ∧ (x8 = x3)) else (if (g2 0 28) = 2 then (∃ (x4 : Int32), (if (g2 0 29) < 80 then (x4 = 2) else (x4 = 3)) ∧ (x8 = x4)) else (if (g2 0 28) = 3 then (∃ (x5 : Int32), (if (qzM_isProved g2) = 0 then (x5 = 3) else (x5 = 4)) ∧ (x8 = x5)) else (if (g2 0 28) = 4 then (∃ (x6 : Int32), (if x1 < 30 then (x6 = 4) else (x6 = 5)) ∧ (x8 = x6)) else (∃ (x7 : Int32), (if r1 = 0 then (if ((g2 14) 0) = 100 then (if ((g2 14) 1) = 100 then (x7 = 0) else (x7 = 5)) else (x7 = 5)) else (x7 = 3)) ∧ (x8 = x7))))))) ∧ (∃ (g7 : xk_St), (if x8 = (g2 0 28) then (g7 = g2) else (∃ (g3 : xk_St), g3 = va_up g2 0 (upd (g2 0) 28 x8) ∧ (∃ (g4 : xk_St), g4 = va_up g3 0 (upd (g3 0) 29 0) ∧ (∃ (g5 : xk_St), g5 = va_up g4 0 (upd (g4 0) 30 0) ∧ (∃ (g6 : xk_St), relzM_note g5 3 (g5 0 28) g6 ∧ (g7 = g6)))))) ∧ (gz = g7))))))
set_option maxHeartbeats 4000000 in
set_option maxRecDepth 100000 in
theorem kzM_goOn (l : Launch) (G : va_G) (ac : Nat → ClassId) (ad : Nat → Nat) (g0 : xk_St) (B : Nat) (Ig0 : xk_cnt B g0) (hB : B + 2 < 2147483648) : xk_CV l yzM_goOn czM_goOn 3 xk_WS xk_r2 G xk_cls (xk_tys ac) [.ref (ad 0)] (xk_wM ad ac g0) (fun (gz : xk_St) => relzM_goOn g0 gz) (fun gz => xk_wM ad ac gz) := by
  refine xk_ofV (by decide) (Nat.le_of_ble_eq_true rfl) ?_
  intro p e s m args below meth c A Q H locs ls C0 hret hP hD hS hl
  obtain ⟨hx, hb, hml, hts, hown, hK, hA⟩ := C0
  have hl : lv_has ls 3 [(0, .ref (ad 0))] := hl
  have Ig0 : xk_cnt (B + 0) g0 := Ig0
  refine lv_aload_n (pc := 0) hx hb dzM_goOn_0 rfl (lv_at hl 0 rfl) ?_
  refine xk_allVI (As := []) (rest := []) (H0 := s.heap) (pc := 1) hx hb hml hts hown hK hA hP hD hS (kzM_demand l G ac ad g0) vfzM_145 (fun _ => rfl) 0 rfl rfl ⟨rfl, rfl⟩ ⟨Nat.le_of_ble_eq_true rfl, Nat.le_of_ble_eq_true rfl⟩ rfl hl.1 rfl (Nat.le_of_ble_eq_true rfl) ⟨Nat.zero_le _, Nat.zero_le _⟩ dzM_goOn_1 (fun r1 u9 H locs hr1 hP hD hS => ?_)
  refine lv_istore_n (lv' := [(1, .int r1), (0, .ref (ad 0))]) (pc := 4) hx hb dzM_goOn_4 rfl hl (by decide) rfl (fun ls hl => ?_)
  refine lv_aload_n (pc := 5) hx hb dzM_goOn_5 rfl (lv_at hl 1 rfl) ?_
  refine lv_dup (pc := 6) hx hb dzM_goOn_6 rfl ?_
  refine xk_get (pc := 7) hx hb hts hown hK hP ffzM_149 0 rfl rfl dzM_goOn_7 ?_
  refine lv_iconst (v := 1) (pc := 10) hx hb dzM_goOn_10 (by decide) ?_
  refine lv_iadd (pc := 11) hx hb dzM_goOn_11 ?_
  refine xk_putf (pc := 12) hx hb hts hown hK hP hD hS pfzM_149 0 rfl rfl rfl (Nat.le_of_ble_eq_true rfl) dzM_goOn_12 (fun H locs hP hD hS => ?_)
  obtain ⟨g1, eg1⟩ : ∃ z : xk_St, z = va_up g0 0 (upd (g0 0) 29 ((g0 0 29) + 1)) := ⟨_, rfl⟩
  have hP : va_P G xk_cls (xk_wM ad ac g1) H := by rw [eg1]; exact hP
  have hD : va_D A (xk_wM ad ac g1) := by rw [eg1]; exact hD
  have Ig1 : xk_cnt (B + 0) g1 := by rw [eg1]; repeat (first | exact Ig0 | refine xk_cnt_k (by decide) ?_ | refine xk_cnt_f (by decide) ?_ | refine xk_cnt_s ?_)
  refine lv_aload_n (pc := 15) hx hb dzM_goOn_15 rfl (lv_at hl 1 rfl) ?_
  refine xk_get (pc := 16) hx hb hts hown hK hP ffzM_152 0 rfl rfl dzM_goOn_16 ?_
  refine lv_istore_n (lv' := [(2, .int (g1 0 28)), (1, .int r1), (0, .ref (ad 0))]) (pc := 19) hx hb dzM_goOn_19 rfl hl (by decide) rfl (fun ls hl => ?_)
  refine lv_aload_n (pc := 20) hx hb dzM_goOn_20 rfl (lv_at hl 2 rfl) ?_
  refine lv_aload_n (pc := 21) hx hb dzM_goOn_21 rfl (lv_at hl 2 rfl) ?_
  refine xk_get (pc := 22) hx hb hts hown hK hP ffzM_152 0 rfl rfl dzM_goOn_22 ?_
  refine lv_iconst (v := 4) (pc := 25) hx hb dzM_goOn_25 (by decide) ?_
  have K1 : ∀ (x1 : Int32), (if (g1 0 28) = 4 then (if r1 = 0 then (x1 = (g1 0 30) + 1) else (x1 = 0)) else (x1 = 0)) → W p l e xk_r2 s m args below meth c H locs 0 0 Q (F0 m 43 ls [.int x1, .ref (ad 0)]) := by
    intro x1 R1
    refine xk_putf (pc := 43) hx hb hts hown hK hP hD hS pfzM_155 0 rfl rfl rfl (Nat.le_of_ble_eq_true rfl) dzM_goOn_43 (fun H locs hP hD hS => ?_)
    obtain ⟨g2, eg2⟩ : ∃ z : xk_St, z = va_up g1 0 (upd (g1 0) 30 x1) := ⟨_, rfl⟩
    have hP : va_P G xk_cls (xk_wM ad ac g2) H := by rw [eg2]; exact hP
    have hD : va_D A (xk_wM ad ac g2) := by rw [eg2]; exact hD
    have Ig2 : xk_cnt (B + 0) g2 := by rw [eg2]; repeat (first | exact Ig1 | refine xk_cnt_k (by decide) ?_ | refine xk_cnt_f (by decide) ?_ | refine xk_cnt_s ?_)
    refine lv_aload_n (pc := 46) hx hb dzM_goOn_46 rfl (lv_at hl 2 rfl) ?_
    refine xk_get (pc := 47) hx hb hts hown hK hP ffzM_152 0 rfl rfl dzM_goOn_47 ?_
    have K8 : ∀ (x8 : Int32) (H : Heap) (locs : List Loc) (ls : Array Slot), (if (g2 0 28) = 0 then (∃ (x2 : Int32), (if r1 = 0 then (x2 = 0) else (x2 = 1)) ∧ (x8 = x2)) else (if (g2 0 28) = 1 then (∃ (x3 : Int32), (if (g2 0 29) < 30 then (x3 = 1) else (x3 = 2)) ∧ (x8 = x3)) else (if (g2 0 28) = 2 then (∃ (x4 : Int32), (if (g2 0 29) < 80 then (x4 = 2) else (x4 = 3)) ∧ (x8 = x4)) else (if (g2 0 28) = 3 then (∃ (x5 : Int32), (if (qzM_isProved g2) = 0 then (x5 = 3) else (x5 = 4)) ∧ (x8 = x5)) else (if (g2 0 28) = 4 then (∃ (x6 : Int32), (if x1 < 30 then (x6 = 4) else (x6 = 5)) ∧ (x8 = x6)) else (∃ (x7 : Int32), (if r1 = 0 then (if ((g2 14) 0) = 100 then (if ((g2 14) 1) = 100 then (x7 = 0) else (x7 = 5)) else (x7 = 5)) else (x7 = 3)) ∧ (x8 = x7))))))) → (va_P G xk_cls (xk_wM ad ac g2) H) → (va_D A (xk_wM ad ac g2)) → (va_S A s.heap H locs) → (lv_has ls 3 [(2, .int x8), (1, .int r1), (0, .ref (ad 0))]) → W p l e xk_r2 s m args below meth c H locs 0 0 Q (F0 m 203 ls []) := by
      intro x8 H locs ls R8 hP hD hS hl
      refine lv_iload_n (pc := 203) hx hb dzM_goOn_203 rfl (lv_at hl 0 rfl) ?_
      refine lv_aload_n (pc := 204) hx hb dzM_goOn_204 rfl (lv_at hl 2 rfl) ?_
      refine xk_get (pc := 205) hx hb hts hown hK hP ffzM_152 0 rfl rfl dzM_goOn_205 ?_
      have K9 : ∀ (g7 : xk_St) (H : Heap) (locs : List Loc), (if x8 = (g2 0 28) then (g7 = g2) else (∃ (g3 : xk_St), g3 = va_up g2 0 (upd (g2 0) 28 x8) ∧ (∃ (g4 : xk_St), g4 = va_up g3 0 (upd (g3 0) 29 0) ∧ (∃ (g5 : xk_St), g5 = va_up g4 0 (upd (g4 0) 30 0) ∧ (∃ (g6 : xk_St), relzM_note g5 3 (g5 0 28) g6 ∧ (g7 = g6)))))) → (xk_cnt (B + 1) g7) → (va_P G xk_cls (xk_wM ad ac g7) H) → (va_D A (xk_wM ad ac g7)) → (va_S A s.heap H locs) → W p l e xk_r2 s m args below meth c H locs 0 0 Q (F0 m 235 ls []) := by
        intro g7 H locs R9 Ig7 hP hD hS
        exact hret g7 H locs 235 ls hP hS (by unfold relzM_goOn; exact ⟨r1, hr1, ⟨g1, eg1, ⟨x1, R1, ⟨g2, eg2, ⟨x8, R8, ⟨g7, R9, rfl⟩⟩⟩⟩⟩⟩) dzM_goOn_235
      refine lv_icmp_eq (pc := 208) (tgt := 235) hx hb dzM_goOn_208 (by decide) (fun h16 => ?_) (fun h16 => ?_)
      ·
        exact K9 g2 H locs (Eq.mpr (if_pos h16) rfl) (xk_cnt_le Ig2 (by omega)) hP hD hS
      ·
        refine lv_aload_n (pc := 211) hx hb dzM_goOn_211 rfl (lv_at hl 2 rfl) ?_
        refine lv_iload_n (pc := 212) hx hb dzM_goOn_212 rfl (lv_at hl 0 rfl) ?_
        refine xk_putf (pc := 213) hx hb hts hown hK hP hD hS pfzM_152 0 rfl rfl rfl (Nat.le_of_ble_eq_true rfl) dzM_goOn_213 (fun H locs hP hD hS => ?_)
        obtain ⟨g3, eg3⟩ : ∃ z : xk_St, z = va_up g2 0 (upd (g2 0) 28 x8) := ⟨_, rfl⟩
        have hP : va_P G xk_cls (xk_wM ad ac g3) H := by rw [eg3]; exact hP
        have hD : va_D A (xk_wM ad ac g3) := by rw [eg3]; exact hD
        have Ig3 : xk_cnt (B + 0) g3 := by rw [eg3]; repeat (first | exact Ig2 | refine xk_cnt_k (by decide) ?_ | refine xk_cnt_f (by decide) ?_ | refine xk_cnt_s ?_)
        refine lv_aload_n (pc := 216) hx hb dzM_goOn_216 rfl (lv_at hl 2 rfl) ?_
        refine lv_iconst (v := 0) (pc := 217) hx hb dzM_goOn_217 (by decide) ?_
        refine xk_putf (pc := 218) hx hb hts hown hK hP hD hS pfzM_149 0 rfl rfl rfl (Nat.le_of_ble_eq_true rfl) dzM_goOn_218 (fun H locs hP hD hS => ?_)
        obtain ⟨g4, eg4⟩ : ∃ z : xk_St, z = va_up g3 0 (upd (g3 0) 29 0) := ⟨_, rfl⟩
        have hP : va_P G xk_cls (xk_wM ad ac g4) H := by rw [eg4]; exact hP
        have hD : va_D A (xk_wM ad ac g4) := by rw [eg4]; exact hD
        have Ig4 : xk_cnt (B + 0) g4 := by rw [eg4]; repeat (first | exact Ig3 | refine xk_cnt_k (by decide) ?_ | refine xk_cnt_f (by decide) ?_ | refine xk_cnt_s ?_)
        refine lv_aload_n (pc := 221) hx hb dzM_goOn_221 rfl (lv_at hl 2 rfl) ?_
        refine lv_iconst (v := 0) (pc := 222) hx hb dzM_goOn_222 (by decide) ?_
        refine xk_putf (pc := 223) hx hb hts hown hK hP hD hS pfzM_155 0 rfl rfl rfl (Nat.le_of_ble_eq_true rfl) dzM_goOn_223 (fun H locs hP hD hS => ?_)
        obtain ⟨g5, eg5⟩ : ∃ z : xk_St, z = va_up g4 0 (upd (g4 0) 30 0) := ⟨_, rfl⟩
        have hP : va_P G xk_cls (xk_wM ad ac g5) H := by rw [eg5]; exact hP
        have hD : va_D A (xk_wM ad ac g5) := by rw [eg5]; exact hD
        have Ig5 : xk_cnt (B + 0) g5 := by rw [eg5]; repeat (first | exact Ig4 | refine xk_cnt_k (by decide) ?_ | refine xk_cnt_f (by decide) ?_ | refine xk_cnt_s ?_)
        refine lv_aload_n (pc := 226) hx hb dzM_goOn_226 rfl (lv_at hl 2 rfl) ?_
        refine lv_iconst (v := 3) (pc := 227) hx hb dzM_goOn_227 (by decide) ?_
        refine lv_aload_n (pc := 228) hx hb dzM_goOn_228 rfl (lv_at hl 2 rfl) ?_
        refine xk_get (pc := 229) hx hb hts hown hK hP ffzM_152 0 rfl rfl dzM_goOn_229 ?_
        refine xk_allVV (As := [.int 3, .int (g5 0 28)]) (rest := []) (H0 := s.heap) (pc := 232) hx hb hml hts hown hK hA hP hD hS (kzM_note l G ac ad g5 3 (g5 0 28) (B + 0) Ig5 (by omega)) vfzM_106 (fun _ => rfl) 0 rfl rfl ⟨rfl, rfl⟩ ⟨Nat.le_of_ble_eq_true rfl, Nat.le_of_ble_eq_true rfl⟩ rfl hl.1 rfl (Nat.le_of_ble_eq_true rfl) ⟨Nat.zero_le _, Nat.zero_le _⟩ dzM_goOn_232 (fun g6 H locs hg6 hP hD hS => ?_)
        have hP : va_P G xk_cls (xk_wM ad ac g6) H := hP
        have hD : va_D A (xk_wM ad ac g6) := hD
        have Ig6 : xk_cnt (B + 1) g6 := xk_cnt_le (iczM_note (B + 0) _ _ _ _ hg6 Ig5) (by omega)
        exact K9 g6 H locs (Eq.mpr (if_neg h16) ⟨g3, eg3, ⟨g4, eg4, ⟨g5, eg5, ⟨g6, hg6, rfl⟩⟩⟩⟩) (xk_cnt_le Ig6 (by omega)) hP hD hS
    by_cases h3 : (g2 0 28) = 0
    ·
      refine lv_tableIn (pc := 50) (tgt := 84) hx hb dzM_goOn_50 (by rw [h3]; decide) (by rw [h3]; decide) (by rw [h3]; rfl) (by decide) ?_
      refine lv_iload_n (pc := 84) hx hb dzM_goOn_84 rfl (lv_at hl 1 rfl) ?_
      have K2 : ∀ (x2 : Int32), (if r1 = 0 then (x2 = 0) else (x2 = 1)) → (xk_b x2) → W p l e xk_r2 s m args below meth c H locs 0 0 Q (F0 m 93 ls [.int x2]) := by
        intro x2 R2 bx2
        refine lv_istore_n (lv' := [(2, .int x2), (1, .int r1), (0, .ref (ad 0))]) (pc := 93) hx hb dzM_goOn_93 rfl hl (by decide) rfl (fun ls hl => ?_)
        refine lv_goto (tgt := 203) (pc := 94) hx hb dzM_goOn_94 (by decide) ?_
        exact K8 x2 H locs ls (Eq.mpr (if_pos h3) ⟨x2, R2, rfl⟩) hP hD hS (by first | exact hl | exact lv_sub hl [0, 1, 2] rfl)
      refine lv_if_eq (pc := 85) (tgt := 92) hx hb dzM_goOn_85 (by decide) (fun h4 => ?_) (fun h4 => ?_)
      ·
        refine lv_iconst (v := 0) (pc := 92) hx hb dzM_goOn_92 (by decide) ?_
        exact K2 0 (Eq.mpr (if_pos h4) rfl) xk_b0
      ·
        refine lv_iconst (v := 1) (pc := 88) hx hb dzM_goOn_88 (by decide) ?_
        refine lv_goto (tgt := 93) (pc := 89) hx hb dzM_goOn_89 (by decide) ?_
        exact K2 1 (Eq.mpr (if_neg h4) rfl) xk_b1
    ·
      by_cases h5 : (g2 0 28) = 1
      ·
        refine lv_tableIn (pc := 50) (tgt := 97) hx hb dzM_goOn_50 (by rw [h5]; decide) (by rw [h5]; decide) (by rw [h5]; rfl) (by decide) ?_
        refine lv_aload_n (pc := 97) hx hb dzM_goOn_97 rfl (lv_at hl 2 rfl) ?_
        refine xk_get (pc := 98) hx hb hts hown hK hP ffzM_149 0 rfl rfl dzM_goOn_98 ?_
        refine lv_bipush (v := 30) (pc := 101) hx hb dzM_goOn_101 (by decide) ?_
        have K3 : ∀ (x3 : Int32), (if (g2 0 29) < 30 then (x3 = 1) else (x3 = 2)) → (¬ x3 = 0) → W p l e xk_r2 s m args below meth c H locs 0 0 Q (F0 m 111 ls [.int x3]) := by
          intro x3 R3 nx3
          refine lv_istore_n (lv' := [(2, .int x3), (1, .int r1), (0, .ref (ad 0))]) (pc := 111) hx hb dzM_goOn_111 rfl hl (by decide) rfl (fun ls hl => ?_)
          refine lv_goto (tgt := 203) (pc := 112) hx hb dzM_goOn_112 (by decide) ?_
          exact K8 x3 H locs ls (Eq.mpr (if_neg h3) (Eq.mpr (if_pos h5) ⟨x3, R3, rfl⟩)) hP hD hS (by first | exact hl | exact lv_sub hl [0, 1, 2] rfl)
        refine lv_icmp_lt (pc := 103) (tgt := 110) hx hb dzM_goOn_103 (by decide) (fun h6 => ?_) (fun h6 => ?_)
        ·
          refine lv_iconst (v := 1) (pc := 110) hx hb dzM_goOn_110 (by decide) ?_
          exact K3 1 (Eq.mpr (if_pos h6) rfl) (by decide)
        ·
          refine lv_iconst (v := 2) (pc := 106) hx hb dzM_goOn_106 (by decide) ?_
          refine lv_goto (tgt := 111) (pc := 107) hx hb dzM_goOn_107 (by decide) ?_
          exact K3 2 (Eq.mpr (if_neg h6) rfl) (by decide)
      ·
        by_cases h7 : (g2 0 28) = 2
        ·
          refine lv_tableIn (pc := 50) (tgt := 115) hx hb dzM_goOn_50 (by rw [h7]; decide) (by rw [h7]; decide) (by rw [h7]; rfl) (by decide) ?_
          refine lv_aload_n (pc := 115) hx hb dzM_goOn_115 rfl (lv_at hl 2 rfl) ?_
          refine xk_get (pc := 116) hx hb hts hown hK hP ffzM_149 0 rfl rfl dzM_goOn_116 ?_
          refine lv_bipush (v := 80) (pc := 119) hx hb dzM_goOn_119 (by decide) ?_
          have K4 : ∀ (x4 : Int32), (if (g2 0 29) < 80 then (x4 = 2) else (x4 = 3)) → (¬ x4 = 0) → W p l e xk_r2 s m args below meth c H locs 0 0 Q (F0 m 129 ls [.int x4]) := by
            intro x4 R4 nx4
            refine lv_istore_n (lv' := [(2, .int x4), (1, .int r1), (0, .ref (ad 0))]) (pc := 129) hx hb dzM_goOn_129 rfl hl (by decide) rfl (fun ls hl => ?_)
            refine lv_goto (tgt := 203) (pc := 130) hx hb dzM_goOn_130 (by decide) ?_
            exact K8 x4 H locs ls (Eq.mpr (if_neg h3) (Eq.mpr (if_neg h5) (Eq.mpr (if_pos h7) ⟨x4, R4, rfl⟩))) hP hD hS (by first | exact hl | exact lv_sub hl [0, 1, 2] rfl)
          refine lv_icmp_lt (pc := 121) (tgt := 128) hx hb dzM_goOn_121 (by decide) (fun h8 => ?_) (fun h8 => ?_)
          ·
            refine lv_iconst (v := 2) (pc := 128) hx hb dzM_goOn_128 (by decide) ?_
            exact K4 2 (Eq.mpr (if_pos h8) rfl) (by decide)
          ·
            refine lv_iconst (v := 3) (pc := 124) hx hb dzM_goOn_124 (by decide) ?_
            refine lv_goto (tgt := 129) (pc := 125) hx hb dzM_goOn_125 (by decide) ?_
            exact K4 3 (Eq.mpr (if_neg h8) rfl) (by decide)
        ·
          by_cases h9 : (g2 0 28) = 3
          ·
            refine lv_tableIn (pc := 50) (tgt := 133) hx hb dzM_goOn_50 (by rw [h9]; decide) (by rw [h9]; decide) (by rw [h9]; rfl) (by decide) ?_
            refine lv_aload_n (pc := 133) hx hb dzM_goOn_133 rfl (lv_at hl 2 rfl) ?_
            refine xk_allVI (As := []) (rest := []) (H0 := s.heap) (pc := 134) hx hb hml hts hown hK hA hP hD hS (kzM_isProved l G ac ad g2) vfzM_158 (fun _ => rfl) 0 rfl rfl ⟨rfl, rfl⟩ ⟨Nat.le_of_ble_eq_true rfl, Nat.le_of_ble_eq_true rfl⟩ rfl hl.1 rfl (Nat.le_of_ble_eq_true rfl) ⟨Nat.zero_le _, Nat.zero_le _⟩ dzM_goOn_134 (fun r2 u9 H locs e9 hP hD hS => ?_)
            obtain rfl : r2 = qzM_isProved g2 := e9
            have hP : va_P G xk_cls (xk_wM ad ac g2) H := hP
            have hD : va_D A (xk_wM ad ac g2) := hD
            have K5 : ∀ (x5 : Int32), (if (qzM_isProved g2) = 0 then (x5 = 3) else (x5 = 4)) → (¬ x5 = 0) → W p l e xk_r2 s m args below meth c H locs 0 0 Q (F0 m 145 ls [.int x5]) := by
              intro x5 R5 nx5
              refine lv_istore_n (lv' := [(2, .int x5), (1, .int r1), (0, .ref (ad 0))]) (pc := 145) hx hb dzM_goOn_145 rfl hl (by decide) rfl (fun ls hl => ?_)
              refine lv_goto (tgt := 203) (pc := 146) hx hb dzM_goOn_146 (by decide) ?_
              exact K8 x5 H locs ls (Eq.mpr (if_neg h3) (Eq.mpr (if_neg h5) (Eq.mpr (if_neg h7) (Eq.mpr (if_pos h9) ⟨x5, R5, rfl⟩)))) hP hD hS (by first | exact hl | exact lv_sub hl [0, 1, 2] rfl)
            refine lv_if_eq (pc := 137) (tgt := 144) hx hb dzM_goOn_137 (by decide) (fun h10 => ?_) (fun h10 => ?_)
            ·
              refine lv_iconst (v := 3) (pc := 144) hx hb dzM_goOn_144 (by decide) ?_
              exact K5 3 (Eq.mpr (if_pos h10) rfl) (by decide)
            ·
              refine lv_iconst (v := 4) (pc := 140) hx hb dzM_goOn_140 (by decide) ?_
              refine lv_goto (tgt := 145) (pc := 141) hx hb dzM_goOn_141 (by decide) ?_
              exact K5 4 (Eq.mpr (if_neg h10) rfl) (by decide)
          ·
            by_cases h11 : (g2 0 28) = 4
            ·
              refine lv_tableIn (pc := 50) (tgt := 149) hx hb dzM_goOn_50 (by rw [h11]; decide) (by rw [h11]; decide) (by rw [h11]; rfl) (by decide) ?_
              refine lv_aload_n (pc := 149) hx hb dzM_goOn_149 rfl (lv_at hl 2 rfl) ?_
              refine xk_get (pc := 150) hx hb hts hown hK hP ffzM_155 0 rfl rfl dzM_goOn_150 ?_
              refine xk_is (y := x1) (by rw [eg2]; rfl) ?_
              refine lv_bipush (v := 30) (pc := 153) hx hb dzM_goOn_153 (by decide) ?_
              have K6 : ∀ (x6 : Int32), (if x1 < 30 then (x6 = 4) else (x6 = 5)) → (¬ x6 = 0) → W p l e xk_r2 s m args below meth c H locs 0 0 Q (F0 m 163 ls [.int x6]) := by
                intro x6 R6 nx6
                refine lv_istore_n (lv' := [(2, .int x6), (1, .int r1), (0, .ref (ad 0))]) (pc := 163) hx hb dzM_goOn_163 rfl hl (by decide) rfl (fun ls hl => ?_)
                refine lv_goto (tgt := 203) (pc := 164) hx hb dzM_goOn_164 (by decide) ?_
                exact K8 x6 H locs ls (Eq.mpr (if_neg h3) (Eq.mpr (if_neg h5) (Eq.mpr (if_neg h7) (Eq.mpr (if_neg h9) (Eq.mpr (if_pos h11) ⟨x6, R6, rfl⟩))))) hP hD hS (by first | exact hl | exact lv_sub hl [0, 1, 2] rfl)
              refine lv_icmp_lt (pc := 155) (tgt := 162) hx hb dzM_goOn_155 (by decide) (fun h12 => ?_) (fun h12 => ?_)
              ·
                refine lv_iconst (v := 4) (pc := 162) hx hb dzM_goOn_162 (by decide) ?_
                exact K6 4 (Eq.mpr (if_pos h12) rfl) (by decide)
              ·
                refine lv_iconst (v := 5) (pc := 158) hx hb dzM_goOn_158 (by decide) ?_
                refine lv_goto (tgt := 163) (pc := 159) hx hb dzM_goOn_159 (by decide) ?_
                exact K6 5 (Eq.mpr (if_neg h12) rfl) (by decide)
            ·
              refine lv_tableOut (pc := 50) (tgt := 167) hx hb dzM_goOn_50 (xk_out5 h3 h5 h7 h9 h11) (by decide) ?_
              refine lv_iload_n (pc := 167) hx hb dzM_goOn_167 rfl (lv_at hl 1 rfl) ?_
              have K7 : ∀ (x7 : Int32), (if r1 = 0 then (if ((g2 14) 0) = 100 then (if ((g2 14) 1) = 100 then (x7 = 0) else (x7 = 5)) else (x7 = 5)) else (x7 = 3)) → W p l e xk_r2 s m args below meth c H locs 0 0 Q (F0 m 202 ls [.int x7]) := by
                intro x7 R7
                refine lv_istore_n (lv' := [(2, .int x7), (1, .int r1), (0, .ref (ad 0))]) (pc := 202) hx hb dzM_goOn_202 rfl hl (by decide) rfl (fun ls hl => ?_)
                exact K8 x7 H locs ls (Eq.mpr (if_neg h3) (Eq.mpr (if_neg h5) (Eq.mpr (if_neg h7) (Eq.mpr (if_neg h9) (Eq.mpr (if_neg h11) ⟨x7, R7, rfl⟩))))) hP hD hS (by first | exact hl | exact lv_sub hl [0, 1, 2] rfl)
              refine lv_if_eq (pc := 168) (tgt := 175) hx hb dzM_goOn_168 (by decide) (fun h13 => ?_) (fun h13 => ?_)
              ·
                refine lv_aload_n (pc := 175) hx hb dzM_goOn_175 rfl (lv_at hl 2 rfl) ?_
                refine xk_get (pc := 176) hx hb hts hown hK hP ffzM_50 0 rfl rfl dzM_goOn_176 ?_
                refine lv_iconst (v := 0) (pc := 179) hx hb dzM_goOn_179 (by decide) ?_
                refine xk_iald (q0 := 14) (t0 := 0) (j := 0) (pc := 180) hx hb hK hP rfl rfl (pk_in 0 2 (by decide)) (pk_cl 0) dzM_goOn_180 ?_
                refine lv_bipush (v := 100) (pc := 181) hx hb dzM_goOn_181 (by decide) ?_
                refine lv_icmp_ne (pc := 183) (tgt := 201) hx hb dzM_goOn_183 (by decide) (fun h14 => ?_) (fun h14 => ?_)
                ·
                  refine lv_iconst (v := 5) (pc := 201) hx hb dzM_goOn_201 (by decide) ?_
                  exact K7 5 (Eq.mpr (if_pos h13) (Eq.mpr (if_neg h14) rfl))
                ·
                  refine lv_aload_n (pc := 186) hx hb dzM_goOn_186 rfl (lv_at hl 2 rfl) ?_
                  refine xk_get (pc := 187) hx hb hts hown hK hP ffzM_50 0 rfl rfl dzM_goOn_187 ?_
                  refine lv_iconst (v := 1) (pc := 190) hx hb dzM_goOn_190 (by decide) ?_
                  refine xk_iald (q0 := 14) (t0 := 0) (j := 1) (pc := 191) hx hb hK hP rfl rfl (pk_in 1 2 (by decide)) (pk_cl 1) dzM_goOn_191 ?_
                  refine lv_bipush (v := 100) (pc := 192) hx hb dzM_goOn_192 (by decide) ?_
                  refine lv_icmp_ne (pc := 194) (tgt := 201) hx hb dzM_goOn_194 (by decide) (fun h15 => ?_) (fun h15 => ?_)
                  ·
                    refine lv_iconst (v := 5) (pc := 201) hx hb dzM_goOn_201 (by decide) ?_
                    exact K7 5 (Eq.mpr (if_pos h13) (Eq.mpr (if_pos h14) (Eq.mpr (if_neg h15) rfl)))
                  ·
                    refine lv_iconst (v := 0) (pc := 197) hx hb dzM_goOn_197 (by decide) ?_
                    refine lv_goto (tgt := 202) (pc := 198) hx hb dzM_goOn_198 (by decide) ?_
                    exact K7 0 (Eq.mpr (if_pos h13) (Eq.mpr (if_pos h14) (Eq.mpr (if_pos h15) rfl)))
              ·
                refine lv_iconst (v := 3) (pc := 171) hx hb dzM_goOn_171 (by decide) ?_
                refine lv_goto (tgt := 202) (pc := 172) hx hb dzM_goOn_172 (by decide) ?_
                exact K7 3 (Eq.mpr (if_neg h13) rfl)
  refine lv_icmp_ne (pc := 26) (tgt := 42) hx hb dzM_goOn_26 (by decide) (fun h1 => ?_) (fun h1 => ?_)
  ·
    refine lv_iconst (v := 0) (pc := 42) hx hb dzM_goOn_42 (by decide) ?_
    exact K1 0 (Eq.mpr (if_neg h1) rfl)
  ·
    refine lv_iload_n (pc := 29) hx hb dzM_goOn_29 rfl (lv_at hl 1 rfl) ?_
    refine lv_if_ne (pc := 30) (tgt := 42) hx hb dzM_goOn_30 (by decide) (fun h2 => ?_) (fun h2 => ?_)
    ·
      refine lv_iconst (v := 0) (pc := 42) hx hb dzM_goOn_42 (by decide) ?_
      exact K1 0 (Eq.mpr (if_pos h1) (Eq.mpr (if_neg h2) rfl))
    ·
      refine lv_aload_n (pc := 33) hx hb dzM_goOn_33 rfl (lv_at hl 2 rfl) ?_
      refine xk_get (pc := 34) hx hb hts hown hK hP ffzM_155 0 rfl rfl dzM_goOn_34 ?_
      refine lv_iconst (v := 1) (pc := 37) hx hb dzM_goOn_37 (by decide) ?_
      refine lv_iadd (pc := 38) hx hb dzM_goOn_38 ?_
      refine lv_goto (tgt := 43) (pc := 39) hx hb dzM_goOn_39 (by decide) ?_
      exact K1 ((g1 0 30) + 1) (Eq.mpr (if_pos h1) (Eq.mpr (if_pos h2) rfl))
theorem frzM_goOn (g0 : xk_St) (gz : xk_St) : relzM_goOn g0 gz → xk_eqv [1, 2, 3, 4, 5, 6, 7, 8, 9, 10, 11, 12, 13, 14, 15, 16, 17, 18, 19, 20, 21, 22, 23, 24] g0 gz := by
  intro h
  unfold relzM_goOn at h
  have s0 : xk_eqv [1, 2, 3, 4, 5, 6, 7, 8, 9, 10, 11, 12, 13, 14, 15, 16, 17, 18, 19, 20, 21, 22, 23, 24] g0 g0 := xk_eqv_rf
  obtain ⟨r1, u1, v2⟩ := h
  obtain ⟨g1, u3, v4⟩ := v2
  have s5 : xk_eqv [1, 2, 3, 4, 5, 6, 7, 8, 9, 10, 11, 12, 13, 14, 15, 16, 17, 18, 19, 20, 21, 22, 23, 24] g0 g1 := by rw [u3]; repeat (first | exact s0 | refine xk_eqv_up (by decide) ?_)
  obtain ⟨x1, u6, v7⟩ := v4
  obtain ⟨g2, u8, v9⟩ := v7
  have s10 : xk_eqv [1, 2, 3, 4, 5, 6, 7, 8, 9, 10, 11, 12, 13, 14, 15, 16, 17, 18, 19, 20, 21, 22, 23, 24] g0 g2 := by rw [u8]; repeat (first | exact s5 | refine xk_eqv_up (by decide) ?_)
  obtain ⟨x8, u11, v12⟩ := v9
  obtain ⟨g7, u13, v14⟩ := v12
  have s15 : xk_eqv [1, 2, 3, 4, 5, 6, 7, 8, 9, 10, 11, 12, 13, 14, 15, 16, 17, 18, 19, 20, 21, 22, 23, 24] g0 g7 := by
    by_cases hc : x8 = (g2 0 28)
    · rw [if_pos hc] at u13
      rw [u13]; exact s10
    · rw [if_neg hc] at u13
      obtain ⟨g3, u16, v17⟩ := u13
      have s18 : xk_eqv [1, 2, 3, 4, 5, 6, 7, 8, 9, 10, 11, 12, 13, 14, 15, 16, 17, 18, 19, 20, 21, 22, 23, 24] g0 g3 := by rw [u16]; repeat (first | exact s10 | refine xk_eqv_up (by decide) ?_)
      obtain ⟨g4, u19, v20⟩ := v17
      have s21 : xk_eqv [1, 2, 3, 4, 5, 6, 7, 8, 9, 10, 11, 12, 13, 14, 15, 16, 17, 18, 19, 20, 21, 22, 23, 24] g0 g4 := by rw [u19]; repeat (first | exact s18 | refine xk_eqv_up (by decide) ?_)
      obtain ⟨g5, u22, v23⟩ := v20
      have s24 : xk_eqv [1, 2, 3, 4, 5, 6, 7, 8, 9, 10, 11, 12, 13, 14, 15, 16, 17, 18, 19, 20, 21, 22, 23, 24] g0 g5 := by rw [u22]; repeat (first | exact s21 | refine xk_eqv_up (by decide) ?_)
      obtain ⟨g6, u25, v26⟩ := v23
      have s27 : xk_eqv [1, 2, 3, 4, 5, 6, 7, 8, 9, 10, 11, 12, 13, 14, 15, 16, 17, 18, 19, 20, 21, 22, 23, 24] g0 g6 := xk_eqv_tr s24 (xk_eqv_sub (frzM_note _ _ _ _ u25) (by decide))
      rw [v26]; exact s27
  rw [v14]; exact s15
theorem iczM_goOn (B : Nat) (g0 : xk_St) (gz : xk_St) : relzM_goOn g0 gz → xk_cnt B g0 → xk_cnt (B + 1) gz := by
  intro h Ig0
  unfold relzM_goOn at h
  have Ig0 : xk_cnt (B + 0) g0 := Ig0
  obtain ⟨r1, u1, v2⟩ := h
  obtain ⟨g1, u3, v4⟩ := v2
  have Ig1 : xk_cnt (B + 0) g1 := by rw [u3]; repeat (first | exact Ig0 | refine xk_cnt_k (by decide) ?_ | refine xk_cnt_f (by decide) ?_ | refine xk_cnt_s ?_)
  obtain ⟨x1, u5, v6⟩ := v4
  obtain ⟨g2, u7, v8⟩ := v6
  have Ig2 : xk_cnt (B + 0) g2 := by rw [u7]; repeat (first | exact Ig1 | refine xk_cnt_k (by decide) ?_ | refine xk_cnt_f (by decide) ?_ | refine xk_cnt_s ?_)
  obtain ⟨x8, u9, v10⟩ := v8
  obtain ⟨g7, u11, v12⟩ := v10
  have Ig7 : xk_cnt (B + 1) g7 := by
    by_cases hc : x8 = (g2 0 28)
    · rw [if_pos hc] at u11
      rw [u11]; exact xk_cnt_le Ig2 (by omega)
    · rw [if_neg hc] at u11
      obtain ⟨g3, u13, v14⟩ := u11
      have Ig3 : xk_cnt (B + 0) g3 := by rw [u13]; repeat (first | exact Ig2 | refine xk_cnt_k (by decide) ?_ | refine xk_cnt_f (by decide) ?_ | refine xk_cnt_s ?_)
      obtain ⟨g4, u15, v16⟩ := v14
      have Ig4 : xk_cnt (B + 0) g4 := by rw [u15]; repeat (first | exact Ig3 | refine xk_cnt_k (by decide) ?_ | refine xk_cnt_f (by decide) ?_ | refine xk_cnt_s ?_)
      obtain ⟨g5, u17, v18⟩ := v16
      have Ig5 : xk_cnt (B + 0) g5 := by rw [u17]; repeat (first | exact Ig4 | refine xk_cnt_k (by decide) ?_ | refine xk_cnt_f (by decide) ?_ | refine xk_cnt_s ?_)
      obtain ⟨g6, u19, v20⟩ := v18
      have Ig6 : xk_cnt (B + 1) g6 := xk_cnt_le (iczM_note (B + 0) _ _ _ _ u19 Ig5) (by omega)
      rw [v20]; exact xk_cnt_le Ig6 (by omega)
  rw [v12]; exact xk_cnt_le Ig7 (by omega)

def relzM_drive (g0 : xk_St) (gz : xk_St) : Prop := ∃ (x1 : Int32), (if (g0 0 28) = 3 then (x1 = 1) else (if (g0 0 28) = 4 then (x1 = 1) else (x1 = 0))) ∧ (∃ (x2 : Int32), (if (g0 0 28) = 5 then (x2 = 1) else (if (g0 0 28) = 0 then (x2 = 1) else (x2 = 0))) ∧ (∃ (x3 : Int32), (if ((g0 19) 0) = 0 then (if x1 = 0 then (if x2 = 0 then (x3 = 0) else (if ((g0 14) 0) = 100 then (x3 = 0) else (x3 = 1))) else (if ((g0 14) 0) = 0 then (if x2 = 0 then (x3 = 0) else (if ((g0 14) 0) = 100 then (x3 = 0) else (x3 = 1))) else (x3 = (-1)))) else (x3 = 0)) ∧ (∃ (g1 : xk_St), g1 = va_up g0 16 (upd (g0 16) 0 x3) ∧ (∃ (x4 : Int32), (if (g1 0 28) = 3 then (x4 = 1) else (if (g1 0 28) = 4 then (x4 = 1) else (x4 = 0))) ∧ (∃ (x5 : Int32), (if (g1 0 28) = 5 then (x5 = 1) else (if (g1 0 28) = 0 then (x5 = 1) else (x5 = 0))) ∧ (∃ (x6 : Int32), (if ((g1 19) 1) = 0 then (if x4 = 0 then (if x5 = 0 then (x6 = 0) else (if ((g1 14) 1) = 100 then (x6 = 0) else (x6 = 1))) else (if ((g1 14) 1) = 0 then (if x5 = 0 then (x6 = 0) else (if ((g1 14) 1) = 100 then (x6 = 0) else (x6 = 1))) else (x6 = (-1)))) else (x6 = 0)) ∧ (∃ (g2 : xk_St), g2 = va_up g1 16 (upd (g1 16) 1 x6) ∧ (∃ (x7 : Int32), (if (g2 0 28) = 1 then (x7 = 1) else (x7 = 0)) ∧ (∃ (g3 : xk_St), g3 = va_up g2 21 (upd (g2 21) 0 x7) ∧ (∃ (x8 : Int32), (if (g3 0 28) < 2 then (x8 = 0) else (if (((g3 0 27) / 5) - ((g3 0 27) / 5) / 2 * 2) = 0 then (x8 = 1) else (x8 = 0))) ∧ (∃ (g4 : xk_St), g4 = va_up g3 21 (upd (g3 21) 1 x8) ∧ (∃ (x9 : Int32), (if (g4 0 28) < 2 then (x9 = 0) else (if (((g4 0 27) / 5) - ((g4 0 27) / 5) / 2 * 2) = 0 then (x9 = 0) else (x9 = 1))) ∧ (∃ (g5 : xk_St), g5 = va_up g4 21 (upd (g4 21) 2 x9) ∧ (∃ (x10 : Int32), (if (g5 0 28) = 1 then (x10 = 1) else (if (g5 0 28) = 2 then (x10 = 1) else (if (g5 0 28) = 3 then (if (g5 0 24) = 0 then (x10 = 1) else (x10 = 0)) else (x10 = 0)))) ∧ (∃ (x12 : Int32), (if x10 = 0 then (x12 = 0) else (∃ (x11 : Int32), (if (g5 0 24) = 0 then (x11 = 5) else (x11 = 10)) ∧ (if (((g5 0 27) / x11) - ((g5 0 27) / x11) / 2 * 2) = 0 then (x12 = 1) else (x12 = 0)))) ∧ (∃ (g6 : xk_St), g6 = va_up g5 0 (upd (g5 0) 25 x12) ∧ (gz = g6)))))))))))))))))
set_option maxHeartbeats 4000000 in
set_option maxRecDepth 100000 in
theorem kzM_drive (l : Launch) (G : va_G) (ac : Nat → ClassId) (ad : Nat → Nat) (g0 : xk_St) (B : Nat) (Ig0 : xk_cnt B g0) (hB : B + 1 < 2147483648) : xk_CV l yzM_drive czM_drive 4 xk_WS xk_r0 G xk_cls (xk_tys ac) [.ref (ad 0)] (xk_wM ad ac g0) (fun (gz : xk_St) => relzM_drive g0 gz) (fun gz => xk_wM ad ac gz) := by
  refine xk_ofV (by decide) (Nat.le_of_ble_eq_true rfl) ?_
  intro p e s m args below meth c A Q H locs ls C0 hret hP hD hS hl
  obtain ⟨hx, hb, hml, hts, hown, hK, hA⟩ := C0
  have hl : lv_has ls 4 [(0, .ref (ad 0))] := hl
  have Ig0 : xk_cnt (B + 0) g0 := Ig0
  refine lv_iconst (v := 0) (pc := 0) hx hb dzM_drive_0 (by decide) ?_
  refine lv_istore_n (lv' := [(1, .int 0), (0, .ref (ad 0))]) (pc := 1) hx hb dzM_drive_1 rfl hl (by decide) rfl (fun ls hl => ?_)
  refine lv_iload_n (pc := 2) hx hb dzM_drive_2 rfl (lv_at hl 0 rfl) ?_
  refine lv_iconst (v := 2) (pc := 3) hx hb dzM_drive_3 (by decide) ?_
  refine lv_icmp_ge (pc := 4) (tgt := 112) hx hb dzM_drive_4 (by decide) (fun hq9 => absurd hq9 (by decide)) (fun _ => ?_)
  refine lv_aload_n (pc := 7) hx hb dzM_drive_7 rfl (lv_at hl 1 rfl) ?_
  refine xk_get (pc := 8) hx hb hts hown hK hP ffzM_152 0 rfl rfl dzM_drive_8 ?_
  refine lv_iconst (v := 3) (pc := 11) hx hb dzM_drive_11 (by decide) ?_
  have K1 : ∀ (x1 : Int32), (if (g0 0 28) = 3 then (x1 = 1) else (if (g0 0 28) = 4 then (x1 = 1) else (x1 = 0))) → (xk_b x1) → W p l e xk_r0 s m args below meth c H locs 0 0 Q (F0 m 28 ls [.int x1]) := by
    intro x1 R1 bx1
    refine lv_istore_n (lv' := [(2, .int x1), (1, .int 0), (0, .ref (ad 0))]) (pc := 28) hx hb dzM_drive_28 rfl hl (by decide) rfl (fun ls hl => ?_)
    refine lv_aload_n (pc := 29) hx hb dzM_drive_29 rfl (lv_at hl 2 rfl) ?_
    refine xk_get (pc := 30) hx hb hts hown hK hP ffzM_152 0 rfl rfl dzM_drive_30 ?_
    refine lv_iconst (v := 5) (pc := 33) hx hb dzM_drive_33 (by decide) ?_
    have K2 : ∀ (x2 : Int32), (if (g0 0 28) = 5 then (x2 = 1) else (if (g0 0 28) = 0 then (x2 = 1) else (x2 = 0))) → (xk_b x2) → W p l e xk_r0 s m args below meth c H locs 0 0 Q (F0 m 49 ls [.int x2]) := by
      intro x2 R2 bx2
      refine lv_istore_n (lv' := [(3, .int x2), (2, .int x1), (1, .int 0), (0, .ref (ad 0))]) (pc := 49) hx hb dzM_drive_49 rfl hl (by decide) rfl (fun ls hl => ?_)
      refine lv_aload_n (pc := 50) hx hb dzM_drive_50 rfl (lv_at hl 3 rfl) ?_
      refine xk_get (pc := 51) hx hb hts hown hK hP ffzM_56 0 rfl rfl dzM_drive_51 ?_
      refine lv_iload_n (pc := 54) hx hb dzM_drive_54 rfl (lv_at hl 2 rfl) ?_
      refine lv_aload_n (pc := 55) hx hb dzM_drive_55 rfl (lv_at hl 3 rfl) ?_
      refine xk_get (pc := 56) hx hb hts hown hK hP ffzM_65 0 rfl rfl dzM_drive_56 ?_
      refine lv_iload_n (pc := 59) hx hb dzM_drive_59 rfl (lv_at hl 2 rfl) ?_
      refine xk_zald (q0 := 19) (t0 := 1) (j := 0) (pc := 60) hx hb hK hP rfl rfl (pk_in 0 2 (by decide)) (pk_cl 0) dzM_drive_60 ?_
      have K3 : ∀ (x3 : Int32), (if ((g0 19) 0) = 0 then (if x1 = 0 then (if x2 = 0 then (x3 = 0) else (if ((g0 14) 0) = 100 then (x3 = 0) else (x3 = 1))) else (if ((g0 14) 0) = 0 then (if x2 = 0 then (x3 = 0) else (if ((g0 14) 0) = 100 then (x3 = 0) else (x3 = 1))) else (x3 = (-1)))) else (x3 = 0)) → W p l e xk_r0 s m args below meth c H locs 0 0 Q (F0 m 105 ls [.int x3, .int 0, .ref (ad 16)]) := by
        intro x3 R3
        refine xk_iast (q0 := 16) (t0 := 0) (j := 0) (pc := 105) hx hb hK hP hD hS rfl rfl (pk_in 0 2 (by decide)) (pk_cl 0) dzM_drive_105 (fun H locs hP hD hS => ?_)
        obtain ⟨g1, eg1⟩ : ∃ z : xk_St, z = va_up g0 16 (upd (g0 16) 0 x3) := ⟨_, rfl⟩
        have hP : va_P G xk_cls (xk_wM ad ac g1) H := by rw [eg1]; exact hP
        have hD : va_D A (xk_wM ad ac g1) := by rw [eg1]; exact hD
        have Ig1 : xk_cnt (B + 0) g1 := by rw [eg1]; repeat (first | exact Ig0 | refine xk_cnt_k (by decide) ?_ | refine xk_cnt_f (by decide) ?_ | refine xk_cnt_s ?_)
        refine lv_iinc (k := 2) (x := 0) (v := 1) (lv' := [(1, .int 1), (3, .int x2), (2, .int x1), (0, .ref (ad 0))]) (pc := 106) hx hb dzM_drive_106 hl rfl (by decide) (by decide) rfl (fun ls hl => ?_)
        refine lv_goto (tgt := 2) (pc := 109) hx hb dzM_drive_109 (by decide) ?_
        refine lv_iload_n (pc := 2) hx hb dzM_drive_2 rfl (lv_at hl 0 rfl) ?_
        refine lv_iconst (v := 2) (pc := 3) hx hb dzM_drive_3 (by decide) ?_
        refine lv_icmp_ge (pc := 4) (tgt := 112) hx hb dzM_drive_4 (by decide) (fun hq9 => absurd hq9 (by decide)) (fun _ => ?_)
        refine lv_aload_n (pc := 7) hx hb dzM_drive_7 rfl (lv_at hl 3 rfl) ?_
        refine xk_get (pc := 8) hx hb hts hown hK hP ffzM_152 0 rfl rfl dzM_drive_8 ?_
        refine lv_iconst (v := 3) (pc := 11) hx hb dzM_drive_11 (by decide) ?_
        have K4 : ∀ (x4 : Int32), (if (g1 0 28) = 3 then (x4 = 1) else (if (g1 0 28) = 4 then (x4 = 1) else (x4 = 0))) → (xk_b x4) → W p l e xk_r0 s m args below meth c H locs 0 0 Q (F0 m 28 ls [.int x4]) := by
          intro x4 R4 bx4
          refine lv_istore_n (lv' := [(2, .int x4), (1, .int 1), (3, .int x2), (0, .ref (ad 0))]) (pc := 28) hx hb dzM_drive_28 rfl hl (by decide) rfl (fun ls hl => ?_)
          refine lv_aload_n (pc := 29) hx hb dzM_drive_29 rfl (lv_at hl 3 rfl) ?_
          refine xk_get (pc := 30) hx hb hts hown hK hP ffzM_152 0 rfl rfl dzM_drive_30 ?_
          refine lv_iconst (v := 5) (pc := 33) hx hb dzM_drive_33 (by decide) ?_
          have K5 : ∀ (x5 : Int32), (if (g1 0 28) = 5 then (x5 = 1) else (if (g1 0 28) = 0 then (x5 = 1) else (x5 = 0))) → (xk_b x5) → W p l e xk_r0 s m args below meth c H locs 0 0 Q (F0 m 49 ls [.int x5]) := by
            intro x5 R5 bx5
            refine lv_istore_n (lv' := [(3, .int x5), (2, .int x4), (1, .int 1), (0, .ref (ad 0))]) (pc := 49) hx hb dzM_drive_49 rfl hl (by decide) rfl (fun ls hl => ?_)
            refine lv_aload_n (pc := 50) hx hb dzM_drive_50 rfl (lv_at hl 3 rfl) ?_
            refine xk_get (pc := 51) hx hb hts hown hK hP ffzM_56 0 rfl rfl dzM_drive_51 ?_
            refine lv_iload_n (pc := 54) hx hb dzM_drive_54 rfl (lv_at hl 2 rfl) ?_
            refine lv_aload_n (pc := 55) hx hb dzM_drive_55 rfl (lv_at hl 3 rfl) ?_
            refine xk_get (pc := 56) hx hb hts hown hK hP ffzM_65 0 rfl rfl dzM_drive_56 ?_
            refine lv_iload_n (pc := 59) hx hb dzM_drive_59 rfl (lv_at hl 2 rfl) ?_
            refine xk_zald (q0 := 19) (t0 := 1) (j := 1) (pc := 60) hx hb hK hP rfl rfl (pk_in 1 2 (by decide)) (pk_cl 1) dzM_drive_60 ?_
            have K6 : ∀ (x6 : Int32), (if ((g1 19) 1) = 0 then (if x4 = 0 then (if x5 = 0 then (x6 = 0) else (if ((g1 14) 1) = 100 then (x6 = 0) else (x6 = 1))) else (if ((g1 14) 1) = 0 then (if x5 = 0 then (x6 = 0) else (if ((g1 14) 1) = 100 then (x6 = 0) else (x6 = 1))) else (x6 = (-1)))) else (x6 = 0)) → W p l e xk_r0 s m args below meth c H locs 0 0 Q (F0 m 105 ls [.int x6, .int 1, .ref (ad 16)]) := by
              intro x6 R6
              refine xk_iast (q0 := 16) (t0 := 0) (j := 1) (pc := 105) hx hb hK hP hD hS rfl rfl (pk_in 1 2 (by decide)) (pk_cl 1) dzM_drive_105 (fun H locs hP hD hS => ?_)
              obtain ⟨g2, eg2⟩ : ∃ z : xk_St, z = va_up g1 16 (upd (g1 16) 1 x6) := ⟨_, rfl⟩
              have hP : va_P G xk_cls (xk_wM ad ac g2) H := by rw [eg2]; exact hP
              have hD : va_D A (xk_wM ad ac g2) := by rw [eg2]; exact hD
              have Ig2 : xk_cnt (B + 0) g2 := by rw [eg2]; repeat (first | exact Ig1 | refine xk_cnt_k (by decide) ?_ | refine xk_cnt_f (by decide) ?_ | refine xk_cnt_s ?_)
              refine lv_iinc (k := 2) (x := 1) (v := 2) (lv' := [(1, .int 2), (3, .int x5), (2, .int x4), (0, .ref (ad 0))]) (pc := 106) hx hb dzM_drive_106 hl rfl (by decide) (by decide) rfl (fun ls hl => ?_)
              refine lv_goto (tgt := 2) (pc := 109) hx hb dzM_drive_109 (by decide) ?_
              refine lv_iload_n (pc := 2) hx hb dzM_drive_2 rfl (lv_at hl 0 rfl) ?_
              refine lv_iconst (v := 2) (pc := 3) hx hb dzM_drive_3 (by decide) ?_
              refine lv_icmp_ge (pc := 4) (tgt := 112) hx hb dzM_drive_4 (by decide) (fun _ => ?_) (fun hq9 => absurd (by decide) hq9)
              refine lv_aload_n (pc := 112) hx hb dzM_drive_112 rfl (lv_at hl 3 rfl) ?_
              refine xk_get (pc := 113) hx hb hts hown hK hP ffzM_71 0 rfl rfl dzM_drive_113 ?_
              refine lv_iconst (v := 0) (pc := 116) hx hb dzM_drive_116 (by decide) ?_
              refine lv_aload_n (pc := 117) hx hb dzM_drive_117 rfl (lv_at hl 3 rfl) ?_
              refine xk_get (pc := 118) hx hb hts hown hK hP ffzM_152 0 rfl rfl dzM_drive_118 ?_
              refine lv_iconst (v := 1) (pc := 121) hx hb dzM_drive_121 (by decide) ?_
              have K7 : ∀ (x7 : Int32), (if (g2 0 28) = 1 then (x7 = 1) else (x7 = 0)) → (xk_b x7) → W p l e xk_r0 s m args below meth c H locs 0 0 Q (F0 m 130 ls [.int x7, .int 0, .ref (ad 21)]) := by
                intro x7 R7 bx7
                refine xk_zast (q0 := 21) (t0 := 1) (j := 0) (pc := 130) hx hb hK hP hD hS rfl rfl (pk_in 0 3 (by decide)) (pk_cl 0) bx7 dzM_drive_130 (fun H locs hP hD hS => ?_)
                obtain ⟨g3, eg3⟩ : ∃ z : xk_St, z = va_up g2 21 (upd (g2 21) 0 x7) := ⟨_, rfl⟩
                have hP : va_P G xk_cls (xk_wM ad ac g3) H := by rw [eg3]; exact hP
                have hD : va_D A (xk_wM ad ac g3) := by rw [eg3]; exact hD
                have Ig3 : xk_cnt (B + 0) g3 := by rw [eg3]; repeat (first | exact Ig2 | refine xk_cnt_k (by decide) ?_ | refine xk_cnt_f (by decide) ?_ | refine xk_cnt_s ?_)
                refine lv_aload_n (pc := 131) hx hb dzM_drive_131 rfl (lv_at hl 3 rfl) ?_
                refine xk_get (pc := 132) hx hb hts hown hK hP ffzM_71 0 rfl rfl dzM_drive_132 ?_
                refine lv_iconst (v := 1) (pc := 135) hx hb dzM_drive_135 (by decide) ?_
                refine lv_aload_n (pc := 136) hx hb dzM_drive_136 rfl (lv_at hl 3 rfl) ?_
                refine xk_get (pc := 137) hx hb hts hown hK hP ffzM_152 0 rfl rfl dzM_drive_137 ?_
                refine lv_iconst (v := 2) (pc := 140) hx hb dzM_drive_140 (by decide) ?_
                have K8 : ∀ (x8 : Int32), (if (g3 0 28) < 2 then (x8 = 0) else (if (((g3 0 27) / 5) - ((g3 0 27) / 5) / 2 * 2) = 0 then (x8 = 1) else (x8 = 0))) → (xk_b x8) → W p l e xk_r0 s m args below meth c H locs 0 0 Q (F0 m 160 ls [.int x8, .int 1, .ref (ad 21)]) := by
                  intro x8 R8 bx8
                  refine xk_zast (q0 := 21) (t0 := 1) (j := 1) (pc := 160) hx hb hK hP hD hS rfl rfl (pk_in 1 3 (by decide)) (pk_cl 1) bx8 dzM_drive_160 (fun H locs hP hD hS => ?_)
                  obtain ⟨g4, eg4⟩ : ∃ z : xk_St, z = va_up g3 21 (upd (g3 21) 1 x8) := ⟨_, rfl⟩
                  have hP : va_P G xk_cls (xk_wM ad ac g4) H := by rw [eg4]; exact hP
                  have hD : va_D A (xk_wM ad ac g4) := by rw [eg4]; exact hD
                  have Ig4 : xk_cnt (B + 0) g4 := by rw [eg4]; repeat (first | exact Ig3 | refine xk_cnt_k (by decide) ?_ | refine xk_cnt_f (by decide) ?_ | refine xk_cnt_s ?_)
                  refine lv_aload_n (pc := 161) hx hb dzM_drive_161 rfl (lv_at hl 3 rfl) ?_
                  refine xk_get (pc := 162) hx hb hts hown hK hP ffzM_71 0 rfl rfl dzM_drive_162 ?_
                  refine lv_iconst (v := 2) (pc := 165) hx hb dzM_drive_165 (by decide) ?_
                  refine lv_aload_n (pc := 166) hx hb dzM_drive_166 rfl (lv_at hl 3 rfl) ?_
                  refine xk_get (pc := 167) hx hb hts hown hK hP ffzM_152 0 rfl rfl dzM_drive_167 ?_
                  refine lv_iconst (v := 2) (pc := 170) hx hb dzM_drive_170 (by decide) ?_
                  have K9 : ∀ (x9 : Int32), (if (g4 0 28) < 2 then (x9 = 0) else (if (((g4 0 27) / 5) - ((g4 0 27) / 5) / 2 * 2) = 0 then (x9 = 0) else (x9 = 1))) → (xk_b x9) → W p l e xk_r0 s m args below meth c H locs 0 0 Q (F0 m 190 ls [.int x9, .int 2, .ref (ad 21)]) := by
                    intro x9 R9 bx9
                    refine xk_zast (q0 := 21) (t0 := 1) (j := 2) (pc := 190) hx hb hK hP hD hS rfl rfl (pk_in 2 3 (by decide)) (pk_cl 2) bx9 dzM_drive_190 (fun H locs hP hD hS => ?_)
                    obtain ⟨g5, eg5⟩ : ∃ z : xk_St, z = va_up g4 21 (upd (g4 21) 2 x9) := ⟨_, rfl⟩
                    have hP : va_P G xk_cls (xk_wM ad ac g5) H := by rw [eg5]; exact hP
                    have hD : va_D A (xk_wM ad ac g5) := by rw [eg5]; exact hD
                    have Ig5 : xk_cnt (B + 0) g5 := by rw [eg5]; repeat (first | exact Ig4 | refine xk_cnt_k (by decide) ?_ | refine xk_cnt_f (by decide) ?_ | refine xk_cnt_s ?_)
                    refine lv_aload_n (pc := 191) hx hb dzM_drive_191 rfl (lv_at hl 3 rfl) ?_
                    refine xk_get (pc := 192) hx hb hts hown hK hP ffzM_152 0 rfl rfl dzM_drive_192 ?_
                    refine lv_iconst (v := 1) (pc := 195) hx hb dzM_drive_195 (by decide) ?_
                    have K10 : ∀ (x10 : Int32), (if (g5 0 28) = 1 then (x10 = 1) else (if (g5 0 28) = 2 then (x10 = 1) else (if (g5 0 28) = 3 then (if (g5 0 24) = 0 then (x10 = 1) else (x10 = 0)) else (x10 = 0)))) → (xk_b x10) → W p l e xk_r0 s m args below meth c H locs 0 0 Q (F0 m 227 ls [.int x10]) := by
                      intro x10 R10 bx10
                      refine lv_istore_n (lv' := [(1, .int x10), (3, .int x5), (2, .int x4), (0, .ref (ad 0))]) (pc := 227) hx hb dzM_drive_227 rfl hl (by decide) rfl (fun ls hl => ?_)
                      refine lv_aload_n (pc := 228) hx hb dzM_drive_228 rfl (lv_at hl 3 rfl) ?_
                      refine lv_iload_n (pc := 229) hx hb dzM_drive_229 rfl (lv_at hl 0 rfl) ?_
                      have K12 : ∀ (x12 : Int32), (if x10 = 0 then (x12 = 0) else (∃ (x11 : Int32), (if (g5 0 24) = 0 then (x11 = 5) else (x11 = 10)) ∧ (if (((g5 0 27) / x11) - ((g5 0 27) / x11) / 2 * 2) = 0 then (x12 = 1) else (x12 = 0)))) → (xk_b x12) → W p l e xk_r0 s m args below meth c H locs 0 0 Q (F0 m 261 ls [.int x12, .ref (ad 0)]) := by
                        intro x12 R12 bx12
                        refine xk_putf (pc := 261) hx hb hts hown hK hP hD hS pfzM_161 0 rfl (xk_bn bx12) (xk_bf bx12) (Nat.le_of_ble_eq_true rfl) dzM_drive_261 (fun H locs hP hD hS => ?_)
                        obtain ⟨g6, eg6⟩ : ∃ z : xk_St, z = va_up g5 0 (upd (g5 0) 25 x12) := ⟨_, rfl⟩
                        have hP : va_P G xk_cls (xk_wM ad ac g6) H := by rw [eg6]; exact hP
                        have hD : va_D A (xk_wM ad ac g6) := by rw [eg6]; exact hD
                        have Ig6 : xk_cnt (B + 0) g6 := by rw [eg6]; repeat (first | exact Ig5 | refine xk_cnt_k (by decide) ?_ | refine xk_cnt_f (by decide) ?_ | refine xk_cnt_s ?_)
                        exact hret g6 H locs 264 ls hP hS (by unfold relzM_drive; exact ⟨x1, R1, ⟨x2, R2, ⟨x3, R3, ⟨g1, eg1, ⟨x4, R4, ⟨x5, R5, ⟨x6, R6, ⟨g2, eg2, ⟨x7, R7, ⟨g3, eg3, ⟨x8, R8, ⟨g4, eg4, ⟨x9, R9, ⟨g5, eg5, ⟨x10, R10, ⟨x12, R12, ⟨g6, eg6, rfl⟩⟩⟩⟩⟩⟩⟩⟩⟩⟩⟩⟩⟩⟩⟩⟩⟩) dzM_drive_264
                      refine lv_if_eq (pc := 230) (tgt := 260) hx hb dzM_drive_230 (by decide) (fun h32 => ?_) (fun h32 => ?_)
                      ·
                        refine lv_iconst (v := 0) (pc := 260) hx hb dzM_drive_260 (by decide) ?_
                        exact K12 0 (Eq.mpr (if_pos h32) rfl) xk_b0
                      ·
                        refine lv_aload_n (pc := 233) hx hb dzM_drive_233 rfl (lv_at hl 3 rfl) ?_
                        refine xk_get (pc := 234) hx hb hts hown hK hP ffzM_103 0 rfl rfl dzM_drive_234 ?_
                        refine lv_aload_n (pc := 237) hx hb dzM_drive_237 rfl (lv_at hl 3 rfl) ?_
                        refine xk_get (pc := 238) hx hb hts hown hK hP ffzM_122 0 rfl rfl dzM_drive_238 ?_
                        have K11 : ∀ (x11 : Int32), (if (g5 0 24) = 0 then (x11 = 5) else (x11 = 10)) → (¬ x11 = 0) → W p l e xk_r0 s m args below meth c H locs 0 0 Q (F0 m 250 ls [.int x11, .int (g5 0 27), .ref (ad 0)]) := by
                          intro x11 R11 nx11
                          refine lv_idiv (pc := 250) hx hb dzM_drive_250 nx11 ?_
                          refine lv_iconst (v := 2) (pc := 251) hx hb dzM_drive_251 (by decide) ?_
                          refine lv_irem (pc := 252) hx hb dzM_drive_252 (by decide) ?_
                          refine lv_if_ne (pc := 253) (tgt := 260) hx hb dzM_drive_253 (by decide) (fun h34 => ?_) (fun h34 => ?_)
                          ·
                            refine lv_iconst (v := 0) (pc := 260) hx hb dzM_drive_260 (by decide) ?_
                            exact K12 0 (Eq.mpr (if_neg h32) ⟨x11, R11, (Eq.mpr (if_neg h34) rfl)⟩) xk_b0
                          ·
                            refine lv_iconst (v := 1) (pc := 256) hx hb dzM_drive_256 (by decide) ?_
                            refine lv_goto (tgt := 261) (pc := 257) hx hb dzM_drive_257 (by decide) ?_
                            exact K12 1 (Eq.mpr (if_neg h32) ⟨x11, R11, (Eq.mpr (if_pos h34) rfl)⟩) xk_b1
                        refine lv_if_eq (pc := 241) (tgt := 249) hx hb dzM_drive_241 (by decide) (fun h33 => ?_) (fun h33 => ?_)
                        ·
                          refine lv_iconst (v := 5) (pc := 249) hx hb dzM_drive_249 (by decide) ?_
                          exact K11 5 (Eq.mpr (if_pos h33) rfl) (by decide)
                        ·
                          refine lv_bipush (v := 10) (pc := 244) hx hb dzM_drive_244 (by decide) ?_
                          refine lv_goto (tgt := 250) (pc := 246) hx hb dzM_drive_246 (by decide) ?_
                          exact K11 10 (Eq.mpr (if_neg h33) rfl) (by decide)
                    refine lv_icmp_eq (pc := 196) (tgt := 222) hx hb dzM_drive_196 (by decide) (fun h28 => ?_) (fun h28 => ?_)
                    ·
                      refine lv_iconst (v := 1) (pc := 222) hx hb dzM_drive_222 (by decide) ?_
                      refine lv_goto (tgt := 227) (pc := 223) hx hb dzM_drive_223 (by decide) ?_
                      exact K10 1 (Eq.mpr (if_pos h28) rfl) xk_b1
                    ·
                      refine lv_aload_n (pc := 199) hx hb dzM_drive_199 rfl (lv_at hl 3 rfl) ?_
                      refine xk_get (pc := 200) hx hb hts hown hK hP ffzM_152 0 rfl rfl dzM_drive_200 ?_
                      refine lv_iconst (v := 2) (pc := 203) hx hb dzM_drive_203 (by decide) ?_
                      refine lv_icmp_eq (pc := 204) (tgt := 222) hx hb dzM_drive_204 (by decide) (fun h29 => ?_) (fun h29 => ?_)
                      ·
                        refine lv_iconst (v := 1) (pc := 222) hx hb dzM_drive_222 (by decide) ?_
                        refine lv_goto (tgt := 227) (pc := 223) hx hb dzM_drive_223 (by decide) ?_
                        exact K10 1 (Eq.mpr (if_neg h28) (Eq.mpr (if_pos h29) rfl)) xk_b1
                      ·
                        refine lv_aload_n (pc := 207) hx hb dzM_drive_207 rfl (lv_at hl 3 rfl) ?_
                        refine xk_get (pc := 208) hx hb hts hown hK hP ffzM_152 0 rfl rfl dzM_drive_208 ?_
                        refine lv_iconst (v := 3) (pc := 211) hx hb dzM_drive_211 (by decide) ?_
                        refine lv_icmp_ne (pc := 212) (tgt := 226) hx hb dzM_drive_212 (by decide) (fun h30 => ?_) (fun h30 => ?_)
                        ·
                          refine lv_iconst (v := 0) (pc := 226) hx hb dzM_drive_226 (by decide) ?_
                          exact K10 0 (Eq.mpr (if_neg h28) (Eq.mpr (if_neg h29) (Eq.mpr (if_neg h30) rfl))) xk_b0
                        ·
                          refine lv_aload_n (pc := 215) hx hb dzM_drive_215 rfl (lv_at hl 3 rfl) ?_
                          refine xk_get (pc := 216) hx hb hts hown hK hP ffzM_122 0 rfl rfl dzM_drive_216 ?_
                          refine lv_if_ne (pc := 219) (tgt := 226) hx hb dzM_drive_219 (by decide) (fun h31 => ?_) (fun h31 => ?_)
                          ·
                            refine lv_iconst (v := 0) (pc := 226) hx hb dzM_drive_226 (by decide) ?_
                            exact K10 0 (Eq.mpr (if_neg h28) (Eq.mpr (if_neg h29) (Eq.mpr (if_pos h30) (Eq.mpr (if_neg h31) rfl)))) xk_b0
                          ·
                            refine lv_iconst (v := 1) (pc := 222) hx hb dzM_drive_222 (by decide) ?_
                            refine lv_goto (tgt := 227) (pc := 223) hx hb dzM_drive_223 (by decide) ?_
                            exact K10 1 (Eq.mpr (if_neg h28) (Eq.mpr (if_neg h29) (Eq.mpr (if_pos h30) (Eq.mpr (if_pos h31) rfl)))) xk_b1
                  refine lv_icmp_lt (pc := 171) (tgt := 189) hx hb dzM_drive_171 (by decide) (fun h26 => ?_) (fun h26 => ?_)
                  ·
                    refine lv_iconst (v := 0) (pc := 189) hx hb dzM_drive_189 (by decide) ?_
                    exact K9 0 (Eq.mpr (if_pos h26) rfl) xk_b0
                  ·
                    refine lv_aload_n (pc := 174) hx hb dzM_drive_174 rfl (lv_at hl 3 rfl) ?_
                    refine xk_get (pc := 175) hx hb hts hown hK hP ffzM_103 0 rfl rfl dzM_drive_175 ?_
                    refine lv_iconst (v := 5) (pc := 178) hx hb dzM_drive_178 (by decide) ?_
                    refine lv_idiv (pc := 179) hx hb dzM_drive_179 (by decide) ?_
                    refine lv_iconst (v := 2) (pc := 180) hx hb dzM_drive_180 (by decide) ?_
                    refine lv_irem (pc := 181) hx hb dzM_drive_181 (by decide) ?_
                    refine lv_if_eq (pc := 182) (tgt := 189) hx hb dzM_drive_182 (by decide) (fun h27 => ?_) (fun h27 => ?_)
                    ·
                      refine lv_iconst (v := 0) (pc := 189) hx hb dzM_drive_189 (by decide) ?_
                      exact K9 0 (Eq.mpr (if_neg h26) (Eq.mpr (if_pos h27) rfl)) xk_b0
                    ·
                      refine lv_iconst (v := 1) (pc := 185) hx hb dzM_drive_185 (by decide) ?_
                      refine lv_goto (tgt := 190) (pc := 186) hx hb dzM_drive_186 (by decide) ?_
                      exact K9 1 (Eq.mpr (if_neg h26) (Eq.mpr (if_neg h27) rfl)) xk_b1
                refine lv_icmp_lt (pc := 141) (tgt := 159) hx hb dzM_drive_141 (by decide) (fun h24 => ?_) (fun h24 => ?_)
                ·
                  refine lv_iconst (v := 0) (pc := 159) hx hb dzM_drive_159 (by decide) ?_
                  exact K8 0 (Eq.mpr (if_pos h24) rfl) xk_b0
                ·
                  refine lv_aload_n (pc := 144) hx hb dzM_drive_144 rfl (lv_at hl 3 rfl) ?_
                  refine xk_get (pc := 145) hx hb hts hown hK hP ffzM_103 0 rfl rfl dzM_drive_145 ?_
                  refine lv_iconst (v := 5) (pc := 148) hx hb dzM_drive_148 (by decide) ?_
                  refine lv_idiv (pc := 149) hx hb dzM_drive_149 (by decide) ?_
                  refine lv_iconst (v := 2) (pc := 150) hx hb dzM_drive_150 (by decide) ?_
                  refine lv_irem (pc := 151) hx hb dzM_drive_151 (by decide) ?_
                  refine lv_if_ne (pc := 152) (tgt := 159) hx hb dzM_drive_152 (by decide) (fun h25 => ?_) (fun h25 => ?_)
                  ·
                    refine lv_iconst (v := 0) (pc := 159) hx hb dzM_drive_159 (by decide) ?_
                    exact K8 0 (Eq.mpr (if_neg h24) (Eq.mpr (if_neg h25) rfl)) xk_b0
                  ·
                    refine lv_iconst (v := 1) (pc := 155) hx hb dzM_drive_155 (by decide) ?_
                    refine lv_goto (tgt := 160) (pc := 156) hx hb dzM_drive_156 (by decide) ?_
                    exact K8 1 (Eq.mpr (if_neg h24) (Eq.mpr (if_pos h25) rfl)) xk_b1
              refine lv_icmp_ne (pc := 122) (tgt := 129) hx hb dzM_drive_122 (by decide) (fun h23 => ?_) (fun h23 => ?_)
              ·
                refine lv_iconst (v := 0) (pc := 129) hx hb dzM_drive_129 (by decide) ?_
                exact K7 0 (Eq.mpr (if_neg h23) rfl) xk_b0
              ·
                refine lv_iconst (v := 1) (pc := 125) hx hb dzM_drive_125 (by decide) ?_
                refine lv_goto (tgt := 130) (pc := 126) hx hb dzM_drive_126 (by decide) ?_
                exact K7 1 (Eq.mpr (if_pos h23) rfl) xk_b1
            refine lv_if_eq (pc := 61) (tgt := 68) hx hb dzM_drive_61 (by decide) (fun h16 => ?_) (fun h16 => ?_)
            ·
              refine lv_iload_n (pc := 68) hx hb dzM_drive_68 rfl (lv_at hl 1 rfl) ?_
              refine lv_if_eq (pc := 69) (tgt := 85) hx hb dzM_drive_69 (by decide) (fun h17 => ?_) (fun h17 => ?_)
              ·
                refine lv_iload_n (pc := 85) hx hb dzM_drive_85 rfl (lv_at hl 0 rfl) ?_
                refine lv_if_eq (pc := 86) (tgt := 104) hx hb dzM_drive_86 (by decide) (fun h18 => ?_) (fun h18 => ?_)
                ·
                  refine lv_iconst (v := 0) (pc := 104) hx hb dzM_drive_104 (by decide) ?_
                  exact K6 0 (Eq.mpr (if_pos h16) (Eq.mpr (if_pos h17) (Eq.mpr (if_pos h18) rfl)))
                ·
                  refine lv_aload_n (pc := 89) hx hb dzM_drive_89 rfl (lv_at hl 3 rfl) ?_
                  refine xk_get (pc := 90) hx hb hts hown hK hP ffzM_50 0 rfl rfl dzM_drive_90 ?_
                  refine lv_iload_n (pc := 93) hx hb dzM_drive_93 rfl (lv_at hl 2 rfl) ?_
                  refine xk_iald (q0 := 14) (t0 := 0) (j := 1) (pc := 94) hx hb hK hP rfl rfl (pk_in 1 2 (by decide)) (pk_cl 1) dzM_drive_94 ?_
                  refine lv_bipush (v := 100) (pc := 95) hx hb dzM_drive_95 (by decide) ?_
                  refine lv_icmp_eq (pc := 97) (tgt := 104) hx hb dzM_drive_97 (by decide) (fun h19 => ?_) (fun h19 => ?_)
                  ·
                    refine lv_iconst (v := 0) (pc := 104) hx hb dzM_drive_104 (by decide) ?_
                    exact K6 0 (Eq.mpr (if_pos h16) (Eq.mpr (if_pos h17) (Eq.mpr (if_neg h18) (Eq.mpr (if_pos h19) rfl))))
                  ·
                    refine lv_iconst (v := 1) (pc := 100) hx hb dzM_drive_100 (by decide) ?_
                    refine lv_goto (tgt := 105) (pc := 101) hx hb dzM_drive_101 (by decide) ?_
                    exact K6 1 (Eq.mpr (if_pos h16) (Eq.mpr (if_pos h17) (Eq.mpr (if_neg h18) (Eq.mpr (if_neg h19) rfl))))
              ·
                refine lv_aload_n (pc := 72) hx hb dzM_drive_72 rfl (lv_at hl 3 rfl) ?_
                refine xk_get (pc := 73) hx hb hts hown hK hP ffzM_50 0 rfl rfl dzM_drive_73 ?_
                refine lv_iload_n (pc := 76) hx hb dzM_drive_76 rfl (lv_at hl 2 rfl) ?_
                refine xk_iald (q0 := 14) (t0 := 0) (j := 1) (pc := 77) hx hb hK hP rfl rfl (pk_in 1 2 (by decide)) (pk_cl 1) dzM_drive_77 ?_
                refine lv_if_eq (pc := 78) (tgt := 85) hx hb dzM_drive_78 (by decide) (fun h20 => ?_) (fun h20 => ?_)
                ·
                  refine lv_iload_n (pc := 85) hx hb dzM_drive_85 rfl (lv_at hl 0 rfl) ?_
                  refine lv_if_eq (pc := 86) (tgt := 104) hx hb dzM_drive_86 (by decide) (fun h21 => ?_) (fun h21 => ?_)
                  ·
                    refine lv_iconst (v := 0) (pc := 104) hx hb dzM_drive_104 (by decide) ?_
                    exact K6 0 (Eq.mpr (if_pos h16) (Eq.mpr (if_neg h17) (Eq.mpr (if_pos h20) (Eq.mpr (if_pos h21) rfl))))
                  ·
                    refine lv_aload_n (pc := 89) hx hb dzM_drive_89 rfl (lv_at hl 3 rfl) ?_
                    refine xk_get (pc := 90) hx hb hts hown hK hP ffzM_50 0 rfl rfl dzM_drive_90 ?_
                    refine lv_iload_n (pc := 93) hx hb dzM_drive_93 rfl (lv_at hl 2 rfl) ?_
                    refine xk_iald (q0 := 14) (t0 := 0) (j := 1) (pc := 94) hx hb hK hP rfl rfl (pk_in 1 2 (by decide)) (pk_cl 1) dzM_drive_94 ?_
                    refine lv_bipush (v := 100) (pc := 95) hx hb dzM_drive_95 (by decide) ?_
                    refine lv_icmp_eq (pc := 97) (tgt := 104) hx hb dzM_drive_97 (by decide) (fun h22 => ?_) (fun h22 => ?_)
                    ·
                      refine lv_iconst (v := 0) (pc := 104) hx hb dzM_drive_104 (by decide) ?_
                      exact K6 0 (Eq.mpr (if_pos h16) (Eq.mpr (if_neg h17) (Eq.mpr (if_pos h20) (Eq.mpr (if_neg h21) (Eq.mpr (if_pos h22) rfl)))))
                    ·
                      refine lv_iconst (v := 1) (pc := 100) hx hb dzM_drive_100 (by decide) ?_
                      refine lv_goto (tgt := 105) (pc := 101) hx hb dzM_drive_101 (by decide) ?_
                      exact K6 1 (Eq.mpr (if_pos h16) (Eq.mpr (if_neg h17) (Eq.mpr (if_pos h20) (Eq.mpr (if_neg h21) (Eq.mpr (if_neg h22) rfl)))))
                ·
                  refine lv_iconst (v := (-1)) (pc := 81) hx hb dzM_drive_81 (by decide) ?_
                  refine lv_goto (tgt := 105) (pc := 82) hx hb dzM_drive_82 (by decide) ?_
                  exact K6 (-1) (Eq.mpr (if_pos h16) (Eq.mpr (if_neg h17) (Eq.mpr (if_neg h20) rfl)))
            ·
              refine lv_iconst (v := 0) (pc := 64) hx hb dzM_drive_64 (by decide) ?_
              refine lv_goto (tgt := 105) (pc := 65) hx hb dzM_drive_65 (by decide) ?_
              exact K6 0 (Eq.mpr (if_neg h16) rfl)
          refine lv_icmp_eq (pc := 34) (tgt := 44) hx hb dzM_drive_34 (by decide) (fun h14 => ?_) (fun h14 => ?_)
          ·
            refine lv_iconst (v := 1) (pc := 44) hx hb dzM_drive_44 (by decide) ?_
            refine lv_goto (tgt := 49) (pc := 45) hx hb dzM_drive_45 (by decide) ?_
            exact K5 1 (Eq.mpr (if_pos h14) rfl) xk_b1
          ·
            refine lv_aload_n (pc := 37) hx hb dzM_drive_37 rfl (lv_at hl 3 rfl) ?_
            refine xk_get (pc := 38) hx hb hts hown hK hP ffzM_152 0 rfl rfl dzM_drive_38 ?_
            refine lv_if_ne (pc := 41) (tgt := 48) hx hb dzM_drive_41 (by decide) (fun h15 => ?_) (fun h15 => ?_)
            ·
              refine lv_iconst (v := 0) (pc := 48) hx hb dzM_drive_48 (by decide) ?_
              exact K5 0 (Eq.mpr (if_neg h14) (Eq.mpr (if_neg h15) rfl)) xk_b0
            ·
              refine lv_iconst (v := 1) (pc := 44) hx hb dzM_drive_44 (by decide) ?_
              refine lv_goto (tgt := 49) (pc := 45) hx hb dzM_drive_45 (by decide) ?_
              exact K5 1 (Eq.mpr (if_neg h14) (Eq.mpr (if_pos h15) rfl)) xk_b1
        refine lv_icmp_eq (pc := 12) (tgt := 23) hx hb dzM_drive_12 (by decide) (fun h12 => ?_) (fun h12 => ?_)
        ·
          refine lv_iconst (v := 1) (pc := 23) hx hb dzM_drive_23 (by decide) ?_
          refine lv_goto (tgt := 28) (pc := 24) hx hb dzM_drive_24 (by decide) ?_
          exact K4 1 (Eq.mpr (if_pos h12) rfl) xk_b1
        ·
          refine lv_aload_n (pc := 15) hx hb dzM_drive_15 rfl (lv_at hl 3 rfl) ?_
          refine xk_get (pc := 16) hx hb hts hown hK hP ffzM_152 0 rfl rfl dzM_drive_16 ?_
          refine lv_iconst (v := 4) (pc := 19) hx hb dzM_drive_19 (by decide) ?_
          refine lv_icmp_ne (pc := 20) (tgt := 27) hx hb dzM_drive_20 (by decide) (fun h13 => ?_) (fun h13 => ?_)
          ·
            refine lv_iconst (v := 0) (pc := 27) hx hb dzM_drive_27 (by decide) ?_
            exact K4 0 (Eq.mpr (if_neg h12) (Eq.mpr (if_neg h13) rfl)) xk_b0
          ·
            refine lv_iconst (v := 1) (pc := 23) hx hb dzM_drive_23 (by decide) ?_
            refine lv_goto (tgt := 28) (pc := 24) hx hb dzM_drive_24 (by decide) ?_
            exact K4 1 (Eq.mpr (if_neg h12) (Eq.mpr (if_pos h13) rfl)) xk_b1
      refine lv_if_eq (pc := 61) (tgt := 68) hx hb dzM_drive_61 (by decide) (fun h5 => ?_) (fun h5 => ?_)
      ·
        refine lv_iload_n (pc := 68) hx hb dzM_drive_68 rfl (lv_at hl 1 rfl) ?_
        refine lv_if_eq (pc := 69) (tgt := 85) hx hb dzM_drive_69 (by decide) (fun h6 => ?_) (fun h6 => ?_)
        ·
          refine lv_iload_n (pc := 85) hx hb dzM_drive_85 rfl (lv_at hl 0 rfl) ?_
          refine lv_if_eq (pc := 86) (tgt := 104) hx hb dzM_drive_86 (by decide) (fun h7 => ?_) (fun h7 => ?_)
          ·
            refine lv_iconst (v := 0) (pc := 104) hx hb dzM_drive_104 (by decide) ?_
            exact K3 0 (Eq.mpr (if_pos h5) (Eq.mpr (if_pos h6) (Eq.mpr (if_pos h7) rfl)))
          ·
            refine lv_aload_n (pc := 89) hx hb dzM_drive_89 rfl (lv_at hl 3 rfl) ?_
            refine xk_get (pc := 90) hx hb hts hown hK hP ffzM_50 0 rfl rfl dzM_drive_90 ?_
            refine lv_iload_n (pc := 93) hx hb dzM_drive_93 rfl (lv_at hl 2 rfl) ?_
            refine xk_iald (q0 := 14) (t0 := 0) (j := 0) (pc := 94) hx hb hK hP rfl rfl (pk_in 0 2 (by decide)) (pk_cl 0) dzM_drive_94 ?_
            refine lv_bipush (v := 100) (pc := 95) hx hb dzM_drive_95 (by decide) ?_
            refine lv_icmp_eq (pc := 97) (tgt := 104) hx hb dzM_drive_97 (by decide) (fun h8 => ?_) (fun h8 => ?_)
            ·
              refine lv_iconst (v := 0) (pc := 104) hx hb dzM_drive_104 (by decide) ?_
              exact K3 0 (Eq.mpr (if_pos h5) (Eq.mpr (if_pos h6) (Eq.mpr (if_neg h7) (Eq.mpr (if_pos h8) rfl))))
            ·
              refine lv_iconst (v := 1) (pc := 100) hx hb dzM_drive_100 (by decide) ?_
              refine lv_goto (tgt := 105) (pc := 101) hx hb dzM_drive_101 (by decide) ?_
              exact K3 1 (Eq.mpr (if_pos h5) (Eq.mpr (if_pos h6) (Eq.mpr (if_neg h7) (Eq.mpr (if_neg h8) rfl))))
        ·
          refine lv_aload_n (pc := 72) hx hb dzM_drive_72 rfl (lv_at hl 3 rfl) ?_
          refine xk_get (pc := 73) hx hb hts hown hK hP ffzM_50 0 rfl rfl dzM_drive_73 ?_
          refine lv_iload_n (pc := 76) hx hb dzM_drive_76 rfl (lv_at hl 2 rfl) ?_
          refine xk_iald (q0 := 14) (t0 := 0) (j := 0) (pc := 77) hx hb hK hP rfl rfl (pk_in 0 2 (by decide)) (pk_cl 0) dzM_drive_77 ?_
          refine lv_if_eq (pc := 78) (tgt := 85) hx hb dzM_drive_78 (by decide) (fun h9 => ?_) (fun h9 => ?_)
          ·
            refine lv_iload_n (pc := 85) hx hb dzM_drive_85 rfl (lv_at hl 0 rfl) ?_
            refine lv_if_eq (pc := 86) (tgt := 104) hx hb dzM_drive_86 (by decide) (fun h10 => ?_) (fun h10 => ?_)
            ·
              refine lv_iconst (v := 0) (pc := 104) hx hb dzM_drive_104 (by decide) ?_
              exact K3 0 (Eq.mpr (if_pos h5) (Eq.mpr (if_neg h6) (Eq.mpr (if_pos h9) (Eq.mpr (if_pos h10) rfl))))
            ·
              refine lv_aload_n (pc := 89) hx hb dzM_drive_89 rfl (lv_at hl 3 rfl) ?_
              refine xk_get (pc := 90) hx hb hts hown hK hP ffzM_50 0 rfl rfl dzM_drive_90 ?_
              refine lv_iload_n (pc := 93) hx hb dzM_drive_93 rfl (lv_at hl 2 rfl) ?_
              refine xk_iald (q0 := 14) (t0 := 0) (j := 0) (pc := 94) hx hb hK hP rfl rfl (pk_in 0 2 (by decide)) (pk_cl 0) dzM_drive_94 ?_
              refine lv_bipush (v := 100) (pc := 95) hx hb dzM_drive_95 (by decide) ?_
              refine lv_icmp_eq (pc := 97) (tgt := 104) hx hb dzM_drive_97 (by decide) (fun h11 => ?_) (fun h11 => ?_)
              ·
                refine lv_iconst (v := 0) (pc := 104) hx hb dzM_drive_104 (by decide) ?_
                exact K3 0 (Eq.mpr (if_pos h5) (Eq.mpr (if_neg h6) (Eq.mpr (if_pos h9) (Eq.mpr (if_neg h10) (Eq.mpr (if_pos h11) rfl)))))
              ·
                refine lv_iconst (v := 1) (pc := 100) hx hb dzM_drive_100 (by decide) ?_
                refine lv_goto (tgt := 105) (pc := 101) hx hb dzM_drive_101 (by decide) ?_
                exact K3 1 (Eq.mpr (if_pos h5) (Eq.mpr (if_neg h6) (Eq.mpr (if_pos h9) (Eq.mpr (if_neg h10) (Eq.mpr (if_neg h11) rfl)))))
          ·
            refine lv_iconst (v := (-1)) (pc := 81) hx hb dzM_drive_81 (by decide) ?_
            refine lv_goto (tgt := 105) (pc := 82) hx hb dzM_drive_82 (by decide) ?_
            exact K3 (-1) (Eq.mpr (if_pos h5) (Eq.mpr (if_neg h6) (Eq.mpr (if_neg h9) rfl)))
      ·
        refine lv_iconst (v := 0) (pc := 64) hx hb dzM_drive_64 (by decide) ?_
        refine lv_goto (tgt := 105) (pc := 65) hx hb dzM_drive_65 (by decide) ?_
        exact K3 0 (Eq.mpr (if_neg h5) rfl)
    refine lv_icmp_eq (pc := 34) (tgt := 44) hx hb dzM_drive_34 (by decide) (fun h3 => ?_) (fun h3 => ?_)
    ·
      refine lv_iconst (v := 1) (pc := 44) hx hb dzM_drive_44 (by decide) ?_
      refine lv_goto (tgt := 49) (pc := 45) hx hb dzM_drive_45 (by decide) ?_
      exact K2 1 (Eq.mpr (if_pos h3) rfl) xk_b1
    ·
      refine lv_aload_n (pc := 37) hx hb dzM_drive_37 rfl (lv_at hl 2 rfl) ?_
      refine xk_get (pc := 38) hx hb hts hown hK hP ffzM_152 0 rfl rfl dzM_drive_38 ?_
      refine lv_if_ne (pc := 41) (tgt := 48) hx hb dzM_drive_41 (by decide) (fun h4 => ?_) (fun h4 => ?_)
      ·
        refine lv_iconst (v := 0) (pc := 48) hx hb dzM_drive_48 (by decide) ?_
        exact K2 0 (Eq.mpr (if_neg h3) (Eq.mpr (if_neg h4) rfl)) xk_b0
      ·
        refine lv_iconst (v := 1) (pc := 44) hx hb dzM_drive_44 (by decide) ?_
        refine lv_goto (tgt := 49) (pc := 45) hx hb dzM_drive_45 (by decide) ?_
        exact K2 1 (Eq.mpr (if_neg h3) (Eq.mpr (if_pos h4) rfl)) xk_b1
  refine lv_icmp_eq (pc := 12) (tgt := 23) hx hb dzM_drive_12 (by decide) (fun h1 => ?_) (fun h1 => ?_)
  ·
    refine lv_iconst (v := 1) (pc := 23) hx hb dzM_drive_23 (by decide) ?_
    refine lv_goto (tgt := 28) (pc := 24) hx hb dzM_drive_24 (by decide) ?_
    exact K1 1 (Eq.mpr (if_pos h1) rfl) xk_b1
  ·
    refine lv_aload_n (pc := 15) hx hb dzM_drive_15 rfl (lv_at hl 1 rfl) ?_
    refine xk_get (pc := 16) hx hb hts hown hK hP ffzM_152 0 rfl rfl dzM_drive_16 ?_
    refine lv_iconst (v := 4) (pc := 19) hx hb dzM_drive_19 (by decide) ?_
    refine lv_icmp_ne (pc := 20) (tgt := 27) hx hb dzM_drive_20 (by decide) (fun h2 => ?_) (fun h2 => ?_)
    ·
      refine lv_iconst (v := 0) (pc := 27) hx hb dzM_drive_27 (by decide) ?_
      exact K1 0 (Eq.mpr (if_neg h1) (Eq.mpr (if_neg h2) rfl)) xk_b0
    ·
      refine lv_iconst (v := 1) (pc := 23) hx hb dzM_drive_23 (by decide) ?_
      refine lv_goto (tgt := 28) (pc := 24) hx hb dzM_drive_24 (by decide) ?_
      exact K1 1 (Eq.mpr (if_neg h1) (Eq.mpr (if_pos h2) rfl)) xk_b1
theorem frzM_drive (g0 : xk_St) (gz : xk_St) : relzM_drive g0 gz → xk_eqv [1, 2, 3, 4, 5, 6, 7, 8, 9, 10, 11, 12, 13, 14, 15, 17, 18, 19, 20, 22, 23, 24, 25, 26, 27] g0 gz := by
  intro h
  unfold relzM_drive at h
  have s0 : xk_eqv [1, 2, 3, 4, 5, 6, 7, 8, 9, 10, 11, 12, 13, 14, 15, 17, 18, 19, 20, 22, 23, 24, 25, 26, 27] g0 g0 := xk_eqv_rf
  obtain ⟨x1, u1, v2⟩ := h
  obtain ⟨x2, u3, v4⟩ := v2
  obtain ⟨x3, u5, v6⟩ := v4
  obtain ⟨g1, u7, v8⟩ := v6
  have s9 : xk_eqv [1, 2, 3, 4, 5, 6, 7, 8, 9, 10, 11, 12, 13, 14, 15, 17, 18, 19, 20, 22, 23, 24, 25, 26, 27] g0 g1 := by rw [u7]; repeat (first | exact s0 | refine xk_eqv_up (by decide) ?_)
  obtain ⟨x4, u10, v11⟩ := v8
  obtain ⟨x5, u12, v13⟩ := v11
  obtain ⟨x6, u14, v15⟩ := v13
  obtain ⟨g2, u16, v17⟩ := v15
  have s18 : xk_eqv [1, 2, 3, 4, 5, 6, 7, 8, 9, 10, 11, 12, 13, 14, 15, 17, 18, 19, 20, 22, 23, 24, 25, 26, 27] g0 g2 := by rw [u16]; repeat (first | exact s9 | refine xk_eqv_up (by decide) ?_)
  obtain ⟨x7, u19, v20⟩ := v17
  obtain ⟨g3, u21, v22⟩ := v20
  have s23 : xk_eqv [1, 2, 3, 4, 5, 6, 7, 8, 9, 10, 11, 12, 13, 14, 15, 17, 18, 19, 20, 22, 23, 24, 25, 26, 27] g0 g3 := by rw [u21]; repeat (first | exact s18 | refine xk_eqv_up (by decide) ?_)
  obtain ⟨x8, u24, v25⟩ := v22
  obtain ⟨g4, u26, v27⟩ := v25
  have s28 : xk_eqv [1, 2, 3, 4, 5, 6, 7, 8, 9, 10, 11, 12, 13, 14, 15, 17, 18, 19, 20, 22, 23, 24, 25, 26, 27] g0 g4 := by rw [u26]; repeat (first | exact s23 | refine xk_eqv_up (by decide) ?_)
  obtain ⟨x9, u29, v30⟩ := v27
  obtain ⟨g5, u31, v32⟩ := v30
  have s33 : xk_eqv [1, 2, 3, 4, 5, 6, 7, 8, 9, 10, 11, 12, 13, 14, 15, 17, 18, 19, 20, 22, 23, 24, 25, 26, 27] g0 g5 := by rw [u31]; repeat (first | exact s28 | refine xk_eqv_up (by decide) ?_)
  obtain ⟨x10, u34, v35⟩ := v32
  obtain ⟨x12, u36, v37⟩ := v35
  obtain ⟨g6, u38, v39⟩ := v37
  have s40 : xk_eqv [1, 2, 3, 4, 5, 6, 7, 8, 9, 10, 11, 12, 13, 14, 15, 17, 18, 19, 20, 22, 23, 24, 25, 26, 27] g0 g6 := by rw [u38]; repeat (first | exact s33 | refine xk_eqv_up (by decide) ?_)
  rw [v39]; exact s40
theorem iczM_drive (B : Nat) (g0 : xk_St) (gz : xk_St) : relzM_drive g0 gz → xk_cnt B g0 → xk_cnt (B + 0) gz := by
  intro h Ig0
  unfold relzM_drive at h
  have Ig0 : xk_cnt (B + 0) g0 := Ig0
  obtain ⟨x1, u1, v2⟩ := h
  obtain ⟨x2, u3, v4⟩ := v2
  obtain ⟨x3, u5, v6⟩ := v4
  obtain ⟨g1, u7, v8⟩ := v6
  have Ig1 : xk_cnt (B + 0) g1 := by rw [u7]; repeat (first | exact Ig0 | refine xk_cnt_k (by decide) ?_ | refine xk_cnt_f (by decide) ?_ | refine xk_cnt_s ?_)
  obtain ⟨x4, u9, v10⟩ := v8
  obtain ⟨x5, u11, v12⟩ := v10
  obtain ⟨x6, u13, v14⟩ := v12
  obtain ⟨g2, u15, v16⟩ := v14
  have Ig2 : xk_cnt (B + 0) g2 := by rw [u15]; repeat (first | exact Ig1 | refine xk_cnt_k (by decide) ?_ | refine xk_cnt_f (by decide) ?_ | refine xk_cnt_s ?_)
  obtain ⟨x7, u17, v18⟩ := v16
  obtain ⟨g3, u19, v20⟩ := v18
  have Ig3 : xk_cnt (B + 0) g3 := by rw [u19]; repeat (first | exact Ig2 | refine xk_cnt_k (by decide) ?_ | refine xk_cnt_f (by decide) ?_ | refine xk_cnt_s ?_)
  obtain ⟨x8, u21, v22⟩ := v20
  obtain ⟨g4, u23, v24⟩ := v22
  have Ig4 : xk_cnt (B + 0) g4 := by rw [u23]; repeat (first | exact Ig3 | refine xk_cnt_k (by decide) ?_ | refine xk_cnt_f (by decide) ?_ | refine xk_cnt_s ?_)
  obtain ⟨x9, u25, v26⟩ := v24
  obtain ⟨g5, u27, v28⟩ := v26
  have Ig5 : xk_cnt (B + 0) g5 := by rw [u27]; repeat (first | exact Ig4 | refine xk_cnt_k (by decide) ?_ | refine xk_cnt_f (by decide) ?_ | refine xk_cnt_s ?_)
  obtain ⟨x10, u29, v30⟩ := v28
  obtain ⟨x12, u31, v32⟩ := v30
  obtain ⟨g6, u33, v34⟩ := v32
  have Ig6 : xk_cnt (B + 0) g6 := by rw [u33]; repeat (first | exact Ig5 | refine xk_cnt_k (by decide) ?_ | refine xk_cnt_f (by decide) ?_ | refine xk_cnt_s ?_)
  rw [v34]; exact xk_cnt_le Ig6 (by omega)

def relzM_signal (g0 : xk_St) (gz : xk_St) : Prop := ∃ (x1 : Int32), (if ((g0 13) 0) = 0 then (x1 = 0) else (if (g0 0 28) = 4 then (if (qzM_isProved g0) = 0 then (x1 = 0) else (if (qzM_anyDisturbed_0 g0) = 0 then (if (qzM_isFree_1 g0) = 0 then (x1 = 0) else (if ((g0 23) 1) = 0 then (x1 = 1) else (if ((g0 23) 2) = 0 then (x1 = 1) else (x1 = 0)))) else (x1 = 0))) else (x1 = 0))) ∧ (∃ (g2 : xk_St), (if x1 = ((g0 24) 0) then (g2 = g0) else (∃ (x2 : Int32), (if x1 = 0 then (x2 = 5) else (x2 = 4)) ∧ (∃ (g1 : xk_St), relzM_note g0 x2 0 g1 ∧ (g2 = g1)))) ∧ (∃ (g3 : xk_St), g3 = va_up g2 24 (upd (g2 24) 0 x1) ∧ (∃ (x3 : Int32), (if ((g3 13) 1) = 0 then (x3 = 0) else (if (g3 0 28) = 4 then (if (qzM_isProved g3) = 0 then (x3 = 0) else (if (qzM_anyDisturbed_1 g3) = 0 then (if (qzM_isFree_4 g3) = 0 then (x3 = 0) else (if ((g3 23) 1) = 0 then (x3 = 1) else (if ((g3 23) 2) = 0 then (x3 = 1) else (x3 = 0)))) else (x3 = 0))) else (x3 = 0))) ∧ (∃ (g5 : xk_St), (if x3 = ((g3 24) 1) then (g5 = g3) else (∃ (x4 : Int32), (if x3 = 0 then (x4 = 5) else (x4 = 4)) ∧ (∃ (g4 : xk_St), relzM_note g3 x4 1 g4 ∧ (g5 = g4)))) ∧ (∃ (g6 : xk_St), g6 = va_up g5 24 (upd (g5 24) 1 x3) ∧ (gz = g6))))))
set_option maxHeartbeats 4000000 in
set_option maxRecDepth 100000 in
theorem kzM_signal (l : Launch) (G : va_G) (ac : Nat → ClassId) (ad : Nat → Nat) (g0 : xk_St) (B : Nat) (Ig0 : xk_cnt B g0) (hB : B + 3 < 2147483648) : xk_CV l yzM_signal czM_signal 3 xk_WS xk_r1 G xk_cls (xk_tys ac) [.ref (ad 0)] (xk_wM ad ac g0) (fun (gz : xk_St) => relzM_signal g0 gz) (fun gz => xk_wM ad ac gz) := by
  refine xk_ofV (by decide) (Nat.le_of_ble_eq_true rfl) ?_
  intro p e s m args below meth c A Q H locs ls C0 hret hP hD hS hl
  obtain ⟨hx, hb, hml, hts, hown, hK, hA⟩ := C0
  have hl : lv_has ls 3 [(0, .ref (ad 0))] := hl
  have Ig0 : xk_cnt (B + 0) g0 := Ig0
  refine lv_iconst (v := 0) (pc := 0) hx hb dzM_signal_0 (by decide) ?_
  refine lv_istore_n (lv' := [(1, .int 0), (0, .ref (ad 0))]) (pc := 1) hx hb dzM_signal_1 rfl hl (by decide) rfl (fun ls hl => ?_)
  refine lv_iload_n (pc := 2) hx hb dzM_signal_2 rfl (lv_at hl 0 rfl) ?_
  refine lv_iconst (v := 2) (pc := 3) hx hb dzM_signal_3 (by decide) ?_
  refine lv_icmp_ge (pc := 4) (tgt := 112) hx hb dzM_signal_4 (by decide) (fun hq9 => absurd hq9 (by decide)) (fun _ => ?_)
  refine lv_aload_n (pc := 7) hx hb dzM_signal_7 rfl (lv_at hl 1 rfl) ?_
  refine xk_get (pc := 8) hx hb hts hown hK hP ffzM_47 0 rfl rfl dzM_signal_8 ?_
  refine lv_iload_n (pc := 11) hx hb dzM_signal_11 rfl (lv_at hl 0 rfl) ?_
  refine xk_zald (q0 := 13) (t0 := 1) (j := 0) (pc := 12) hx hb hK hP rfl rfl (pk_in 0 2 (by decide)) (pk_cl 0) dzM_signal_12 ?_
  have K1 : ∀ (x1 : Int32) (H : Heap) (locs : List Loc), (if ((g0 13) 0) = 0 then (x1 = 0) else (if (g0 0 28) = 4 then (if (qzM_isProved g0) = 0 then (x1 = 0) else (if (qzM_anyDisturbed_0 g0) = 0 then (if (qzM_isFree_1 g0) = 0 then (x1 = 0) else (if ((g0 23) 1) = 0 then (x1 = 1) else (if ((g0 23) 2) = 0 then (x1 = 1) else (x1 = 0)))) else (x1 = 0))) else (x1 = 0))) → (xk_b x1) → (va_P G xk_cls (xk_wM ad ac g0) H) → (va_D A (xk_wM ad ac g0)) → (va_S A s.heap H locs) → W p l e xk_r1 s m args below meth c H locs 0 0 Q (F0 m 74 ls [.int x1]) := by
    intro x1 H locs R1 bx1 hP hD hS
    refine lv_istore_n (lv' := [(2, .int x1), (1, .int 0), (0, .ref (ad 0))]) (pc := 74) hx hb dzM_signal_74 rfl hl (by decide) rfl (fun ls hl => ?_)
    refine lv_iload_n (pc := 75) hx hb dzM_signal_75 rfl (lv_at hl 0 rfl) ?_
    refine lv_aload_n (pc := 76) hx hb dzM_signal_76 rfl (lv_at hl 2 rfl) ?_
    refine xk_get (pc := 77) hx hb hts hown hK hP ffzM_80 0 rfl rfl dzM_signal_77 ?_
    refine lv_iload_n (pc := 80) hx hb dzM_signal_80 rfl (lv_at hl 1 rfl) ?_
    refine xk_zald (q0 := 24) (t0 := 1) (j := 0) (pc := 81) hx hb hK hP rfl rfl (pk_in 0 2 (by decide)) (pk_cl 0) dzM_signal_81 ?_
    have K3 : ∀ (g2 : xk_St) (H : Heap) (locs : List Loc), (if x1 = ((g0 24) 0) then (g2 = g0) else (∃ (x2 : Int32), (if x1 = 0 then (x2 = 5) else (x2 = 4)) ∧ (∃ (g1 : xk_St), relzM_note g0 x2 0 g1 ∧ (g2 = g1)))) → (xk_cnt (B + 1) g2) → (va_P G xk_cls (xk_wM ad ac g2) H) → (va_D A (xk_wM ad ac g2)) → (va_S A s.heap H locs) → W p l e xk_r1 s m args below meth c H locs 0 0 Q (F0 m 99 ls []) := by
      intro g2 H locs R3 Ig2 hP hD hS
      refine lv_aload_n (pc := 99) hx hb dzM_signal_99 rfl (lv_at hl 2 rfl) ?_
      refine xk_get (pc := 100) hx hb hts hown hK hP ffzM_80 0 rfl rfl dzM_signal_100 ?_
      refine lv_iload_n (pc := 103) hx hb dzM_signal_103 rfl (lv_at hl 1 rfl) ?_
      refine lv_iload_n (pc := 104) hx hb dzM_signal_104 rfl (lv_at hl 0 rfl) ?_
      refine xk_zast (q0 := 24) (t0 := 1) (j := 0) (pc := 105) hx hb hK hP hD hS rfl rfl (pk_in 0 2 (by decide)) (pk_cl 0) bx1 dzM_signal_105 (fun H locs hP hD hS => ?_)
      obtain ⟨g3, eg3⟩ : ∃ z : xk_St, z = va_up g2 24 (upd (g2 24) 0 x1) := ⟨_, rfl⟩
      have hP : va_P G xk_cls (xk_wM ad ac g3) H := by rw [eg3]; exact hP
      have hD : va_D A (xk_wM ad ac g3) := by rw [eg3]; exact hD
      have Ig3 : xk_cnt (B + 1) g3 := by rw [eg3]; repeat (first | exact Ig2 | refine xk_cnt_k (by decide) ?_ | refine xk_cnt_f (by decide) ?_ | refine xk_cnt_s ?_)
      refine lv_iinc (k := 1) (x := 0) (v := 1) (lv' := [(1, .int 1), (2, .int x1), (0, .ref (ad 0))]) (pc := 106) hx hb dzM_signal_106 hl rfl (by decide) (by decide) rfl (fun ls hl => ?_)
      refine lv_goto (tgt := 2) (pc := 109) hx hb dzM_signal_109 (by decide) ?_
      refine lv_iload_n (pc := 2) hx hb dzM_signal_2 rfl (lv_at hl 0 rfl) ?_
      refine lv_iconst (v := 2) (pc := 3) hx hb dzM_signal_3 (by decide) ?_
      refine lv_icmp_ge (pc := 4) (tgt := 112) hx hb dzM_signal_4 (by decide) (fun hq9 => absurd hq9 (by decide)) (fun _ => ?_)
      refine lv_aload_n (pc := 7) hx hb dzM_signal_7 rfl (lv_at hl 2 rfl) ?_
      refine xk_get (pc := 8) hx hb hts hown hK hP ffzM_47 0 rfl rfl dzM_signal_8 ?_
      refine lv_iload_n (pc := 11) hx hb dzM_signal_11 rfl (lv_at hl 0 rfl) ?_
      refine xk_zald (q0 := 13) (t0 := 1) (j := 1) (pc := 12) hx hb hK hP rfl rfl (pk_in 1 2 (by decide)) (pk_cl 1) dzM_signal_12 ?_
      have K4 : ∀ (x3 : Int32) (H : Heap) (locs : List Loc), (if ((g3 13) 1) = 0 then (x3 = 0) else (if (g3 0 28) = 4 then (if (qzM_isProved g3) = 0 then (x3 = 0) else (if (qzM_anyDisturbed_1 g3) = 0 then (if (qzM_isFree_4 g3) = 0 then (x3 = 0) else (if ((g3 23) 1) = 0 then (x3 = 1) else (if ((g3 23) 2) = 0 then (x3 = 1) else (x3 = 0)))) else (x3 = 0))) else (x3 = 0))) → (xk_b x3) → (va_P G xk_cls (xk_wM ad ac g3) H) → (va_D A (xk_wM ad ac g3)) → (va_S A s.heap H locs) → W p l e xk_r1 s m args below meth c H locs 0 0 Q (F0 m 74 ls [.int x3]) := by
        intro x3 H locs R4 bx3 hP hD hS
        refine lv_istore_n (lv' := [(2, .int x3), (1, .int 1), (0, .ref (ad 0))]) (pc := 74) hx hb dzM_signal_74 rfl hl (by decide) rfl (fun ls hl => ?_)
        refine lv_iload_n (pc := 75) hx hb dzM_signal_75 rfl (lv_at hl 0 rfl) ?_
        refine lv_aload_n (pc := 76) hx hb dzM_signal_76 rfl (lv_at hl 2 rfl) ?_
        refine xk_get (pc := 77) hx hb hts hown hK hP ffzM_80 0 rfl rfl dzM_signal_77 ?_
        refine lv_iload_n (pc := 80) hx hb dzM_signal_80 rfl (lv_at hl 1 rfl) ?_
        refine xk_zald (q0 := 24) (t0 := 1) (j := 1) (pc := 81) hx hb hK hP rfl rfl (pk_in 1 2 (by decide)) (pk_cl 1) dzM_signal_81 ?_
        have K6 : ∀ (g5 : xk_St) (H : Heap) (locs : List Loc), (if x3 = ((g3 24) 1) then (g5 = g3) else (∃ (x4 : Int32), (if x3 = 0 then (x4 = 5) else (x4 = 4)) ∧ (∃ (g4 : xk_St), relzM_note g3 x4 1 g4 ∧ (g5 = g4)))) → (xk_cnt (B + 2) g5) → (va_P G xk_cls (xk_wM ad ac g5) H) → (va_D A (xk_wM ad ac g5)) → (va_S A s.heap H locs) → W p l e xk_r1 s m args below meth c H locs 0 0 Q (F0 m 99 ls []) := by
          intro g5 H locs R6 Ig5 hP hD hS
          refine lv_aload_n (pc := 99) hx hb dzM_signal_99 rfl (lv_at hl 2 rfl) ?_
          refine xk_get (pc := 100) hx hb hts hown hK hP ffzM_80 0 rfl rfl dzM_signal_100 ?_
          refine lv_iload_n (pc := 103) hx hb dzM_signal_103 rfl (lv_at hl 1 rfl) ?_
          refine lv_iload_n (pc := 104) hx hb dzM_signal_104 rfl (lv_at hl 0 rfl) ?_
          refine xk_zast (q0 := 24) (t0 := 1) (j := 1) (pc := 105) hx hb hK hP hD hS rfl rfl (pk_in 1 2 (by decide)) (pk_cl 1) bx3 dzM_signal_105 (fun H locs hP hD hS => ?_)
          obtain ⟨g6, eg6⟩ : ∃ z : xk_St, z = va_up g5 24 (upd (g5 24) 1 x3) := ⟨_, rfl⟩
          have hP : va_P G xk_cls (xk_wM ad ac g6) H := by rw [eg6]; exact hP
          have hD : va_D A (xk_wM ad ac g6) := by rw [eg6]; exact hD
          have Ig6 : xk_cnt (B + 2) g6 := by rw [eg6]; repeat (first | exact Ig5 | refine xk_cnt_k (by decide) ?_ | refine xk_cnt_f (by decide) ?_ | refine xk_cnt_s ?_)
          refine lv_iinc (k := 1) (x := 1) (v := 2) (lv' := [(1, .int 2), (2, .int x3), (0, .ref (ad 0))]) (pc := 106) hx hb dzM_signal_106 hl rfl (by decide) (by decide) rfl (fun ls hl => ?_)
          refine lv_goto (tgt := 2) (pc := 109) hx hb dzM_signal_109 (by decide) ?_
          refine lv_iload_n (pc := 2) hx hb dzM_signal_2 rfl (lv_at hl 0 rfl) ?_
          refine lv_iconst (v := 2) (pc := 3) hx hb dzM_signal_3 (by decide) ?_
          refine lv_icmp_ge (pc := 4) (tgt := 112) hx hb dzM_signal_4 (by decide) (fun _ => ?_) (fun hq9 => absurd (by decide) hq9)
          exact hret g6 H locs 112 ls hP hS (by unfold relzM_signal; exact ⟨x1, R1, ⟨g2, R3, ⟨g3, eg3, ⟨x3, R4, ⟨g5, R6, ⟨g6, eg6, rfl⟩⟩⟩⟩⟩⟩) dzM_signal_112
        refine lv_icmp_eq (pc := 82) (tgt := 99) hx hb dzM_signal_82 (by decide) (fun h17 => ?_) (fun h17 => ?_)
        ·
          exact K6 g3 H locs (Eq.mpr (if_pos h17) rfl) (xk_cnt_le Ig3 (by omega)) hP hD hS
        ·
          refine lv_aload_n (pc := 85) hx hb dzM_signal_85 rfl (lv_at hl 2 rfl) ?_
          refine lv_iload_n (pc := 86) hx hb dzM_signal_86 rfl (lv_at hl 0 rfl) ?_
          have K5 : ∀ (x4 : Int32), (if x3 = 0 then (x4 = 5) else (x4 = 4)) → (¬ x4 = 0) → W p l e xk_r1 s m args below meth c H locs 0 0 Q (F0 m 95 ls [.int x4, .ref (ad 0)]) := by
            intro x4 R5 nx4
            refine lv_iload_n (pc := 95) hx hb dzM_signal_95 rfl (lv_at hl 1 rfl) ?_
            refine xk_allVV (As := [.int x4, .int 1]) (rest := []) (H0 := s.heap) (pc := 96) hx hb hml hts hown hK hA hP hD hS (kzM_note l G ac ad g3 x4 1 (B + 1) Ig3 (by omega)) vfzM_106 (fun _ => rfl) 0 rfl rfl ⟨rfl, rfl⟩ ⟨Nat.le_of_ble_eq_true rfl, Nat.le_of_ble_eq_true rfl⟩ rfl hl.1 rfl (Nat.le_of_ble_eq_true rfl) ⟨Nat.zero_le _, Nat.zero_le _⟩ dzM_signal_96 (fun g4 H locs hg4 hP hD hS => ?_)
            have hP : va_P G xk_cls (xk_wM ad ac g4) H := hP
            have hD : va_D A (xk_wM ad ac g4) := hD
            have Ig4 : xk_cnt (B + 2) g4 := xk_cnt_le (iczM_note (B + 1) _ _ _ _ hg4 Ig3) (by omega)
            exact K6 g4 H locs (Eq.mpr (if_neg h17) ⟨x4, R5, ⟨g4, hg4, rfl⟩⟩) (xk_cnt_le Ig4 (by omega)) hP hD hS
          refine lv_if_eq (pc := 87) (tgt := 94) hx hb dzM_signal_87 (by decide) (fun h18 => ?_) (fun h18 => ?_)
          ·
            refine lv_iconst (v := 5) (pc := 94) hx hb dzM_signal_94 (by decide) ?_
            exact K5 5 (Eq.mpr (if_pos h18) rfl) (by decide)
          ·
            refine lv_iconst (v := 4) (pc := 90) hx hb dzM_signal_90 (by decide) ?_
            refine lv_goto (tgt := 95) (pc := 91) hx hb dzM_signal_91 (by decide) ?_
            exact K5 4 (Eq.mpr (if_neg h18) rfl) (by decide)
      refine lv_if_eq (pc := 13) (tgt := 73) hx hb dzM_signal_13 (by decide) (fun h10 => ?_) (fun h10 => ?_)
      ·
        refine lv_iconst (v := 0) (pc := 73) hx hb dzM_signal_73 (by decide) ?_
        exact K4 0 H locs (Eq.mpr (if_pos h10) rfl) xk_b0 hP hD hS
      ·
        refine lv_aload_n (pc := 16) hx hb dzM_signal_16 rfl (lv_at hl 2 rfl) ?_
        refine xk_get (pc := 17) hx hb hts hown hK hP ffzM_152 0 rfl rfl dzM_signal_17 ?_
        refine lv_iconst (v := 4) (pc := 20) hx hb dzM_signal_20 (by decide) ?_
        refine lv_icmp_ne (pc := 21) (tgt := 73) hx hb dzM_signal_21 (by decide) (fun h11 => ?_) (fun h11 => ?_)
        ·
          refine lv_iconst (v := 0) (pc := 73) hx hb dzM_signal_73 (by decide) ?_
          exact K4 0 H locs (Eq.mpr (if_neg h10) (Eq.mpr (if_neg h11) rfl)) xk_b0 hP hD hS
        ·
          refine lv_aload_n (pc := 24) hx hb dzM_signal_24 rfl (lv_at hl 2 rfl) ?_
          refine xk_allVI (As := []) (rest := []) (H0 := s.heap) (pc := 25) hx hb hml hts hown hK hA hP hD hS (kzM_isProved l G ac ad g3) vfzM_158 (fun _ => rfl) 0 rfl rfl ⟨rfl, rfl⟩ ⟨Nat.le_of_ble_eq_true rfl, Nat.le_of_ble_eq_true rfl⟩ rfl hl.1 rfl (Nat.le_of_ble_eq_true rfl) ⟨Nat.zero_le _, Nat.zero_le _⟩ dzM_signal_25 (fun r4 u9 H locs e9 hP hD hS => ?_)
          obtain rfl : r4 = qzM_isProved g3 := e9
          have hP : va_P G xk_cls (xk_wM ad ac g3) H := hP
          have hD : va_D A (xk_wM ad ac g3) := hD
          refine lv_if_eq (pc := 28) (tgt := 73) hx hb dzM_signal_28 (by decide) (fun h12 => ?_) (fun h12 => ?_)
          ·
            refine lv_iconst (v := 0) (pc := 73) hx hb dzM_signal_73 (by decide) ?_
            exact K4 0 H locs (Eq.mpr (if_neg h10) (Eq.mpr (if_pos h11) (Eq.mpr (if_pos h12) rfl))) xk_b0 hP hD hS
          ·
            refine lv_aload_n (pc := 31) hx hb dzM_signal_31 rfl (lv_at hl 2 rfl) ?_
            refine lv_iload_n (pc := 32) hx hb dzM_signal_32 rfl (lv_at hl 0 rfl) ?_
            refine xk_allVI (As := [.int 1]) (rest := []) (H0 := s.heap) (pc := 33) hx hb hml hts hown hK hA hP hD hS (kzM_anyDisturbed_1 l G ac ad g3) vfzM_126 (fun _ => rfl) 0 rfl rfl ⟨rfl, rfl⟩ ⟨Nat.le_of_ble_eq_true rfl, Nat.le_of_ble_eq_true rfl⟩ rfl hl.1 rfl (Nat.le_of_ble_eq_true rfl) ⟨Nat.zero_le _, Nat.zero_le _⟩ dzM_signal_33 (fun r5 u9 H locs e9 hP hD hS => ?_)
            obtain rfl : r5 = qzM_anyDisturbed_1 g3 := e9
            have hP : va_P G xk_cls (xk_wM ad ac g3) H := hP
            have hD : va_D A (xk_wM ad ac g3) := hD
            refine lv_if_ne (pc := 36) (tgt := 73) hx hb dzM_signal_36 (by decide) (fun h13 => ?_) (fun h13 => ?_)
            ·
              refine lv_iconst (v := 0) (pc := 73) hx hb dzM_signal_73 (by decide) ?_
              exact K4 0 H locs (Eq.mpr (if_neg h10) (Eq.mpr (if_pos h11) (Eq.mpr (if_neg h12) (Eq.mpr (if_neg h13) rfl)))) xk_b0 hP hD hS
            ·
              refine lv_aload_n (pc := 39) hx hb dzM_signal_39 rfl (lv_at hl 2 rfl) ?_
              refine lv_iconst (v := 3) (pc := 40) hx hb dzM_signal_40 (by decide) ?_
              refine lv_iload_n (pc := 41) hx hb dzM_signal_41 rfl (lv_at hl 0 rfl) ?_
              refine lv_imul (pc := 42) hx hb dzM_signal_42 ?_
              refine xk_is (y := 3) (by decide) ?_
              refine lv_iconst (v := 1) (pc := 43) hx hb dzM_signal_43 (by decide) ?_
              refine lv_iadd (pc := 44) hx hb dzM_signal_44 ?_
              refine xk_is (y := 4) (by decide) ?_
              refine xk_allVI (As := [.int 4]) (rest := []) (H0 := s.heap) (pc := 45) hx hb hml hts hown hK hA hP hD hS (kzM_isFree_4 l G ac ad g3) vfzM_129 (fun _ => rfl) 0 rfl rfl ⟨rfl, rfl⟩ ⟨Nat.le_of_ble_eq_true rfl, Nat.le_of_ble_eq_true rfl⟩ rfl hl.1 rfl (Nat.le_of_ble_eq_true rfl) ⟨Nat.zero_le _, Nat.zero_le _⟩ dzM_signal_45 (fun r6 u9 H locs e9 hP hD hS => ?_)
              obtain rfl : r6 = qzM_isFree_4 g3 := e9
              have hP : va_P G xk_cls (xk_wM ad ac g3) H := hP
              have hD : va_D A (xk_wM ad ac g3) := hD
              refine lv_if_eq (pc := 48) (tgt := 73) hx hb dzM_signal_48 (by decide) (fun h14 => ?_) (fun h14 => ?_)
              ·
                refine lv_iconst (v := 0) (pc := 73) hx hb dzM_signal_73 (by decide) ?_
                exact K4 0 H locs (Eq.mpr (if_neg h10) (Eq.mpr (if_pos h11) (Eq.mpr (if_neg h12) (Eq.mpr (if_pos h13) (Eq.mpr (if_pos h14) rfl))))) xk_b0 hP hD hS
              ·
                refine lv_aload_n (pc := 51) hx hb dzM_signal_51 rfl (lv_at hl 2 rfl) ?_
                refine xk_get (pc := 52) hx hb hts hown hK hP ffzM_77 0 rfl rfl dzM_signal_52 ?_
                refine lv_iconst (v := 1) (pc := 55) hx hb dzM_signal_55 (by decide) ?_
                refine xk_zald (q0 := 23) (t0 := 1) (j := 1) (pc := 56) hx hb hK hP rfl rfl (pk_in 1 3 (by decide)) (pk_cl 1) dzM_signal_56 ?_
                refine lv_if_eq (pc := 57) (tgt := 69) hx hb dzM_signal_57 (by decide) (fun h15 => ?_) (fun h15 => ?_)
                ·
                  refine lv_iconst (v := 1) (pc := 69) hx hb dzM_signal_69 (by decide) ?_
                  refine lv_goto (tgt := 74) (pc := 70) hx hb dzM_signal_70 (by decide) ?_
                  exact K4 1 H locs (Eq.mpr (if_neg h10) (Eq.mpr (if_pos h11) (Eq.mpr (if_neg h12) (Eq.mpr (if_pos h13) (Eq.mpr (if_neg h14) (Eq.mpr (if_pos h15) rfl)))))) xk_b1 hP hD hS
                ·
                  refine lv_aload_n (pc := 60) hx hb dzM_signal_60 rfl (lv_at hl 2 rfl) ?_
                  refine xk_get (pc := 61) hx hb hts hown hK hP ffzM_77 0 rfl rfl dzM_signal_61 ?_
                  refine lv_iconst (v := 2) (pc := 64) hx hb dzM_signal_64 (by decide) ?_
                  refine xk_zald (q0 := 23) (t0 := 1) (j := 2) (pc := 65) hx hb hK hP rfl rfl (pk_in 2 3 (by decide)) (pk_cl 2) dzM_signal_65 ?_
                  refine lv_if_ne (pc := 66) (tgt := 73) hx hb dzM_signal_66 (by decide) (fun h16 => ?_) (fun h16 => ?_)
                  ·
                    refine lv_iconst (v := 0) (pc := 73) hx hb dzM_signal_73 (by decide) ?_
                    exact K4 0 H locs (Eq.mpr (if_neg h10) (Eq.mpr (if_pos h11) (Eq.mpr (if_neg h12) (Eq.mpr (if_pos h13) (Eq.mpr (if_neg h14) (Eq.mpr (if_neg h15) (Eq.mpr (if_neg h16) rfl))))))) xk_b0 hP hD hS
                  ·
                    refine lv_iconst (v := 1) (pc := 69) hx hb dzM_signal_69 (by decide) ?_
                    refine lv_goto (tgt := 74) (pc := 70) hx hb dzM_signal_70 (by decide) ?_
                    exact K4 1 H locs (Eq.mpr (if_neg h10) (Eq.mpr (if_pos h11) (Eq.mpr (if_neg h12) (Eq.mpr (if_pos h13) (Eq.mpr (if_neg h14) (Eq.mpr (if_neg h15) (Eq.mpr (if_pos h16) rfl))))))) xk_b1 hP hD hS
    refine lv_icmp_eq (pc := 82) (tgt := 99) hx hb dzM_signal_82 (by decide) (fun h8 => ?_) (fun h8 => ?_)
    ·
      exact K3 g0 H locs (Eq.mpr (if_pos h8) rfl) (xk_cnt_le Ig0 (by omega)) hP hD hS
    ·
      refine lv_aload_n (pc := 85) hx hb dzM_signal_85 rfl (lv_at hl 2 rfl) ?_
      refine lv_iload_n (pc := 86) hx hb dzM_signal_86 rfl (lv_at hl 0 rfl) ?_
      have K2 : ∀ (x2 : Int32), (if x1 = 0 then (x2 = 5) else (x2 = 4)) → (¬ x2 = 0) → W p l e xk_r1 s m args below meth c H locs 0 0 Q (F0 m 95 ls [.int x2, .ref (ad 0)]) := by
        intro x2 R2 nx2
        refine lv_iload_n (pc := 95) hx hb dzM_signal_95 rfl (lv_at hl 1 rfl) ?_
        refine xk_allVV (As := [.int x2, .int 0]) (rest := []) (H0 := s.heap) (pc := 96) hx hb hml hts hown hK hA hP hD hS (kzM_note l G ac ad g0 x2 0 (B + 0) Ig0 (by omega)) vfzM_106 (fun _ => rfl) 0 rfl rfl ⟨rfl, rfl⟩ ⟨Nat.le_of_ble_eq_true rfl, Nat.le_of_ble_eq_true rfl⟩ rfl hl.1 rfl (Nat.le_of_ble_eq_true rfl) ⟨Nat.zero_le _, Nat.zero_le _⟩ dzM_signal_96 (fun g1 H locs hg1 hP hD hS => ?_)
        have hP : va_P G xk_cls (xk_wM ad ac g1) H := hP
        have hD : va_D A (xk_wM ad ac g1) := hD
        have Ig1 : xk_cnt (B + 1) g1 := xk_cnt_le (iczM_note (B + 0) _ _ _ _ hg1 Ig0) (by omega)
        exact K3 g1 H locs (Eq.mpr (if_neg h8) ⟨x2, R2, ⟨g1, hg1, rfl⟩⟩) (xk_cnt_le Ig1 (by omega)) hP hD hS
      refine lv_if_eq (pc := 87) (tgt := 94) hx hb dzM_signal_87 (by decide) (fun h9 => ?_) (fun h9 => ?_)
      ·
        refine lv_iconst (v := 5) (pc := 94) hx hb dzM_signal_94 (by decide) ?_
        exact K2 5 (Eq.mpr (if_pos h9) rfl) (by decide)
      ·
        refine lv_iconst (v := 4) (pc := 90) hx hb dzM_signal_90 (by decide) ?_
        refine lv_goto (tgt := 95) (pc := 91) hx hb dzM_signal_91 (by decide) ?_
        exact K2 4 (Eq.mpr (if_neg h9) rfl) (by decide)
  refine lv_if_eq (pc := 13) (tgt := 73) hx hb dzM_signal_13 (by decide) (fun h1 => ?_) (fun h1 => ?_)
  ·
    refine lv_iconst (v := 0) (pc := 73) hx hb dzM_signal_73 (by decide) ?_
    exact K1 0 H locs (Eq.mpr (if_pos h1) rfl) xk_b0 hP hD hS
  ·
    refine lv_aload_n (pc := 16) hx hb dzM_signal_16 rfl (lv_at hl 1 rfl) ?_
    refine xk_get (pc := 17) hx hb hts hown hK hP ffzM_152 0 rfl rfl dzM_signal_17 ?_
    refine lv_iconst (v := 4) (pc := 20) hx hb dzM_signal_20 (by decide) ?_
    refine lv_icmp_ne (pc := 21) (tgt := 73) hx hb dzM_signal_21 (by decide) (fun h2 => ?_) (fun h2 => ?_)
    ·
      refine lv_iconst (v := 0) (pc := 73) hx hb dzM_signal_73 (by decide) ?_
      exact K1 0 H locs (Eq.mpr (if_neg h1) (Eq.mpr (if_neg h2) rfl)) xk_b0 hP hD hS
    ·
      refine lv_aload_n (pc := 24) hx hb dzM_signal_24 rfl (lv_at hl 1 rfl) ?_
      refine xk_allVI (As := []) (rest := []) (H0 := s.heap) (pc := 25) hx hb hml hts hown hK hA hP hD hS (kzM_isProved l G ac ad g0) vfzM_158 (fun _ => rfl) 0 rfl rfl ⟨rfl, rfl⟩ ⟨Nat.le_of_ble_eq_true rfl, Nat.le_of_ble_eq_true rfl⟩ rfl hl.1 rfl (Nat.le_of_ble_eq_true rfl) ⟨Nat.zero_le _, Nat.zero_le _⟩ dzM_signal_25 (fun r1 u9 H locs e9 hP hD hS => ?_)
      obtain rfl : r1 = qzM_isProved g0 := e9
      have hP : va_P G xk_cls (xk_wM ad ac g0) H := hP
      have hD : va_D A (xk_wM ad ac g0) := hD
      refine lv_if_eq (pc := 28) (tgt := 73) hx hb dzM_signal_28 (by decide) (fun h3 => ?_) (fun h3 => ?_)
      ·
        refine lv_iconst (v := 0) (pc := 73) hx hb dzM_signal_73 (by decide) ?_
        exact K1 0 H locs (Eq.mpr (if_neg h1) (Eq.mpr (if_pos h2) (Eq.mpr (if_pos h3) rfl))) xk_b0 hP hD hS
      ·
        refine lv_aload_n (pc := 31) hx hb dzM_signal_31 rfl (lv_at hl 1 rfl) ?_
        refine lv_iload_n (pc := 32) hx hb dzM_signal_32 rfl (lv_at hl 0 rfl) ?_
        refine xk_allVI (As := [.int 0]) (rest := []) (H0 := s.heap) (pc := 33) hx hb hml hts hown hK hA hP hD hS (kzM_anyDisturbed_0 l G ac ad g0) vfzM_126 (fun _ => rfl) 0 rfl rfl ⟨rfl, rfl⟩ ⟨Nat.le_of_ble_eq_true rfl, Nat.le_of_ble_eq_true rfl⟩ rfl hl.1 rfl (Nat.le_of_ble_eq_true rfl) ⟨Nat.zero_le _, Nat.zero_le _⟩ dzM_signal_33 (fun r2 u9 H locs e9 hP hD hS => ?_)
        obtain rfl : r2 = qzM_anyDisturbed_0 g0 := e9
        have hP : va_P G xk_cls (xk_wM ad ac g0) H := hP
        have hD : va_D A (xk_wM ad ac g0) := hD
        refine lv_if_ne (pc := 36) (tgt := 73) hx hb dzM_signal_36 (by decide) (fun h4 => ?_) (fun h4 => ?_)
        ·
          refine lv_iconst (v := 0) (pc := 73) hx hb dzM_signal_73 (by decide) ?_
          exact K1 0 H locs (Eq.mpr (if_neg h1) (Eq.mpr (if_pos h2) (Eq.mpr (if_neg h3) (Eq.mpr (if_neg h4) rfl)))) xk_b0 hP hD hS
        ·
          refine lv_aload_n (pc := 39) hx hb dzM_signal_39 rfl (lv_at hl 1 rfl) ?_
          refine lv_iconst (v := 3) (pc := 40) hx hb dzM_signal_40 (by decide) ?_
          refine lv_iload_n (pc := 41) hx hb dzM_signal_41 rfl (lv_at hl 0 rfl) ?_
          refine lv_imul (pc := 42) hx hb dzM_signal_42 ?_
          refine xk_is (y := 0) (by decide) ?_
          refine lv_iconst (v := 1) (pc := 43) hx hb dzM_signal_43 (by decide) ?_
          refine lv_iadd (pc := 44) hx hb dzM_signal_44 ?_
          refine xk_is (y := 1) (by decide) ?_
          refine xk_allVI (As := [.int 1]) (rest := []) (H0 := s.heap) (pc := 45) hx hb hml hts hown hK hA hP hD hS (kzM_isFree_1 l G ac ad g0) vfzM_129 (fun _ => rfl) 0 rfl rfl ⟨rfl, rfl⟩ ⟨Nat.le_of_ble_eq_true rfl, Nat.le_of_ble_eq_true rfl⟩ rfl hl.1 rfl (Nat.le_of_ble_eq_true rfl) ⟨Nat.zero_le _, Nat.zero_le _⟩ dzM_signal_45 (fun r3 u9 H locs e9 hP hD hS => ?_)
          obtain rfl : r3 = qzM_isFree_1 g0 := e9
          have hP : va_P G xk_cls (xk_wM ad ac g0) H := hP
          have hD : va_D A (xk_wM ad ac g0) := hD
          refine lv_if_eq (pc := 48) (tgt := 73) hx hb dzM_signal_48 (by decide) (fun h5 => ?_) (fun h5 => ?_)
          ·
            refine lv_iconst (v := 0) (pc := 73) hx hb dzM_signal_73 (by decide) ?_
            exact K1 0 H locs (Eq.mpr (if_neg h1) (Eq.mpr (if_pos h2) (Eq.mpr (if_neg h3) (Eq.mpr (if_pos h4) (Eq.mpr (if_pos h5) rfl))))) xk_b0 hP hD hS
          ·
            refine lv_aload_n (pc := 51) hx hb dzM_signal_51 rfl (lv_at hl 1 rfl) ?_
            refine xk_get (pc := 52) hx hb hts hown hK hP ffzM_77 0 rfl rfl dzM_signal_52 ?_
            refine lv_iconst (v := 1) (pc := 55) hx hb dzM_signal_55 (by decide) ?_
            refine xk_zald (q0 := 23) (t0 := 1) (j := 1) (pc := 56) hx hb hK hP rfl rfl (pk_in 1 3 (by decide)) (pk_cl 1) dzM_signal_56 ?_
            refine lv_if_eq (pc := 57) (tgt := 69) hx hb dzM_signal_57 (by decide) (fun h6 => ?_) (fun h6 => ?_)
            ·
              refine lv_iconst (v := 1) (pc := 69) hx hb dzM_signal_69 (by decide) ?_
              refine lv_goto (tgt := 74) (pc := 70) hx hb dzM_signal_70 (by decide) ?_
              exact K1 1 H locs (Eq.mpr (if_neg h1) (Eq.mpr (if_pos h2) (Eq.mpr (if_neg h3) (Eq.mpr (if_pos h4) (Eq.mpr (if_neg h5) (Eq.mpr (if_pos h6) rfl)))))) xk_b1 hP hD hS
            ·
              refine lv_aload_n (pc := 60) hx hb dzM_signal_60 rfl (lv_at hl 1 rfl) ?_
              refine xk_get (pc := 61) hx hb hts hown hK hP ffzM_77 0 rfl rfl dzM_signal_61 ?_
              refine lv_iconst (v := 2) (pc := 64) hx hb dzM_signal_64 (by decide) ?_
              refine xk_zald (q0 := 23) (t0 := 1) (j := 2) (pc := 65) hx hb hK hP rfl rfl (pk_in 2 3 (by decide)) (pk_cl 2) dzM_signal_65 ?_
              refine lv_if_ne (pc := 66) (tgt := 73) hx hb dzM_signal_66 (by decide) (fun h7 => ?_) (fun h7 => ?_)
              ·
                refine lv_iconst (v := 0) (pc := 73) hx hb dzM_signal_73 (by decide) ?_
                exact K1 0 H locs (Eq.mpr (if_neg h1) (Eq.mpr (if_pos h2) (Eq.mpr (if_neg h3) (Eq.mpr (if_pos h4) (Eq.mpr (if_neg h5) (Eq.mpr (if_neg h6) (Eq.mpr (if_neg h7) rfl))))))) xk_b0 hP hD hS
              ·
                refine lv_iconst (v := 1) (pc := 69) hx hb dzM_signal_69 (by decide) ?_
                refine lv_goto (tgt := 74) (pc := 70) hx hb dzM_signal_70 (by decide) ?_
                exact K1 1 H locs (Eq.mpr (if_neg h1) (Eq.mpr (if_pos h2) (Eq.mpr (if_neg h3) (Eq.mpr (if_pos h4) (Eq.mpr (if_neg h5) (Eq.mpr (if_neg h6) (Eq.mpr (if_pos h7) rfl))))))) xk_b1 hP hD hS
theorem frzM_signal (g0 : xk_St) (gz : xk_St) : relzM_signal g0 gz → xk_eqv [1, 2, 3, 4, 5, 6, 7, 8, 9, 10, 11, 12, 13, 14, 15, 16, 17, 18, 19, 20, 21, 22, 23] g0 gz := by
  intro h
  unfold relzM_signal at h
  have s0 : xk_eqv [1, 2, 3, 4, 5, 6, 7, 8, 9, 10, 11, 12, 13, 14, 15, 16, 17, 18, 19, 20, 21, 22, 23] g0 g0 := xk_eqv_rf
  obtain ⟨x1, u1, v2⟩ := h
  obtain ⟨g2, u3, v4⟩ := v2
  have s5 : xk_eqv [1, 2, 3, 4, 5, 6, 7, 8, 9, 10, 11, 12, 13, 14, 15, 16, 17, 18, 19, 20, 21, 22, 23] g0 g2 := by
    by_cases hc : x1 = ((g0 24) 0)
    · rw [if_pos hc] at u3
      rw [u3]; exact s0
    · rw [if_neg hc] at u3
      obtain ⟨x2, u6, v7⟩ := u3
      obtain ⟨g1, u8, v9⟩ := v7
      have s10 : xk_eqv [1, 2, 3, 4, 5, 6, 7, 8, 9, 10, 11, 12, 13, 14, 15, 16, 17, 18, 19, 20, 21, 22, 23] g0 g1 := xk_eqv_tr s0 (xk_eqv_sub (frzM_note _ _ _ _ u8) (by decide))
      rw [v9]; exact s10
  obtain ⟨g3, u11, v12⟩ := v4
  have s13 : xk_eqv [1, 2, 3, 4, 5, 6, 7, 8, 9, 10, 11, 12, 13, 14, 15, 16, 17, 18, 19, 20, 21, 22, 23] g0 g3 := by rw [u11]; repeat (first | exact s5 | refine xk_eqv_up (by decide) ?_)
  obtain ⟨x3, u14, v15⟩ := v12
  obtain ⟨g5, u16, v17⟩ := v15
  have s18 : xk_eqv [1, 2, 3, 4, 5, 6, 7, 8, 9, 10, 11, 12, 13, 14, 15, 16, 17, 18, 19, 20, 21, 22, 23] g0 g5 := by
    by_cases hc : x3 = ((g3 24) 1)
    · rw [if_pos hc] at u16
      rw [u16]; exact s13
    · rw [if_neg hc] at u16
      obtain ⟨x4, u19, v20⟩ := u16
      obtain ⟨g4, u21, v22⟩ := v20
      have s23 : xk_eqv [1, 2, 3, 4, 5, 6, 7, 8, 9, 10, 11, 12, 13, 14, 15, 16, 17, 18, 19, 20, 21, 22, 23] g0 g4 := xk_eqv_tr s13 (xk_eqv_sub (frzM_note _ _ _ _ u21) (by decide))
      rw [v22]; exact s23
  obtain ⟨g6, u24, v25⟩ := v17
  have s26 : xk_eqv [1, 2, 3, 4, 5, 6, 7, 8, 9, 10, 11, 12, 13, 14, 15, 16, 17, 18, 19, 20, 21, 22, 23] g0 g6 := by rw [u24]; repeat (first | exact s18 | refine xk_eqv_up (by decide) ?_)
  rw [v25]; exact s26
theorem iczM_signal (B : Nat) (g0 : xk_St) (gz : xk_St) : relzM_signal g0 gz → xk_cnt B g0 → xk_cnt (B + 2) gz := by
  intro h Ig0
  unfold relzM_signal at h
  have Ig0 : xk_cnt (B + 0) g0 := Ig0
  obtain ⟨x1, u1, v2⟩ := h
  obtain ⟨g2, u3, v4⟩ := v2
  have Ig2 : xk_cnt (B + 1) g2 := by
    by_cases hc : x1 = ((g0 24) 0)
    · rw [if_pos hc] at u3
      rw [u3]; exact xk_cnt_le Ig0 (by omega)
    · rw [if_neg hc] at u3
      obtain ⟨x2, u5, v6⟩ := u3
      obtain ⟨g1, u7, v8⟩ := v6
      have Ig1 : xk_cnt (B + 1) g1 := xk_cnt_le (iczM_note (B + 0) _ _ _ _ u7 Ig0) (by omega)
      rw [v8]; exact xk_cnt_le Ig1 (by omega)
  obtain ⟨g3, u9, v10⟩ := v4
  have Ig3 : xk_cnt (B + 1) g3 := by rw [u9]; repeat (first | exact Ig2 | refine xk_cnt_k (by decide) ?_ | refine xk_cnt_f (by decide) ?_ | refine xk_cnt_s ?_)
  obtain ⟨x3, u11, v12⟩ := v10
  obtain ⟨g5, u13, v14⟩ := v12
  have Ig5 : xk_cnt (B + 2) g5 := by
    by_cases hc : x3 = ((g3 24) 1)
    · rw [if_pos hc] at u13
      rw [u13]; exact xk_cnt_le Ig3 (by omega)
    · rw [if_neg hc] at u13
      obtain ⟨x4, u15, v16⟩ := u13
      obtain ⟨g4, u17, v18⟩ := v16
      have Ig4 : xk_cnt (B + 2) g4 := xk_cnt_le (iczM_note (B + 1) _ _ _ _ u17 Ig3) (by omega)
      rw [v18]; exact xk_cnt_le Ig4 (by omega)
  obtain ⟨g6, u19, v20⟩ := v14
  have Ig6 : xk_cnt (B + 2) g6 := by rw [u19]; repeat (first | exact Ig5 | refine xk_cnt_k (by decide) ?_ | refine xk_cnt_f (by decide) ?_ | refine xk_cnt_s ?_)
  rw [v20]; exact xk_cnt_le Ig6 (by omega)

