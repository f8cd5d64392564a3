def qzB_startsAlarm (a0 : Int32) (a1 : Int32) (a2 : Int32) (a4 : Int32) : Int32 := (if (if a2 = 0 then 0 else (if (if a0 = a1 then 0 else 1 : Int32) = 0 then a4 + 1 else 0 : Int32) : Int32) = 61 then 1 else 0 : Int32)
def qzB_startsAlarm_a1 (a0 : Int32) : Int32 := a0
def qzB_startsAlarm_a3 (a0 : Int32) (a3 : Int32) : Int32 := (if a0 = 0 then a3 + 1 else 0 : Int32)
def qzB_startsAlarm_a4 (a0 : Int32) (a1 : Int32) (a2 : Int32) (a4 : Int32) : Int32 := (if a2 = 0 then 0 else (if (if a0 = a1 then 0 else 1 : Int32) = 0 then a4 + 1 else 0 : Int32) : Int32)
def qzB_startsAlarm_a5 (a0 : Int32) (a1 : Int32) (a2 : Int32) (a4 : Int32) (a5 : Int32) : Int32 := (if (if a2 = 0 then 0 else (if (if a0 = a1 then 0 else 1 : Int32) = 0 then a4 + 1 else 0 : Int32) : Int32) = 61 then 1 else (if (if a0 = a1 then 0 else 1 : Int32) = 0 then a5 else 0 : Int32) : Int32)
theorem bzB_startsAlarm (a0 : Int32) (a1 : Int32) (a2 : Int32) (a4 : Int32) : xk_b (qzB_startsAlarm a0 a1 a2 a4) := by
  unfold qzB_startsAlarm
  repeat' (first | with_reducible exact xk_b0 | with_reducible exact xk_b1 | with_reducible assumption | apply xk_bi)
set_option maxHeartbeats 4000000 in
set_option maxRecDepth 100000 in
theorem kzB_startsAlarm (l : Launch) (G : va_G) (ac : Nat → ClassId) (oa : Nat) (a0 : Int32) (a1 : Int32) (a2 : Int32) (a3 : Int32) (a4 : Int32) (a5 : Int32) : xk_CI l yzB_startsAlarm czB_startsAlarm 2 .boolean xk_WS xk_r0 G xk_cls (xk_tys ac) [.ref oa] [(oa, .inr (4, [.int a0, .int a1, .int a2, .int a3, .int a4, .int a5]))] (fun r (_ : Unit) => r = qzB_startsAlarm a0 a1 a2 a4) (fun _ => [(oa, .inr (4, [.int a0, .int (qzB_startsAlarm_a1 a0), .int a2, .int (qzB_startsAlarm_a3 a0 a3), .int (qzB_startsAlarm_a4 a0 a1 a2 a4), .int (qzB_startsAlarm_a5 a0 a1 a2 a4 a5)]))]) := by
  refine xk_ofI (by decide) (Nat.le_of_ble_eq_true rfl) ?_
  intro p e s m args below meth c A Q H locs ls C0 hret hP hD hS hl
  obtain ⟨hx, hb, hml, hts, hown, hK, hA⟩ := C0
  have hl : lv_has ls 2 [(0, .ref oa)] := hl
  refine lv_aload_n (pc := 0) hx hb dzB_startsAlarm_0 rfl (lv_at hl 0 rfl) ?_
  refine xk_get (pc := 1) hx hb hts hown hK hP ffzB_9 0 rfl rfl dzB_startsAlarm_1 ?_
  refine lv_aload_n (pc := 4) hx hb dzB_startsAlarm_4 rfl (lv_at hl 0 rfl) ?_
  refine xk_get (pc := 5) hx hb hts hown hK hP ffzB_15 0 rfl rfl dzB_startsAlarm_5 ?_
  have K1 : W p l e xk_r0 s m args below meth c H locs 0 0 Q (F0 m 16 ls [.int (if a0 = a1 then 0 else 1 : Int32)]) := by
    refine lv_istore_n (lv' := [(1, .int (if a0 = a1 then 0 else 1 : Int32)), (0, .ref oa)]) (pc := 16) hx hb dzB_startsAlarm_16 rfl hl (by decide) rfl (fun ls hl => ?_)
    refine lv_aload_n (pc := 17) hx hb dzB_startsAlarm_17 rfl (lv_at hl 1 rfl) ?_
    refine lv_aload_n (pc := 18) hx hb dzB_startsAlarm_18 rfl (lv_at hl 1 rfl) ?_
    refine xk_get (pc := 19) hx hb hts hown hK hP ffzB_9 0 rfl rfl dzB_startsAlarm_19 ?_
    refine xk_putf (pc := 22) hx hb hts hown hK hP hD hS pfzB_15 0 rfl rfl rfl (Nat.le_of_ble_eq_true rfl) dzB_startsAlarm_22 (fun H locs hP hD hS => ?_)
    have hP : va_P G xk_cls [(oa, .inr (4, [.int a0, .int a0, .int a2, .int a3, .int a4, .int a5]))] H := hP
    have hD : va_D A [(oa, .inr (4, [.int a0, .int a0, .int a2, .int a3, .int a4, .int a5]))] := hD
    refine lv_aload_n (pc := 25) hx hb dzB_startsAlarm_25 rfl (lv_at hl 1 rfl) ?_
    refine lv_aload_n (pc := 26) hx hb dzB_startsAlarm_26 rfl (lv_at hl 1 rfl) ?_
    refine xk_get (pc := 27) hx hb hts hown hK hP ffzB_9 0 rfl rfl dzB_startsAlarm_27 ?_
    have K2 : W p l e xk_r0 s m args below meth c H locs 0 0 Q (F0 m 43 ls [.int (if a0 = 0 then a3 + 1 else 0 : Int32), .ref oa]) := by
      refine xk_putf (pc := 43) hx hb hts hown hK hP hD hS pfzB_21 0 rfl rfl rfl (Nat.le_of_ble_eq_true rfl) dzB_startsAlarm_43 (fun H locs hP hD hS => ?_)
      have hP : va_P G xk_cls [(oa, .inr (4, [.int a0, .int a0, .int a2, .int (if a0 = 0 then a3 + 1 else 0 : Int32), .int a4, .int a5]))] H := hP
      have hD : va_D A [(oa, .inr (4, [.int a0, .int a0, .int a2, .int (if a0 = 0 then a3 + 1 else 0 : Int32), .int a4, .int a5]))] := hD
      refine lv_aload_n (pc := 46) hx hb dzB_startsAlarm_46 rfl (lv_at hl 1 rfl) ?_
      refine lv_aload_n (pc := 47) hx hb dzB_startsAlarm_47 rfl (lv_at hl 1 rfl) ?_
      refine xk_get (pc := 48) hx hb hts hown hK hP ffzB_18 0 rfl rfl dzB_startsAlarm_48 ?_
      have K3 : W p l e xk_r0 s m args below meth c H locs 0 0 Q (F0 m 68 ls [.int (if a2 = 0 then 0 else (if (if a0 = a1 then 0 else 1 : Int32) = 0 then a4 + 1 else 0 : Int32) : Int32), .ref oa]) := by
        refine xk_putf (pc := 68) hx hb hts hown hK hP hD hS pfzB_24 0 rfl rfl rfl (Nat.le_of_ble_eq_true rfl) dzB_startsAlarm_68 (fun H locs hP hD hS => ?_)
        have hP : va_P G xk_cls [(oa, .inr (4, [.int a0, .int a0, .int a2, .int (if a0 = 0 then a3 + 1 else 0 : Int32), .int (if a2 = 0 then 0 else (if (if a0 = a1 then 0 else 1 : Int32) = 0 then a4 + 1 else 0 : Int32) : Int32), .int a5]))] H := hP
        have hD : va_D A [(oa, .inr (4, [.int a0, .int a0, .int a2, .int (if a0 = 0 then a3 + 1 else 0 : Int32), .int (if a2 = 0 then 0 else (if (if a0 = a1 then 0 else 1 : Int32) = 0 then a4 + 1 else 0 : Int32) : Int32), .int a5]))] := hD
        refine lv_iload_n (pc := 71) hx hb dzB_startsAlarm_71 rfl (lv_at hl 0 rfl) ?_
        have K4 : ∀ (H : Heap) (locs : List Loc), (va_P G xk_cls [(oa, .inr (4, [.int a0, .int a0, .int a2, .int (if a0 = 0 then a3 + 1 else 0 : Int32), .int (if a2 = 0 then 0 else (if (if a0 = a1 then 0 else 1 : Int32) = 0 then a4 + 1 else 0 : Int32) : Int32), .int (if (if a0 = a1 then 0 else 1 : Int32) = 0 then a5 else 0 : Int32)]))] H) → (va_D A [(oa, .inr (4, [.int a0, .int a0, .int a2, .int (if a0 = 0 then a3 + 1 else 0 : Int32), .int (if a2 = 0 then 0 else (if (if a0 = a1 then 0 else 1 : Int32) = 0 then a4 + 1 else 0 : Int32) : Int32), .int (if (if a0 = a1 then 0 else 1 : Int32) = 0 then a5 else 0 : Int32)]))]) → (va_S A s.heap H locs) → W p l e xk_r0 s m args below meth c H locs 0 0 Q (F0 m 80 ls []) := by
          intro H locs hP hD hS
          refine lv_aload_n (pc := 80) hx hb dzB_startsAlarm_80 rfl (lv_at hl 1 rfl) ?_
          refine xk_get (pc := 81) hx hb hts hown hK hP ffzB_24 0 rfl rfl dzB_startsAlarm_81 ?_
          refine lv_bipush (v := 61) (pc := 84) hx hb dzB_startsAlarm_84 (by decide) ?_
          refine lv_icmp_eq (pc := 86) (tgt := 91) hx hb dzB_startsAlarm_86 (by decide) (fun h6 => ?_) (fun h6 => ?_)
          ·
            refine lv_aload_n (pc := 91) hx hb dzB_startsAlarm_91 rfl (lv_at hl 1 rfl) ?_
            refine lv_iconst (v := 1) (pc := 92) hx hb dzB_startsAlarm_92 (by decide) ?_
            refine xk_putf (pc := 93) hx hb hts hown hK hP hD hS pfzB_27 0 rfl (xk_bn xk_b1) (xk_bf xk_b1) (Nat.le_of_ble_eq_true rfl) dzB_startsAlarm_93 (fun H locs hP hD hS => ?_)
            have hP : va_P G xk_cls [(oa, .inr (4, [.int a0, .int a0, .int a2, .int (if a0 = 0 then a3 + 1 else 0 : Int32), .int (if a2 = 0 then 0 else (if (if a0 = a1 then 0 else 1 : Int32) = 0 then a4 + 1 else 0 : Int32) : Int32), .int 1]))] H := hP
            have hD : va_D A [(oa, .inr (4, [.int a0, .int a0, .int a2, .int (if a0 = 0 then a3 + 1 else 0 : Int32), .int (if a2 = 0 then 0 else (if (if a0 = a1 then 0 else 1 : Int32) = 0 then a4 + 1 else 0 : Int32) : Int32), .int 1]))] := hD
            refine lv_iconst (v := 1) (pc := 96) hx hb dzB_startsAlarm_96 (by decide) ?_
            have j0 : qzB_startsAlarm_a1 a0 = a0 := by unfold qzB_startsAlarm_a1; (first | rfl | simp only [if_pos h6])
            have j1 : qzB_startsAlarm_a3 a0 a3 = (if a0 = 0 then a3 + 1 else 0 : Int32) := by unfold qzB_startsAlarm_a3; (first | rfl | simp only [if_pos h6])
            have j2 : qzB_startsAlarm_a4 a0 a1 a2 a4 = (if a2 = 0 then 0 else (if (if a0 = a1 then 0 else 1 : Int32) = 0 then a4 + 1 else 0 : Int32) : Int32) := by unfold qzB_startsAlarm_a4; (first | rfl | simp only [if_pos h6])
            have j3 : qzB_startsAlarm_a5 a0 a1 a2 a4 a5 = 1 := by unfold qzB_startsAlarm_a5; (first | rfl | simp only [if_pos h6])
            have jr : qzB_startsAlarm a0 a1 a2 a4 = 1 := by unfold qzB_startsAlarm; (first | rfl | simp only [if_pos h6])
            have hP : va_P G xk_cls [(oa, .inr (4, [.int a0, .int (qzB_startsAlarm_a1 a0), .int a2, .int (qzB_startsAlarm_a3 a0 a3), .int (qzB_startsAlarm_a4 a0 a1 a2 a4), .int (qzB_startsAlarm_a5 a0 a1 a2 a4 a5)]))] H := by rw [j0, j1, j2, j3]; exact hP
            exact hret _ () H locs 97 ls hP hS (xk_bn xk_b1) jr.symm dzB_startsAlarm_97
          ·
            refine lv_iconst (v := 0) (pc := 89) hx hb dzB_startsAlarm_89 (by decide) ?_
            have j0 : qzB_startsAlarm_a1 a0 = a0 := by unfold qzB_startsAlarm_a1; (first | rfl | simp only [if_neg h6])
            have j1 : qzB_startsAlarm_a3 a0 a3 = (if a0 = 0 then a3 + 1 else 0 : Int32) := by unfold qzB_startsAlarm_a3; (first | rfl | simp only [if_neg h6])
            have j2 : qzB_startsAlarm_a4 a0 a1 a2 a4 = (if a2 = 0 then 0 else (if (if a0 = a1 then 0 else 1 : Int32) = 0 then a4 + 1 else 0 : Int32) : Int32) := by unfold qzB_startsAlarm_a4; (first | rfl | simp only [if_neg h6])
            have j3 : qzB_startsAlarm_a5 a0 a1 a2 a4 a5 = (if (if a0 = a1 then 0 else 1 : Int32) = 0 then a5 else 0 : Int32) := by unfold qzB_startsAlarm_a5; (first | rfl | simp only [if_neg h6])
            have jr : qzB_startsAlarm a0 a1 a2 a4 = 0 := by unfold qzB_startsAlarm; (first | rfl | simp only [if_neg h6])
            have hP : va_P G xk_cls [(oa, .inr (4, [.int a0, .int (qzB_startsAlarm_a1 a0), .int a2, .int (qzB_startsAlarm_a3 a0 a3), .int (qzB_startsAlarm_a4 a0 a1 a2 a4), .int (qzB_startsAlarm_a5 a0 a1 a2 a4 a5)]))] H := by rw [j0, j1, j2, j3]; exact hP
            exact hret _ () H locs 90 ls hP hS (xk_bn xk_b0) jr.symm dzB_startsAlarm_90
        refine lv_if_eq (pc := 72) (tgt := 80) hx hb dzB_startsAlarm_72 (by decide) (fun h5 => ?_) (fun h5 => ?_)
        ·
          have K9 := K4
          try simp only [if_pos h5] at K9
          first | exact K9 H locs hP hD hS | (simp only [if_pos h5] at hP hD; exact K9 H locs hP hD hS) | (simp only [if_pos h5] at hP hD ⊢; exact K9 H locs hP hD hS)
        ·
          refine lv_aload_n (pc := 75) hx hb dzB_startsAlarm_75 rfl (lv_at hl 1 rfl) ?_
          refine lv_iconst (v := 0) (pc := 76) hx hb dzB_startsAlarm_76 (by decide) ?_
          refine xk_putf (pc := 77) hx hb hts hown hK hP hD hS pfzB_27 0 rfl (xk_bn xk_b0) (xk_bf xk_b0) (Nat.le_of_ble_eq_true rfl) dzB_startsAlarm_77 (fun H locs hP hD hS => ?_)
          have hP : va_P G xk_cls [(oa, .inr (4, [.int a0, .int a0, .int a2, .int (if a0 = 0 then a3 + 1 else 0 : Int32), .int (if a2 = 0 then 0 else (if (if a0 = a1 then 0 else 1 : Int32) = 0 then a4 + 1 else 0 : Int32) : Int32), .int 0]))] H := hP
          have hD : va_D A [(oa, .inr (4, [.int a0, .int a0, .int a2, .int (if a0 = 0 then a3 + 1 else 0 : Int32), .int (if a2 = 0 then 0 else (if (if a0 = a1 then 0 else 1 : Int32) = 0 then a4 + 1 else 0 : Int32) : Int32), .int 0]))] := hD
          have K9 := K4
          try simp only [if_neg h5] at K9
          first | exact K9 H locs hP hD hS | (simp only [if_neg h5] at hP hD; exact K9 H locs hP hD hS) | (simp only [if_neg h5] at hP hD ⊢; exact K9 H locs hP hD hS)
      refine lv_if_eq (pc := 51) (tgt := 67) hx hb dzB_startsAlarm_51 (by decide) (fun h3 => ?_) (fun h3 => ?_)
      ·
        refine lv_iconst (v := 0) (pc := 67) hx hb dzB_startsAlarm_67 (by decide) ?_
        have K9 := K3
        try simp only [if_pos h3] at K9
        first | exact K9 | (simp only [if_pos h3]; exact K9)
      ·
        refine lv_iload_n (pc := 54) hx hb dzB_startsAlarm_54 rfl (lv_at hl 0 rfl) ?_
        refine lv_if_ne (pc := 55) (tgt := 67) hx hb dzB_startsAlarm_55 (by decide) (fun h4 => ?_) (fun h4 => ?_)
        ·
          refine lv_iconst (v := 0) (pc := 67) hx hb dzB_startsAlarm_67 (by decide) ?_
          have K9 := K3
          try simp only [if_neg h3, if_neg h4] at K9
          first | exact K9 | (simp only [if_neg h3, if_neg h4]; exact K9)
        ·
          refine lv_aload_n (pc := 58) hx hb dzB_startsAlarm_58 rfl (lv_at hl 1 rfl) ?_
          refine xk_get (pc := 59) hx hb hts hown hK hP ffzB_24 0 rfl rfl dzB_startsAlarm_59 ?_
          refine lv_iconst (v := 1) (pc := 62) hx hb dzB_startsAlarm_62 (by decide) ?_
          refine lv_iadd (pc := 63) hx hb dzB_startsAlarm_63 ?_
          refine lv_goto (tgt := 68) (pc := 64) hx hb dzB_startsAlarm_64 (by decide) ?_
          have K9 := K3
          try simp only [if_neg h3, if_pos h4] at K9
          first | exact K9 | (simp only [if_neg h3, if_pos h4]; exact K9)
    refine lv_if_ne (pc := 30) (tgt := 42) hx hb dzB_startsAlarm_30 (by decide) (fun h2 => ?_) (fun h2 => ?_)
    ·
      refine lv_iconst (v := 0) (pc := 42) hx hb dzB_startsAlarm_42 (by decide) ?_
      have K9 := K2
      try simp only [if_neg h2] at K9
      first | exact K9 | (simp only [if_neg h2]; exact K9)
    ·
      refine lv_aload_n (pc := 33) hx hb dzB_startsAlarm_33 rfl (lv_at hl 1 rfl) ?_
      refine xk_get (pc := 34) hx hb hts hown hK hP ffzB_21 0 rfl rfl dzB_startsAlarm_34 ?_
      refine lv_iconst (v := 1) (pc := 37) hx hb dzB_startsAlarm_37 (by decide) ?_
      refine lv_iadd (pc := 38) hx hb dzB_startsAlarm_38 ?_
      refine lv_goto (tgt := 43) (pc := 39) hx hb dzB_startsAlarm_39 (by decide) ?_
      have K9 := K2
      try simp only [if_pos h2] at K9
      first | exact K9 | (simp only [if_pos h2]; exact K9)
  refine lv_icmp_eq (pc := 8) (tgt := 15) hx hb dzB_startsAlarm_8 (by decide) (fun h1 => ?_) (fun h1 => ?_)
  ·
    refine lv_iconst (v := 0) (pc := 15) hx hb dzB_startsAlarm_15 (by decide) ?_
    have K9 := K1
    try simp only [if_pos h1] at K9
    first | exact K9 | (simp only [if_pos h1]; exact K9)
  ·
    refine lv_iconst (v := 1) (pc := 11) hx hb dzB_startsAlarm_11 (by decide) ?_
    refine lv_goto (tgt := 16) (pc := 12) hx hb dzB_startsAlarm_12 (by decide) ?_
    have K9 := K1
    try simp only [if_neg h1] at K9
    first | exact K9 | (simp only [if_neg h1]; exact K9)
def qzB_drive_a2 (a0 : Int32) (a5 : Int32) (k0 : Int32) : Int32 := (if a5 = 0 then (if k0 = 3 then (if a0 = 0 then (if k0 = 5 then (if a0 = 100 then 0 else 1 : Int32) else (if k0 = 0 then (if a0 = 100 then 0 else 1 : Int32) else 0 : Int32) : Int32) else (-1) : Int32) else (if k0 = 4 then (if a0 = 0 then (if k0 = 5 then (if a0 = 100 then 0 else 1 : Int32) else (if k0 = 0 then (if a0 = 100 then 0 else 1 : Int32) else 0 : Int32) : Int32) else (-1) : Int32) else (if k0 = 5 then (if a0 = 100 then 0 else 1 : Int32) else (if k0 = 0 then (if a0 = 100 then 0 else 1 : Int32) else 0 : Int32) : Int32) : Int32) : Int32) else 0 : Int32)
set_option maxHeartbeats 4000000 in
set_option maxRecDepth 100000 in
theorem kzB_drive (l : Launch) (G : va_G) (ac : Nat → ClassId) (oa : Nat) (a0 : Int32) (a1 : Int32) (a2 : Int32) (a3 : Int32) (a4 : Int32) (a5 : Int32) (k0 : Int32) : xk_CV l yzB_drive czB_drive 2 xk_WS xk_r0 G xk_cls (xk_tys ac) [.ref oa, .int k0] [(oa, .inr (4, [.int a0, .int a1, .int a2, .int a3, .int a4, .int a5]))] (fun _ : Unit => True) (fun _ => [(oa, .inr (4, [.int a0, .int a1, .int (qzB_drive_a2 a0 a5 k0), .int a3, .int a4, .int a5]))]) := by
  refine xk_ofV (by decide) (Nat.le_of_ble_eq_true rfl) ?_
  intro p e s m args below meth c A Q H locs ls C0 hret hP hD hS hl
  obtain ⟨hx, hb, hml, hts, hown, hK, hA⟩ := C0
  have hl : lv_has ls 2 [(0, .ref oa), (1, .int k0)] := hl
  refine lv_aload_n (pc := 0) hx hb dzB_drive_0 rfl (lv_at hl 0 rfl) ?_
  refine lv_iconst (v := 0) (pc := 1) hx hb dzB_drive_1 (by decide) ?_
  refine xk_putf (pc := 2) hx hb hts hown hK hP hD hS pfzB_18 0 rfl rfl rfl (Nat.le_of_ble_eq_true rfl) dzB_drive_2 (fun H locs hP hD hS => ?_)
  have hP : va_P G xk_cls [(oa, .inr (4, [.int a0, .int a1, .int 0, .int a3, .int a4, .int a5]))] H := hP
  have hD : va_D A [(oa, .inr (4, [.int a0, .int a1, .int 0, .int a3, .int a4, .int a5]))] := hD
  refine lv_aload_n (pc := 5) hx hb dzB_drive_5 rfl (lv_at hl 0 rfl) ?_
  refine xk_get (pc := 6) hx hb hts hown hK hP ffzB_27 0 rfl rfl dzB_drive_6 ?_
  refine lv_if_eq (pc := 9) (tgt := 13) hx hb dzB_drive_9 (by decide) (fun h1 => ?_) (fun h1 => ?_)
  ·
    refine lv_iload_n (pc := 13) hx hb dzB_drive_13 rfl (lv_at hl 1 rfl) ?_
    refine lv_iconst (v := 3) (pc := 14) hx hb dzB_drive_14 (by decide) ?_
    have K1 : ∀ (H : Heap) (locs : List Loc), (va_P G xk_cls [(oa, .inr (4, [.int a0, .int a1, .int (if k0 = 3 then (if a0 = 0 then (if k0 = 5 then (if a0 = 100 then 0 else 1 : Int32) else (if k0 = 0 then (if a0 = 100 then 0 else 1 : Int32) else 0 : Int32) : Int32) else (-1) : Int32) else (if k0 = 4 then (if a0 = 0 then (if k0 = 5 then (if a0 = 100 then 0 else 1 : Int32) else (if k0 = 0 then (if a0 = 100 then 0 else 1 : Int32) else 0 : Int32) : Int32) else (-1) : Int32) else (if k0 = 5 then (if a0 = 100 then 0 else 1 : Int32) else (if k0 = 0 then (if a0 = 100 then 0 else 1 : Int32) else 0 : Int32) : Int32) : Int32) : Int32), .int a3, .int a4, .int a5]))] H) → (va_D A [(oa, .inr (4, [.int a0, .int a1, .int (if k0 = 3 then (if a0 = 0 then (if k0 = 5 then (if a0 = 100 then 0 else 1 : Int32) else (if k0 = 0 then (if a0 = 100 then 0 else 1 : Int32) else 0 : Int32) : Int32) else (-1) : Int32) else (if k0 = 4 then (if a0 = 0 then (if k0 = 5 then (if a0 = 100 then 0 else 1 : Int32) else (if k0 = 0 then (if a0 = 100 then 0 else 1 : Int32) else 0 : Int32) : Int32) else (-1) : Int32) else (if k0 = 5 then (if a0 = 100 then 0 else 1 : Int32) else (if k0 = 0 then (if a0 = 100 then 0 else 1 : Int32) else 0 : Int32) : Int32) : Int32) : Int32), .int a3, .int a4, .int a5]))]) → (va_S A s.heap H locs) → W p l e xk_r0 s m args below meth c H locs 0 0 Q (F0 m 61 ls []) := by
      intro H locs hP hD hS
      have j0 : qzB_drive_a2 a0 a5 k0 = (if k0 = 3 then (if a0 = 0 then (if k0 = 5 then (if a0 = 100 then 0 else 1 : Int32) else (if k0 = 0 then (if a0 = 100 then 0 else 1 : Int32) else 0 : Int32) : Int32) else (-1) : Int32) else (if k0 = 4 then (if a0 = 0 then (if k0 = 5 then (if a0 = 100 then 0 else 1 : Int32) else (if k0 = 0 then (if a0 = 100 then 0 else 1 : Int32) else 0 : Int32) : Int32) else (-1) : Int32) else (if k0 = 5 then (if a0 = 100 then 0 else 1 : Int32) else (if k0 = 0 then (if a0 = 100 then 0 else 1 : Int32) else 0 : Int32) : Int32) : Int32) : Int32) := by unfold qzB_drive_a2; (first | rfl | simp only [if_pos h1])
      have hP : va_P G xk_cls [(oa, .inr (4, [.int a0, .int a1, .int (qzB_drive_a2 a0 a5 k0), .int a3, .int a4, .int a5]))] H := by rw [j0]; exact hP
      exact hret () H locs 61 ls hP hS trivial dzB_drive_61
    refine lv_icmp_eq (pc := 15) (tgt := 23) hx hb dzB_drive_15 (by decide) (fun h2 => ?_) (fun h2 => ?_)
    ·
      refine lv_aload_n (pc := 23) hx hb dzB_drive_23 rfl (lv_at hl 0 rfl) ?_
      refine xk_get (pc := 24) hx hb hts hown hK hP ffzB_9 0 rfl rfl dzB_drive_24 ?_
      refine lv_if_eq (pc := 27) (tgt := 38) hx hb dzB_drive_27 (by decide) (fun h3 => ?_) (fun h3 => ?_)
      ·
        refine lv_iload_n (pc := 38) hx hb dzB_drive_38 rfl (lv_at hl 1 rfl) ?_
        refine lv_iconst (v := 5) (pc := 39) hx hb dzB_drive_39 (by decide) ?_
        refine lv_icmp_eq (pc := 40) (tgt := 47) hx hb dzB_drive_40 (by decide) (fun h4 => ?_) (fun h4 => ?_)
        ·
          refine lv_aload_n (pc := 47) hx hb dzB_drive_47 rfl (lv_at hl 0 rfl) ?_
          refine xk_get (pc := 48) hx hb hts hown hK hP ffzB_9 0 rfl rfl dzB_drive_48 ?_
          refine lv_bipush (v := 100) (pc := 51) hx hb dzB_drive_51 (by decide) ?_
          refine lv_icmp_eq (pc := 53) (tgt := 61) hx hb dzB_drive_53 (by decide) (fun h5 => ?_) (fun h5 => ?_)
          ·
            have K9 := K1
            try simp only [if_pos h2, if_pos h3, if_pos h4, if_pos h5] at K9
            first | exact K9 H locs hP hD hS | (simp only [if_pos h2, if_pos h3, if_pos h4, if_pos h5] at hP hD; exact K9 H locs hP hD hS) | (simp only [if_pos h2, if_pos h3, if_pos h4, if_pos h5] at hP hD ⊢; exact K9 H locs hP hD hS)
          ·
            refine lv_aload_n (pc := 56) hx hb dzB_drive_56 rfl (lv_at hl 0 rfl) ?_
            refine lv_iconst (v := 1) (pc := 57) hx hb dzB_drive_57 (by decide) ?_
            refine xk_putf (pc := 58) hx hb hts hown hK hP hD hS pfzB_18 0 rfl rfl rfl (Nat.le_of_ble_eq_true rfl) dzB_drive_58 (fun H locs hP hD hS => ?_)
            have hP : va_P G xk_cls [(oa, .inr (4, [.int a0, .int a1, .int 1, .int a3, .int a4, .int a5]))] H := hP
            have hD : va_D A [(oa, .inr (4, [.int a0, .int a1, .int 1, .int a3, .int a4, .int a5]))] := hD
            have K9 := K1
            try simp only [if_pos h2, if_pos h3, if_pos h4, if_neg h5] at K9
            first | exact K9 H locs hP hD hS | (simp only [if_pos h2, if_pos h3, if_pos h4, if_neg h5] at hP hD; exact K9 H locs hP hD hS) | (simp only [if_pos h2, if_pos h3, if_pos h4, if_neg h5] at hP hD ⊢; exact K9 H locs hP hD hS)
        ·
          refine lv_iload_n (pc := 43) hx hb dzB_drive_43 rfl (lv_at hl 1 rfl) ?_
          refine lv_if_ne (pc := 44) (tgt := 61) hx hb dzB_drive_44 (by decide) (fun h6 => ?_) (fun h6 => ?_)
          ·
            have K9 := K1
            try simp only [if_pos h2, if_pos h3, if_neg h4, if_neg h6] at K9
            first | exact K9 H locs hP hD hS | (simp only [if_pos h2, if_pos h3, if_neg h4, if_neg h6] at hP hD; exact K9 H locs hP hD hS) | (simp only [if_pos h2, if_pos h3, if_neg h4, if_neg h6] at hP hD ⊢; exact K9 H locs hP hD hS)
          ·
            refine lv_aload_n (pc := 47) hx hb dzB_drive_47 rfl (lv_at hl 0 rfl) ?_
            refine xk_get (pc := 48) hx hb hts hown hK hP ffzB_9 0 rfl rfl dzB_drive_48 ?_
            refine lv_bipush (v := 100) (pc := 51) hx hb dzB_drive_51 (by decide) ?_
            refine lv_icmp_eq (pc := 53) (tgt := 61) hx hb dzB_drive_53 (by decide) (fun h7 => ?_) (fun h7 => ?_)
            ·
              have K9 := K1
              try simp only [if_pos h2, if_pos h3, if_neg h4, if_pos h6, if_pos h7] at K9
              first | exact K9 H locs hP hD hS | (simp only [if_pos h2, if_pos h3, if_neg h4, if_pos h6, if_pos h7] at hP hD; exact K9 H locs hP hD hS) | (simp only [if_pos h2, if_pos h3, if_neg h4, if_pos h6, if_pos h7] at hP hD ⊢; exact K9 H locs hP hD hS)
            ·
              refine lv_aload_n (pc := 56) hx hb dzB_drive_56 rfl (lv_at hl 0 rfl) ?_
              refine lv_iconst (v := 1) (pc := 57) hx hb dzB_drive_57 (by decide) ?_
              refine xk_putf (pc := 58) hx hb hts hown hK hP hD hS pfzB_18 0 rfl rfl rfl (Nat.le_of_ble_eq_true rfl) dzB_drive_58 (fun H locs hP hD hS => ?_)
              have hP : va_P G xk_cls [(oa, .inr (4, [.int a0, .int a1, .int 1, .int a3, .int a4, .int a5]))] H := hP
              have hD : va_D A [(oa, .inr (4, [.int a0, .int a1, .int 1, .int a3, .int a4, .int a5]))] := hD
              have K9 := K1
              try simp only [if_pos h2, if_pos h3, if_neg h4, if_pos h6, if_neg h7] at K9
              first | exact K9 H locs hP hD hS | (simp only [if_pos h2, if_pos h3, if_neg h4, if_pos h6, if_neg h7] at hP hD; exact K9 H locs hP hD hS) | (simp only [if_pos h2, if_pos h3, if_neg h4, if_pos h6, if_neg h7] at hP hD ⊢; exact K9 H locs hP hD hS)
      ·
        refine lv_aload_n (pc := 30) hx hb dzB_drive_30 rfl (lv_at hl 0 rfl) ?_
        refine lv_iconst (v := (-1)) (pc := 31) hx hb dzB_drive_31 (by decide) ?_
        refine xk_putf (pc := 32) hx hb hts hown hK hP hD hS pfzB_18 0 rfl rfl rfl (Nat.le_of_ble_eq_true rfl) dzB_drive_32 (fun H locs hP hD hS => ?_)
        have hP : va_P G xk_cls [(oa, .inr (4, [.int a0, .int a1, .int (-1), .int a3, .int a4, .int a5]))] H := hP
        have hD : va_D A [(oa, .inr (4, [.int a0, .int a1, .int (-1), .int a3, .int a4, .int a5]))] := hD
        refine lv_goto (tgt := 61) (pc := 35) hx hb dzB_drive_35 (by decide) ?_
        have K9 := K1
        try simp only [if_pos h2, if_neg h3] at K9
        first | exact K9 H locs hP hD hS | (simp only [if_pos h2, if_neg h3] at hP hD; exact K9 H locs hP hD hS) | (simp only [if_pos h2, if_neg h3] at hP hD ⊢; exact K9 H locs hP hD hS)
    ·
      refine lv_iload_n (pc := 18) hx hb dzB_drive_18 rfl (lv_at hl 1 rfl) ?_
      refine lv_iconst (v := 4) (pc := 19) hx hb dzB_drive_19 (by decide) ?_
      refine lv_icmp_ne (pc := 20) (tgt := 38) hx hb dzB_drive_20 (by decide) (fun h8 => ?_) (fun h8 => ?_)
      ·
        refine lv_iload_n (pc := 38) hx hb dzB_drive_38 rfl (lv_at hl 1 rfl) ?_
        refine lv_iconst (v := 5) (pc := 39) hx hb dzB_drive_39 (by decide) ?_
        refine lv_icmp_eq (pc := 40) (tgt := 47) hx hb dzB_drive_40 (by decide) (fun h9 => ?_) (fun h9 => ?_)
        ·
          refine lv_aload_n (pc := 47) hx hb dzB_drive_47 rfl (lv_at hl 0 rfl) ?_
          refine xk_get (pc := 48) hx hb hts hown hK hP ffzB_9 0 rfl rfl dzB_drive_48 ?_
          refine lv_bipush (v := 100) (pc := 51) hx hb dzB_drive_51 (by decide) ?_
          refine lv_icmp_eq (pc := 53) (tgt := 61) hx hb dzB_drive_53 (by decide) (fun h10 => ?_) (fun h10 => ?_)
          ·
            have K9 := K1
            try simp only [if_neg h2, if_neg h8, if_pos h9, if_pos h10] at K9
            first | exact K9 H locs hP hD hS | (simp only [if_neg h2, if_neg h8, if_pos h9, if_pos h10] at hP hD; exact K9 H locs hP hD hS) | (simp only [if_neg h2, if_neg h8, if_pos h9, if_pos h10] at hP hD ⊢; exact K9 H locs hP hD hS)
          ·
            refine lv_aload_n (pc := 56) hx hb dzB_drive_56 rfl (lv_at hl 0 rfl) ?_
            refine lv_iconst (v := 1) (pc := 57) hx hb dzB_drive_57 (by decide) ?_
            refine xk_putf (pc := 58) hx hb hts hown hK hP hD hS pfzB_18 0 rfl rfl rfl (Nat.le_of_ble_eq_true rfl) dzB_drive_58 (fun H locs hP hD hS => ?_)
            have hP : va_P G xk_cls [(oa, .inr (4, [.int a0, .int a1, .int 1, .int a3, .int a4, .int a5]))] H := hP
            have hD : va_D A [(oa, .inr (4, [.int a0, .int a1, .int 1, .int a3, .int a4, .int a5]))] := hD
            have K9 := K1
            try simp only [if_neg h2, if_neg h8, if_pos h9, if_neg h10] at K9
            first | exact K9 H locs hP hD hS | (simp only [if_neg h2, if_neg h8, if_pos h9, if_neg h10] at hP hD; exact K9 H locs hP hD hS) | (simp only [if_neg h2, if_neg h8, if_pos h9, if_neg h10] at hP hD ⊢; exact K9 H locs hP hD hS)
        ·
          refine lv_iload_n (pc := 43) hx hb dzB_drive_43 rfl (lv_at hl 1 rfl) ?_
          refine lv_if_ne (pc := 44) (tgt := 61) hx hb dzB_drive_44 (by decide) (fun h11 => ?_) (fun h11 => ?_)
          ·
            have K9 := K1
            try simp only [if_neg h2, if_neg h8, if_neg h9, if_neg h11] at K9
            first | exact K9 H locs hP hD hS | (simp only [if_neg h2, if_neg h8, if_neg h9, if_neg h11] at hP hD; exact K9 H locs hP hD hS) | (simp only [if_neg h2, if_neg h8, if_neg h9, if_neg h11] at hP hD ⊢; exact K9 H locs hP hD hS)
          ·
            refine lv_aload_n (pc := 47) hx hb dzB_drive_47 rfl (lv_at hl 0 rfl) ?_
            refine xk_get (pc := 48) hx hb hts hown hK hP ffzB_9 0 rfl rfl dzB_drive_48 ?_
            refine lv_bipush (v := 100) (pc := 51) hx hb dzB_drive_51 (by decide) ?_
            refine lv_icmp_eq (pc := 53) (tgt := 61) hx hb dzB_drive_53 (by decide) (fun h12 => ?_) (fun h12 => ?_)
            ·
              have K9 := K1
              try simp only [if_neg h2, if_neg h8, if_neg h9, if_pos h11, if_pos h12] at K9
              first | exact K9 H locs hP hD hS | (simp only [if_neg h2, if_neg h8, if_neg h9, if_pos h11, if_pos h12] at hP hD; exact K9 H locs hP hD hS) | (simp only [if_neg h2, if_neg h8, if_neg h9, if_pos h11, if_pos h12] at hP hD ⊢; exact K9 H locs hP hD hS)
            ·
              refine lv_aload_n (pc := 56) hx hb dzB_drive_56 rfl (lv_at hl 0 rfl) ?_
              refine lv_iconst (v := 1) (pc := 57) hx hb dzB_drive_57 (by decide) ?_
              refine xk_putf (pc := 58) hx hb hts hown hK hP hD hS pfzB_18 0 rfl rfl rfl (Nat.le_of_ble_eq_true rfl) dzB_drive_58 (fun H locs hP hD hS => ?_)
              have hP : va_P G xk_cls [(oa, .inr (4, [.int a0, .int a1, .int 1, .int a3, .int a4, .int a5]))] H := hP
              have hD : va_D A [(oa, .inr (4, [.int a0, .int a1, .int 1, .int a3, .int a4, .int a5]))] := hD
              have K9 := K1
              try simp only [if_neg h2, if_neg h8, if_neg h9, if_pos h11, if_neg h12] at K9
              first | exact K9 H locs hP hD hS | (simp only [if_neg h2, if_neg h8, if_neg h9, if_pos h11, if_neg h12] at hP hD; exact K9 H locs hP hD hS) | (simp only [if_neg h2, if_neg h8, if_neg h9, if_pos h11, if_neg h12] at hP hD ⊢; exact K9 H locs hP hD hS)
      ·
        refine lv_aload_n (pc := 23) hx hb dzB_drive_23 rfl (lv_at hl 0 rfl) ?_
        refine xk_get (pc := 24) hx hb hts hown hK hP ffzB_9 0 rfl rfl dzB_drive_24 ?_
        refine lv_if_eq (pc := 27) (tgt := 38) hx hb dzB_drive_27 (by decide) (fun h13 => ?_) (fun h13 => ?_)
        ·
          refine lv_iload_n (pc := 38) hx hb dzB_drive_38 rfl (lv_at hl 1 rfl) ?_
          refine lv_iconst (v := 5) (pc := 39) hx hb dzB_drive_39 (by decide) ?_
          refine lv_icmp_eq (pc := 40) (tgt := 47) hx hb dzB_drive_40 (by decide) (fun h14 => ?_) (fun h14 => ?_)
          ·
            refine lv_aload_n (pc := 47) hx hb dzB_drive_47 rfl (lv_at hl 0 rfl) ?_
            refine xk_get (pc := 48) hx hb hts hown hK hP ffzB_9 0 rfl rfl dzB_drive_48 ?_
            refine lv_bipush (v := 100) (pc := 51) hx hb dzB_drive_51 (by decide) ?_
            refine lv_icmp_eq (pc := 53) (tgt := 61) hx hb dzB_drive_53 (by decide) (fun h15 => ?_) (fun h15 => ?_)
            ·
              have K9 := K1
              try simp only [if_neg h2, if_pos h8, if_pos h13, if_pos h14, if_pos h15] at K9
              first | exact K9 H locs hP hD hS | (simp only [if_neg h2, if_pos h8, if_pos h13, if_pos h14, if_pos h15] at hP hD; exact K9 H locs hP hD hS) | (simp only [if_neg h2, if_pos h8, if_pos h13, if_pos h14, if_pos h15] at hP hD ⊢; exact K9 H locs hP hD hS)
            ·
              refine lv_aload_n (pc := 56) hx hb dzB_drive_56 rfl (lv_at hl 0 rfl) ?_
              refine lv_iconst (v := 1) (pc := 57) hx hb dzB_drive_57 (by decide) ?_
              refine xk_putf (pc := 58) hx hb hts hown hK hP hD hS pfzB_18 0 rfl rfl rfl (Nat.le_of_ble_eq_true rfl) dzB_drive_58 (fun H locs hP hD hS => ?_)
              have hP : va_P G xk_cls [(oa, .inr (4, [.int a0, .int a1, .int 1, .int a3, .int a4, .int a5]))] H := hP
              have hD : va_D A [(oa, .inr (4, [.int a0, .int a1, .int 1, .int a3, .int a4, .int a5]))] := hD
              have K9 := K1
              try simp only [if_neg h2, if_pos h8, if_pos h13, if_pos h14, if_neg h15] at K9
              first | exact K9 H locs hP hD hS | (simp only [if_neg h2, if_pos h8, if_pos h13, if_pos h14, if_neg h15] at hP hD; exact K9 H locs hP hD hS) | (simp only [if_neg h2, if_pos h8, if_pos h13, if_pos h14, if_neg h15] at hP hD ⊢; exact K9 H locs hP hD hS)
          ·
            refine lv_iload_n (pc := 43) hx hb dzB_drive_43 rfl (lv_at hl 1 rfl) ?_
            refine lv_if_ne (pc := 44) (tgt := 61) hx hb dzB_drive_44 (by decide) (fun h16 => ?_) (fun h16 => ?_)
            ·
              have K9 := K1
              try simp only [if_neg h2, if_pos h8, if_pos h13, if_neg h14, if_neg h16] at K9
              first | exact K9 H locs hP hD hS | (simp only [if_neg h2, if_pos h8, if_pos h13, if_neg h14, if_neg h16] at hP hD; exact K9 H locs hP hD hS) | (simp only [if_neg h2, if_pos h8, if_pos h13, if_neg h14, if_neg h16] at hP hD ⊢; exact K9 H locs hP hD hS)
            ·
              refine lv_aload_n (pc := 47) hx hb dzB_drive_47 rfl (lv_at hl 0 rfl) ?_
              refine xk_get (pc := 48) hx hb hts hown hK hP ffzB_9 0 rfl rfl dzB_drive_48 ?_
              refine lv_bipush (v := 100) (pc := 51) hx hb dzB_drive_51 (by decide) ?_
              refine lv_icmp_eq (pc := 53) (tgt := 61) hx hb dzB_drive_53 (by decide) (fun h17 => ?_) (fun h17 => ?_)
              ·
                have K9 := K1
                try simp only [if_neg h2, if_pos h8, if_pos h13, if_neg h14, if_pos h16, if_pos h17] at K9
                first | exact K9 H locs hP hD hS | (simp only [if_neg h2, if_pos h8, if_pos h13, if_neg h14, if_pos h16, if_pos h17] at hP hD; exact K9 H locs hP hD hS) | (simp only [if_neg h2, if_pos h8, if_pos h13, if_neg h14, if_pos h16, if_pos h17] at hP hD ⊢; exact K9 H locs hP hD hS)
              ·
                refine lv_aload_n (pc := 56) hx hb dzB_drive_56 rfl (lv_at hl 0 rfl) ?_
                refine lv_iconst (v := 1) (pc := 57) hx hb dzB_drive_57 (by decide) ?_
                refine xk_putf (pc := 58) hx hb hts hown hK hP hD hS pfzB_18 0 rfl rfl rfl (Nat.le_of_ble_eq_true rfl) dzB_drive_58 (fun H locs hP hD hS => ?_)
                have hP : va_P G xk_cls [(oa, .inr (4, [.int a0, .int a1, .int 1, .int a3, .int a4, .int a5]))] H := hP
                have hD : va_D A [(oa, .inr (4, [.int a0, .int a1, .int 1, .int a3, .int a4, .int a5]))] := hD
                have K9 := K1
                try simp only [if_neg h2, if_pos h8, if_pos h13, if_neg h14, if_pos h16, if_neg h17] at K9
                first | exact K9 H locs hP hD hS | (simp only [if_neg h2, if_pos h8, if_pos h13, if_neg h14, if_pos h16, if_neg h17] at hP hD; exact K9 H locs hP hD hS) | (simp only [if_neg h2, if_pos h8, if_pos h13, if_neg h14, if_pos h16, if_neg h17] at hP hD ⊢; exact K9 H locs hP hD hS)
        ·
          refine lv_aload_n (pc := 30) hx hb dzB_drive_30 rfl (lv_at hl 0 rfl) ?_
          refine lv_iconst (v := (-1)) (pc := 31) hx hb dzB_drive_31 (by decide) ?_
          refine xk_putf (pc := 32) hx hb hts hown hK hP hD hS pfzB_18 0 rfl rfl rfl (Nat.le_of_ble_eq_true rfl) dzB_drive_32 (fun H locs hP hD hS => ?_)
          have hP : va_P G xk_cls [(oa, .inr (4, [.int a0, .int a1, .int (-1), .int a3, .int a4, .int a5]))] H := hP
          have hD : va_D A [(oa, .inr (4, [.int a0, .int a1, .int (-1), .int a3, .int a4, .int a5]))] := hD
          refine lv_goto (tgt := 61) (pc := 35) hx hb dzB_drive_35 (by decide) ?_
          have K9 := K1
          try simp only [if_neg h2, if_pos h8, if_neg h13] at K9
          first | exact K9 H locs hP hD hS | (simp only [if_neg h2, if_pos h8, if_neg h13] at hP hD; exact K9 H locs hP hD hS) | (simp only [if_neg h2, if_pos h8, if_neg h13] at hP hD ⊢; exact K9 H locs hP hD hS)
  ·
    have j0 : qzB_drive_a2 a0 a5 k0 = 0 := by unfold qzB_drive_a2; (first | rfl | simp only [if_neg h1])
    have hP : va_P G xk_cls [(oa, .inr (4, [.int a0, .int a1, .int (qzB_drive_a2 a0 a5 k0), .int a3, .int a4, .int a5]))] H := by rw [j0]; exact hP
    exact hret () H locs 12 ls hP hS trivial dzB_drive_12
def qzP_dies (a0 : Int32) (a1 : Int32) (a3 : Int32) : Int32 := (if a1 = 0 then 0 else (if a0 = 0 then (if (a3 + 1) = 3 then 1 else 0 : Int32) else 0 : Int32) : Int32)
def qzP_dies_a2 (a0 : Int32) (a1 : Int32) (a2 : Int32) (a3 : Int32) : Int32 := (if a1 = 0 then a2 else (if a0 = 0 then (if (a3 + 1) = 3 then 1 else a2 : Int32) else 0 : Int32) : Int32)
def qzP_dies_a3 (a0 : Int32) (a1 : Int32) (a3 : Int32) : Int32 := (if a1 = 0 then a3 else (if a0 = 0 then a3 + 1 else 0 : Int32) : Int32)
theorem bzP_dies (a0 : Int32) (a1 : Int32) (a3 : Int32) : xk_b (qzP_dies a0 a1 a3) := by
  unfold qzP_dies
  repeat' (first | with_reducible exact xk_b0 | with_reducible exact xk_b1 | with_reducible assumption | apply xk_bi)
set_option maxHeartbeats 4000000 in
set_option maxRecDepth 100000 in
theorem kzP_dies (l : Launch) (G : va_G) (ac : Nat → ClassId) (oa : Nat) (a0 : Int32) (a1 : Int32) (a2 : Int32) (a3 : Int32) : xk_CI l yzP_dies czP_dies 1 .boolean xk_WS xk_r0 G xk_cls (xk_tys ac) [.ref oa] [(oa, .inr (5, [.int a0, .int a1, .int a2, .int a3]))] (fun r (_ : Unit) => r = qzP_dies a0 a1 a3) (fun _ => [(oa, .inr (5, [.int a0, .int a1, .int (qzP_dies_a2 a0 a1 a2 a3), .int (qzP_dies_a3 a0 a1 a3)]))]) := by
  refine xk_ofI (by decide) (Nat.le_of_ble_eq_true rfl) ?_
  intro p e s m args below meth c A Q H locs ls C0 hret hP hD hS hl
  obtain ⟨hx, hb, hml, hts, hown, hK, hA⟩ := C0
  have hl : lv_has ls 1 [(0, .ref oa)] := hl
  refine lv_aload_n (pc := 0) hx hb dzP_dies_0 rfl (lv_at hl 0 rfl) ?_
  refine xk_get (pc := 1) hx hb hts hown hK hP ffzP_15 0 rfl rfl dzP_dies_1 ?_
  refine lv_if_ne (pc := 4) (tgt := 9) hx hb dzP_dies_4 (by decide) (fun h1 => ?_) (fun h1 => ?_)
  ·
    refine lv_aload_n (pc := 9) hx hb dzP_dies_9 rfl (lv_at hl 0 rfl) ?_
    refine xk_get (pc := 10) hx hb hts hown hK hP ffzP_9 0 rfl rfl dzP_dies_10 ?_
    refine lv_if_eq (pc := 13) (tgt := 28) hx hb dzP_dies_13 (by decide) (fun h2 => ?_) (fun h2 => ?_)
    ·
      refine lv_aload_n (pc := 28) hx hb dzP_dies_28 rfl (lv_at hl 0 rfl) ?_
      refine lv_dup (pc := 29) hx hb dzP_dies_29 rfl ?_
      refine xk_get (pc := 30) hx hb hts hown hK hP ffzP_21 0 rfl rfl dzP_dies_30 ?_
      refine lv_iconst (v := 1) (pc := 33) hx hb dzP_dies_33 (by decide) ?_
      refine lv_iadd (pc := 34) hx hb dzP_dies_34 ?_
      refine xk_putf (pc := 35) hx hb hts hown hK hP hD hS pfzP_21 0 rfl rfl rfl (Nat.le_of_ble_eq_true rfl) dzP_dies_35 (fun H locs hP hD hS => ?_)
      have hP : va_P G xk_cls [(oa, .inr (5, [.int a0, .int a1, .int a2, .int (a3 + 1)]))] H := hP
      have hD : va_D A [(oa, .inr (5, [.int a0, .int a1, .int a2, .int (a3 + 1)]))] := hD
      refine lv_aload_n (pc := 38) hx hb dzP_dies_38 rfl (lv_at hl 0 rfl) ?_
      refine xk_get (pc := 39) hx hb hts hown hK hP ffzP_21 0 rfl rfl dzP_dies_39 ?_
      refine lv_iconst (v := 3) (pc := 42) hx hb dzP_dies_42 (by decide) ?_
      refine lv_icmp_eq (pc := 43) (tgt := 48) hx hb dzP_dies_43 (by decide) (fun h3 => ?_) (fun h3 => ?_)
      ·
        refine lv_aload_n (pc := 48) hx hb dzP_dies_48 rfl (lv_at hl 0 rfl) ?_
        refine lv_iconst (v := 1) (pc := 49) hx hb dzP_dies_49 (by decide) ?_
        refine xk_putf (pc := 50) hx hb hts hown hK hP hD hS pfzP_18 0 rfl (xk_bn xk_b1) (xk_bf xk_b1) (Nat.le_of_ble_eq_true rfl) dzP_dies_50 (fun H locs hP hD hS => ?_)
        have hP : va_P G xk_cls [(oa, .inr (5, [.int a0, .int a1, .int 1, .int (a3 + 1)]))] H := hP
        have hD : va_D A [(oa, .inr (5, [.int a0, .int a1, .int 1, .int (a3 + 1)]))] := hD
        refine lv_iconst (v := 1) (pc := 53) hx hb dzP_dies_53 (by decide) ?_
        have j0 : qzP_dies_a2 a0 a1 a2 a3 = 1 := by unfold qzP_dies_a2; (first | rfl | simp only [if_neg h1, if_pos h2, if_pos h3])
        have j1 : qzP_dies_a3 a0 a1 a3 = a3 + 1 := by unfold qzP_dies_a3; (first | rfl | simp only [if_neg h1, if_pos h2, if_pos h3])
        have jr : qzP_dies a0 a1 a3 = 1 := by unfold qzP_dies; (first | rfl | simp only [if_neg h1, if_pos h2, if_pos h3])
        have hP : va_P G xk_cls [(oa, .inr (5, [.int a0, .int a1, .int (qzP_dies_a2 a0 a1 a2 a3), .int (qzP_dies_a3 a0 a1 a3)]))] H := by rw [j0, j1]; exact hP
        exact hret _ () H locs 54 ls hP hS (xk_bn xk_b1) jr.symm dzP_dies_54
      ·
        refine lv_iconst (v := 0) (pc := 46) hx hb dzP_dies_46 (by decide) ?_
        have j0 : qzP_dies_a2 a0 a1 a2 a3 = a2 := by unfold qzP_dies_a2; (first | rfl | simp only [if_neg h1, if_pos h2, if_neg h3])
        have j1 : qzP_dies_a3 a0 a1 a3 = a3 + 1 := by unfold qzP_dies_a3; (first | rfl | simp only [if_neg h1, if_pos h2, if_neg h3])
        have jr : qzP_dies a0 a1 a3 = 0 := by unfold qzP_dies; (first | rfl | simp only [if_neg h1, if_pos h2, if_neg h3])
        have hP : va_P G xk_cls [(oa, .inr (5, [.int a0, .int a1, .int (qzP_dies_a2 a0 a1 a2 a3), .int (qzP_dies_a3 a0 a1 a3)]))] H := by rw [j0, j1]; exact hP
        exact hret _ () H locs 47 ls hP hS (xk_bn xk_b0) jr.symm dzP_dies_47
    ·
      refine lv_aload_n (pc := 16) hx hb dzP_dies_16 rfl (lv_at hl 0 rfl) ?_
      refine lv_iconst (v := 0) (pc := 17) hx hb dzP_dies_17 (by decide) ?_
      refine xk_putf (pc := 18) hx hb hts hown hK hP hD hS pfzP_21 0 rfl rfl rfl (Nat.le_of_ble_eq_true rfl) dzP_dies_18 (fun H locs hP hD hS => ?_)
      have hP : va_P G xk_cls [(oa, .inr (5, [.int a0, .int a1, .int a2, .int 0]))] H := hP
      have hD : va_D A [(oa, .inr (5, [.int a0, .int a1, .int a2, .int 0]))] := hD
      refine lv_aload_n (pc := 21) hx hb dzP_dies_21 rfl (lv_at hl 0 rfl) ?_
      refine lv_iconst (v := 0) (pc := 22) hx hb dzP_dies_22 (by decide) ?_
      refine xk_putf (pc := 23) hx hb hts hown hK hP hD hS pfzP_18 0 rfl (xk_bn xk_b0) (xk_bf xk_b0) (Nat.le_of_ble_eq_true rfl) dzP_dies_23 (fun H locs hP hD hS => ?_)
      have hP : va_P G xk_cls [(oa, .inr (5, [.int a0, .int a1, .int 0, .int 0]))] H := hP
      have hD : va_D A [(oa, .inr (5, [.int a0, .int a1, .int 0, .int 0]))] := hD
      refine lv_iconst (v := 0) (pc := 26) hx hb dzP_dies_26 (by decide) ?_
      have j0 : qzP_dies_a2 a0 a1 a2 a3 = 0 := by unfold qzP_dies_a2; (first | rfl | simp only [if_neg h1, if_neg h2])
      have j1 : qzP_dies_a3 a0 a1 a3 = 0 := by unfold qzP_dies_a3; (first | rfl | simp only [if_neg h1, if_neg h2])
      have jr : qzP_dies a0 a1 a3 = 0 := by unfold qzP_dies; (first | rfl | simp only [if_neg h1, if_neg h2])
      have hP : va_P G xk_cls [(oa, .inr (5, [.int a0, .int a1, .int (qzP_dies_a2 a0 a1 a2 a3), .int (qzP_dies_a3 a0 a1 a3)]))] H := by rw [j0, j1]; exact hP
      exact hret _ () H locs 27 ls hP hS (xk_bn xk_b0) jr.symm dzP_dies_27
  ·
    refine lv_iconst (v := 0) (pc := 7) hx hb dzP_dies_7 (by decide) ?_
    have j0 : qzP_dies_a2 a0 a1 a2 a3 = a2 := by unfold qzP_dies_a2; (first | rfl | simp only [if_pos h1])
    have j1 : qzP_dies_a3 a0 a1 a3 = a3 := by unfold qzP_dies_a3; (first | rfl | simp only [if_pos h1])
    have jr : qzP_dies a0 a1 a3 = 0 := by unfold qzP_dies; (first | rfl | simp only [if_pos h1])
    have hP : va_P G xk_cls [(oa, .inr (5, [.int a0, .int a1, .int (qzP_dies_a2 a0 a1 a2 a3), .int (qzP_dies_a3 a0 a1 a3)]))] H := by rw [j0, j1]; exact hP
    exact hret _ () H locs 8 ls hP hS (xk_bn xk_b0) jr.symm dzP_dies_8
def qzR_stepToCome (a0 : Int32) (a1 : Int32) (a2 : Int32) (k0 : Int32) (k1 : Int32) (k2 : Int32) : Int32 := (if a0 = 0 then (if k0 = 0 then 0 else 1 : Int32) else (if a0 = 1 then (if a1 < 30 then 1 else 2 : Int32) else (if a0 = 2 then (if a1 < 80 then 2 else 3 : Int32) else (if a0 = 3 then (if k1 = 0 then 3 else 4 : Int32) else (if a0 = 4 then (if a2 < 30 then 4 else 5 : Int32) else (if k0 = 0 then (if k2 = 0 then 5 else 0 : Int32) else 3 : Int32) : Int32) : Int32) : Int32) : Int32) : Int32)
set_option maxHeartbeats 4000000 in
set_option maxRecDepth 100000 in
theorem kzR_stepToCome (l : Launch) (G : va_G) (ac : Nat → ClassId) (oa : Nat) (a0 : Int32) (a1 : Int32) (a2 : Int32) (k0 : Int32) (k1 : Int32) (k2 : Int32) : xk_CI l yzR_stepToCome czR_stepToCome 4 .int xk_WS xk_r0 G xk_cls (xk_tys ac) [.ref oa, .int k0, .int k1, .int k2] [(oa, .inr (6, [.int a0, .int a1, .int a2]))] (fun r (_ : Unit) => r = qzR_stepToCome a0 a1 a2 k0 k1 k2) (fun _ => [(oa, .inr (6, [.int a0, .int a1, .int a2]))]) := by
  refine xk_ofI (by decide) (Nat.le_of_ble_eq_true rfl) ?_
  intro p e s m args below meth c A Q H locs ls C0 hret hP hD hS hl
  obtain ⟨hx, hb, hml, hts, hown, hK, hA⟩ := C0
  have hl : lv_has ls 4 [(0, .ref oa), (1, .int k0), (2, .int k1), (3, .int k2)] := hl
  refine lv_aload_n (pc := 0) hx hb dzR_stepToCome_0 rfl (lv_at hl 0 rfl) ?_
  refine xk_get (pc := 1) hx hb hts hown hK hP ffzR_9 0 rfl rfl dzR_stepToCome_1 ?_
  by_cases h1 : a0 = 0
  ·
    refine lv_tableIn (pc := 4) (tgt := 40) hx hb dzR_stepToCome_4 (by rw [h1]; decide) (by rw [h1]; decide) (by rw [h1]; rfl) (by decide) ?_
    refine lv_iload_n (pc := 40) hx hb dzR_stepToCome_40 rfl (lv_at hl 1 rfl) ?_
    have K1 : W p l e xk_r0 s m args below meth c H locs 0 0 Q (F0 m 49 ls [.int (if k0 = 0 then 0 else 1 : Int32)]) := by
      have jr : qzR_stepToCome a0 a1 a2 k0 k1 k2 = (if k0 = 0 then 0 else 1 : Int32) := by unfold qzR_stepToCome; (first | rfl | simp only [if_pos h1])
      have hP : va_P G xk_cls [(oa, .inr (6, [.int a0, .int a1, .int a2]))] H := by exact hP
      exact hret _ () H locs 49 ls hP hS rfl jr.symm dzR_stepToCome_49
    refine lv_if_eq (pc := 41) (tgt := 48) hx hb dzR_stepToCome_41 (by decide) (fun h2 => ?_) (fun h2 => ?_)
    ·
      refine lv_iconst (v := 0) (pc := 48) hx hb dzR_stepToCome_48 (by decide) ?_
      have K9 := K1
      try simp only [if_pos h2] at K9
      first | exact K9 | (simp only [if_pos h2]; exact K9)
    ·
      refine lv_iconst (v := 1) (pc := 44) hx hb dzR_stepToCome_44 (by decide) ?_
      refine lv_goto (tgt := 49) (pc := 45) hx hb dzR_stepToCome_45 (by decide) ?_
      have K9 := K1
      try simp only [if_neg h2] at K9
      first | exact K9 | (simp only [if_neg h2]; exact K9)
  ·
    by_cases h3 : a0 = 1
    ·
      refine lv_tableIn (pc := 4) (tgt := 50) hx hb dzR_stepToCome_4 (by rw [h3]; decide) (by rw [h3]; decide) (by rw [h3]; rfl) (by decide) ?_
      refine lv_aload_n (pc := 50) hx hb dzR_stepToCome_50 rfl (lv_at hl 0 rfl) ?_
      refine xk_get (pc := 51) hx hb hts hown hK hP ffzR_15 0 rfl rfl dzR_stepToCome_51 ?_
      refine lv_bipush (v := 30) (pc := 54) hx hb dzR_stepToCome_54 (by decide) ?_
      have K2 : W p l e xk_r0 s m args below meth c H locs 0 0 Q (F0 m 64 ls [.int (if a1 < 30 then 1 else 2 : Int32)]) := by
        have jr : qzR_stepToCome a0 a1 a2 k0 k1 k2 = (if a1 < 30 then 1 else 2 : Int32) := by unfold qzR_stepToCome; (first | rfl | simp only [if_neg h1, if_pos h3])
        have hP : va_P G xk_cls [(oa, .inr (6, [.int a0, .int a1, .int a2]))] H := by exact hP
        exact hret _ () H locs 64 ls hP hS rfl jr.symm dzR_stepToCome_64
      refine lv_icmp_lt (pc := 56) (tgt := 63) hx hb dzR_stepToCome_56 (by decide) (fun h4 => ?_) (fun h4 => ?_)
      ·
        refine lv_iconst (v := 1) (pc := 63) hx hb dzR_stepToCome_63 (by decide) ?_
        have K9 := K2
        try simp only [if_pos h4] at K9
        first | exact K9 | (simp only [if_pos h4]; exact K9)
      ·
        refine lv_iconst (v := 2) (pc := 59) hx hb dzR_stepToCome_59 (by decide) ?_
        refine lv_goto (tgt := 64) (pc := 60) hx hb dzR_stepToCome_60 (by decide) ?_
        have K9 := K2
        try simp only [if_neg h4] at K9
        first | exact K9 | (simp only [if_neg h4]; exact K9)
    ·
      by_cases h5 : a0 = 2
      ·
        refine lv_tableIn (pc := 4) (tgt := 65) hx hb dzR_stepToCome_4 (by rw [h5]; decide) (by rw [h5]; decide) (by rw [h5]; rfl) (by decide) ?_
        refine lv_aload_n (pc := 65) hx hb dzR_stepToCome_65 rfl (lv_at hl 0 rfl) ?_
        refine xk_get (pc := 66) hx hb hts hown hK hP ffzR_15 0 rfl rfl dzR_stepToCome_66 ?_
        refine lv_bipush (v := 80) (pc := 69) hx hb dzR_stepToCome_69 (by decide) ?_
        have K3 : W p l e xk_r0 s m args below meth c H locs 0 0 Q (F0 m 79 ls [.int (if a1 < 80 then 2 else 3 : Int32)]) := by
          have jr : qzR_stepToCome a0 a1 a2 k0 k1 k2 = (if a1 < 80 then 2 else 3 : Int32) := by unfold qzR_stepToCome; (first | rfl | simp only [if_neg h1, if_neg h3, if_pos h5])
          have hP : va_P G xk_cls [(oa, .inr (6, [.int a0, .int a1, .int a2]))] H := by exact hP
          exact hret _ () H locs 79 ls hP hS rfl jr.symm dzR_stepToCome_79
        refine lv_icmp_lt (pc := 71) (tgt := 78) hx hb dzR_stepToCome_71 (by decide) (fun h6 => ?_) (fun h6 => ?_)
        ·
          refine lv_iconst (v := 2) (pc := 78) hx hb dzR_stepToCome_78 (by decide) ?_
          have K9 := K3
          try simp only [if_pos h6] at K9
          first | exact K9 | (simp only [if_pos h6]; exact K9)
        ·
          refine lv_iconst (v := 3) (pc := 74) hx hb dzR_stepToCome_74 (by decide) ?_
          refine lv_goto (tgt := 79) (pc := 75) hx hb dzR_stepToCome_75 (by decide) ?_
          have K9 := K3
          try simp only [if_neg h6] at K9
          first | exact K9 | (simp only [if_neg h6]; exact K9)
      ·
        by_cases h7 : a0 = 3
        ·
          refine lv_tableIn (pc := 4) (tgt := 80) hx hb dzR_stepToCome_4 (by rw [h7]; decide) (by rw [h7]; decide) (by rw [h7]; rfl) (by decide) ?_
          refine lv_iload_n (pc := 80) hx hb dzR_stepToCome_80 rfl (lv_at hl 2 rfl) ?_
          have K4 : W p l e xk_r0 s m args below meth c H locs 0 0 Q (F0 m 89 ls [.int (if k1 = 0 then 3 else 4 : Int32)]) := by
            have jr : qzR_stepToCome a0 a1 a2 k0 k1 k2 = (if k1 = 0 then 3 else 4 : Int32) := by unfold qzR_stepToCome; (first | rfl | simp only [if_neg h1, if_neg h3, if_neg h5, if_pos h7])
            have hP : va_P G xk_cls [(oa, .inr (6, [.int a0, .int a1, .int a2]))] H := by exact hP
            exact hret _ () H locs 89 ls hP hS rfl jr.symm dzR_stepToCome_89
          refine lv_if_eq (pc := 81) (tgt := 88) hx hb dzR_stepToCome_81 (by decide) (fun h8 => ?_) (fun h8 => ?_)
          ·
            refine lv_iconst (v := 3) (pc := 88) hx hb dzR_stepToCome_88 (by decide) ?_
            have K9 := K4
            try simp only [if_pos h8] at K9
            first | exact K9 | (simp only [if_pos h8]; exact K9)
          ·
            refine lv_iconst (v := 4) (pc := 84) hx hb dzR_stepToCome_84 (by decide) ?_
            refine lv_goto (tgt := 89) (pc := 85) hx hb dzR_stepToCome_85 (by decide) ?_
            have K9 := K4
            try simp only [if_neg h8] at K9
            first | exact K9 | (simp only [if_neg h8]; exact K9)
        ·
          by_cases h9 : a0 = 4
          ·
            refine lv_tableIn (pc := 4) (tgt := 90) hx hb dzR_stepToCome_4 (by rw [h9]; decide) (by rw [h9]; decide) (by rw [h9]; rfl) (by decide) ?_
            refine lv_aload_n (pc := 90) hx hb dzR_stepToCome_90 rfl (lv_at hl 0 rfl) ?_
            refine xk_get (pc := 91) hx hb hts hown hK hP ffzR_18 0 rfl rfl dzR_stepToCome_91 ?_
            refine lv_bipush (v := 30) (pc := 94) hx hb dzR_stepToCome_94 (by decide) ?_
            have K5 : W p l e xk_r0 s m args below meth c H locs 0 0 Q (F0 m 104 ls [.int (if a2 < 30 then 4 else 5 : Int32)]) := by
              have jr : qzR_stepToCome a0 a1 a2 k0 k1 k2 = (if a2 < 30 then 4 else 5 : Int32) := by unfold qzR_stepToCome; (first | rfl | simp only [if_neg h1, if_neg h3, if_neg h5, if_neg h7, if_pos h9])
              have hP : va_P G xk_cls [(oa, .inr (6, [.int a0, .int a1, .int a2]))] H := by exact hP
              exact hret _ () H locs 104 ls hP hS rfl jr.symm dzR_stepToCome_104
            refine lv_icmp_lt (pc := 96) (tgt := 103) hx hb dzR_stepToCome_96 (by decide) (fun h10 => ?_) (fun h10 => ?_)
            ·
              refine lv_iconst (v := 4) (pc := 103) hx hb dzR_stepToCome_103 (by decide) ?_
              have K9 := K5
              try simp only [if_pos h10] at K9
              first | exact K9 | (simp only [if_pos h10]; exact K9)
            ·
              refine lv_iconst (v := 5) (pc := 99) hx hb dzR_stepToCome_99 (by decide) ?_
              refine lv_goto (tgt := 104) (pc := 100) hx hb dzR_stepToCome_100 (by decide) ?_
              have K9 := K5
              try simp only [if_neg h10] at K9
              first | exact K9 | (simp only [if_neg h10]; exact K9)
          ·
            refine lv_tableOut (pc := 4) (tgt := 105) hx hb dzR_stepToCome_4 (xk_out5 h1 h3 h5 h7 h9) (by decide) ?_
            refine lv_iload_n (pc := 105) hx hb dzR_stepToCome_105 rfl (lv_at hl 1 rfl) ?_
            refine lv_if_eq (pc := 106) (tgt := 111) hx hb dzR_stepToCome_106 (by decide) (fun h11 => ?_) (fun h11 => ?_)
            ·
              refine lv_iload_n (pc := 111) hx hb dzR_stepToCome_111 rfl (lv_at hl 3 rfl) ?_
              have K6 : W p l e xk_r0 s m args below meth c H locs 0 0 Q (F0 m 120 ls [.int (if k2 = 0 then 5 else 0 : Int32)]) := by
                have jr : qzR_stepToCome a0 a1 a2 k0 k1 k2 = (if k2 = 0 then 5 else 0 : Int32) := by unfold qzR_stepToCome; (first | rfl | simp only [if_neg h1, if_neg h3, if_neg h5, if_neg h7, if_neg h9, if_pos h11])
                have hP : va_P G xk_cls [(oa, .inr (6, [.int a0, .int a1, .int a2]))] H := by exact hP
                exact hret _ () H locs 120 ls hP hS rfl jr.symm dzR_stepToCome_120
              refine lv_if_eq (pc := 112) (tgt := 119) hx hb dzR_stepToCome_112 (by decide) (fun h12 => ?_) (fun h12 => ?_)
              ·
                refine lv_iconst (v := 5) (pc := 119) hx hb dzR_stepToCome_119 (by decide) ?_
                have K9 := K6
                try simp only [if_pos h12] at K9
                first | exact K9 | (simp only [if_pos h12]; exact K9)
              ·
                refine lv_iconst (v := 0) (pc := 115) hx hb dzR_stepToCome_115 (by decide) ?_
                refine lv_goto (tgt := 120) (pc := 116) hx hb dzR_stepToCome_116 (by decide) ?_
                have K9 := K6
                try simp only [if_neg h12] at K9
                first | exact K9 | (simp only [if_neg h12]; exact K9)
            ·
              refine lv_iconst (v := 3) (pc := 109) hx hb dzR_stepToCome_109 (by decide) ?_
              have jr : qzR_stepToCome a0 a1 a2 k0 k1 k2 = 3 := by unfold qzR_stepToCome; (first | rfl | simp only [if_neg h1, if_neg h3, if_neg h5, if_neg h7, if_neg h9, if_neg h11])
              have hP : va_P G xk_cls [(oa, .inr (6, [.int a0, .int a1, .int a2]))] H := by exact hP
              exact hret _ () H locs 110 ls hP hS rfl jr.symm dzR_stepToCome_110
def qzR_moves (a0 : Int32) (a1 : Int32) (a2 : Int32) (k0 : Int32) (k1 : Int32) (k2 : Int32) : Int32 := (if (qzR_stepToCome a0 (a1 + 1) (if a0 = 4 then (if k0 = 0 then a2 + 1 else 0 : Int32) else 0 : Int32) k0 k1 k2) = a0 then 0 else 1 : Int32)
def qzR_moves_a0 (a0 : Int32) (a1 : Int32) (a2 : Int32) (k0 : Int32) (k1 : Int32) (k2 : Int32) : Int32 := (if (qzR_stepToCome a0 (a1 + 1) (if a0 = 4 then (if k0 = 0 then a2 + 1 else 0 : Int32) else 0 : Int32) k0 k1 k2) = a0 then a0 else qzR_stepToCome a0 (a1 + 1) (if a0 = 4 then (if k0 = 0 then a2 + 1 else 0 : Int32) else 0 : Int32) k0 k1 k2 : Int32)
def qzR_moves_a1 (a0 : Int32) (a1 : Int32) (a2 : Int32) (k0 : Int32) (k1 : Int32) (k2 : Int32) : Int32 := (if (qzR_stepToCome a0 (a1 + 1) (if a0 = 4 then (if k0 = 0 then a2 + 1 else 0 : Int32) else 0 : Int32) k0 k1 k2) = a0 then a1 + 1 else 0 : Int32)
def qzR_moves_a2 (a0 : Int32) (a1 : Int32) (a2 : Int32) (k0 : Int32) (k1 : Int32) (k2 : Int32) : Int32 := (if (qzR_stepToCome a0 (a1 + 1) (if a0 = 4 then (if k0 = 0 then a2 + 1 else 0 : Int32) else 0 : Int32) k0 k1 k2) = a0 then (if a0 = 4 then (if k0 = 0 then a2 + 1 else 0 : Int32) else 0 : Int32) else 0 : Int32)
theorem bzR_moves (a0 : Int32) (a1 : Int32) (a2 : Int32) (k0 : Int32) (k1 : Int32) (k2 : Int32) : xk_b (qzR_moves a0 a1 a2 k0 k1 k2) := by
  unfold qzR_moves
  repeat' (first | with_reducible exact xk_b0 | with_reducible exact xk_b1 | with_reducible assumption | apply xk_bi)
set_option maxHeartbeats 4000000 in
set_option maxRecDepth 100000 in
theorem kzR_moves (l : Launch) (G : va_G) (ac : Nat → ClassId) (oa : Nat) (a0 : Int32) (a1 : Int32) (a2 : Int32) (k0 : Int32) (k1 : Int32) (k2 : Int32) : xk_CI l yzR_moves czR_moves 5 .boolean xk_WS xk_r1 G xk_cls (xk_tys ac) [.ref oa, .int k0, .int k1, .int k2] [(oa, .inr (6, [.int a0, .int a1, .int a2]))] (fun r (_ : Unit) => r = qzR_moves a0 a1 a2 k0 k1 k2) (fun _ => [(oa, .inr (6, [.int (qzR_moves_a0 a0 a1 a2 k0 k1 k2), .int (qzR_moves_a1 a0 a1 a2 k0 k1 k2), .int (qzR_moves_a2 a0 a1 a2 k0 k1 k2)]))]) := by
  refine xk_ofI (by decide) (Nat.le_of_ble_eq_true rfl) ?_
  intro p e s m args below meth c A Q H locs ls C0 hret hP hD hS hl
  obtain ⟨hx, hb, hml, hts, hown, hK, hA⟩ := C0
  have hl : lv_has ls 5 [(0, .ref oa), (1, .int k0), (2, .int k1), (3, .int k2)] := hl
  refine lv_aload_n (pc := 0) hx hb dzR_moves_0 rfl (lv_at hl 0 rfl) ?_
  refine lv_dup (pc := 1) hx hb dzR_moves_1 rfl ?_
  refine xk_get (pc := 2) hx hb hts hown hK hP ffzR_15 0 rfl rfl dzR_moves_2 ?_
  refine lv_iconst (v := 1) (pc := 5) hx hb dzR_moves_5 (by decide) ?_
  refine lv_iadd (pc := 6) hx hb dzR_moves_6 ?_
  refine xk_putf (pc := 7) hx hb hts hown hK hP hD hS pfzR_15 0 rfl rfl rfl (Nat.le_of_ble_eq_true rfl) dzR_moves_7 (fun H locs hP hD hS => ?_)
  have hP : va_P G xk_cls [(oa, .inr (6, [.int a0, .int (a1 + 1), .int a2]))] H := hP
  have hD : va_D A [(oa, .inr (6, [.int a0, .int (a1 + 1), .int a2]))] := hD
  refine lv_aload_n (pc := 10) hx hb dzR_moves_10 rfl (lv_at hl 0 rfl) ?_
  refine lv_aload_n (pc := 11) hx hb dzR_moves_11 rfl (lv_at hl 0 rfl) ?_
  refine xk_get (pc := 12) hx hb hts hown hK hP ffzR_9 0 rfl rfl dzR_moves_12 ?_
  refine lv_iconst (v := 4) (pc := 15) hx hb dzR_moves_15 (by decide) ?_
  have K1 : W p l e xk_r1 s m args below meth c H locs 0 0 Q (F0 m 33 ls [.int (if a0 = 4 then (if k0 = 0 then a2 + 1 else 0 : Int32) else 0 : Int32), .ref oa]) := by
    refine xk_putf (pc := 33) hx hb hts hown hK hP hD hS pfzR_18 0 rfl rfl rfl (Nat.le_of_ble_eq_true rfl) dzR_moves_33 (fun H locs hP hD hS => ?_)
    have hP : va_P G xk_cls [(oa, .inr (6, [.int a0, .int (a1 + 1), .int (if a0 = 4 then (if k0 = 0 then a2 + 1 else 0 : Int32) else 0 : Int32)]))] H := hP
    have hD : va_D A [(oa, .inr (6, [.int a0, .int (a1 + 1), .int (if a0 = 4 then (if k0 = 0 then a2 + 1 else 0 : Int32) else 0 : Int32)]))] := hD
    refine lv_aload_n (pc := 36) hx hb dzR_moves_36 rfl (lv_at hl 0 rfl) ?_
    refine lv_iload_n (pc := 37) hx hb dzR_moves_37 rfl (lv_at hl 1 rfl) ?_
    refine lv_iload_n (pc := 38) hx hb dzR_moves_38 rfl (lv_at hl 2 rfl) ?_
    refine lv_iload_n (pc := 39) hx hb dzR_moves_39 rfl (lv_at hl 3 rfl) ?_
    refine xk_callVI (As := [.int k0, .int k1, .int k2]) (rest := []) (H0 := s.heap) (pc := 40) hx hb hml hts hown hK hA hP hD hS (kzR_stepToCome l G ac oa a0 (a1 + 1) (if a0 = 4 then (if k0 = 0 then a2 + 1 else 0 : Int32) else 0 : Int32) k0 k1 k2) vfzR_21 [0] (by decide) rfl (fun _ => rfl) 0 rfl rfl ⟨rfl, rfl⟩ ⟨Nat.le_of_ble_eq_true rfl, Nat.le_of_ble_eq_true rfl⟩ rfl hl.1 rfl (Nat.le_of_ble_eq_true rfl) ⟨Nat.zero_le _, Nat.zero_le _⟩ dzR_moves_40 (fun r1 u9 H locs e9 hP hD hS => ?_)
    obtain rfl : r1 = qzR_stepToCome a0 (a1 + 1) (if a0 = 4 then (if k0 = 0 then a2 + 1 else 0 : Int32) else 0 : Int32) k0 k1 k2 := e9
    have hP : va_P G xk_cls [(oa, .inr (6, [.int a0, .int (a1 + 1), .int (if a0 = 4 then (if k0 = 0 then a2 + 1 else 0 : Int32) else 0 : Int32)]))] H := hP
    have hD : va_D A [(oa, .inr (6, [.int a0, .int (a1 + 1), .int (if a0 = 4 then (if k0 = 0 then a2 + 1 else 0 : Int32) else 0 : Int32)]))] := hD
    refine lv_istore (lv' := [(4, .int (qzR_stepToCome a0 (a1 + 1) (if a0 = 4 then (if k0 = 0 then a2 + 1 else 0 : Int32) else 0 : Int32) k0 k1 k2)), (0, .ref oa), (1, .int k0), (2, .int k1), (3, .int k2)]) (pc := 43) hx hb dzR_moves_43 hl (by decide) rfl (fun ls hl => ?_)
    refine lv_iload (pc := 45) hx hb dzR_moves_45 (lv_at hl 0 rfl) ?_
    refine lv_aload_n (pc := 47) hx hb dzR_moves_47 rfl (lv_at hl 1 rfl) ?_
    refine xk_get (pc := 48) hx hb hts hown hK hP ffzR_9 0 rfl rfl dzR_moves_48 ?_
    refine lv_icmp_ne (pc := 51) (tgt := 56) hx hb dzR_moves_51 (by decide) (fun h3 => ?_) (fun h3 => ?_)
    ·
      refine lv_aload_n (pc := 56) hx hb dzR_moves_56 rfl (lv_at hl 1 rfl) ?_
      refine lv_iload (pc := 57) hx hb dzR_moves_57 (lv_at hl 0 rfl) ?_
      refine xk_putf (pc := 59) hx hb hts hown hK hP hD hS pfzR_9 0 rfl rfl rfl (Nat.le_of_ble_eq_true rfl) dzR_moves_59 (fun H locs hP hD hS => ?_)
      have hP : va_P G xk_cls [(oa, .inr (6, [.int (qzR_stepToCome a0 (a1 + 1) (if a0 = 4 then (if k0 = 0 then a2 + 1 else 0 : Int32) else 0 : Int32) k0 k1 k2), .int (a1 + 1), .int (if a0 = 4 then (if k0 = 0 then a2 + 1 else 0 : Int32) else 0 : Int32)]))] H := hP
      have hD : va_D A [(oa, .inr (6, [.int (qzR_stepToCome a0 (a1 + 1) (if a0 = 4 then (if k0 = 0 then a2 + 1 else 0 : Int32) else 0 : Int32) k0 k1 k2), .int (a1 + 1), .int (if a0 = 4 then (if k0 = 0 then a2 + 1 else 0 : Int32) else 0 : Int32)]))] := hD
      refine lv_aload_n (pc := 62) hx hb dzR_moves_62 rfl (lv_at hl 1 rfl) ?_
      refine lv_iconst (v := 0) (pc := 63) hx hb dzR_moves_63 (by decide) ?_
      refine xk_putf (pc := 64) hx hb hts hown hK hP hD hS pfzR_15 0 rfl rfl rfl (Nat.le_of_ble_eq_true rfl) dzR_moves_64 (fun H locs hP hD hS => ?_)
      have hP : va_P G xk_cls [(oa, .inr (6, [.int (qzR_stepToCome a0 (a1 + 1) (if a0 = 4 then (if k0 = 0 then a2 + 1 else 0 : Int32) else 0 : Int32) k0 k1 k2), .int 0, .int (if a0 = 4 then (if k0 = 0 then a2 + 1 else 0 : Int32) else 0 : Int32)]))] H := hP
      have hD : va_D A [(oa, .inr (6, [.int (qzR_stepToCome a0 (a1 + 1) (if a0 = 4 then (if k0 = 0 then a2 + 1 else 0 : Int32) else 0 : Int32) k0 k1 k2), .int 0, .int (if a0 = 4 then (if k0 = 0 then a2 + 1 else 0 : Int32) else 0 : Int32)]))] := hD
      refine lv_aload_n (pc := 67) hx hb dzR_moves_67 rfl (lv_at hl 1 rfl) ?_
      refine lv_iconst (v := 0) (pc := 68) hx hb dzR_moves_68 (by decide) ?_
      refine xk_putf (pc := 69) hx hb hts hown hK hP hD hS pfzR_18 0 rfl rfl rfl (Nat.le_of_ble_eq_true rfl) dzR_moves_69 (fun H locs hP hD hS => ?_)
      have hP : va_P G xk_cls [(oa, .inr (6, [.int (qzR_stepToCome a0 (a1 + 1) (if a0 = 4 then (if k0 = 0 then a2 + 1 else 0 : Int32) else 0 : Int32) k0 k1 k2), .int 0, .int 0]))] H := hP
      have hD : va_D A [(oa, .inr (6, [.int (qzR_stepToCome a0 (a1 + 1) (if a0 = 4 then (if k0 = 0 then a2 + 1 else 0 : Int32) else 0 : Int32) k0 k1 k2), .int 0, .int 0]))] := hD
      refine lv_iconst (v := 1) (pc := 72) hx hb dzR_moves_72 (by decide) ?_
      have j0 : qzR_moves_a0 a0 a1 a2 k0 k1 k2 = qzR_stepToCome a0 (a1 + 1) (if a0 = 4 then (if k0 = 0 then a2 + 1 else 0 : Int32) else 0 : Int32) k0 k1 k2 := by unfold qzR_moves_a0; (first | rfl | simp only [if_neg h3])
      have j1 : qzR_moves_a1 a0 a1 a2 k0 k1 k2 = 0 := by unfold qzR_moves_a1; (first | rfl | simp only [if_neg h3])
      have j2 : qzR_moves_a2 a0 a1 a2 k0 k1 k2 = 0 := by unfold qzR_moves_a2; (first | rfl | simp only [if_neg h3])
      have jr : qzR_moves a0 a1 a2 k0 k1 k2 = 1 := by unfold qzR_moves; (first | rfl | simp only [if_neg h3])
      have hP : va_P G xk_cls [(oa, .inr (6, [.int (qzR_moves_a0 a0 a1 a2 k0 k1 k2), .int (qzR_moves_a1 a0 a1 a2 k0 k1 k2), .int (qzR_moves_a2 a0 a1 a2 k0 k1 k2)]))] H := by rw [j0, j1, j2]; exact hP
      exact hret _ () H locs 73 ls hP hS (xk_bn xk_b1) jr.symm dzR_moves_73
    ·
      refine lv_iconst (v := 0) (pc := 54) hx hb dzR_moves_54 (by decide) ?_
      have j0 : qzR_moves_a0 a0 a1 a2 k0 k1 k2 = a0 := by unfold qzR_moves_a0; (first | rfl | simp only [if_pos h3])
      have j1 : qzR_moves_a1 a0 a1 a2 k0 k1 k2 = a1 + 1 := by unfold qzR_moves_a1; (first | rfl | simp only [if_pos h3])
      have j2 : qzR_moves_a2 a0 a1 a2 k0 k1 k2 = (if a0 = 4 then (if k0 = 0 then a2 + 1 else 0 : Int32) else 0 : Int32) := by unfold qzR_moves_a2; (first | rfl | simp only [if_pos h3])
      have jr : qzR_moves a0 a1 a2 k0 k1 k2 = 0 := by unfold qzR_moves; (first | rfl | simp only [if_pos h3])
      have hP : va_P G xk_cls [(oa, .inr (6, [.int (qzR_moves_a0 a0 a1 a2 k0 k1 k2), .int (qzR_moves_a1 a0 a1 a2 k0 k1 k2), .int (qzR_moves_a2 a0 a1 a2 k0 k1 k2)]))] H := by rw [j0, j1, j2]; exact hP
      exact hret _ () H locs 55 ls hP hS (xk_bn xk_b0) jr.symm dzR_moves_55
  refine lv_icmp_ne (pc := 16) (tgt := 32) hx hb dzR_moves_16 (by decide) (fun h1 => ?_) (fun h1 => ?_)
  ·
    refine lv_iconst (v := 0) (pc := 32) hx hb dzR_moves_32 (by decide) ?_
    have K9 := K1
    try simp only [if_neg h1] at K9
    first | exact K9 | (simp only [if_neg h1]; exact K9)
  ·
    refine lv_iload_n (pc := 19) hx hb dzR_moves_19 rfl (lv_at hl 1 rfl) ?_
    refine lv_if_ne (pc := 20) (tgt := 32) hx hb dzR_moves_20 (by decide) (fun h2 => ?_) (fun h2 => ?_)
    ·
      refine lv_iconst (v := 0) (pc := 32) hx hb dzR_moves_32 (by decide) ?_
      have K9 := K1
      try simp only [if_pos h1, if_neg h2] at K9
      first | exact K9 | (simp only [if_pos h1, if_neg h2]; exact K9)
    ·
      refine lv_aload_n (pc := 23) hx hb dzR_moves_23 rfl (lv_at hl 0 rfl) ?_
      refine xk_get (pc := 24) hx hb hts hown hK hP ffzR_18 0 rfl rfl dzR_moves_24 ?_
      refine lv_iconst (v := 1) (pc := 27) hx hb dzR_moves_27 (by decide) ?_
      refine lv_iadd (pc := 28) hx hb dzR_moves_28 ?_
      refine lv_goto (tgt := 33) (pc := 29) hx hb dzR_moves_29 (by decide) ?_
      have K9 := K1
      try simp only [if_pos h1, if_pos h2] at K9
      first | exact K9 | (simp only [if_pos h1, if_pos h2]; exact K9)
def qzJ_add_a3 (a3 : Int32) : Int32 := a3 + 1
def qzJ_add_b (a3 : Int32) (fb : Nat → Int32) (k0 : Int32) : Nat → Int32 := upd fb ((a3 &&& 63).toNatClampNeg) k0
def qzJ_add_c (a3 : Int32) (fc : Nat → Int32) (k1 : Int32) : Nat → Int32 := upd fc ((a3 &&& 63).toNatClampNeg) k1
def qzJ_add_d (a3 : Int32) (fd : Nat → Int32) (k2 : Int32) : Nat → Int32 := upd fd ((a3 &&& 63).toNatClampNeg) k2
set_option maxHeartbeats 4000000 in
set_option maxRecDepth 100000 in
theorem kzJ_add (l : Launch) (G : va_G) (ac : Nat → ClassId) (oa : Nat) (ob : Nat) (oc : Nat) (od : Nat) (a3 : Int32) (fb : Nat → Int32) (fc : Nat → Int32) (fd : Nat → Int32) (k0 : Int32) (k1 : Int32) (k2 : Int32) : xk_CV l yzJ_add czJ_add 5 xk_WS xk_r0 G xk_cls (xk_tys ac) [.ref oa, .int k0, .int k1, .int k2] [(oa, .inr (7, [.ref ob, .ref oc, .ref od, .int a3])), (ob, .inl (ac 0, 64, .inl fb)), (oc, .inl (ac 0, 64, .inl fc)), (od, .inl (ac 0, 64, .inl fd))] (fun _ : Unit => True) (fun _ => [(oa, .inr (7, [.ref ob, .ref oc, .ref od, .int (qzJ_add_a3 a3)])), (ob, .inl (ac 0, 64, .inl (qzJ_add_b a3 fb k0))), (oc, .inl (ac 0, 64, .inl (qzJ_add_c a3 fc k1))), (od, .inl (ac 0, 64, .inl (qzJ_add_d a3 fd k2)))]) := by
  refine xk_ofV (by decide) (Nat.le_of_ble_eq_true rfl) ?_
  intro p e s m args below meth c A Q H locs ls C0 hret hP hD hS hl
  obtain ⟨hx, hb, hml, hts, hown, hK, hA⟩ := C0
  have hl : lv_has ls 5 [(0, .ref oa), (1, .int k0), (2, .int k1), (3, .int k2)] := hl
  refine lv_aload_n (pc := 0) hx hb dzJ_add_0 rfl (lv_at hl 0 rfl) ?_
  refine xk_get (pc := 1) hx hb hts hown hK hP ffzJ_19 0 rfl rfl dzJ_add_1 ?_
  refine lv_bipush (v := 63) (pc := 4) hx hb dzJ_add_4 (by decide) ?_
  refine lv_iand (pc := 6) hx hb dzJ_add_6 ?_
  refine lv_istore (lv' := [(4, .int (a3 &&& 63)), (0, .ref oa), (1, .int k0), (2, .int k1), (3, .int k2)]) (pc := 7) hx hb dzJ_add_7 hl (by decide) rfl (fun ls hl => ?_)
  refine lv_aload_n (pc := 9) hx hb dzJ_add_9 rfl (lv_at hl 1 rfl) ?_
  refine xk_get (pc := 10) hx hb hts hown hK hP ffzJ_9 0 rfl rfl dzJ_add_10 ?_
  refine lv_iload (pc := 13) hx hb dzJ_add_13 (lv_at hl 0 rfl) ?_
  refine lv_iload_n (pc := 15) hx hb dzJ_add_15 rfl (lv_at hl 2 rfl) ?_
  refine xk_iast (q0 := 1) (t0 := 0) (j := (a3 &&& 63).toNatClampNeg) (pc := 16) hx hb hK hP hD hS rfl rfl (pk_andIn _ 6 (by decide) (by decide)) rfl dzJ_add_16 (fun H locs hP hD hS => ?_)
  have hP : va_P G xk_cls [(oa, .inr (7, [.ref ob, .ref oc, .ref od, .int a3])), (ob, .inl (ac 0, 64, .inl (upd fb ((a3 &&& 63).toNatClampNeg) k0))), (oc, .inl (ac 0, 64, .inl fc)), (od, .inl (ac 0, 64, .inl fd))] H := hP
  have hD : va_D A [(oa, .inr (7, [.ref ob, .ref oc, .ref od, .int a3])), (ob, .inl (ac 0, 64, .inl (upd fb ((a3 &&& 63).toNatClampNeg) k0))), (oc, .inl (ac 0, 64, .inl fc)), (od, .inl (ac 0, 64, .inl fd))] := hD
  refine lv_aload_n (pc := 17) hx hb dzJ_add_17 rfl (lv_at hl 1 rfl) ?_
  refine xk_get (pc := 18) hx hb hts hown hK hP ffzJ_13 0 rfl rfl dzJ_add_18 ?_
  refine lv_iload (pc := 21) hx hb dzJ_add_21 (lv_at hl 0 rfl) ?_
  refine lv_iload_n (pc := 23) hx hb dzJ_add_23 rfl (lv_at hl 3 rfl) ?_
  refine xk_iast (q0 := 2) (t0 := 0) (j := (a3 &&& 63).toNatClampNeg) (pc := 24) hx hb hK hP hD hS rfl rfl (pk_andIn _ 6 (by decide) (by decide)) rfl dzJ_add_24 (fun H locs hP hD hS => ?_)
  have hP : va_P G xk_cls [(oa, .inr (7, [.ref ob, .ref oc, .ref od, .int a3])), (ob, .inl (ac 0, 64, .inl (upd fb ((a3 &&& 63).toNatClampNeg) k0))), (oc, .inl (ac 0, 64, .inl (upd fc ((a3 &&& 63).toNatClampNeg) k1))), (od, .inl (ac 0, 64, .inl fd))] H := hP
  have hD : va_D A [(oa, .inr (7, [.ref ob, .ref oc, .ref od, .int a3])), (ob, .inl (ac 0, 64, .inl (upd fb ((a3 &&& 63).toNatClampNeg) k0))), (oc, .inl (ac 0, 64, .inl (upd fc ((a3 &&& 63).toNatClampNeg) k1))), (od, .inl (ac 0, 64, .inl fd))] := hD
  refine lv_aload_n (pc := 25) hx hb dzJ_add_25 rfl (lv_at hl 1 rfl) ?_
  refine xk_get (pc := 26) hx hb hts hown hK hP ffzJ_16 0 rfl rfl dzJ_add_26 ?_
  refine lv_iload (pc := 29) hx hb dzJ_add_29 (lv_at hl 0 rfl) ?_
  refine lv_iload_n (pc := 31) hx hb dzJ_add_31 rfl (lv_at hl 4 rfl) ?_
  refine xk_iast (q0 := 3) (t0 := 0) (j := (a3 &&& 63).toNatClampNeg) (pc := 32) hx hb hK hP hD hS rfl rfl (pk_andIn _ 6 (by decide) (by decide)) rfl dzJ_add_32 (fun H locs hP hD hS => ?_)
  have hP : va_P G xk_cls [(oa, .inr (7, [.ref ob, .ref oc, .ref od, .int a3])), (ob, .inl (ac 0, 64, .inl (upd fb ((a3 &&& 63).toNatClampNeg) k0))), (oc, .inl (ac 0, 64, .inl (upd fc ((a3 &&& 63).toNatClampNeg) k1))), (od, .inl (ac 0, 64, .inl (upd fd ((a3 &&& 63).toNatClampNeg) k2)))] H := hP
  have hD : va_D A [(oa, .inr (7, [.ref ob, .ref oc, .ref od, .int a3])), (ob, .inl (ac 0, 64, .inl (upd fb ((a3 &&& 63).toNatClampNeg) k0))), (oc, .inl (ac 0, 64, .inl (upd fc ((a3 &&& 63).toNatClampNeg) k1))), (od, .inl (ac 0, 64, .inl (upd fd ((a3 &&& 63).toNatClampNeg) k2)))] := hD
  refine lv_aload_n (pc := 33) hx hb dzJ_add_33 rfl (lv_at hl 1 rfl) ?_
  refine lv_dup (pc := 34) hx hb dzJ_add_34 rfl ?_
  refine xk_get (pc := 35) hx hb hts hown hK hP ffzJ_19 0 rfl rfl dzJ_add_35 ?_
  refine lv_iconst (v := 1) (pc := 38) hx hb dzJ_add_38 (by decide) ?_
  refine lv_iadd (pc := 39) hx hb dzJ_add_39 ?_
  refine xk_putf (pc := 40) hx hb hts hown hK hP hD hS pfzJ_19 0 rfl rfl rfl (Nat.le_of_ble_eq_true rfl) dzJ_add_40 (fun H locs hP hD hS => ?_)
  have hP : va_P G xk_cls [(oa, .inr (7, [.ref ob, .ref oc, .ref od, .int (a3 + 1)])), (ob, .inl (ac 0, 64, .inl (upd fb ((a3 &&& 63).toNatClampNeg) k0))), (oc, .inl (ac 0, 64, .inl (upd fc ((a3 &&& 63).toNatClampNeg) k1))), (od, .inl (ac 0, 64, .inl (upd fd ((a3 &&& 63).toNatClampNeg) k2)))] H := hP
  have hD : va_D A [(oa, .inr (7, [.ref ob, .ref oc, .ref od, .int (a3 + 1)])), (ob, .inl (ac 0, 64, .inl (upd fb ((a3 &&& 63).toNatClampNeg) k0))), (oc, .inl (ac 0, 64, .inl (upd fc ((a3 &&& 63).toNatClampNeg) k1))), (od, .inl (ac 0, 64, .inl (upd fd ((a3 &&& 63).toNatClampNeg) k2)))] := hD
  have j0 : qzJ_add_a3 a3 = a3 + 1 := by unfold qzJ_add_a3; rfl
  have j1 : qzJ_add_b a3 fb k0 = upd fb ((a3 &&& 63).toNatClampNeg) k0 := by unfold qzJ_add_b; rfl
  have j2 : qzJ_add_c a3 fc k1 = upd fc ((a3 &&& 63).toNatClampNeg) k1 := by unfold qzJ_add_c; rfl
  have j3 : qzJ_add_d a3 fd k2 = upd fd ((a3 &&& 63).toNatClampNeg) k2 := by unfold qzJ_add_d; rfl
  have hP : va_P G xk_cls [(oa, .inr (7, [.ref ob, .ref oc, .ref od, .int (qzJ_add_a3 a3)])), (ob, .inl (ac 0, 64, .inl (qzJ_add_b a3 fb k0))), (oc, .inl (ac 0, 64, .inl (qzJ_add_c a3 fc k1))), (od, .inl (ac 0, 64, .inl (qzJ_add_d a3 fd k2)))] H := by rw [j0, j1, j2, j3]; exact hP
  exact hret () H locs 43 ls hP hS trivial dzJ_add_43
def qzJ_keeps (a3 : Int32) (k0 : Int32) : Int32 := (if k0 < 0 then 0 else (if a3 ≤ k0 then 0 else (if k0 < (a3 - 64) then 0 else 1 : Int32) : Int32) : Int32)
theorem bzJ_keeps (a3 : Int32) (k0 : Int32) : xk_b (qzJ_keeps a3 k0) := by
  unfold qzJ_keeps
  repeat' (first | with_reducible exact xk_b0 | with_reducible exact xk_b1 | with_reducible assumption | apply xk_bi)
set_option maxHeartbeats 4000000 in
set_option maxRecDepth 100000 in
theorem kzJ_keeps (l : Launch) (G : va_G) (ac : Nat → ClassId) (oa : Nat) (za0 : Nat) (za1 : Nat) (za2 : Nat) (a3 : Int32) (k0 : Int32) : xk_CI l yzJ_keeps czJ_keeps 2 .boolean xk_WS xk_r0 G xk_cls (xk_tys ac) [.ref oa, .int k0] [(oa, .inr (7, [.ref za0, .ref za1, .ref za2, .int a3]))] (fun r (_ : Unit) => r = qzJ_keeps a3 k0) (fun _ => [(oa, .inr (7, [.ref za0, .ref za1, .ref za2, .int a3]))]) := by
  refine xk_ofI (by decide) (Nat.le_of_ble_eq_true rfl) ?_
  intro p e s m args below meth c A Q H locs ls C0 hret hP hD hS hl
  obtain ⟨hx, hb, hml, hts, hown, hK, hA⟩ := C0
  have hl : lv_has ls 2 [(0, .ref oa), (1, .int k0)] := hl
  refine lv_iload_n (pc := 0) hx hb dzJ_keeps_0 rfl (lv_at hl 1 rfl) ?_
  have K1 : W p l e xk_r0 s m args below meth c H locs 0 0 Q (F0 m 28 ls [.int (if k0 < 0 then 0 else (if a3 ≤ k0 then 0 else (if k0 < (a3 - 64) then 0 else 1 : Int32) : Int32) : Int32)]) := by
    have jr : qzJ_keeps a3 k0 = (if k0 < 0 then 0 else (if a3 ≤ k0 then 0 else (if k0 < (a3 - 64) then 0 else 1 : Int32) : Int32) : Int32) := by unfold qzJ_keeps; rfl
    have hP : va_P G xk_cls [(oa, .inr (7, [.ref za0, .ref za1, .ref za2, .int a3]))] H := by exact hP
    exact hret _ () H locs 28 ls hP hS (xk_bn (by repeat' (first | with_reducible exact xk_b0 | with_reducible exact xk_b1 | apply xk_bi))) jr.symm dzJ_keeps_28
  refine lv_if_lt (pc := 1) (tgt := 27) hx hb dzJ_keeps_1 (by decide) (fun h1 => ?_) (fun h1 => ?_)
  ·
    refine lv_iconst (v := 0) (pc := 27) hx hb dzJ_keeps_27 (by decide) ?_
    have K9 := K1
    try simp only [if_pos h1] at K9
    first | exact K9 | (simp only [if_pos h1]; exact K9)
  ·
    refine lv_iload_n (pc := 4) hx hb dzJ_keeps_4 rfl (lv_at hl 1 rfl) ?_
    refine lv_aload_n (pc := 5) hx hb dzJ_keeps_5 rfl (lv_at hl 0 rfl) ?_
    refine xk_get (pc := 6) hx hb hts hown hK hP ffzJ_19 0 rfl rfl dzJ_keeps_6 ?_
    refine lv_icmp_ge (pc := 9) (tgt := 27) hx hb dzJ_keeps_9 (by decide) (fun h2 => ?_) (fun h2 => ?_)
    ·
      refine lv_iconst (v := 0) (pc := 27) hx hb dzJ_keeps_27 (by decide) ?_
      have K9 := K1
      try simp only [if_neg h1, if_pos h2] at K9
      first | exact K9 | (simp only [if_neg h1, if_pos h2]; exact K9)
    ·
      refine lv_iload_n (pc := 12) hx hb dzJ_keeps_12 rfl (lv_at hl 1 rfl) ?_
      refine lv_aload_n (pc := 13) hx hb dzJ_keeps_13 rfl (lv_at hl 0 rfl) ?_
      refine xk_get (pc := 14) hx hb hts hown hK hP ffzJ_19 0 rfl rfl dzJ_keeps_14 ?_
      refine lv_bipush (v := 64) (pc := 17) hx hb dzJ_keeps_17 (by decide) ?_
      refine lv_isub (pc := 19) hx hb dzJ_keeps_19 ?_
      refine lv_icmp_lt (pc := 20) (tgt := 27) hx hb dzJ_keeps_20 (by decide) (fun h3 => ?_) (fun h3 => ?_)
      ·
        refine lv_iconst (v := 0) (pc := 27) hx hb dzJ_keeps_27 (by decide) ?_
        have K9 := K1
        try simp only [if_neg h1, if_neg h2, if_pos h3] at K9
        first | exact K9 | (simp only [if_neg h1, if_neg h2, if_pos h3]; exact K9)
      ·
        refine lv_iconst (v := 1) (pc := 23) hx hb dzJ_keeps_23 (by decide) ?_
        refine lv_goto (tgt := 28) (pc := 24) hx hb dzJ_keeps_24 (by decide) ?_
        have K9 := K1
        try simp only [if_neg h1, if_neg h2, if_neg h3] at K9
        first | exact K9 | (simp only [if_neg h1, if_neg h2, if_neg h3]; exact K9)
def qzU_isEven (k0 : Int32) : Int32 := (if (k0 &&& 1) = 0 then 1 else 0 : Int32)
theorem bzU_isEven (k0 : Int32) : xk_b (qzU_isEven k0) := by
  unfold qzU_isEven
  repeat' (first | with_reducible exact xk_b0 | with_reducible exact xk_b1 | with_reducible assumption | apply xk_bi)
set_option maxHeartbeats 4000000 in
set_option maxRecDepth 100000 in
theorem kzU_isEven (l : Launch) (G : va_G) (ac : Nat → ClassId) (k0 : Int32) : xk_CI l yzU_isEven czU_isEven 1 .boolean xk_WS xk_r0 G xk_cls (xk_tys ac) [.int k0] [] (fun r (_ : Unit) => r = qzU_isEven k0) (fun _ => []) := by
  refine xk_ofI (by decide) (Nat.le_of_ble_eq_true rfl) ?_
  intro p e s m args below meth c A Q H locs ls C0 hret hP hD hS hl
  obtain ⟨hx, hb, hml, hts, hown, hK, hA⟩ := C0
  have hl : lv_has ls 1 [(0, .int k0)] := hl
  refine lv_iload_n (pc := 0) hx hb dzU_isEven_0 rfl (lv_at hl 0 rfl) ?_
  refine lv_iconst (v := 1) (pc := 1) hx hb dzU_isEven_1 (by decide) ?_
  refine lv_iand (pc := 2) hx hb dzU_isEven_2 ?_
  have K1 : W p l e xk_r0 s m args below meth c H locs 0 0 Q (F0 m 11 ls [.int (if (k0 &&& 1) = 0 then 1 else 0 : Int32)]) := by
    have jr : qzU_isEven k0 = (if (k0 &&& 1) = 0 then 1 else 0 : Int32) := by unfold qzU_isEven; rfl
    have hP : va_P G xk_cls [] H := by exact hP
    exact hret _ () H locs 11 ls hP hS (xk_bn (by repeat' (first | with_reducible exact xk_b0 | with_reducible exact xk_b1 | apply xk_bi))) jr.symm dzU_isEven_11
  refine lv_if_ne (pc := 3) (tgt := 10) hx hb dzU_isEven_3 (by decide) (fun h1 => ?_) (fun h1 => ?_)
  ·
    refine lv_iconst (v := 0) (pc := 10) hx hb dzU_isEven_10 (by decide) ?_
    have K9 := K1
    try simp only [if_neg h1] at K9
    first | exact K9 | (simp only [if_neg h1]; exact K9)
  ·
    refine lv_iconst (v := 1) (pc := 6) hx hb dzU_isEven_6 (by decide) ?_
    refine lv_goto (tgt := 11) (pc := 7) hx hb dzU_isEven_7 (by decide) ?_
    have K9 := K1
    try simp only [if_pos h1] at K9
    first | exact K9 | (simp only [if_pos h1]; exact K9)
