def qzE_follow_a1 (a1 : Int32) (a2 : Int32) (b1 : Int32) (b2 : Int32) : Int32 := (if a2 = 0 then (if a1 = (-1) then a1 else (if b1 = 0 then (-1) else (if a1 - 1 < 0 then 0 else a1 - 1 : Int32) : Int32) : Int32) else (if b2 = 0 then (if a1 = (-1) then 214 else (if b1 = 0 then (-1) else (if a1 - 1 < 0 then 0 else a1 - 1 : Int32) : Int32) : Int32) else (if a1 = (-1) then a1 else (if b1 = 0 then (-1) else (if a1 - 1 < 0 then 0 else a1 - 1 : Int32) : Int32) : Int32) : Int32) : Int32)
def qzE_follow_a2 : Int32 := 0
set_option maxHeartbeats 4000000 in
set_option maxRecDepth 100000 in
theorem kzE_follow (l : Launch) (G : va_G) (ac : Nat → ClassId) (oa : Nat) (ob : Nat) (a1 : Int32) (a2 : Int32) (b0 : Int32) (b1 : Int32) (b2 : Int32) (b3 : Int32) (b4 : Int32) (b5 : Int32) (b6 : Int32) (b7 : Int32) (b8 : Int32) : xk_CV l yzE_follow czE_follow 1 xk_WS xk_r1 G xk_cls (xk_tys ac) [.ref oa] [(oa, .inr (2, [.ref ob, .int a1, .int a2])), (ob, .inr (1, [.int b0, .int b1, .int b2, .int b3, .int b4, .int b5, .int b6, .int b7, .int b8]))] (fun _ : Unit => True) (fun _ => [(oa, .inr (2, [.ref ob, .int (qzE_follow_a1 a1 a2 b1 b2), .int qzE_follow_a2])), (ob, .inr (1, [.int b0, .int b1, .int b2, .int b3, .int b4, .int b5, .int b6, .int b7, .int b8]))]) := by
  refine xk_ofV (by decide) (Nat.le_of_ble_eq_true rfl) ?_
  intro p e s m args below meth c A Q H locs ls C0 hret hP hD hS hl
  obtain ⟨hx, hb, hml, hts, hown, hK, hA⟩ := C0
  have hl : lv_has ls 1 [(0, .ref oa)] := hl
  refine lv_aload_n (pc := 0) hx hb dzE_follow_0 rfl (lv_at hl 0 rfl) ?_
  refine xk_get (pc := 1) hx hb hts hown hK hP ffzE_15 0 rfl rfl dzE_follow_1 ?_
  have K4 : ∀ (H : Heap) (locs : List Loc), (va_P G xk_cls [(oa, .inr (2, [.ref ob, .int (if a2 = 0 then (if a1 = (-1) then a1 else (if b1 = 0 then (-1) else (if a1 - 1 < 0 then 0 else a1 - 1 : Int32) : Int32) : Int32) else (if b2 = 0 then (if a1 = (-1) then 214 else (if b1 = 0 then (-1) else (if a1 - 1 < 0 then 0 else a1 - 1 : Int32) : Int32) : Int32) else (if a1 = (-1) then a1 else (if b1 = 0 then (-1) else (if a1 - 1 < 0 then 0 else a1 - 1 : Int32) : Int32) : Int32) : Int32) : Int32), .int a2])), (ob, .inr (1, [.int b0, .int b1, .int b2, .int b3, .int b4, .int b5, .int b6, .int b7, .int b8]))] H) → (va_D A [(oa, .inr (2, [.ref ob, .int (if a2 = 0 then (if a1 = (-1) then a1 else (if b1 = 0 then (-1) else (if a1 - 1 < 0 then 0 else a1 - 1 : Int32) : Int32) : Int32) else (if b2 = 0 then (if a1 = (-1) then 214 else (if b1 = 0 then (-1) else (if a1 - 1 < 0 then 0 else a1 - 1 : Int32) : Int32) : Int32) else (if a1 = (-1) then a1 else (if b1 = 0 then (-1) else (if a1 - 1 < 0 then 0 else a1 - 1 : Int32) : Int32) : Int32) : Int32) : Int32), .int a2])), (ob, .inr (1, [.int b0, .int b1, .int b2, .int b3, .int b4, .int b5, .int b6, .int b7, .int b8]))]) → (va_S A s.heap H locs) → W p l e xk_r1 s m args below meth c H locs 0 0 Q (F0 m 71 ls []) := by
    intro H locs hP hD hS
    refine lv_aload_n (pc := 71) hx hb dzE_follow_71 rfl (lv_at hl 0 rfl) ?_
    refine lv_iconst (v := 0) (pc := 72) hx hb dzE_follow_72 (by decide) ?_
    refine xk_putf (pc := 73) hx hb hts hown hK hP hD hS pfzE_15 0 rfl (xk_bn xk_b0) (xk_bf xk_b0) (Nat.le_of_ble_eq_true rfl) dzE_follow_73 (fun H locs hP hD hS => ?_)
    have hP : va_P G xk_cls [(oa, .inr (2, [.ref ob, .int (if a2 = 0 then (if a1 = (-1) then a1 else (if b1 = 0 then (-1) else (if a1 - 1 < 0 then 0 else a1 - 1 : Int32) : Int32) : Int32) else (if b2 = 0 then (if a1 = (-1) then 214 else (if b1 = 0 then (-1) else (if a1 - 1 < 0 then 0 else a1 - 1 : Int32) : Int32) : Int32) else (if a1 = (-1) then a1 else (if b1 = 0 then (-1) else (if a1 - 1 < 0 then 0 else a1 - 1 : Int32) : Int32) : Int32) : Int32) : Int32), .int 0])), (ob, .inr (1, [.int b0, .int b1, .int b2, .int b3, .int b4, .int b5, .int b6, .int b7, .int b8]))] H := hP
    have hD : va_D A [(oa, .inr (2, [.ref ob, .int (if a2 = 0 then (if a1 = (-1) then a1 else (if b1 = 0 then (-1) else (if a1 - 1 < 0 then 0 else a1 - 1 : Int32) : Int32) : Int32) else (if b2 = 0 then (if a1 = (-1) then 214 else (if b1 = 0 then (-1) else (if a1 - 1 < 0 then 0 else a1 - 1 : Int32) : Int32) : Int32) else (if a1 = (-1) then a1 else (if b1 = 0 then (-1) else (if a1 - 1 < 0 then 0 else a1 - 1 : Int32) : Int32) : Int32) : Int32) : Int32), .int 0])), (ob, .inr (1, [.int b0, .int b1, .int b2, .int b3, .int b4, .int b5, .int b6, .int b7, .int b8]))] := hD
    have j0 : qzE_follow_a1 a1 a2 b1 b2 = (if a2 = 0 then (if a1 = (-1) then a1 else (if b1 = 0 then (-1) else (if a1 - 1 < 0 then 0 else a1 - 1 : Int32) : Int32) : Int32) else (if b2 = 0 then (if a1 = (-1) then 214 else (if b1 = 0 then (-1) else (if a1 - 1 < 0 then 0 else a1 - 1 : Int32) : Int32) : Int32) else (if a1 = (-1) then a1 else (if b1 = 0 then (-1) else (if a1 - 1 < 0 then 0 else a1 - 1 : Int32) : Int32) : Int32) : Int32) : Int32) := by unfold qzE_follow_a1; rfl
    have j1 : qzE_follow_a2 = 0 := by unfold qzE_follow_a2; rfl
    have hP : va_P G xk_cls [(oa, .inr (2, [.ref ob, .int (qzE_follow_a1 a1 a2 b1 b2), .int qzE_follow_a2])), (ob, .inr (1, [.int b0, .int b1, .int b2, .int b3, .int b4, .int b5, .int b6, .int b7, .int b8]))] H := by rw [j0, j1]; exact hP
    exact hret () H locs 76 ls hP hS trivial dzE_follow_76
  refine lv_if_eq (pc := 4) (tgt := 35) hx hb dzE_follow_4 (by decide) (fun h1 => ?_) (fun h1 => ?_)
  ·
    refine lv_aload_n (pc := 35) hx hb dzE_follow_35 rfl (lv_at hl 0 rfl) ?_
    refine xk_get (pc := 36) hx hb hts hown hK hP ffzE_9 0 rfl rfl dzE_follow_36 ?_
    refine lv_iconst (v := (-1)) (pc := 39) hx hb dzE_follow_39 (by decide) ?_
    refine lv_icmp_eq (pc := 40) (tgt := 71) hx hb dzE_follow_40 (by decide) (fun h2 => ?_) (fun h2 => ?_)
    ·
      have K9 := K4
      try simp only [if_pos h1, if_pos h2] at K9
      first | exact K9 H locs hP hD hS | (simp only [if_pos h1, if_pos h2] at hP hD; exact K9 H locs hP hD hS) | (simp only [if_pos h1, if_pos h2] at hP hD ⊢; exact K9 H locs hP hD hS)
    ·
      refine lv_aload_n (pc := 43) hx hb dzE_follow_43 rfl (lv_at hl 0 rfl) ?_
      refine lv_aload_n (pc := 44) hx hb dzE_follow_44 rfl (lv_at hl 0 rfl) ?_
      refine xk_get (pc := 45) hx hb hts hown hK hP ffzE_19 0 rfl rfl dzE_follow_45 ?_
      refine xk_get (pc := 48) hx hb hts hown hK hP ffzE_28 1 rfl rfl dzE_follow_48 ?_
      have K1 : W p l e xk_r1 s m args below meth c H locs 0 0 Q (F0 m 68 ls [.int (if b1 = 0 then (-1) else (if a1 - 1 < 0 then 0 else a1 - 1 : Int32) : Int32), .ref oa]) := by
        refine xk_putf (pc := 68) hx hb hts hown hK hP hD hS pfzE_9 0 rfl rfl rfl (Nat.le_of_ble_eq_true rfl) dzE_follow_68 (fun H locs hP hD hS => ?_)
        have hP : va_P G xk_cls [(oa, .inr (2, [.ref ob, .int (if b1 = 0 then (-1) else (if a1 - 1 < 0 then 0 else a1 - 1 : Int32) : Int32), .int a2])), (ob, .inr (1, [.int b0, .int b1, .int b2, .int b3, .int b4, .int b5, .int b6, .int b7, .int b8]))] H := hP
        have hD : va_D A [(oa, .inr (2, [.ref ob, .int (if b1 = 0 then (-1) else (if a1 - 1 < 0 then 0 else a1 - 1 : Int32) : Int32), .int a2])), (ob, .inr (1, [.int b0, .int b1, .int b2, .int b3, .int b4, .int b5, .int b6, .int b7, .int b8]))] := hD
        have K9 := K4
        try simp only [if_pos h1, if_neg h2] at K9
        first | exact K9 H locs hP hD hS | (simp only [if_pos h1, if_neg h2] at hP hD; exact K9 H locs hP hD hS) | (simp only [if_pos h1, if_neg h2] at hP hD ⊢; exact K9 H locs hP hD hS)
      refine lv_if_ne (pc := 51) (tgt := 58) hx hb dzE_follow_51 (by decide) (fun h3 => ?_) (fun h3 => ?_)
      ·
        refine lv_aload_n (pc := 58) hx hb dzE_follow_58 rfl (lv_at hl 0 rfl) ?_
        refine xk_get (pc := 59) hx hb hts hown hK hP ffzE_9 0 rfl rfl dzE_follow_59 ?_
        refine lv_iconst (v := 1) (pc := 62) hx hb dzE_follow_62 (by decide) ?_
        refine lv_isub (pc := 63) hx hb dzE_follow_63 ?_
        refine lv_iconst (v := 0) (pc := 64) hx hb dzE_follow_64 (by decide) ?_
        refine va_mmax (pc := 65) hx hb (by rw [hml]; exact hl.1.symm) hown (hts _ xk_m228) (hts _ xk_m229) (hts _ xk_m60) (hts _ xk_m230) (Nat.le_of_ble_eq_true rfl) (Nat.le_of_ble_eq_true rfl) (Nat.zero_le _) (Nat.zero_le _) dzE_follow_65 ?_
        have K9 := K1
        try simp only [if_neg h3] at K9
        first | exact K9 | (simp only [if_neg h3]; exact K9)
      ·
        refine lv_iconst (v := (-1)) (pc := 54) hx hb dzE_follow_54 (by decide) ?_
        refine lv_goto (tgt := 68) (pc := 55) hx hb dzE_follow_55 (by decide) ?_
        have K9 := K1
        try simp only [if_pos h3] at K9
        first | exact K9 | (simp only [if_pos h3]; exact K9)
  ·
    refine lv_aload_n (pc := 7) hx hb dzE_follow_7 rfl (lv_at hl 0 rfl) ?_
    refine xk_get (pc := 8) hx hb hts hown hK hP ffzE_19 0 rfl rfl dzE_follow_8 ?_
    refine xk_get (pc := 11) hx hb hts hown hK hP ffzE_23 1 rfl rfl dzE_follow_11 ?_
    refine lv_if_ne (pc := 14) (tgt := 35) hx hb dzE_follow_14 (by decide) (fun h4 => ?_) (fun h4 => ?_)
    ·
      refine lv_aload_n (pc := 35) hx hb dzE_follow_35 rfl (lv_at hl 0 rfl) ?_
      refine xk_get (pc := 36) hx hb hts hown hK hP ffzE_9 0 rfl rfl dzE_follow_36 ?_
      refine lv_iconst (v := (-1)) (pc := 39) hx hb dzE_follow_39 (by decide) ?_
      refine lv_icmp_eq (pc := 40) (tgt := 71) hx hb dzE_follow_40 (by decide) (fun h5 => ?_) (fun h5 => ?_)
      ·
        have K9 := K4
        try simp only [if_neg h1, if_neg h4, if_pos h5] at K9
        first | exact K9 H locs hP hD hS | (simp only [if_neg h1, if_neg h4, if_pos h5] at hP hD; exact K9 H locs hP hD hS) | (simp only [if_neg h1, if_neg h4, if_pos h5] at hP hD ⊢; exact K9 H locs hP hD hS)
      ·
        refine lv_aload_n (pc := 43) hx hb dzE_follow_43 rfl (lv_at hl 0 rfl) ?_
        refine lv_aload_n (pc := 44) hx hb dzE_follow_44 rfl (lv_at hl 0 rfl) ?_
        refine xk_get (pc := 45) hx hb hts hown hK hP ffzE_19 0 rfl rfl dzE_follow_45 ?_
        refine xk_get (pc := 48) hx hb hts hown hK hP ffzE_28 1 rfl rfl dzE_follow_48 ?_
        have K2 : W p l e xk_r1 s m args below meth c H locs 0 0 Q (F0 m 68 ls [.int (if b1 = 0 then (-1) else (if a1 - 1 < 0 then 0 else a1 - 1 : Int32) : Int32), .ref oa]) := by
          refine xk_putf (pc := 68) hx hb hts hown hK hP hD hS pfzE_9 0 rfl rfl rfl (Nat.le_of_ble_eq_true rfl) dzE_follow_68 (fun H locs hP hD hS => ?_)
          have hP : va_P G xk_cls [(oa, .inr (2, [.ref ob, .int (if b1 = 0 then (-1) else (if a1 - 1 < 0 then 0 else a1 - 1 : Int32) : Int32), .int a2])), (ob, .inr (1, [.int b0, .int b1, .int b2, .int b3, .int b4, .int b5, .int b6, .int b7, .int b8]))] H := hP
          have hD : va_D A [(oa, .inr (2, [.ref ob, .int (if b1 = 0 then (-1) else (if a1 - 1 < 0 then 0 else a1 - 1 : Int32) : Int32), .int a2])), (ob, .inr (1, [.int b0, .int b1, .int b2, .int b3, .int b4, .int b5, .int b6, .int b7, .int b8]))] := hD
          have K9 := K4
          try simp only [if_neg h1, if_neg h4, if_neg h5] at K9
          first | exact K9 H locs hP hD hS | (simp only [if_neg h1, if_neg h4, if_neg h5] at hP hD; exact K9 H locs hP hD hS) | (simp only [if_neg h1, if_neg h4, if_neg h5] at hP hD ⊢; exact K9 H locs hP hD hS)
        refine lv_if_ne (pc := 51) (tgt := 58) hx hb dzE_follow_51 (by decide) (fun h6 => ?_) (fun h6 => ?_)
        ·
          refine lv_aload_n (pc := 58) hx hb dzE_follow_58 rfl (lv_at hl 0 rfl) ?_
          refine xk_get (pc := 59) hx hb hts hown hK hP ffzE_9 0 rfl rfl dzE_follow_59 ?_
          refine lv_iconst (v := 1) (pc := 62) hx hb dzE_follow_62 (by decide) ?_
          refine lv_isub (pc := 63) hx hb dzE_follow_63 ?_
          refine lv_iconst (v := 0) (pc := 64) hx hb dzE_follow_64 (by decide) ?_
          refine va_mmax (pc := 65) hx hb (by rw [hml]; exact hl.1.symm) hown (hts _ xk_m228) (hts _ xk_m229) (hts _ xk_m60) (hts _ xk_m230) (Nat.le_of_ble_eq_true rfl) (Nat.le_of_ble_eq_true rfl) (Nat.zero_le _) (Nat.zero_le _) dzE_follow_65 ?_
          have K9 := K2
          try simp only [if_neg h6] at K9
          first | exact K9 | (simp only [if_neg h6]; exact K9)
        ·
          refine lv_iconst (v := (-1)) (pc := 54) hx hb dzE_follow_54 (by decide) ?_
          refine lv_goto (tgt := 68) (pc := 55) hx hb dzE_follow_55 (by decide) ?_
          have K9 := K2
          try simp only [if_pos h6] at K9
          first | exact K9 | (simp only [if_pos h6]; exact K9)
    ·
      refine lv_aload_n (pc := 17) hx hb dzE_follow_17 rfl (lv_at hl 0 rfl) ?_
      refine xk_get (pc := 18) hx hb hts hown hK hP ffzE_9 0 rfl rfl dzE_follow_18 ?_
      refine lv_iconst (v := (-1)) (pc := 21) hx hb dzE_follow_21 (by decide) ?_
      refine lv_icmp_ne (pc := 22) (tgt := 35) hx hb dzE_follow_22 (by decide) (fun h7 => ?_) (fun h7 => ?_)
      ·
        refine lv_aload_n (pc := 35) hx hb dzE_follow_35 rfl (lv_at hl 0 rfl) ?_
        refine xk_get (pc := 36) hx hb hts hown hK hP ffzE_9 0 rfl rfl dzE_follow_36 ?_
        refine lv_iconst (v := (-1)) (pc := 39) hx hb dzE_follow_39 (by decide) ?_
        refine lv_icmp_eq (pc := 40) (tgt := 71) hx hb dzE_follow_40 (by decide) (fun hq9 => absurd hq9 h7) (fun _ => ?_)
        refine lv_aload_n (pc := 43) hx hb dzE_follow_43 rfl (lv_at hl 0 rfl) ?_
        refine lv_aload_n (pc := 44) hx hb dzE_follow_44 rfl (lv_at hl 0 rfl) ?_
        refine xk_get (pc := 45) hx hb hts hown hK hP ffzE_19 0 rfl rfl dzE_follow_45 ?_
        refine xk_get (pc := 48) hx hb hts hown hK hP ffzE_28 1 rfl rfl dzE_follow_48 ?_
        have K3 : W p l e xk_r1 s m args below meth c H locs 0 0 Q (F0 m 68 ls [.int (if b1 = 0 then (-1) else (if a1 - 1 < 0 then 0 else a1 - 1 : Int32) : Int32), .ref oa]) := by
          refine xk_putf (pc := 68) hx hb hts hown hK hP hD hS pfzE_9 0 rfl rfl rfl (Nat.le_of_ble_eq_true rfl) dzE_follow_68 (fun H locs hP hD hS => ?_)
          have hP : va_P G xk_cls [(oa, .inr (2, [.ref ob, .int (if b1 = 0 then (-1) else (if a1 - 1 < 0 then 0 else a1 - 1 : Int32) : Int32), .int a2])), (ob, .inr (1, [.int b0, .int b1, .int b2, .int b3, .int b4, .int b5, .int b6, .int b7, .int b8]))] H := hP
          have hD : va_D A [(oa, .inr (2, [.ref ob, .int (if b1 = 0 then (-1) else (if a1 - 1 < 0 then 0 else a1 - 1 : Int32) : Int32), .int a2])), (ob, .inr (1, [.int b0, .int b1, .int b2, .int b3, .int b4, .int b5, .int b6, .int b7, .int b8]))] := hD
          have K9 := K4
          try simp only [if_neg h1, if_pos h4, if_neg h7] at K9
          first | exact K9 H locs hP hD hS | (simp only [if_neg h1, if_pos h4, if_neg h7] at hP hD; exact K9 H locs hP hD hS) | (simp only [if_neg h1, if_pos h4, if_neg h7] at hP hD ⊢; exact K9 H locs hP hD hS)
        refine lv_if_ne (pc := 51) (tgt := 58) hx hb dzE_follow_51 (by decide) (fun h8 => ?_) (fun h8 => ?_)
        ·
          refine lv_aload_n (pc := 58) hx hb dzE_follow_58 rfl (lv_at hl 0 rfl) ?_
          refine xk_get (pc := 59) hx hb hts hown hK hP ffzE_9 0 rfl rfl dzE_follow_59 ?_
          refine lv_iconst (v := 1) (pc := 62) hx hb dzE_follow_62 (by decide) ?_
          refine lv_isub (pc := 63) hx hb dzE_follow_63 ?_
          refine lv_iconst (v := 0) (pc := 64) hx hb dzE_follow_64 (by decide) ?_
          refine va_mmax (pc := 65) hx hb (by rw [hml]; exact hl.1.symm) hown (hts _ xk_m228) (hts _ xk_m229) (hts _ xk_m60) (hts _ xk_m230) (Nat.le_of_ble_eq_true rfl) (Nat.le_of_ble_eq_true rfl) (Nat.zero_le _) (Nat.zero_le _) dzE_follow_65 ?_
          have K9 := K3
          try simp only [if_neg h8] at K9
          first | exact K9 | (simp only [if_neg h8]; exact K9)
        ·
          refine lv_iconst (v := (-1)) (pc := 54) hx hb dzE_follow_54 (by decide) ?_
          refine lv_goto (tgt := 68) (pc := 55) hx hb dzE_follow_55 (by decide) ?_
          have K9 := K3
          try simp only [if_pos h8] at K9
          first | exact K9 | (simp only [if_pos h8]; exact K9)
      ·
        refine lv_aload_n (pc := 25) hx hb dzE_follow_25 rfl (lv_at hl 0 rfl) ?_
        refine lv_sipush (v := 214) (pc := 26) hx hb dzE_follow_26 (by decide) ?_
        refine xk_putf (pc := 29) hx hb hts hown hK hP hD hS pfzE_9 0 rfl rfl rfl (Nat.le_of_ble_eq_true rfl) dzE_follow_29 (fun H locs hP hD hS => ?_)
        have hP : va_P G xk_cls [(oa, .inr (2, [.ref ob, .int 214, .int a2])), (ob, .inr (1, [.int b0, .int b1, .int b2, .int b3, .int b4, .int b5, .int b6, .int b7, .int b8]))] H := hP
        have hD : va_D A [(oa, .inr (2, [.ref ob, .int 214, .int a2])), (ob, .inr (1, [.int b0, .int b1, .int b2, .int b3, .int b4, .int b5, .int b6, .int b7, .int b8]))] := hD
        refine lv_goto (tgt := 71) (pc := 32) hx hb dzE_follow_32 (by decide) ?_
        have K9 := K4
        try simp only [if_neg h1, if_pos h4, if_pos h7] at K9
        first | exact K9 H locs hP hD hS | (simp only [if_neg h1, if_pos h4, if_pos h7] at hP hD; exact K9 H locs hP hD hS) | (simp only [if_neg h1, if_pos h4, if_pos h7] at hP hD ⊢; exact K9 H locs hP hD hS)
def qzK_takePulse_0 (fb : Nat → Int32) : Int32 := fb 0
def qzK_takePulse_0_b (fb : Nat → Int32) : Nat → Int32 := upd fb 0 0
set_option maxHeartbeats 4000000 in
set_option maxRecDepth 100000 in
theorem kzK_takePulse_0 (l : Launch) (G : va_G) (ac : Nat → ClassId) (oa : Nat) (ob : Nat) (za0 : Nat) (za1 : Nat) (za3 : Nat) (a4 : Int32) (a5 : Int32) (fb : Nat → Int32) : xk_CI l yzK_takePulse czK_takePulse 3 .int xk_WS xk_r0 G xk_cls (xk_tys ac) [.ref oa, .int 0] [(oa, .inr (3, [.ref za0, .ref za1, .ref ob, .ref za3, .int a4, .int a5])), (ob, .inl (ac 0, 4, .inl fb))] (fun r (_ : Unit) => r = qzK_takePulse_0 fb) (fun _ => [(oa, .inr (3, [.ref za0, .ref za1, .ref ob, .ref za3, .int a4, .int a5])), (ob, .inl (ac 0, 4, .inl (qzK_takePulse_0_b fb)))]) := by
  refine xk_ofI (by decide) (Nat.le_of_ble_eq_true rfl) ?_
  intro p e s m args below meth c A Q H locs ls C0 hret hP hD hS hl
  obtain ⟨hx, hb, hml, hts, hown, hK, hA⟩ := C0
  have hl : lv_has ls 3 [(0, .ref oa), (1, .int 0)] := hl
  refine lv_aload_n (pc := 0) hx hb dzK_takePulse_0 rfl (lv_at hl 0 rfl) ?_
  refine xk_get (pc := 1) hx hb hts hown hK hP ffzK_23 0 rfl rfl dzK_takePulse_1 ?_
  refine lv_iload_n (pc := 4) hx hb dzK_takePulse_4 rfl (lv_at hl 1 rfl) ?_
  refine xk_iald (q0 := 1) (t0 := 0) (j := 0) (pc := 5) hx hb hK hP rfl rfl (pk_in 0 4 (by decide)) (pk_cl 0) dzK_takePulse_5 ?_
  refine lv_istore_n (lv' := [(2, .int (fb 0)), (0, .ref oa), (1, .int 0)]) (pc := 6) hx hb dzK_takePulse_6 rfl hl (by decide) rfl (fun ls hl => ?_)
  refine lv_aload_n (pc := 7) hx hb dzK_takePulse_7 rfl (lv_at hl 1 rfl) ?_
  refine xk_get (pc := 8) hx hb hts hown hK hP ffzK_23 0 rfl rfl dzK_takePulse_8 ?_
  refine lv_iload_n (pc := 11) hx hb dzK_takePulse_11 rfl (lv_at hl 2 rfl) ?_
  refine lv_iconst (v := 0) (pc := 12) hx hb dzK_takePulse_12 (by decide) ?_
  refine xk_iast (q0 := 1) (t0 := 0) (j := 0) (pc := 13) hx hb hK hP hD hS rfl rfl (pk_in 0 4 (by decide)) (pk_cl 0) dzK_takePulse_13 (fun H locs hP hD hS => ?_)
  have hP : va_P G xk_cls [(oa, .inr (3, [.ref za0, .ref za1, .ref ob, .ref za3, .int a4, .int a5])), (ob, .inl (ac 0, 4, .inl (upd fb 0 0)))] H := hP
  have hD : va_D A [(oa, .inr (3, [.ref za0, .ref za1, .ref ob, .ref za3, .int a4, .int a5])), (ob, .inl (ac 0, 4, .inl (upd fb 0 0)))] := hD
  refine lv_iload_n (pc := 14) hx hb dzK_takePulse_14 rfl (lv_at hl 0 rfl) ?_
  have j0 : qzK_takePulse_0_b fb = upd fb 0 0 := by unfold qzK_takePulse_0_b; rfl
  have jr : qzK_takePulse_0 fb = fb 0 := by unfold qzK_takePulse_0; rfl
  have hP : va_P G xk_cls [(oa, .inr (3, [.ref za0, .ref za1, .ref ob, .ref za3, .int a4, .int a5])), (ob, .inl (ac 0, 4, .inl (qzK_takePulse_0_b fb)))] H := by rw [j0]; exact hP
  exact hret _ () H locs 15 ls hP hS rfl jr.symm dzK_takePulse_15
def qzK_takePulse_1 (fb : Nat → Int32) : Int32 := fb 1
def qzK_takePulse_1_b (fb : Nat → Int32) : Nat → Int32 := upd fb 1 0
set_option maxHeartbeats 4000000 in
set_option maxRecDepth 100000 in
theorem kzK_takePulse_1 (l : Launch) (G : va_G) (ac : Nat → ClassId) (oa : Nat) (ob : Nat) (za0 : Nat) (za1 : Nat) (za3 : Nat) (a4 : Int32) (a5 : Int32) (fb : Nat → Int32) : xk_CI l yzK_takePulse czK_takePulse 3 .int xk_WS xk_r0 G xk_cls (xk_tys ac) [.ref oa, .int 1] [(oa, .inr (3, [.ref za0, .ref za1, .ref ob, .ref za3, .int a4, .int a5])), (ob, .inl (ac 0, 4, .inl fb))] (fun r (_ : Unit) => r = qzK_takePulse_1 fb) (fun _ => [(oa, .inr (3, [.ref za0, .ref za1, .ref ob, .ref za3, .int a4, .int a5])), (ob, .inl (ac 0, 4, .inl (qzK_takePulse_1_b fb)))]) := by
  refine xk_ofI (by decide) (Nat.le_of_ble_eq_true rfl) ?_
  intro p e s m args below meth c A Q H locs ls C0 hret hP hD hS hl
  obtain ⟨hx, hb, hml, hts, hown, hK, hA⟩ := C0
  have hl : lv_has ls 3 [(0, .ref oa), (1, .int 1)] := hl
  refine lv_aload_n (pc := 0) hx hb dzK_takePulse_0 rfl (lv_at hl 0 rfl) ?_
  refine xk_get (pc := 1) hx hb hts hown hK hP ffzK_23 0 rfl rfl dzK_takePulse_1 ?_
  refine lv_iload_n (pc := 4) hx hb dzK_takePulse_4 rfl (lv_at hl 1 rfl) ?_
  refine xk_iald (q0 := 1) (t0 := 0) (j := 1) (pc := 5) hx hb hK hP rfl rfl (pk_in 1 4 (by decide)) (pk_cl 1) dzK_takePulse_5 ?_
  refine lv_istore_n (lv' := [(2, .int (fb 1)), (0, .ref oa), (1, .int 1)]) (pc := 6) hx hb dzK_takePulse_6 rfl hl (by decide) rfl (fun ls hl => ?_)
  refine lv_aload_n (pc := 7) hx hb dzK_takePulse_7 rfl (lv_at hl 1 rfl) ?_
  refine xk_get (pc := 8) hx hb hts hown hK hP ffzK_23 0 rfl rfl dzK_takePulse_8 ?_
  refine lv_iload_n (pc := 11) hx hb dzK_takePulse_11 rfl (lv_at hl 2 rfl) ?_
  refine lv_iconst (v := 0) (pc := 12) hx hb dzK_takePulse_12 (by decide) ?_
  refine xk_iast (q0 := 1) (t0 := 0) (j := 1) (pc := 13) hx hb hK hP hD hS rfl rfl (pk_in 1 4 (by decide)) (pk_cl 1) dzK_takePulse_13 (fun H locs hP hD hS => ?_)
  have hP : va_P G xk_cls [(oa, .inr (3, [.ref za0, .ref za1, .ref ob, .ref za3, .int a4, .int a5])), (ob, .inl (ac 0, 4, .inl (upd fb 1 0)))] H := hP
  have hD : va_D A [(oa, .inr (3, [.ref za0, .ref za1, .ref ob, .ref za3, .int a4, .int a5])), (ob, .inl (ac 0, 4, .inl (upd fb 1 0)))] := hD
  refine lv_iload_n (pc := 14) hx hb dzK_takePulse_14 rfl (lv_at hl 0 rfl) ?_
  have j0 : qzK_takePulse_1_b fb = upd fb 1 0 := by unfold qzK_takePulse_1_b; rfl
  have jr : qzK_takePulse_1 fb = fb 1 := by unfold qzK_takePulse_1; rfl
  have hP : va_P G xk_cls [(oa, .inr (3, [.ref za0, .ref za1, .ref ob, .ref za3, .int a4, .int a5])), (ob, .inl (ac 0, 4, .inl (qzK_takePulse_1_b fb)))] H := by rw [j0]; exact hP
  exact hret _ () H locs 15 ls hP hS rfl jr.symm dzK_takePulse_15
def qzK_takePulse_2 (fb : Nat → Int32) : Int32 := fb 2
def qzK_takePulse_2_b (fb : Nat → Int32) : Nat → Int32 := upd fb 2 0
set_option maxHeartbeats 4000000 in
set_option maxRecDepth 100000 in
theorem kzK_takePulse_2 (l : Launch) (G : va_G) (ac : Nat → ClassId) (oa : Nat) (ob : Nat) (za0 : Nat) (za1 : Nat) (za3 : Nat) (a4 : Int32) (a5 : Int32) (fb : Nat → Int32) : xk_CI l yzK_takePulse czK_takePulse 3 .int xk_WS xk_r0 G xk_cls (xk_tys ac) [.ref oa, .int 2] [(oa, .inr (3, [.ref za0, .ref za1, .ref ob, .ref za3, .int a4, .int a5])), (ob, .inl (ac 0, 4, .inl fb))] (fun r (_ : Unit) => r = qzK_takePulse_2 fb) (fun _ => [(oa, .inr (3, [.ref za0, .ref za1, .ref ob, .ref za3, .int a4, .int a5])), (ob, .inl (ac 0, 4, .inl (qzK_takePulse_2_b fb)))]) := by
  refine xk_ofI (by decide) (Nat.le_of_ble_eq_true rfl) ?_
  intro p e s m args below meth c A Q H locs ls C0 hret hP hD hS hl
  obtain ⟨hx, hb, hml, hts, hown, hK, hA⟩ := C0
  have hl : lv_has ls 3 [(0, .ref oa), (1, .int 2)] := hl
  refine lv_aload_n (pc := 0) hx hb dzK_takePulse_0 rfl (lv_at hl 0 rfl) ?_
  refine xk_get (pc := 1) hx hb hts hown hK hP ffzK_23 0 rfl rfl dzK_takePulse_1 ?_
  refine lv_iload_n (pc := 4) hx hb dzK_takePulse_4 rfl (lv_at hl 1 rfl) ?_
  refine xk_iald (q0 := 1) (t0 := 0) (j := 2) (pc := 5) hx hb hK hP rfl rfl (pk_in 2 4 (by decide)) (pk_cl 2) dzK_takePulse_5 ?_
  refine lv_istore_n (lv' := [(2, .int (fb 2)), (0, .ref oa), (1, .int 2)]) (pc := 6) hx hb dzK_takePulse_6 rfl hl (by decide) rfl (fun ls hl => ?_)
  refine lv_aload_n (pc := 7) hx hb dzK_takePulse_7 rfl (lv_at hl 1 rfl) ?_
  refine xk_get (pc := 8) hx hb hts hown hK hP ffzK_23 0 rfl rfl dzK_takePulse_8 ?_
  refine lv_iload_n (pc := 11) hx hb dzK_takePulse_11 rfl (lv_at hl 2 rfl) ?_
  refine lv_iconst (v := 0) (pc := 12) hx hb dzK_takePulse_12 (by decide) ?_
  refine xk_iast (q0 := 1) (t0 := 0) (j := 2) (pc := 13) hx hb hK hP hD hS rfl rfl (pk_in 2 4 (by decide)) (pk_cl 2) dzK_takePulse_13 (fun H locs hP hD hS => ?_)
  have hP : va_P G xk_cls [(oa, .inr (3, [.ref za0, .ref za1, .ref ob, .ref za3, .int a4, .int a5])), (ob, .inl (ac 0, 4, .inl (upd fb 2 0)))] H := hP
  have hD : va_D A [(oa, .inr (3, [.ref za0, .ref za1, .ref ob, .ref za3, .int a4, .int a5])), (ob, .inl (ac 0, 4, .inl (upd fb 2 0)))] := hD
  refine lv_iload_n (pc := 14) hx hb dzK_takePulse_14 rfl (lv_at hl 0 rfl) ?_
  have j0 : qzK_takePulse_2_b fb = upd fb 2 0 := by unfold qzK_takePulse_2_b; rfl
  have jr : qzK_takePulse_2 fb = fb 2 := by unfold qzK_takePulse_2; rfl
  have hP : va_P G xk_cls [(oa, .inr (3, [.ref za0, .ref za1, .ref ob, .ref za3, .int a4, .int a5])), (ob, .inl (ac 0, 4, .inl (qzK_takePulse_2_b fb)))] H := by rw [j0]; exact hP
  exact hret _ () H locs 15 ls hP hS rfl jr.symm dzK_takePulse_15
def qzK_takePulse_3 (fb : Nat → Int32) : Int32 := fb 3
def qzK_takePulse_3_b (fb : Nat → Int32) : Nat → Int32 := upd fb 3 0
set_option maxHeartbeats 4000000 in
set_option maxRecDepth 100000 in
theorem kzK_takePulse_3 (l : Launch) (G : va_G) (ac : Nat → ClassId) (oa : Nat) (ob : Nat) (za0 : Nat) (za1 : Nat) (za3 : Nat) (a4 : Int32) (a5 : Int32) (fb : Nat → Int32) : xk_CI l yzK_takePulse czK_takePulse 3 .int xk_WS xk_r0 G xk_cls (xk_tys ac) [.ref oa, .int 3] [(oa, .inr (3, [.ref za0, .ref za1, .ref ob, .ref za3, .int a4, .int a5])), (ob, .inl (ac 0, 4, .inl fb))] (fun r (_ : Unit) => r = qzK_takePulse_3 fb) (fun _ => [(oa, .inr (3, [.ref za0, .ref za1, .ref ob, .ref za3, .int a4, .int a5])), (ob, .inl (ac 0, 4, .inl (qzK_takePulse_3_b fb)))]) := by
  refine xk_ofI (by decide) (Nat.le_of_ble_eq_true rfl) ?_
  intro p e s m args below meth c A Q H locs ls C0 hret hP hD hS hl
  obtain ⟨hx, hb, hml, hts, hown, hK, hA⟩ := C0
  have hl : lv_has ls 3 [(0, .ref oa), (1, .int 3)] := hl
  refine lv_aload_n (pc := 0) hx hb dzK_takePulse_0 rfl (lv_at hl 0 rfl) ?_
  refine xk_get (pc := 1) hx hb hts hown hK hP ffzK_23 0 rfl rfl dzK_takePulse_1 ?_
  refine lv_iload_n (pc := 4) hx hb dzK_takePulse_4 rfl (lv_at hl 1 rfl) ?_
  refine xk_iald (q0 := 1) (t0 := 0) (j := 3) (pc := 5) hx hb hK hP rfl rfl (pk_in 3 4 (by decide)) (pk_cl 3) dzK_takePulse_5 ?_
  refine lv_istore_n (lv' := [(2, .int (fb 3)), (0, .ref oa), (1, .int 3)]) (pc := 6) hx hb dzK_takePulse_6 rfl hl (by decide) rfl (fun ls hl => ?_)
  refine lv_aload_n (pc := 7) hx hb dzK_takePulse_7 rfl (lv_at hl 1 rfl) ?_
  refine xk_get (pc := 8) hx hb hts hown hK hP ffzK_23 0 rfl rfl dzK_takePulse_8 ?_
  refine lv_iload_n (pc := 11) hx hb dzK_takePulse_11 rfl (lv_at hl 2 rfl) ?_
  refine lv_iconst (v := 0) (pc := 12) hx hb dzK_takePulse_12 (by decide) ?_
  refine xk_iast (q0 := 1) (t0 := 0) (j := 3) (pc := 13) hx hb hK hP hD hS rfl rfl (pk_in 3 4 (by decide)) (pk_cl 3) dzK_takePulse_13 (fun H locs hP hD hS => ?_)
  have hP : va_P G xk_cls [(oa, .inr (3, [.ref za0, .ref za1, .ref ob, .ref za3, .int a4, .int a5])), (ob, .inl (ac 0, 4, .inl (upd fb 3 0)))] H := hP
  have hD : va_D A [(oa, .inr (3, [.ref za0, .ref za1, .ref ob, .ref za3, .int a4, .int a5])), (ob, .inl (ac 0, 4, .inl (upd fb 3 0)))] := hD
  refine lv_iload_n (pc := 14) hx hb dzK_takePulse_14 rfl (lv_at hl 0 rfl) ?_
  have j0 : qzK_takePulse_3_b fb = upd fb 3 0 := by unfold qzK_takePulse_3_b; rfl
  have jr : qzK_takePulse_3 fb = fb 3 := by unfold qzK_takePulse_3; rfl
  have hP : va_P G xk_cls [(oa, .inr (3, [.ref za0, .ref za1, .ref ob, .ref za3, .int a4, .int a5])), (ob, .inl (ac 0, 4, .inl (qzK_takePulse_3_b fb)))] H := by rw [j0]; exact hP
  exact hret _ () H locs 15 ls hP hS rfl jr.symm dzK_takePulse_15
def qzK_isDisturbed (c3 : Int32) (d3 : Int32) (e3 : Int32) : Int32 := (if c3 = 0 then (if d3 = 0 then (if e3 = 0 then 0 else 1 : Int32) else 1 : Int32) else 1 : Int32)
theorem bzK_isDisturbed (c3 : Int32) (d3 : Int32) (e3 : Int32) : xk_b (qzK_isDisturbed c3 d3 e3) := by
  unfold qzK_isDisturbed
  repeat' (first | with_reducible exact xk_b0 | with_reducible exact xk_b1 | with_reducible assumption | apply xk_bi)
set_option maxHeartbeats 4000000 in
set_option maxRecDepth 100000 in
theorem kzK_isDisturbed (l : Launch) (G : va_G) (ac : Nat → ClassId) (oa : Nat) (ob : Nat) (za1 : Nat) (za2 : Nat) (za3 : Nat) (a4 : Int32) (a5 : Int32) (sb : Nat → Nat) (c0 : Int32) (c1 : Int32) (c2 : Int32) (c3 : Int32) (c4 : Int32) (c5 : Int32) (c6 : Int32) (c7 : Int32) (c8 : Int32) (d0 : Int32) (d1 : Int32) (d2 : Int32) (d3 : Int32) (d4 : Int32) (d5 : Int32) (d6 : Int32) (d7 : Int32) (d8 : Int32) (e0 : Int32) (e1 : Int32) (e2 : Int32) (e3 : Int32) (e4 : Int32) (e5 : Int32) (e6 : Int32) (e7 : Int32) (e8 : Int32) : xk_CI l yzK_isDisturbed czK_isDisturbed 2 .boolean xk_WS xk_r0 G xk_cls (xk_tys ac) [.ref oa] [(oa, .inr (3, [.ref ob, .ref za1, .ref za2, .ref za3, .int a4, .int a5])), (ob, .inl (ac 3, 3, .inr (.inr (.inr (.inr (fun j => some (sb j))))))), ((sb 0), .inr (1, [.int c0, .int c1, .int c2, .int c3, .int c4, .int c5, .int c6, .int c7, .int c8])), ((sb 1), .inr (1, [.int d0, .int d1, .int d2, .int d3, .int d4, .int d5, .int d6, .int d7, .int d8])), ((sb 2), .inr (1, [.int e0, .int e1, .int e2, .int e3, .int e4, .int e5, .int e6, .int e7, .int e8]))] (fun r (_ : Unit) => r = qzK_isDisturbed c3 d3 e3) (fun _ => [(oa, .inr (3, [.ref ob, .ref za1, .ref za2, .ref za3, .int a4, .int a5])), (ob, .inl (ac 3, 3, .inr (.inr (.inr (.inr (fun j => some (sb j))))))), ((sb 0), .inr (1, [.int c0, .int c1, .int c2, .int c3, .int c4, .int c5, .int c6, .int c7, .int c8])), ((sb 1), .inr (1, [.int d0, .int d1, .int d2, .int d3, .int d4, .int d5, .int d6, .int d7, .int d8])), ((sb 2), .inr (1, [.int e0, .int e1, .int e2, .int e3, .int e4, .int e5, .int e6, .int e7, .int e8]))]) := by
  refine xk_ofI (by decide) (Nat.le_of_ble_eq_true rfl) ?_
  intro p e s m args below meth c A Q H locs ls C0 hret hP hD hS hl
  obtain ⟨hx, hb, hml, hts, hown, hK, hA⟩ := C0
  have hl : lv_has ls 2 [(0, .ref oa)] := hl
  refine lv_iconst (v := 0) (pc := 0) hx hb dzK_isDisturbed_0 (by decide) ?_
  refine lv_istore_n (lv' := [(1, .int 0), (0, .ref oa)]) (pc := 1) hx hb dzK_isDisturbed_1 rfl hl (by decide) rfl (fun ls hl => ?_)
  refine lv_iload_n (pc := 2) hx hb dzK_isDisturbed_2 rfl (lv_at hl 0 rfl) ?_
  refine lv_iconst (v := 3) (pc := 3) hx hb dzK_isDisturbed_3 (by decide) ?_
  refine lv_icmp_ge (pc := 4) (tgt := 27) hx hb dzK_isDisturbed_4 (by decide) (fun hq9 => absurd hq9 (by decide)) (fun _ => ?_)
  refine lv_aload_n (pc := 7) hx hb dzK_isDisturbed_7 rfl (lv_at hl 1 rfl) ?_
  refine xk_get (pc := 8) hx hb hts hown hK hP ffzK_11 0 rfl rfl dzK_isDisturbed_8 ?_
  refine lv_iload_n (pc := 11) hx hb dzK_isDisturbed_11 rfl (lv_at hl 0 rfl) ?_
  refine xk_aald (q0 := 1) (t0 := 3) (j := 0) (b := (sb 0)) (pc := 12) hx hb hK hP rfl rfl (pk_in 0 3 (by decide)) (pk_cl 0) rfl dzK_isDisturbed_12 ?_
  refine xk_get (pc := 13) hx hb hts hown hK hP ffzK_44 2 rfl rfl dzK_isDisturbed_13 ?_
  refine lv_if_eq (pc := 16) (tgt := 21) hx hb dzK_isDisturbed_16 (by decide) (fun h1 => ?_) (fun h1 => ?_)
  ·
    refine lv_iinc (k := 0) (x := 0) (v := 1) (lv' := [(1, .int 1), (0, .ref oa)]) (pc := 21) hx hb dzK_isDisturbed_21 hl rfl (by decide) (by decide) rfl (fun ls hl => ?_)
    refine lv_goto (tgt := 2) (pc := 24) hx hb dzK_isDisturbed_24 (by decide) ?_
    refine lv_iload_n (pc := 2) hx hb dzK_isDisturbed_2 rfl (lv_at hl 0 rfl) ?_
    refine lv_iconst (v := 3) (pc := 3) hx hb dzK_isDisturbed_3 (by decide) ?_
    refine lv_icmp_ge (pc := 4) (tgt := 27) hx hb dzK_isDisturbed_4 (by decide) (fun hq9 => absurd hq9 (by decide)) (fun _ => ?_)
    refine lv_aload_n (pc := 7) hx hb dzK_isDisturbed_7 rfl (lv_at hl 1 rfl) ?_
    refine xk_get (pc := 8) hx hb hts hown hK hP ffzK_11 0 rfl rfl dzK_isDisturbed_8 ?_
    refine lv_iload_n (pc := 11) hx hb dzK_isDisturbed_11 rfl (lv_at hl 0 rfl) ?_
    refine xk_aald (q0 := 1) (t0 := 3) (j := 1) (b := (sb 1)) (pc := 12) hx hb hK hP rfl rfl (pk_in 1 3 (by decide)) (pk_cl 1) rfl dzK_isDisturbed_12 ?_
    refine xk_get (pc := 13) hx hb hts hown hK hP ffzK_44 3 rfl rfl dzK_isDisturbed_13 ?_
    refine lv_if_eq (pc := 16) (tgt := 21) hx hb dzK_isDisturbed_16 (by decide) (fun h2 => ?_) (fun h2 => ?_)
    ·
      refine lv_iinc (k := 0) (x := 1) (v := 2) (lv' := [(1, .int 2), (0, .ref oa)]) (pc := 21) hx hb dzK_isDisturbed_21 hl rfl (by decide) (by decide) rfl (fun ls hl => ?_)
      refine lv_goto (tgt := 2) (pc := 24) hx hb dzK_isDisturbed_24 (by decide) ?_
      refine lv_iload_n (pc := 2) hx hb dzK_isDisturbed_2 rfl (lv_at hl 0 rfl) ?_
      refine lv_iconst (v := 3) (pc := 3) hx hb dzK_isDisturbed_3 (by decide) ?_
      refine lv_icmp_ge (pc := 4) (tgt := 27) hx hb dzK_isDisturbed_4 (by decide) (fun hq9 => absurd hq9 (by decide)) (fun _ => ?_)
      refine lv_aload_n (pc := 7) hx hb dzK_isDisturbed_7 rfl (lv_at hl 1 rfl) ?_
      refine xk_get (pc := 8) hx hb hts hown hK hP ffzK_11 0 rfl rfl dzK_isDisturbed_8 ?_
      refine lv_iload_n (pc := 11) hx hb dzK_isDisturbed_11 rfl (lv_at hl 0 rfl) ?_
      refine xk_aald (q0 := 1) (t0 := 3) (j := 2) (b := (sb 2)) (pc := 12) hx hb hK hP rfl rfl (pk_in 2 3 (by decide)) (pk_cl 2) rfl dzK_isDisturbed_12 ?_
      refine xk_get (pc := 13) hx hb hts hown hK hP ffzK_44 4 rfl rfl dzK_isDisturbed_13 ?_
      refine lv_if_eq (pc := 16) (tgt := 21) hx hb dzK_isDisturbed_16 (by decide) (fun h3 => ?_) (fun h3 => ?_)
      ·
        refine lv_iinc (k := 0) (x := 2) (v := 3) (lv' := [(1, .int 3), (0, .ref oa)]) (pc := 21) hx hb dzK_isDisturbed_21 hl rfl (by decide) (by decide) rfl (fun ls hl => ?_)
        refine lv_goto (tgt := 2) (pc := 24) hx hb dzK_isDisturbed_24 (by decide) ?_
        refine lv_iload_n (pc := 2) hx hb dzK_isDisturbed_2 rfl (lv_at hl 0 rfl) ?_
        refine lv_iconst (v := 3) (pc := 3) hx hb dzK_isDisturbed_3 (by decide) ?_
        refine lv_icmp_ge (pc := 4) (tgt := 27) hx hb dzK_isDisturbed_4 (by decide) (fun _ => ?_) (fun hq9 => absurd (by decide) hq9)
        refine lv_iconst (v := 0) (pc := 27) hx hb dzK_isDisturbed_27 (by decide) ?_
        have jr : qzK_isDisturbed c3 d3 e3 = 0 := by unfold qzK_isDisturbed; (first | rfl | simp only [if_pos h1, if_pos h2, if_pos h3])
        have hP : va_P G xk_cls [(oa, .inr (3, [.ref ob, .ref za1, .ref za2, .ref za3, .int a4, .int a5])), (ob, .inl (ac 3, 3, .inr (.inr (.inr (.inr (fun j => some (sb j))))))), ((sb 0), .inr (1, [.int c0, .int c1, .int c2, .int c3, .int c4, .int c5, .int c6, .int c7, .int c8])), ((sb 1), .inr (1, [.int d0, .int d1, .int d2, .int d3, .int d4, .int d5, .int d6, .int d7, .int d8])), ((sb 2), .inr (1, [.int e0, .int e1, .int e2, .int e3, .int e4, .int e5, .int e6, .int e7, .int e8]))] H := by exact hP
        exact hret _ () H locs 28 ls hP hS (xk_bn xk_b0) jr.symm dzK_isDisturbed_28
      ·
        refine lv_iconst (v := 1) (pc := 19) hx hb dzK_isDisturbed_19 (by decide) ?_
        have jr : qzK_isDisturbed c3 d3 e3 = 1 := by unfold qzK_isDisturbed; (first | rfl | simp only [if_pos h1, if_pos h2, if_neg h3])
        have hP : va_P G xk_cls [(oa, .inr (3, [.ref ob, .ref za1, .ref za2, .ref za3, .int a4, .int a5])), (ob, .inl (ac 3, 3, .inr (.inr (.inr (.inr (fun j => some (sb j))))))), ((sb 0), .inr (1, [.int c0, .int c1, .int c2, .int c3, .int c4, .int c5, .int c6, .int c7, .int c8])), ((sb 1), .inr (1, [.int d0, .int d1, .int d2, .int d3, .int d4, .int d5, .int d6, .int d7, .int d8])), ((sb 2), .inr (1, [.int e0, .int e1, .int e2, .int e3, .int e4, .int e5, .int e6, .int e7, .int e8]))] H := by exact hP
        exact hret _ () H locs 20 ls hP hS (xk_bn xk_b1) jr.symm dzK_isDisturbed_20
    ·
      refine lv_iconst (v := 1) (pc := 19) hx hb dzK_isDisturbed_19 (by decide) ?_
      have jr : qzK_isDisturbed c3 d3 e3 = 1 := by unfold qzK_isDisturbed; (first | rfl | simp only [if_pos h1, if_neg h2])
      have hP : va_P G xk_cls [(oa, .inr (3, [.ref ob, .ref za1, .ref za2, .ref za3, .int a4, .int a5])), (ob, .inl (ac 3, 3, .inr (.inr (.inr (.inr (fun j => some (sb j))))))), ((sb 0), .inr (1, [.int c0, .int c1, .int c2, .int c3, .int c4, .int c5, .int c6, .int c7, .int c8])), ((sb 1), .inr (1, [.int d0, .int d1, .int d2, .int d3, .int d4, .int d5, .int d6, .int d7, .int d8])), ((sb 2), .inr (1, [.int e0, .int e1, .int e2, .int e3, .int e4, .int e5, .int e6, .int e7, .int e8]))] H := by exact hP
      exact hret _ () H locs 20 ls hP hS (xk_bn xk_b1) jr.symm dzK_isDisturbed_20
  ·
    refine lv_iconst (v := 1) (pc := 19) hx hb dzK_isDisturbed_19 (by decide) ?_
    have jr : qzK_isDisturbed c3 d3 e3 = 1 := by unfold qzK_isDisturbed; (first | rfl | simp only [if_neg h1])
    have hP : va_P G xk_cls [(oa, .inr (3, [.ref ob, .ref za1, .ref za2, .ref za3, .int a4, .int a5])), (ob, .inl (ac 3, 3, .inr (.inr (.inr (.inr (fun j => some (sb j))))))), ((sb 0), .inr (1, [.int c0, .int c1, .int c2, .int c3, .int c4, .int c5, .int c6, .int c7, .int c8])), ((sb 1), .inr (1, [.int d0, .int d1, .int d2, .int d3, .int d4, .int d5, .int d6, .int d7, .int d8])), ((sb 2), .inr (1, [.int e0, .int e1, .int e2, .int e3, .int e4, .int e5, .int e6, .int e7, .int e8]))] H := by exact hP
    exact hret _ () H locs 20 ls hP hS (xk_bn xk_b1) jr.symm dzK_isDisturbed_20
def qzK_isFree (c1 : Int32) (c3 : Int32) (d1 : Int32) (d3 : Int32) (e1 : Int32) (e3 : Int32) : Int32 := (if (qzS_state c1 c3) = 0 then (if (qzS_state d1 d3) = 0 then (if (qzS_state e1 e3) = 0 then 1 else 0 : Int32) else 0 : Int32) else 0 : Int32)
theorem bzK_isFree (c1 : Int32) (c3 : Int32) (d1 : Int32) (d3 : Int32) (e1 : Int32) (e3 : Int32) : xk_b (qzK_isFree c1 c3 d1 d3 e1 e3) := by
  unfold qzK_isFree
  repeat' (first | with_reducible exact xk_b0 | with_reducible exact xk_b1 | with_reducible assumption | apply xk_bi)
set_option maxHeartbeats 4000000 in
set_option maxRecDepth 100000 in
theorem kzK_isFree (l : Launch) (G : va_G) (ac : Nat → ClassId) (oa : Nat) (ob : Nat) (za1 : Nat) (za2 : Nat) (za3 : Nat) (a4 : Int32) (a5 : Int32) (sb : Nat → Nat) (c0 : Int32) (c1 : Int32) (c2 : Int32) (c3 : Int32) (c4 : Int32) (c5 : Int32) (c6 : Int32) (c7 : Int32) (c8 : Int32) (d0 : Int32) (d1 : Int32) (d2 : Int32) (d3 : Int32) (d4 : Int32) (d5 : Int32) (d6 : Int32) (d7 : Int32) (d8 : Int32) (e0 : Int32) (e1 : Int32) (e2 : Int32) (e3 : Int32) (e4 : Int32) (e5 : Int32) (e6 : Int32) (e7 : Int32) (e8 : Int32) : xk_CI l yzK_isFree czK_isFree 2 .boolean xk_WS xk_r1 G xk_cls (xk_tys ac) [.ref oa] [(oa, .inr (3, [.ref ob, .ref za1, .ref za2, .ref za3, .int a4, .int a5])), (ob, .inl (ac 3, 3, .inr (.inr (.inr (.inr (fun j => some (sb j))))))), ((sb 0), .inr (1, [.int c0, .int c1, .int c2, .int c3, .int c4, .int c5, .int c6, .int c7, .int c8])), ((sb 1), .inr (1, [.int d0, .int d1, .int d2, .int d3, .int d4, .int d5, .int d6, .int d7, .int d8])), ((sb 2), .inr (1, [.int e0, .int e1, .int e2, .int e3, .int e4, .int e5, .int e6, .int e7, .int e8]))] (fun r (_ : Unit) => r = qzK_isFree c1 c3 d1 d3 e1 e3) (fun _ => [(oa, .inr (3, [.ref ob, .ref za1, .ref za2, .ref za3, .int a4, .int a5])), (ob, .inl (ac 3, 3, .inr (.inr (.inr (.inr (fun j => some (sb j))))))), ((sb 0), .inr (1, [.int c0, .int c1, .int c2, .int c3, .int c4, .int c5, .int c6, .int c7, .int c8])), ((sb 1), .inr (1, [.int d0, .int d1, .int d2, .int d3, .int d4, .int d5, .int d6, .int d7, .int d8])), ((sb 2), .inr (1, [.int e0, .int e1, .int e2, .int e3, .int e4, .int e5, .int e6, .int e7, .int e8]))]) := by
  refine xk_ofI (by decide) (Nat.le_of_ble_eq_true rfl) ?_
  intro p e s m args below meth c A Q H locs ls C0 hret hP hD hS hl
  obtain ⟨hx, hb, hml, hts, hown, hK, hA⟩ := C0
  have hl : lv_has ls 2 [(0, .ref oa)] := hl
  refine lv_iconst (v := 0) (pc := 0) hx hb dzK_isFree_0 (by decide) ?_
  refine lv_istore_n (lv' := [(1, .int 0), (0, .ref oa)]) (pc := 1) hx hb dzK_isFree_1 rfl hl (by decide) rfl (fun ls hl => ?_)
  refine lv_iload_n (pc := 2) hx hb dzK_isFree_2 rfl (lv_at hl 0 rfl) ?_
  refine lv_iconst (v := 3) (pc := 3) hx hb dzK_isFree_3 (by decide) ?_
  refine lv_icmp_ge (pc := 4) (tgt := 27) hx hb dzK_isFree_4 (by decide) (fun hq9 => absurd hq9 (by decide)) (fun _ => ?_)
  refine lv_aload_n (pc := 7) hx hb dzK_isFree_7 rfl (lv_at hl 1 rfl) ?_
  refine xk_get (pc := 8) hx hb hts hown hK hP ffzK_11 0 rfl rfl dzK_isFree_8 ?_
  refine lv_iload_n (pc := 11) hx hb dzK_isFree_11 rfl (lv_at hl 0 rfl) ?_
  refine xk_aald (q0 := 1) (t0 := 3) (j := 0) (b := (sb 0)) (pc := 12) hx hb hK hP rfl rfl (pk_in 0 3 (by decide)) (pk_cl 0) rfl dzK_isFree_12 ?_
  refine xk_callVI (As := []) (rest := []) (H0 := s.heap) (pc := 13) hx hb hml hts hown hK hA hP hD hS (kzS_state l G ac (sb 0) c0 c1 c2 c3 c4 c5 c6 c7 c8) vfzK_47 [2] (by decide) rfl (fun _ => rfl) 2 rfl rfl ⟨rfl, rfl⟩ ⟨Nat.le_of_ble_eq_true rfl, Nat.le_of_ble_eq_true rfl⟩ rfl hl.1 rfl (Nat.le_of_ble_eq_true rfl) ⟨Nat.zero_le _, Nat.zero_le _⟩ dzK_isFree_13 (fun r1 u9 H locs e9 hP hD hS => ?_)
  obtain rfl : r1 = qzS_state c1 c3 := e9
  have hP : va_P G xk_cls [(oa, .inr (3, [.ref ob, .ref za1, .ref za2, .ref za3, .int a4, .int a5])), (ob, .inl (ac 3, 3, .inr (.inr (.inr (.inr (fun j => some (sb j))))))), ((sb 0), .inr (1, [.int c0, .int c1, .int c2, .int c3, .int c4, .int c5, .int c6, .int c7, .int c8])), ((sb 1), .inr (1, [.int d0, .int d1, .int d2, .int d3, .int d4, .int d5, .int d6, .int d7, .int d8])), ((sb 2), .inr (1, [.int e0, .int e1, .int e2, .int e3, .int e4, .int e5, .int e6, .int e7, .int e8]))] H := hP
  have hD : va_D A [(oa, .inr (3, [.ref ob, .ref za1, .ref za2, .ref za3, .int a4, .int a5])), (ob, .inl (ac 3, 3, .inr (.inr (.inr (.inr (fun j => some (sb j))))))), ((sb 0), .inr (1, [.int c0, .int c1, .int c2, .int c3, .int c4, .int c5, .int c6, .int c7, .int c8])), ((sb 1), .inr (1, [.int d0, .int d1, .int d2, .int d3, .int d4, .int d5, .int d6, .int d7, .int d8])), ((sb 2), .inr (1, [.int e0, .int e1, .int e2, .int e3, .int e4, .int e5, .int e6, .int e7, .int e8]))] := hD
  refine lv_if_eq (pc := 16) (tgt := 21) hx hb dzK_isFree_16 (by decide) (fun h1 => ?_) (fun h1 => ?_)
  ·
    refine lv_iinc (k := 0) (x := 0) (v := 1) (lv' := [(1, .int 1), (0, .ref oa)]) (pc := 21) hx hb dzK_isFree_21 hl rfl (by decide) (by decide) rfl (fun ls hl => ?_)
    refine lv_goto (tgt := 2) (pc := 24) hx hb dzK_isFree_24 (by decide) ?_
    refine lv_iload_n (pc := 2) hx hb dzK_isFree_2 rfl (lv_at hl 0 rfl) ?_
    refine lv_iconst (v := 3) (pc := 3) hx hb dzK_isFree_3 (by decide) ?_
    refine lv_icmp_ge (pc := 4) (tgt := 27) hx hb dzK_isFree_4 (by decide) (fun hq9 => absurd hq9 (by decide)) (fun _ => ?_)
    refine lv_aload_n (pc := 7) hx hb dzK_isFree_7 rfl (lv_at hl 1 rfl) ?_
    refine xk_get (pc := 8) hx hb hts hown hK hP ffzK_11 0 rfl rfl dzK_isFree_8 ?_
    refine lv_iload_n (pc := 11) hx hb dzK_isFree_11 rfl (lv_at hl 0 rfl) ?_
    refine xk_aald (q0 := 1) (t0 := 3) (j := 1) (b := (sb 1)) (pc := 12) hx hb hK hP rfl rfl (pk_in 1 3 (by decide)) (pk_cl 1) rfl dzK_isFree_12 ?_
    refine xk_callVI (As := []) (rest := []) (H0 := s.heap) (pc := 13) hx hb hml hts hown hK hA hP hD hS (kzS_state l G ac (sb 1) d0 d1 d2 d3 d4 d5 d6 d7 d8) vfzK_47 [3] (by decide) rfl (fun _ => rfl) 3 rfl rfl ⟨rfl, rfl⟩ ⟨Nat.le_of_ble_eq_true rfl, Nat.le_of_ble_eq_true rfl⟩ rfl hl.1 rfl (Nat.le_of_ble_eq_true rfl) ⟨Nat.zero_le _, Nat.zero_le _⟩ dzK_isFree_13 (fun r2 u9 H locs e9 hP hD hS => ?_)
    obtain rfl : r2 = qzS_state d1 d3 := e9
    have hP : va_P G xk_cls [(oa, .inr (3, [.ref ob, .ref za1, .ref za2, .ref za3, .int a4, .int a5])), (ob, .inl (ac 3, 3, .inr (.inr (.inr (.inr (fun j => some (sb j))))))), ((sb 0), .inr (1, [.int c0, .int c1, .int c2, .int c3, .int c4, .int c5, .int c6, .int c7, .int c8])), ((sb 1), .inr (1, [.int d0, .int d1, .int d2, .int d3, .int d4, .int d5, .int d6, .int d7, .int d8])), ((sb 2), .inr (1, [.int e0, .int e1, .int e2, .int e3, .int e4, .int e5, .int e6, .int e7, .int e8]))] H := hP
    have hD : va_D A [(oa, .inr (3, [.ref ob, .ref za1, .ref za2, .ref za3, .int a4, .int a5])), (ob, .inl (ac 3, 3, .inr (.inr (.inr (.inr (fun j => some (sb j))))))), ((sb 0), .inr (1, [.int c0, .int c1, .int c2, .int c3, .int c4, .int c5, .int c6, .int c7, .int c8])), ((sb 1), .inr (1, [.int d0, .int d1, .int d2, .int d3, .int d4, .int d5, .int d6, .int d7, .int d8])), ((sb 2), .inr (1, [.int e0, .int e1, .int e2, .int e3, .int e4, .int e5, .int e6, .int e7, .int e8]))] := hD
    refine lv_if_eq (pc := 16) (tgt := 21) hx hb dzK_isFree_16 (by decide) (fun h2 => ?_) (fun h2 => ?_)
    ·
      refine lv_iinc (k := 0) (x := 1) (v := 2) (lv' := [(1, .int 2), (0, .ref oa)]) (pc := 21) hx hb dzK_isFree_21 hl rfl (by decide) (by decide) rfl (fun ls hl => ?_)
      refine lv_goto (tgt := 2) (pc := 24) hx hb dzK_isFree_24 (by decide) ?_
      refine lv_iload_n (pc := 2) hx hb dzK_isFree_2 rfl (lv_at hl 0 rfl) ?_
      refine lv_iconst (v := 3) (pc := 3) hx hb dzK_isFree_3 (by decide) ?_
      refine lv_icmp_ge (pc := 4) (tgt := 27) hx hb dzK_isFree_4 (by decide) (fun hq9 => absurd hq9 (by decide)) (fun _ => ?_)
      refine lv_aload_n (pc := 7) hx hb dzK_isFree_7 rfl (lv_at hl 1 rfl) ?_
      refine xk_get (pc := 8) hx hb hts hown hK hP ffzK_11 0 rfl rfl dzK_isFree_8 ?_
      refine lv_iload_n (pc := 11) hx hb dzK_isFree_11 rfl (lv_at hl 0 rfl) ?_
      refine xk_aald (q0 := 1) (t0 := 3) (j := 2) (b := (sb 2)) (pc := 12) hx hb hK hP rfl rfl (pk_in 2 3 (by decide)) (pk_cl 2) rfl dzK_isFree_12 ?_
      refine xk_callVI (As := []) (rest := []) (H0 := s.heap) (pc := 13) hx hb hml hts hown hK hA hP hD hS (kzS_state l G ac (sb 2) e0 e1 e2 e3 e4 e5 e6 e7 e8) vfzK_47 [4] (by decide) rfl (fun _ => rfl) 4 rfl rfl ⟨rfl, rfl⟩ ⟨Nat.le_of_ble_eq_true rfl, Nat.le_of_ble_eq_true rfl⟩ rfl hl.1 rfl (Nat.le_of_ble_eq_true rfl) ⟨Nat.zero_le _, Nat.zero_le _⟩ dzK_isFree_13 (fun r3 u9 H locs e9 hP hD hS => ?_)
      obtain rfl : r3 = qzS_state e1 e3 := e9
      have hP : va_P G xk_cls [(oa, .inr (3, [.ref ob, .ref za1, .ref za2, .ref za3, .int a4, .int a5])), (ob, .inl (ac 3, 3, .inr (.inr (.inr (.inr (fun j => some (sb j))))))), ((sb 0), .inr (1, [.int c0, .int c1, .int c2, .int c3, .int c4, .int c5, .int c6, .int c7, .int c8])), ((sb 1), .inr (1, [.int d0, .int d1, .int d2, .int d3, .int d4, .int d5, .int d6, .int d7, .int d8])), ((sb 2), .inr (1, [.int e0, .int e1, .int e2, .int e3, .int e4, .int e5, .int e6, .int e7, .int e8]))] H := hP
      have hD : va_D A [(oa, .inr (3, [.ref ob, .ref za1, .ref za2, .ref za3, .int a4, .int a5])), (ob, .inl (ac 3, 3, .inr (.inr (.inr (.inr (fun j => some (sb j))))))), ((sb 0), .inr (1, [.int c0, .int c1, .int c2, .int c3, .int c4, .int c5, .int c6, .int c7, .int c8])), ((sb 1), .inr (1, [.int d0, .int d1, .int d2, .int d3, .int d4, .int d5, .int d6, .int d7, .int d8])), ((sb 2), .inr (1, [.int e0, .int e1, .int e2, .int e3, .int e4, .int e5, .int e6, .int e7, .int e8]))] := hD
      refine lv_if_eq (pc := 16) (tgt := 21) hx hb dzK_isFree_16 (by decide) (fun h3 => ?_) (fun h3 => ?_)
      ·
        refine lv_iinc (k := 0) (x := 2) (v := 3) (lv' := [(1, .int 3), (0, .ref oa)]) (pc := 21) hx hb dzK_isFree_21 hl rfl (by decide) (by decide) rfl (fun ls hl => ?_)
        refine lv_goto (tgt := 2) (pc := 24) hx hb dzK_isFree_24 (by decide) ?_
        refine lv_iload_n (pc := 2) hx hb dzK_isFree_2 rfl (lv_at hl 0 rfl) ?_
        refine lv_iconst (v := 3) (pc := 3) hx hb dzK_isFree_3 (by decide) ?_
        refine lv_icmp_ge (pc := 4) (tgt := 27) hx hb dzK_isFree_4 (by decide) (fun _ => ?_) (fun hq9 => absurd (by decide) hq9)
        refine lv_iconst (v := 1) (pc := 27) hx hb dzK_isFree_27 (by decide) ?_
        have jr : qzK_isFree c1 c3 d1 d3 e1 e3 = 1 := by unfold qzK_isFree; (first | rfl | simp only [if_pos h1, if_pos h2, if_pos h3])
        have hP : va_P G xk_cls [(oa, .inr (3, [.ref ob, .ref za1, .ref za2, .ref za3, .int a4, .int a5])), (ob, .inl (ac 3, 3, .inr (.inr (.inr (.inr (fun j => some (sb j))))))), ((sb 0), .inr (1, [.int c0, .int c1, .int c2, .int c3, .int c4, .int c5, .int c6, .int c7, .int c8])), ((sb 1), .inr (1, [.int d0, .int d1, .int d2, .int d3, .int d4, .int d5, .int d6, .int d7, .int d8])), ((sb 2), .inr (1, [.int e0, .int e1, .int e2, .int e3, .int e4, .int e5, .int e6, .int e7, .int e8]))] H := by exact hP
        exact hret _ () H locs 28 ls hP hS (xk_bn xk_b1) jr.symm dzK_isFree_28
      ·
        refine lv_iconst (v := 0) (pc := 19) hx hb dzK_isFree_19 (by decide) ?_
        have jr : qzK_isFree c1 c3 d1 d3 e1 e3 = 0 := by unfold qzK_isFree; (first | rfl | simp only [if_pos h1, if_pos h2, if_neg h3])
        have hP : va_P G xk_cls [(oa, .inr (3, [.ref ob, .ref za1, .ref za2, .ref za3, .int a4, .int a5])), (ob, .inl (ac 3, 3, .inr (.inr (.inr (.inr (fun j => some (sb j))))))), ((sb 0), .inr (1, [.int c0, .int c1, .int c2, .int c3, .int c4, .int c5, .int c6, .int c7, .int c8])), ((sb 1), .inr (1, [.int d0, .int d1, .int d2, .int d3, .int d4, .int d5, .int d6, .int d7, .int d8])), ((sb 2), .inr (1, [.int e0, .int e1, .int e2, .int e3, .int e4, .int e5, .int e6, .int e7, .int e8]))] H := by exact hP
        exact hret _ () H locs 20 ls hP hS (xk_bn xk_b0) jr.symm dzK_isFree_20
    ·
      refine lv_iconst (v := 0) (pc := 19) hx hb dzK_isFree_19 (by decide) ?_
      have jr : qzK_isFree c1 c3 d1 d3 e1 e3 = 0 := by unfold qzK_isFree; (first | rfl | simp only [if_pos h1, if_neg h2])
      have hP : va_P G xk_cls [(oa, .inr (3, [.ref ob, .ref za1, .ref za2, .ref za3, .int a4, .int a5])), (ob, .inl (ac 3, 3, .inr (.inr (.inr (.inr (fun j => some (sb j))))))), ((sb 0), .inr (1, [.int c0, .int c1, .int c2, .int c3, .int c4, .int c5, .int c6, .int c7, .int c8])), ((sb 1), .inr (1, [.int d0, .int d1, .int d2, .int d3, .int d4, .int d5, .int d6, .int d7, .int d8])), ((sb 2), .inr (1, [.int e0, .int e1, .int e2, .int e3, .int e4, .int e5, .int e6, .int e7, .int e8]))] H := by exact hP
      exact hret _ () H locs 20 ls hP hS (xk_bn xk_b0) jr.symm dzK_isFree_20
  ·
    refine lv_iconst (v := 0) (pc := 19) hx hb dzK_isFree_19 (by decide) ?_
    have jr : qzK_isFree c1 c3 d1 d3 e1 e3 = 0 := by unfold qzK_isFree; (first | rfl | simp only [if_neg h1])
    have hP : va_P G xk_cls [(oa, .inr (3, [.ref ob, .ref za1, .ref za2, .ref za3, .int a4, .int a5])), (ob, .inl (ac 3, 3, .inr (.inr (.inr (.inr (fun j => some (sb j))))))), ((sb 0), .inr (1, [.int c0, .int c1, .int c2, .int c3, .int c4, .int c5, .int c6, .int c7, .int c8])), ((sb 1), .inr (1, [.int d0, .int d1, .int d2, .int d3, .int d4, .int d5, .int d6, .int d7, .int d8])), ((sb 2), .inr (1, [.int e0, .int e1, .int e2, .int e3, .int e4, .int e5, .int e6, .int e7, .int e8]))] H := by exact hP
    exact hret _ () H locs 20 ls hP hS (xk_bn xk_b0) jr.symm dzK_isFree_20
def qzK_hasHealthyHeads_0 (fb : Nat → Int32) : Int32 := (if (fb 0) = 0 then 0 else (if (fb 1) = 0 then 0 else 1 : Int32) : Int32)
theorem bzK_hasHealthyHeads_0 (fb : Nat → Int32) : xk_b (qzK_hasHealthyHeads_0 fb) := by
  unfold qzK_hasHealthyHeads_0
  repeat' (first | with_reducible exact xk_b0 | with_reducible exact xk_b1 | with_reducible assumption | apply xk_bi)
set_option maxHeartbeats 4000000 in
set_option maxRecDepth 100000 in
theorem kzK_hasHealthyHeads_0 (l : Launch) (G : va_G) (ac : Nat → ClassId) (oa : Nat) (ob : Nat) (za0 : Nat) (za1 : Nat) (za2 : Nat) (a4 : Int32) (a5 : Int32) (fb : Nat → Int32) : xk_CI l yzK_hasHealthyHeads czK_hasHealthyHeads 2 .boolean xk_WS xk_r0 G xk_cls (xk_tys ac) [.ref oa, .int 0] [(oa, .inr (3, [.ref za0, .ref za1, .ref za2, .ref ob, .int a4, .int a5])), (ob, .inl (ac 1, 4, .inl fb))] (fun r (_ : Unit) => r = qzK_hasHealthyHeads_0 fb) (fun _ => [(oa, .inr (3, [.ref za0, .ref za1, .ref za2, .ref ob, .int a4, .int a5])), (ob, .inl (ac 1, 4, .inl fb))]) := by
  refine xk_ofI (by decide) (Nat.le_of_ble_eq_true rfl) ?_
  intro p e s m args below meth c A Q H locs ls C0 hret hP hD hS hl
  obtain ⟨hx, hb, hml, hts, hown, hK, hA⟩ := C0
  have hl : lv_has ls 2 [(0, .ref oa), (1, .int 0)] := hl
  refine lv_aload_n (pc := 0) hx hb dzK_hasHealthyHeads_0 rfl (lv_at hl 0 rfl) ?_
  refine xk_get (pc := 1) hx hb hts hown hK hP ffzK_27 0 rfl rfl dzK_hasHealthyHeads_1 ?_
  refine lv_iload_n (pc := 4) hx hb dzK_hasHealthyHeads_4 rfl (lv_at hl 1 rfl) ?_
  refine xk_zald (q0 := 1) (t0 := 1) (j := 0) (pc := 5) hx hb hK hP rfl rfl (pk_in 0 4 (by decide)) (pk_cl 0) dzK_hasHealthyHeads_5 ?_
  have K1 : W p l e xk_r0 s m args below meth c H locs 0 0 Q (F0 m 25 ls [.int (if (fb 0) = 0 then 0 else (if (fb 1) = 0 then 0 else 1 : Int32) : Int32)]) := by
    have jr : qzK_hasHealthyHeads_0 fb = (if (fb 0) = 0 then 0 else (if (fb 1) = 0 then 0 else 1 : Int32) : Int32) := by unfold qzK_hasHealthyHeads_0; rfl
    have hP : va_P G xk_cls [(oa, .inr (3, [.ref za0, .ref za1, .ref za2, .ref ob, .int a4, .int a5])), (ob, .inl (ac 1, 4, .inl fb))] H := by exact hP
    exact hret _ () H locs 25 ls hP hS (xk_bn (by repeat' (first | with_reducible exact xk_b0 | with_reducible exact xk_b1 | apply xk_bi))) jr.symm dzK_hasHealthyHeads_25
  refine lv_if_eq (pc := 6) (tgt := 24) hx hb dzK_hasHealthyHeads_6 (by decide) (fun h1 => ?_) (fun h1 => ?_)
  ·
    refine lv_iconst (v := 0) (pc := 24) hx hb dzK_hasHealthyHeads_24 (by decide) ?_
    have K9 := K1
    try simp only [if_pos h1] at K9
    first | exact K9 | (simp only [if_pos h1]; exact K9)
  ·
    refine lv_aload_n (pc := 9) hx hb dzK_hasHealthyHeads_9 rfl (lv_at hl 0 rfl) ?_
    refine xk_get (pc := 10) hx hb hts hown hK hP ffzK_27 0 rfl rfl dzK_hasHealthyHeads_10 ?_
    refine lv_iload_n (pc := 13) hx hb dzK_hasHealthyHeads_13 rfl (lv_at hl 1 rfl) ?_
    refine lv_iconst (v := 1) (pc := 14) hx hb dzK_hasHealthyHeads_14 (by decide) ?_
    refine lv_iadd (pc := 15) hx hb dzK_hasHealthyHeads_15 ?_
    refine xk_is (y := 1) (by decide) ?_
    refine xk_zald (q0 := 1) (t0 := 1) (j := 1) (pc := 16) hx hb hK hP rfl rfl (pk_in 1 4 (by decide)) (pk_cl 1) dzK_hasHealthyHeads_16 ?_
    refine lv_if_eq (pc := 17) (tgt := 24) hx hb dzK_hasHealthyHeads_17 (by decide) (fun h2 => ?_) (fun h2 => ?_)
    ·
      refine lv_iconst (v := 0) (pc := 24) hx hb dzK_hasHealthyHeads_24 (by decide) ?_
      have K9 := K1
      try simp only [if_neg h1, if_pos h2] at K9
      first | exact K9 | (simp only [if_neg h1, if_pos h2]; exact K9)
    ·
      refine lv_iconst (v := 1) (pc := 20) hx hb dzK_hasHealthyHeads_20 (by decide) ?_
      refine lv_goto (tgt := 25) (pc := 21) hx hb dzK_hasHealthyHeads_21 (by decide) ?_
      have K9 := K1
      try simp only [if_neg h1, if_neg h2] at K9
      first | exact K9 | (simp only [if_neg h1, if_neg h2]; exact K9)
def qzK_hasHealthyHeads_1 (fb : Nat → Int32) : Int32 := (if (fb 1) = 0 then 0 else (if (fb 2) = 0 then 0 else 1 : Int32) : Int32)
theorem bzK_hasHealthyHeads_1 (fb : Nat → Int32) : xk_b (qzK_hasHealthyHeads_1 fb) := by
  unfold qzK_hasHealthyHeads_1
  repeat' (first | with_reducible exact xk_b0 | with_reducible exact xk_b1 | with_reducible assumption | apply xk_bi)
set_option maxHeartbeats 4000000 in
set_option maxRecDepth 100000 in
theorem kzK_hasHealthyHeads_1 (l : Launch) (G : va_G) (ac : Nat → ClassId) (oa : Nat) (ob : Nat) (za0 : Nat) (za1 : Nat) (za2 : Nat) (a4 : Int32) (a5 : Int32) (fb : Nat → Int32) : xk_CI l yzK_hasHealthyHeads czK_hasHealthyHeads 2 .boolean xk_WS xk_r0 G xk_cls (xk_tys ac) [.ref oa, .int 1] [(oa, .inr (3, [.ref za0, .ref za1, .ref za2, .ref ob, .int a4, .int a5])), (ob, .inl (ac 1, 4, .inl fb))] (fun r (_ : Unit) => r = qzK_hasHealthyHeads_1 fb) (fun _ => [(oa, .inr (3, [.ref za0, .ref za1, .ref za2, .ref ob, .int a4, .int a5])), (ob, .inl (ac 1, 4, .inl fb))]) := by
  refine xk_ofI (by decide) (Nat.le_of_ble_eq_true rfl) ?_
  intro p e s m args below meth c A Q H locs ls C0 hret hP hD hS hl
  obtain ⟨hx, hb, hml, hts, hown, hK, hA⟩ := C0
  have hl : lv_has ls 2 [(0, .ref oa), (1, .int 1)] := hl
  refine lv_aload_n (pc := 0) hx hb dzK_hasHealthyHeads_0 rfl (lv_at hl 0 rfl) ?_
  refine xk_get (pc := 1) hx hb hts hown hK hP ffzK_27 0 rfl rfl dzK_hasHealthyHeads_1 ?_
  refine lv_iload_n (pc := 4) hx hb dzK_hasHealthyHeads_4 rfl (lv_at hl 1 rfl) ?_
  refine xk_zald (q0 := 1) (t0 := 1) (j := 1) (pc := 5) hx hb hK hP rfl rfl (pk_in 1 4 (by decide)) (pk_cl 1) dzK_hasHealthyHeads_5 ?_
  have K1 : W p l e xk_r0 s m args below meth c H locs 0 0 Q (F0 m 25 ls [.int (if (fb 1) = 0 then 0 else (if (fb 2) = 0 then 0 else 1 : Int32) : Int32)]) := by
    have jr : qzK_hasHealthyHeads_1 fb = (if (fb 1) = 0 then 0 else (if (fb 2) = 0 then 0 else 1 : Int32) : Int32) := by unfold qzK_hasHealthyHeads_1; rfl
    have hP : va_P G xk_cls [(oa, .inr (3, [.ref za0, .ref za1, .ref za2, .ref ob, .int a4, .int a5])), (ob, .inl (ac 1, 4, .inl fb))] H := by exact hP
    exact hret _ () H locs 25 ls hP hS (xk_bn (by repeat' (first | with_reducible exact xk_b0 | with_reducible exact xk_b1 | apply xk_bi))) jr.symm dzK_hasHealthyHeads_25
  refine lv_if_eq (pc := 6) (tgt := 24) hx hb dzK_hasHealthyHeads_6 (by decide) (fun h1 => ?_) (fun h1 => ?_)
  ·
    refine lv_iconst (v := 0) (pc := 24) hx hb dzK_hasHealthyHeads_24 (by decide) ?_
    have K9 := K1
    try simp only [if_pos h1] at K9
    first | exact K9 | (simp only [if_pos h1]; exact K9)
  ·
    refine lv_aload_n (pc := 9) hx hb dzK_hasHealthyHeads_9 rfl (lv_at hl 0 rfl) ?_
    refine xk_get (pc := 10) hx hb hts hown hK hP ffzK_27 0 rfl rfl dzK_hasHealthyHeads_10 ?_
    refine lv_iload_n (pc := 13) hx hb dzK_hasHealthyHeads_13 rfl (lv_at hl 1 rfl) ?_
    refine lv_iconst (v := 1) (pc := 14) hx hb dzK_hasHealthyHeads_14 (by decide) ?_
    refine lv_iadd (pc := 15) hx hb dzK_hasHealthyHeads_15 ?_
    refine xk_is (y := 2) (by decide) ?_
    refine xk_zald (q0 := 1) (t0 := 1) (j := 2) (pc := 16) hx hb hK hP rfl rfl (pk_in 2 4 (by decide)) (pk_cl 2) dzK_hasHealthyHeads_16 ?_
    refine lv_if_eq (pc := 17) (tgt := 24) hx hb dzK_hasHealthyHeads_17 (by decide) (fun h2 => ?_) (fun h2 => ?_)
    ·
      refine lv_iconst (v := 0) (pc := 24) hx hb dzK_hasHealthyHeads_24 (by decide) ?_
      have K9 := K1
      try simp only [if_neg h1, if_pos h2] at K9
      first | exact K9 | (simp only [if_neg h1, if_pos h2]; exact K9)
    ·
      refine lv_iconst (v := 1) (pc := 20) hx hb dzK_hasHealthyHeads_20 (by decide) ?_
      refine lv_goto (tgt := 25) (pc := 21) hx hb dzK_hasHealthyHeads_21 (by decide) ?_
      have K9 := K1
      try simp only [if_neg h1, if_neg h2] at K9
      first | exact K9 | (simp only [if_neg h1, if_neg h2]; exact K9)
def qzK_hasHealthyHeads_2 (fb : Nat → Int32) : Int32 := (if (fb 2) = 0 then 0 else (if (fb 3) = 0 then 0 else 1 : Int32) : Int32)
theorem bzK_hasHealthyHeads_2 (fb : Nat → Int32) : xk_b (qzK_hasHealthyHeads_2 fb) := by
  unfold qzK_hasHealthyHeads_2
  repeat' (first | with_reducible exact xk_b0 | with_reducible exact xk_b1 | with_reducible assumption | apply xk_bi)
set_option maxHeartbeats 4000000 in
set_option maxRecDepth 100000 in
theorem kzK_hasHealthyHeads_2 (l : Launch) (G : va_G) (ac : Nat → ClassId) (oa : Nat) (ob : Nat) (za0 : Nat) (za1 : Nat) (za2 : Nat) (a4 : Int32) (a5 : Int32) (fb : Nat → Int32) : xk_CI l yzK_hasHealthyHeads czK_hasHealthyHeads 2 .boolean xk_WS xk_r0 G xk_cls (xk_tys ac) [.ref oa, .int 2] [(oa, .inr (3, [.ref za0, .ref za1, .ref za2, .ref ob, .int a4, .int a5])), (ob, .inl (ac 1, 4, .inl fb))] (fun r (_ : Unit) => r = qzK_hasHealthyHeads_2 fb) (fun _ => [(oa, .inr (3, [.ref za0, .ref za1, .ref za2, .ref ob, .int a4, .int a5])), (ob, .inl (ac 1, 4, .inl fb))]) := by
  refine xk_ofI (by decide) (Nat.le_of_ble_eq_true rfl) ?_
  intro p e s m args below meth c A Q H locs ls C0 hret hP hD hS hl
  obtain ⟨hx, hb, hml, hts, hown, hK, hA⟩ := C0
  have hl : lv_has ls 2 [(0, .ref oa), (1, .int 2)] := hl
  refine lv_aload_n (pc := 0) hx hb dzK_hasHealthyHeads_0 rfl (lv_at hl 0 rfl) ?_
  refine xk_get (pc := 1) hx hb hts hown hK hP ffzK_27 0 rfl rfl dzK_hasHealthyHeads_1 ?_
  refine lv_iload_n (pc := 4) hx hb dzK_hasHealthyHeads_4 rfl (lv_at hl 1 rfl) ?_
  refine xk_zald (q0 := 1) (t0 := 1) (j := 2) (pc := 5) hx hb hK hP rfl rfl (pk_in 2 4 (by decide)) (pk_cl 2) dzK_hasHealthyHeads_5 ?_
  have K1 : W p l e xk_r0 s m args below meth c H locs 0 0 Q (F0 m 25 ls [.int (if (fb 2) = 0 then 0 else (if (fb 3) = 0 then 0 else 1 : Int32) : Int32)]) := by
    have jr : qzK_hasHealthyHeads_2 fb = (if (fb 2) = 0 then 0 else (if (fb 3) = 0 then 0 else 1 : Int32) : Int32) := by unfold qzK_hasHealthyHeads_2; rfl
    have hP : va_P G xk_cls [(oa, .inr (3, [.ref za0, .ref za1, .ref za2, .ref ob, .int a4, .int a5])), (ob, .inl (ac 1, 4, .inl fb))] H := by exact hP
    exact hret _ () H locs 25 ls hP hS (xk_bn (by repeat' (first | with_reducible exact xk_b0 | with_reducible exact xk_b1 | apply xk_bi))) jr.symm dzK_hasHealthyHeads_25
  refine lv_if_eq (pc := 6) (tgt := 24) hx hb dzK_hasHealthyHeads_6 (by decide) (fun h1 => ?_) (fun h1 => ?_)
  ·
    refine lv_iconst (v := 0) (pc := 24) hx hb dzK_hasHealthyHeads_24 (by decide) ?_
    have K9 := K1
    try simp only [if_pos h1] at K9
    first | exact K9 | (simp only [if_pos h1]; exact K9)
  ·
    refine lv_aload_n (pc := 9) hx hb dzK_hasHealthyHeads_9 rfl (lv_at hl 0 rfl) ?_
    refine xk_get (pc := 10) hx hb hts hown hK hP ffzK_27 0 rfl rfl dzK_hasHealthyHeads_10 ?_
    refine lv_iload_n (pc := 13) hx hb dzK_hasHealthyHeads_13 rfl (lv_at hl 1 rfl) ?_
    refine lv_iconst (v := 1) (pc := 14) hx hb dzK_hasHealthyHeads_14 (by decide) ?_
    refine lv_iadd (pc := 15) hx hb dzK_hasHealthyHeads_15 ?_
    refine xk_is (y := 3) (by decide) ?_
    refine xk_zald (q0 := 1) (t0 := 1) (j := 3) (pc := 16) hx hb hK hP rfl rfl (pk_in 3 4 (by decide)) (pk_cl 3) dzK_hasHealthyHeads_16 ?_
    refine lv_if_eq (pc := 17) (tgt := 24) hx hb dzK_hasHealthyHeads_17 (by decide) (fun h2 => ?_) (fun h2 => ?_)
    ·
      refine lv_iconst (v := 0) (pc := 24) hx hb dzK_hasHealthyHeads_24 (by decide) ?_
      have K9 := K1
      try simp only [if_neg h1, if_pos h2] at K9
      first | exact K9 | (simp only [if_neg h1, if_pos h2]; exact K9)
    ·
      refine lv_iconst (v := 1) (pc := 20) hx hb dzK_hasHealthyHeads_20 (by decide) ?_
      refine lv_goto (tgt := 25) (pc := 21) hx hb dzK_hasHealthyHeads_21 (by decide) ?_
      have K9 := K1
      try simp only [if_neg h1, if_neg h2] at K9
      first | exact K9 | (simp only [if_neg h1, if_neg h2]; exact K9)
