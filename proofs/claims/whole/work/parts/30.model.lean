/-- the number of events so far -/
def xk_cnt (B : Nat) (g : xk_St) : Prop := ∃ k : Nat, g 0 31 = nI k ∧ k ≤ B
theorem xk_cnt_le {a b : Nat} {g : xk_St} (h : xk_cnt a g) (hab : a ≤ b) : xk_cnt b g := by
  obtain ⟨k, h1, h2⟩ := h
  exact ⟨k, h1, Nat.le_trans h2 hab⟩
theorem xk_cnt_k {B k : Nat} {g : xk_St} {f : Nat → Int32} (hk : 0 ≠ k) (h : xk_cnt B g) : xk_cnt B (va_up g k f) := by
  obtain ⟨n, h1, h2⟩ := h
  refine ⟨n, ?_, h2⟩
  show (if 0 = k then f else g 0) 31 = nI n
  rw [if_neg hk]; exact h1
theorem xk_cnt_f {B j : Nat} {g : xk_St} {x : Int32} (hj : 31 ≠ j) (h : xk_cnt B g) : xk_cnt B (va_up g 0 (upd (g 0) j x)) := by
  obtain ⟨n, h1, h2⟩ := h
  refine ⟨n, ?_, h2⟩
  show (if 31 = j then x else g 0 31) = nI n
  rw [if_neg hj]; exact h1
theorem xk_cnt_s {B : Nat} {g : xk_St} (h : xk_cnt B g) : xk_cnt (B + 1) (va_up g 0 (upd (g 0) 31 (g 0 31 + 1))) := by
  obtain ⟨n, h1, h2⟩ := h
  refine ⟨n + 1, ?_, Nat.succ_le_succ h2⟩
  show g 0 31 + 1 = nI (n + 1)
  rw [h1]; exact nI_1 n
theorem xk_cnt_nn {B : Nat} {g : xk_St} (h : xk_cnt B g) (hB : B < 2147483648) : ∃ k : Nat, k < 2147483648 ∧ g 0 31 = nI k := by
  obtain ⟨n, h1, h2⟩ := h
  exact ⟨n, Nat.lt_of_le_of_lt h2 hB, h1⟩
theorem xk_rem64 {x : Int32} (h : ∃ k : Nat, k < 2147483648 ∧ x = nI k) : vp_in (x - x / 64 * 64) 64 := by
  obtain ⟨k, hk, rfl⟩ := h
  have e : nI k - nI k / nI 64 * nI 64 = nI (k % 64) := pk_rem (by omega) (by decide) (by decide)
  have e2 : (64 : Int32) = nI 64 := by decide
  rw [e2, e]
  exact vp_in_nI (Nat.mod_lt _ (by decide)) (by decide)
def xk_wM (ad : Nat → Nat) (ac : Nat → ClassId) (g : xk_St) : va_W := [
  ((ad 0), .inr (8, [.int (g 0 0), .ref (ad 1), .ref (ad 2), .ref (ad 3), .ref (ad 4), .ref (ad 5), .ref (ad 6), .ref (ad 7), .ref (ad 8), .ref (ad 9), .ref (ad 10), .ref (ad 11), .ref (ad 12), .ref (ad 13), .ref (ad 14), .ref (ad 15), .ref (ad 16), .ref (ad 17), .ref (ad 18), .ref (ad 19), .ref (ad 20), .ref (ad 21), .ref (ad 22), .ref (ad 23), .int (g 0 24), .int (g 0 25), .ref (ad 24), .int (g 0 27), .int (g 0 28), .int (g 0 29), .int (g 0 30), .int (g 0 31), .ref (ad 25), .ref (ad 26), .ref (ad 27)])),
  ((ad 1), .inl (ac 0, 8, .inl (g 1))),
  ((ad 2), .inl (ac 1, 8, .inl (g 2))),
  ((ad 3), .inl (ac 0, 6, .inl (g 3))),
  ((ad 4), .inl (ac 0, 6, .inl (g 4))),
  ((ad 5), .inl (ac 1, 6, .inl (g 5))),
  ((ad 6), .inl (ac 0, 6, .inl (g 6))),
  ((ad 7), .inl (ac 0, 6, .inl (g 7))),
  ((ad 8), .inl (ac 0, 6, .inl (g 8))),
  ((ad 9), .inl (ac 0, 6, .inl (g 9))),
  ((ad 10), .inl (ac 0, 6, .inl (g 10))),
  ((ad 11), .inl (ac 0, 4, .inl (g 11))),
  ((ad 12), .inl (ac 1, 4, .inl (g 12))),
  ((ad 13), .inl (ac 1, 2, .inl (g 13))),
  ((ad 14), .inl (ac 0, 2, .inl (g 14))),
  ((ad 15), .inl (ac 0, 2, .inl (g 15))),
  ((ad 16), .inl (ac 0, 2, .inl (g 16))),
  ((ad 17), .inl (ac 0, 2, .inl (g 17))),
  ((ad 18), .inl (ac 0, 2, .inl (g 18))),
  ((ad 19), .inl (ac 1, 2, .inl (g 19))),
  ((ad 20), .inl (ac 1, 3, .inl (g 20))),
  ((ad 21), .inl (ac 1, 3, .inl (g 21))),
  ((ad 22), .inl (ac 0, 3, .inl (g 22))),
  ((ad 23), .inl (ac 1, 3, .inl (g 23))),
  ((ad 24), .inl (ac 1, 2, .inl (g 24))),
  ((ad 25), .inl (ac 0, 64, .inl (g 25))),
  ((ad 26), .inl (ac 0, 64, .inl (g 26))),
  ((ad 27), .inl (ac 0, 64, .inl (g 27)))]
def qzM_isTrack (k0 : Int32) : Int32 := (if k0 = 0 then 1 else (if k0 = 1 then 1 else 0 : Int32) : Int32)
theorem bzM_isTrack (k0 : Int32) : xk_b (qzM_isTrack k0) := by
  unfold qzM_isTrack
  repeat' (first | with_reducible exact xk_b0 | with_reducible exact xk_b1 | with_reducible assumption | apply xk_bi)
set_option maxHeartbeats 4000000 in
set_option maxRecDepth 100000 in
theorem kzM_isTrack (l : Launch) (G : va_G) (ac : Nat → ClassId) (k0 : Int32) : xk_CI l yzM_isTrack czM_isTrack 1 .boolean xk_WS xk_r0 G xk_cls (xk_tys ac) [.int k0] [] (fun r (_ : Unit) => r = qzM_isTrack k0) (fun _ => []) := by
  refine xk_ofI (by decide) (Nat.le_of_ble_eq_true rfl) ?_
  intro p e s m args below meth c A Q H locs ls C0 hret hP hD hS hl
  obtain ⟨hx, hb, hml, hts, hown, hK, hA⟩ := C0
  have hl : lv_has ls 1 [(0, .int k0)] := hl
  refine lv_iload_n (pc := 0) hx hb dzM_isTrack_0 rfl (lv_at hl 0 rfl) ?_
  have K1 : W p l e xk_r0 s m args below meth c H locs 0 0 Q (F0 m 14 ls [.int (if k0 = 0 then 1 else (if k0 = 1 then 1 else 0 : Int32) : Int32)]) := by
    have jr : qzM_isTrack k0 = (if k0 = 0 then 1 else (if k0 = 1 then 1 else 0 : Int32) : Int32) := by unfold qzM_isTrack; rfl
    have hP : va_P G xk_cls [] H := by exact hP
    exact hret _ () H locs 14 ls hP hS (xk_bn (by repeat' (first | with_reducible exact xk_b0 | with_reducible exact xk_b1 | apply xk_bi))) jr.symm dzM_isTrack_14
  refine lv_if_eq (pc := 1) (tgt := 9) hx hb dzM_isTrack_1 (by decide) (fun h1 => ?_) (fun h1 => ?_)
  ·
    refine lv_iconst (v := 1) (pc := 9) hx hb dzM_isTrack_9 (by decide) ?_
    refine lv_goto (tgt := 14) (pc := 10) hx hb dzM_isTrack_10 (by decide) ?_
    have K9 := K1
    try simp only [if_pos h1] at K9
    first | exact K9 | (simp only [if_pos h1]; exact K9)
  ·
    refine lv_iload_n (pc := 4) hx hb dzM_isTrack_4 rfl (lv_at hl 0 rfl) ?_
    refine lv_iconst (v := 1) (pc := 5) hx hb dzM_isTrack_5 (by decide) ?_
    refine lv_icmp_ne (pc := 6) (tgt := 13) hx hb dzM_isTrack_6 (by decide) (fun h2 => ?_) (fun h2 => ?_)
    ·
      refine lv_iconst (v := 0) (pc := 13) hx hb dzM_isTrack_13 (by decide) ?_
      have K9 := K1
      try simp only [if_neg h1, if_neg h2] at K9
      first | exact K9 | (simp only [if_neg h1, if_neg h2]; exact K9)
    ·
      refine lv_iconst (v := 1) (pc := 9) hx hb dzM_isTrack_9 (by decide) ?_
      refine lv_goto (tgt := 14) (pc := 10) hx hb dzM_isTrack_10 (by decide) ?_
      have K9 := K1
      try simp only [if_neg h1, if_pos h2] at K9
      first | exact K9 | (simp only [if_neg h1, if_pos h2]; exact K9)
def qzM_isHead (k0 : Int32) (k1 : Int32) : Int32 := (if (qzM_isTrack k0) = 0 then 0 else (if k1 < 0 then 0 else (if 4 ≤ k1 then 0 else 1 : Int32) : Int32) : Int32)
theorem bzM_isHead (k0 : Int32) (k1 : Int32) : xk_b (qzM_isHead k0 k1) := by
  unfold qzM_isHead
  repeat' (first | with_reducible exact xk_b0 | with_reducible exact xk_b1 | with_reducible assumption | apply xk_bi)
set_option maxHeartbeats 4000000 in
set_option maxRecDepth 100000 in
theorem kzM_isHead (l : Launch) (G : va_G) (ac : Nat → ClassId) (k0 : Int32) (k1 : Int32) : xk_CI l yzM_isHead czM_isHead 2 .boolean xk_WS xk_r1 G xk_cls (xk_tys ac) [.int k0, .int k1] [] (fun r (_ : Unit) => r = qzM_isHead k0 k1) (fun _ => []) := by
  refine xk_ofI (by decide) (Nat.le_of_ble_eq_true rfl) ?_
  intro p e s m args below meth c A Q H locs ls C0 hret hP hD hS hl
  obtain ⟨hx, hb, hml, hts, hown, hK, hA⟩ := C0
  have hl : lv_has ls 2 [(0, .int k0), (1, .int k1)] := hl
  refine lv_iload_n (pc := 0) hx hb dzM_isHead_0 rfl (lv_at hl 0 rfl) ?_
  refine xk_callSI (As := [.int k0]) (rest := []) (H0 := s.heap) (pc := 1) hx hb hml hts hown hK hA hP hD hS (kzM_isTrack l G ac k0) sfzM_96 [] (by decide) rfl (fun _ => rfl) ⟨rfl, rfl⟩ ⟨Nat.le_of_ble_eq_true rfl, Nat.le_of_ble_eq_true rfl⟩ rfl hl.1 rfl (Nat.le_of_ble_eq_true rfl) ⟨Nat.zero_le _, Nat.zero_le _⟩ dzM_isHead_1 (fun r1 u9 H locs e9 hP hD hS => ?_)
  obtain rfl : r1 = qzM_isTrack k0 := e9
  have hP : va_P G xk_cls [] H := hP
  have hD : va_D A [] := hD
  have K1 : W p l e xk_r1 s m args below meth c H locs 0 0 Q (F0 m 21 ls [.int (if (qzM_isTrack k0) = 0 then 0 else (if k1 < 0 then 0 else (if 4 ≤ k1 then 0 else 1 : Int32) : Int32) : Int32)]) := by
    have jr : qzM_isHead k0 k1 = (if (qzM_isTrack k0) = 0 then 0 else (if k1 < 0 then 0 else (if 4 ≤ k1 then 0 else 1 : Int32) : Int32) : Int32) := by unfold qzM_isHead; rfl
    have hP : va_P G xk_cls [] H := by exact hP
    exact hret _ () H locs 21 ls hP hS (xk_bn (by repeat' (first | with_reducible exact xk_b0 | with_reducible exact xk_b1 | apply xk_bi))) jr.symm dzM_isHead_21
  refine lv_if_eq (pc := 4) (tgt := 20) hx hb dzM_isHead_4 (by decide) (fun h1 => ?_) (fun h1 => ?_)
  ·
    refine lv_iconst (v := 0) (pc := 20) hx hb dzM_isHead_20 (by decide) ?_
    have K9 := K1
    try simp only [if_pos h1] at K9
    first | exact K9 | (simp only [if_pos h1]; exact K9)
  ·
    refine lv_iload_n (pc := 7) hx hb dzM_isHead_7 rfl (lv_at hl 1 rfl) ?_
    refine lv_if_lt (pc := 8) (tgt := 20) hx hb dzM_isHead_8 (by decide) (fun h2 => ?_) (fun h2 => ?_)
    ·
      refine lv_iconst (v := 0) (pc := 20) hx hb dzM_isHead_20 (by decide) ?_
      have K9 := K1
      try simp only [if_neg h1, if_pos h2] at K9
      first | exact K9 | (simp only [if_neg h1, if_pos h2]; exact K9)
    ·
      refine lv_iload_n (pc := 11) hx hb dzM_isHead_11 rfl (lv_at hl 1 rfl) ?_
      refine lv_iconst (v := 4) (pc := 12) hx hb dzM_isHead_12 (by decide) ?_
      refine lv_icmp_ge (pc := 13) (tgt := 20) hx hb dzM_isHead_13 (by decide) (fun h3 => ?_) (fun h3 => ?_)
      ·
        refine lv_iconst (v := 0) (pc := 20) hx hb dzM_isHead_20 (by decide) ?_
        have K9 := K1
        try simp only [if_neg h1, if_neg h2, if_pos h3] at K9
        first | exact K9 | (simp only [if_neg h1, if_neg h2, if_pos h3]; exact K9)
      ·
        refine lv_iconst (v := 1) (pc := 16) hx hb dzM_isHead_16 (by decide) ?_
        refine lv_goto (tgt := 21) (pc := 17) hx hb dzM_isHead_17 (by decide) ?_
        have K9 := K1
        try simp only [if_neg h1, if_neg h2, if_neg h3] at K9
        first | exact K9 | (simp only [if_neg h1, if_neg h2, if_neg h3]; exact K9)
def qzM_isSection (k0 : Int32) (k1 : Int32) : Int32 := (if (qzM_isTrack k0) = 0 then 0 else (if k1 < 0 then 0 else (if 3 ≤ k1 then 0 else 1 : Int32) : Int32) : Int32)
theorem bzM_isSection (k0 : Int32) (k1 : Int32) : xk_b (qzM_isSection k0 k1) := by
  unfold qzM_isSection
  repeat' (first | with_reducible exact xk_b0 | with_reducible exact xk_b1 | with_reducible assumption | apply xk_bi)
set_option maxHeartbeats 4000000 in
set_option maxRecDepth 100000 in
theorem kzM_isSection (l : Launch) (G : va_G) (ac : Nat → ClassId) (k0 : Int32) (k1 : Int32) : xk_CI l yzM_isSection czM_isSection 2 .boolean xk_WS xk_r1 G xk_cls (xk_tys ac) [.int k0, .int k1] [] (fun r (_ : Unit) => r = qzM_isSection k0 k1) (fun _ => []) := by
  refine xk_ofI (by decide) (Nat.le_of_ble_eq_true rfl) ?_
  intro p e s m args below meth c A Q H locs ls C0 hret hP hD hS hl
  obtain ⟨hx, hb, hml, hts, hown, hK, hA⟩ := C0
  have hl : lv_has ls 2 [(0, .int k0), (1, .int k1)] := hl
  refine lv_iload_n (pc := 0) hx hb dzM_isSection_0 rfl (lv_at hl 0 rfl) ?_
  refine xk_callSI (As := [.int k0]) (rest := []) (H0 := s.heap) (pc := 1) hx hb hml hts hown hK hA hP hD hS (kzM_isTrack l G ac k0) sfzM_96 [] (by decide) rfl (fun _ => rfl) ⟨rfl, rfl⟩ ⟨Nat.le_of_ble_eq_true rfl, Nat.le_of_ble_eq_true rfl⟩ rfl hl.1 rfl (Nat.le_of_ble_eq_true rfl) ⟨Nat.zero_le _, Nat.zero_le _⟩ dzM_isSection_1 (fun r1 u9 H locs e9 hP hD hS => ?_)
  obtain rfl : r1 = qzM_isTrack k0 := e9
  have hP : va_P G xk_cls [] H := hP
  have hD : va_D A [] := hD
  have K1 : W p l e xk_r1 s m args below meth c H locs 0 0 Q (F0 m 21 ls [.int (if (qzM_isTrack k0) = 0 then 0 else (if k1 < 0 then 0 else (if 3 ≤ k1 then 0 else 1 : Int32) : Int32) : Int32)]) := by
    have jr : qzM_isSection k0 k1 = (if (qzM_isTrack k0) = 0 then 0 else (if k1 < 0 then 0 else (if 3 ≤ k1 then 0 else 1 : Int32) : Int32) : Int32) := by unfold qzM_isSection; rfl
    have hP : va_P G xk_cls [] H := by exact hP
    exact hret _ () H locs 21 ls hP hS (xk_bn (by repeat' (first | with_reducible exact xk_b0 | with_reducible exact xk_b1 | apply xk_bi))) jr.symm dzM_isSection_21
  refine lv_if_eq (pc := 4) (tgt := 20) hx hb dzM_isSection_4 (by decide) (fun h1 => ?_) (fun h1 => ?_)
  ·
    refine lv_iconst (v := 0) (pc := 20) hx hb dzM_isSection_20 (by decide) ?_
    have K9 := K1
    try simp only [if_pos h1] at K9
    first | exact K9 | (simp only [if_pos h1]; exact K9)
  ·
    refine lv_iload_n (pc := 7) hx hb dzM_isSection_7 rfl (lv_at hl 1 rfl) ?_
    refine lv_if_lt (pc := 8) (tgt := 20) hx hb dzM_isSection_8 (by decide) (fun h2 => ?_) (fun h2 => ?_)
    ·
      refine lv_iconst (v := 0) (pc := 20) hx hb dzM_isSection_20 (by decide) ?_
      have K9 := K1
      try simp only [if_neg h1, if_pos h2] at K9
      first | exact K9 | (simp only [if_neg h1, if_pos h2]; exact K9)
    ·
      refine lv_iload_n (pc := 11) hx hb dzM_isSection_11 rfl (lv_at hl 1 rfl) ?_
      refine lv_iconst (v := 3) (pc := 12) hx hb dzM_isSection_12 (by decide) ?_
      refine lv_icmp_ge (pc := 13) (tgt := 20) hx hb dzM_isSection_13 (by decide) (fun h3 => ?_) (fun h3 => ?_)
      ·
        refine lv_iconst (v := 0) (pc := 20) hx hb dzM_isSection_20 (by decide) ?_
        have K9 := K1
        try simp only [if_neg h1, if_neg h2, if_pos h3] at K9
        first | exact K9 | (simp only [if_neg h1, if_neg h2, if_pos h3]; exact K9)
      ·
        refine lv_iconst (v := 1) (pc := 16) hx hb dzM_isSection_16 (by decide) ?_
        refine lv_goto (tgt := 21) (pc := 17) hx hb dzM_isSection_17 (by decide) ?_
        have K9 := K1
        try simp only [if_neg h1, if_neg h2, if_neg h3] at K9
        first | exact K9 | (simp only [if_neg h1, if_neg h2, if_neg h3]; exact K9)
