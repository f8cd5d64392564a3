def qzU_about_0 (g0 : xk_St) : Int32 := g0 4 0
set_option maxHeartbeats 4000000 in
set_option maxRecDepth 100000 in
theorem kzU_about_0 (l : Launch) (G : va_G) (ac : Nat → ClassId) (ad : Nat → Nat) (g0 : xk_St) : xk_CI l yzU_about czU_about 2 .int xk_WS xk_r2 G xk_cls (xk_tys ac) [.ref (ad 0), .int 0] (xk_wU ad ac g0) (fun r (_ : Unit) => r = qzU_about_0 g0) (fun _ => (xk_wU ad ac g0)) := by
  refine xk_ofI (by decide) (Nat.le_of_ble_eq_true rfl) ?_
  intro p e s m args below meth c A Q H locs ls C0 hret hP hD hS hl
  obtain ⟨hx, hb, hml, hts, hown, hK, hA⟩ := C0
  have hl : lv_has ls 2 [(0, .ref (ad 0)), (1, .int 0)] := hl
  refine lv_iload_n (pc := 0) hx hb dzU_about_0 rfl (lv_at hl 1 rfl) ?_
  refine lv_tableIn (pc := 1) (tgt := 60) hx hb dzU_about_1 (by decide) (by decide) (by rfl) (by decide) ?_
  refine lv_aload_n (pc := 60) hx hb dzU_about_60 rfl (lv_at hl 0 rfl) ?_
  refine xk_get (pc := 61) hx hb hts hown hK hP ffzU_30 0 rfl rfl dzU_about_61 ?_
  refine xk_get (pc := 64) hx hb hts hown hK hP ffzU_227 4 rfl rfl dzU_about_64 ?_
  have jr : qzU_about_0 g0 = g0 4 0 := by unfold qzU_about_0; rfl
  exact hret _ () H locs 67 ls hP hS rfl jr.symm dzU_about_67

def qzU_about_1 (g0 : xk_St) : Int32 := g0 4 1
set_option maxHeartbeats 4000000 in
set_option maxRecDepth 100000 in
theorem kzU_about_1 (l : Launch) (G : va_G) (ac : Nat → ClassId) (ad : Nat → Nat) (g0 : xk_St) : xk_CI l yzU_about czU_about 2 .int xk_WS xk_r2 G xk_cls (xk_tys ac) [.ref (ad 0), .int 1] (xk_wU ad ac g0) (fun r (_ : Unit) => r = qzU_about_1 g0) (fun _ => (xk_wU ad ac g0)) := by
  refine xk_ofI (by decide) (Nat.le_of_ble_eq_true rfl) ?_
  intro p e s m args below meth c A Q H locs ls C0 hret hP hD hS hl
  obtain ⟨hx, hb, hml, hts, hown, hK, hA⟩ := C0
  have hl : lv_has ls 2 [(0, .ref (ad 0)), (1, .int 1)] := hl
  refine lv_iload_n (pc := 0) hx hb dzU_about_0 rfl (lv_at hl 1 rfl) ?_
  refine lv_tableIn (pc := 1) (tgt := 68) hx hb dzU_about_1 (by decide) (by decide) (by rfl) (by decide) ?_
  refine lv_aload_n (pc := 68) hx hb dzU_about_68 rfl (lv_at hl 0 rfl) ?_
  refine xk_get (pc := 69) hx hb hts hown hK hP ffzU_30 0 rfl rfl dzU_about_69 ?_
  refine xk_get (pc := 72) hx hb hts hown hK hP ffzU_230 4 rfl rfl dzU_about_72 ?_
  have jr : qzU_about_1 g0 = g0 4 1 := by unfold qzU_about_1; rfl
  exact hret _ () H locs 75 ls hP hS rfl jr.symm dzU_about_75

def qzU_about_2 (g0 : xk_St) : Int32 := g0 4 2
set_option maxHeartbeats 4000000 in
set_option maxRecDepth 100000 in
theorem kzU_about_2 (l : Launch) (G : va_G) (ac : Nat → ClassId) (ad : Nat → Nat) (g0 : xk_St) : xk_CI l yzU_about czU_about 2 .int xk_WS xk_r2 G xk_cls (xk_tys ac) [.ref (ad 0), .int 2] (xk_wU ad ac g0) (fun r (_ : Unit) => r = qzU_about_2 g0) (fun _ => (xk_wU ad ac g0)) := by
  refine xk_ofI (by decide) (Nat.le_of_ble_eq_true rfl) ?_
  intro p e s m args below meth c A Q H locs ls C0 hret hP hD hS hl
  obtain ⟨hx, hb, hml, hts, hown, hK, hA⟩ := C0
  have hl : lv_has ls 2 [(0, .ref (ad 0)), (1, .int 2)] := hl
  refine lv_iload_n (pc := 0) hx hb dzU_about_0 rfl (lv_at hl 1 rfl) ?_
  refine lv_tableIn (pc := 1) (tgt := 76) hx hb dzU_about_1 (by decide) (by decide) (by rfl) (by decide) ?_
  refine lv_aload_n (pc := 76) hx hb dzU_about_76 rfl (lv_at hl 0 rfl) ?_
  refine xk_get (pc := 77) hx hb hts hown hK hP ffzU_30 0 rfl rfl dzU_about_77 ?_
  refine xk_get (pc := 80) hx hb hts hown hK hP ffzU_233 4 rfl rfl dzU_about_80 ?_
  have jr : qzU_about_2 g0 = g0 4 2 := by unfold qzU_about_2; rfl
  exact hret _ () H locs 83 ls hP hS rfl jr.symm dzU_about_83

def qzU_about_3 (g0 : xk_St) : Int32 := (if (g0 0 9) = 0 then 0 else 1 : Int32)
set_option maxHeartbeats 4000000 in
set_option maxRecDepth 100000 in
theorem kzU_about_3 (l : Launch) (G : va_G) (ac : Nat → ClassId) (ad : Nat → Nat) (g0 : xk_St) : xk_CI l yzU_about czU_about 2 .int xk_WS xk_r2 G xk_cls (xk_tys ac) [.ref (ad 0), .int 3] (xk_wU ad ac g0) (fun r (_ : Unit) => r = qzU_about_3 g0) (fun _ => (xk_wU ad ac g0)) := by
  refine xk_ofI (by decide) (Nat.le_of_ble_eq_true rfl) ?_
  intro p e s m args below meth c A Q H locs ls C0 hret hP hD hS hl
  obtain ⟨hx, hb, hml, hts, hown, hK, hA⟩ := C0
  have hl : lv_has ls 2 [(0, .ref (ad 0)), (1, .int 3)] := hl
  refine lv_iload_n (pc := 0) hx hb dzU_about_0 rfl (lv_at hl 1 rfl) ?_
  refine lv_tableIn (pc := 1) (tgt := 84) hx hb dzU_about_1 (by decide) (by decide) (by rfl) (by decide) ?_
  refine lv_aload_n (pc := 84) hx hb dzU_about_84 rfl (lv_at hl 0 rfl) ?_
  refine xk_get (pc := 85) hx hb hts hown hK hP ffzU_55 0 rfl rfl dzU_about_85 ?_
  have K1 : W p l e xk_r2 s m args below meth c H locs 0 0 Q (F0 m 96 ls [.int (if (g0 0 9) = 0 then 0 else 1 : Int32)]) := by
    have jr : qzU_about_3 g0 = (if (g0 0 9) = 0 then 0 else 1 : Int32) := by unfold qzU_about_3; rfl
    exact hret _ () H locs 96 ls hP hS rfl jr.symm dzU_about_96
  refine lv_if_eq (pc := 88) (tgt := 95) hx hb dzU_about_88 (by decide) (fun h1 => ?_) (fun h1 => ?_)
  ·
    refine lv_iconst (v := 0) (pc := 95) hx hb dzU_about_95 (by decide) ?_
    have K9 := K1
    try simp only [if_pos h1] at K9
    first | exact K9 | (simp only [if_pos h1]; exact K9)
  ·
    refine lv_iconst (v := 1) (pc := 91) hx hb dzU_about_91 (by decide) ?_
    refine lv_goto (tgt := 96) (pc := 92) hx hb dzU_about_92 (by decide) ?_
    have K9 := K1
    try simp only [if_neg h1] at K9
    first | exact K9 | (simp only [if_neg h1]; exact K9)

def qzU_about_4 (g0 : xk_St) : Int32 := g0 0 6
set_option maxHeartbeats 4000000 in
set_option maxRecDepth 100000 in
theorem kzU_about_4 (l : Launch) (G : va_G) (ac : Nat → ClassId) (ad : Nat → Nat) (g0 : xk_St) : xk_CI l yzU_about czU_about 2 .int xk_WS xk_r2 G xk_cls (xk_tys ac) [.ref (ad 0), .int 4] (xk_wU ad ac g0) (fun r (_ : Unit) => r = qzU_about_4 g0) (fun _ => (xk_wU ad ac g0)) := by
  refine xk_ofI (by decide) (Nat.le_of_ble_eq_true rfl) ?_
  intro p e s m args below meth c A Q H locs ls C0 hret hP hD hS hl
  obtain ⟨hx, hb, hml, hts, hown, hK, hA⟩ := C0
  have hl : lv_has ls 2 [(0, .ref (ad 0)), (1, .int 4)] := hl
  refine lv_iload_n (pc := 0) hx hb dzU_about_0 rfl (lv_at hl 1 rfl) ?_
  refine lv_tableIn (pc := 1) (tgt := 97) hx hb dzU_about_1 (by decide) (by decide) (by rfl) (by decide) ?_
  refine lv_aload_n (pc := 97) hx hb dzU_about_97 rfl (lv_at hl 0 rfl) ?_
  refine xk_get (pc := 98) hx hb hts hown hK hP ffzU_45 0 rfl rfl dzU_about_98 ?_
  have jr : qzU_about_4 g0 = g0 0 6 := by unfold qzU_about_4; rfl
  exact hret _ () H locs 101 ls hP hS rfl jr.symm dzU_about_101

def qzU_about_5 (g0 : xk_St) : Int32 := g0 0 5
set_option maxHeartbeats 4000000 in
set_option maxRecDepth 100000 in
theorem kzU_about_5 (l : Launch) (G : va_G) (ac : Nat → ClassId) (ad : Nat → Nat) (g0 : xk_St) : xk_CI l yzU_about czU_about 2 .int xk_WS xk_r2 G xk_cls (xk_tys ac) [.ref (ad 0), .int 5] (xk_wU ad ac g0) (fun r (_ : Unit) => r = qzU_about_5 g0) (fun _ => (xk_wU ad ac g0)) := by
  refine xk_ofI (by decide) (Nat.le_of_ble_eq_true rfl) ?_
  intro p e s m args below meth c A Q H locs ls C0 hret hP hD hS hl
  obtain ⟨hx, hb, hml, hts, hown, hK, hA⟩ := C0
  have hl : lv_has ls 2 [(0, .ref (ad 0)), (1, .int 5)] := hl
  refine lv_iload_n (pc := 0) hx hb dzU_about_0 rfl (lv_at hl 1 rfl) ?_
  refine lv_tableIn (pc := 1) (tgt := 102) hx hb dzU_about_1 (by decide) (by decide) (by rfl) (by decide) ?_
  refine lv_aload_n (pc := 102) hx hb dzU_about_102 rfl (lv_at hl 0 rfl) ?_
  refine xk_get (pc := 103) hx hb hts hown hK hP ffzU_41 0 rfl rfl dzU_about_103 ?_
  have jr : qzU_about_5 g0 = g0 0 5 := by unfold qzU_about_5; rfl
  exact hret _ () H locs 106 ls hP hS rfl jr.symm dzU_about_106

def qzU_about_6 (g0 : xk_St) : Int32 := g0 29 4
set_option maxHeartbeats 4000000 in
set_option maxRecDepth 100000 in
theorem kzU_about_6 (l : Launch) (G : va_G) (ac : Nat → ClassId) (ad : Nat → Nat) (g0 : xk_St) : xk_CI l yzU_about czU_about 2 .int xk_WS xk_r2 G xk_cls (xk_tys ac) [.ref (ad 0), .int 6] (xk_wU ad ac g0) (fun r (_ : Unit) => r = qzU_about_6 g0) (fun _ => (xk_wU ad ac g0)) := by
  refine xk_ofI (by decide) (Nat.le_of_ble_eq_true rfl) ?_
  intro p e s m args below meth c A Q H locs ls C0 hret hP hD hS hl
  obtain ⟨hx, hb, hml, hts, hown, hK, hA⟩ := C0
  have hl : lv_has ls 2 [(0, .ref (ad 0)), (1, .int 6)] := hl
  refine lv_iload_n (pc := 0) hx hb dzU_about_0 rfl (lv_at hl 1 rfl) ?_
  refine lv_tableIn (pc := 1) (tgt := 107) hx hb dzU_about_1 (by decide) (by decide) (by rfl) (by decide) ?_
  refine lv_aload_n (pc := 107) hx hb dzU_about_107 rfl (lv_at hl 0 rfl) ?_
  refine xk_get (pc := 108) hx hb hts hown hK hP ffzU_17 0 rfl rfl dzU_about_108 ?_
  refine lv_iconst (v := 0) (pc := 111) hx hb dzU_about_111 (by decide) ?_
  refine xk_aald (q0 := 2) (t0 := 5) (j := 0) (b := (ad 29)) (pc := 112) hx hb hK hP rfl rfl (pk_in 0 2 (by decide)) (pk_cl 0) rfl dzU_about_112 ?_
  refine xk_get (pc := 113) hx hb hts hown hK hP ffzU_236 29 rfl rfl dzU_about_113 ?_
  have jr : qzU_about_6 g0 = g0 29 4 := by unfold qzU_about_6; rfl
  exact hret _ () H locs 116 ls hP hS rfl jr.symm dzU_about_116

def qzU_about_7 (g0 : xk_St) : Int32 := g0 30 4
set_option maxHeartbeats 4000000 in
set_option maxRecDepth 100000 in
theorem kzU_about_7 (l : Launch) (G : va_G) (ac : Nat → ClassId) (ad : Nat → Nat) (g0 : xk_St) : xk_CI l yzU_about czU_about 2 .int xk_WS xk_r2 G xk_cls (xk_tys ac) [.ref (ad 0), .int 7] (xk_wU ad ac g0) (fun r (_ : Unit) => r = qzU_about_7 g0) (fun _ => (xk_wU ad ac g0)) := by
  refine xk_ofI (by decide) (Nat.le_of_ble_eq_true rfl) ?_
  intro p e s m args below meth c A Q H locs ls C0 hret hP hD hS hl
  obtain ⟨hx, hb, hml, hts, hown, hK, hA⟩ := C0
  have hl : lv_has ls 2 [(0, .ref (ad 0)), (1, .int 7)] := hl
  refine lv_iload_n (pc := 0) hx hb dzU_about_0 rfl (lv_at hl 1 rfl) ?_
  refine lv_tableIn (pc := 1) (tgt := 117) hx hb dzU_about_1 (by decide) (by decide) (by rfl) (by decide) ?_
  refine lv_aload_n (pc := 117) hx hb dzU_about_117 rfl (lv_at hl 0 rfl) ?_
  refine xk_get (pc := 118) hx hb hts hown hK hP ffzU_17 0 rfl rfl dzU_about_118 ?_
  refine lv_iconst (v := 1) (pc := 121) hx hb dzU_about_121 (by decide) ?_
  refine xk_aald (q0 := 2) (t0 := 5) (j := 1) (b := (ad 30)) (pc := 122) hx hb hK hP rfl rfl (pk_in 1 2 (by decide)) (pk_cl 1) rfl dzU_about_122 ?_
  refine xk_get (pc := 123) hx hb hts hown hK hP ffzU_236 30 rfl rfl dzU_about_123 ?_
  have jr : qzU_about_7 g0 = g0 30 4 := by unfold qzU_about_7; rfl
  exact hret _ () H locs 126 ls hP hS rfl jr.symm dzU_about_126

def qzU_about_8 (g0 : xk_St) : Int32 := qzU_deadLamps g0
set_option maxHeartbeats 4000000 in
set_option maxRecDepth 100000 in
theorem kzU_about_8 (l : Launch) (G : va_G) (ac : Nat → ClassId) (ad : Nat → Nat) (g0 : xk_St) : xk_CI l yzU_about czU_about 2 .int xk_WS xk_r2 G xk_cls (xk_tys ac) [.ref (ad 0), .int 8] (xk_wU ad ac g0) (fun r (_ : Unit) => r = qzU_about_8 g0) (fun _ => (xk_wU ad ac g0)) := by
  refine xk_ofI (by decide) (Nat.le_of_ble_eq_true rfl) ?_
  intro p e s m args below meth c A Q H locs ls C0 hret hP hD hS hl
  obtain ⟨hx, hb, hml, hts, hown, hK, hA⟩ := C0
  have hl : lv_has ls 2 [(0, .ref (ad 0)), (1, .int 8)] := hl
  refine lv_iload_n (pc := 0) hx hb dzU_about_0 rfl (lv_at hl 1 rfl) ?_
  refine lv_tableIn (pc := 1) (tgt := 127) hx hb dzU_about_1 (by decide) (by decide) (by rfl) (by decide) ?_
  refine lv_aload_n (pc := 127) hx hb dzU_about_127 rfl (lv_at hl 0 rfl) ?_
  refine xk_allVI (As := []) (rest := []) (H0 := s.heap) (pc := 128) hx hb hml hts hown hK hA hP hD hS (kzU_deadLamps l G ac ad g0) vfzU_239 (fun _ => rfl) 0 rfl rfl ⟨rfl, rfl⟩ ⟨Nat.le_of_ble_eq_true rfl, Nat.le_of_ble_eq_true rfl⟩ rfl hl.1 rfl (Nat.le_of_ble_eq_true rfl) ⟨Nat.zero_le _, Nat.zero_le _⟩ dzU_about_128 (fun r1 u9 H locs e9 hP hD hS => ?_)
  obtain rfl : r1 = qzU_deadLamps g0 := e9
  have hP : va_P G xk_cls (xk_wU ad ac g0) H := hP
  have hD : va_D A (xk_wU ad ac g0) := hD
  have jr : qzU_about_8 g0 = qzU_deadLamps g0 := by unfold qzU_about_8; rfl
  exact hret _ () H locs 131 ls hP hS rfl jr.symm dzU_about_131

def qzU_about_9 (g0 : xk_St) : Int32 := qzU_standingOrders g0
set_option maxHeartbeats 4000000 in
set_option maxRecDepth 100000 in
theorem kzU_about_9 (l : Launch) (G : va_G) (ac : Nat → ClassId) (ad : Nat → Nat) (g0 : xk_St) : xk_CI l yzU_about czU_about 2 .int xk_WS xk_r2 G xk_cls (xk_tys ac) [.ref (ad 0), .int 9] (xk_wU ad ac g0) (fun r (_ : Unit) => r = qzU_about_9 g0) (fun _ => (xk_wU ad ac g0)) := by
  refine xk_ofI (by decide) (Nat.le_of_ble_eq_true rfl) ?_
  intro p e s m args below meth c A Q H locs ls C0 hret hP hD hS hl
  obtain ⟨hx, hb, hml, hts, hown, hK, hA⟩ := C0
  have hl : lv_has ls 2 [(0, .ref (ad 0)), (1, .int 9)] := hl
  refine lv_iload_n (pc := 0) hx hb dzU_about_0 rfl (lv_at hl 1 rfl) ?_
  refine lv_tableIn (pc := 1) (tgt := 132) hx hb dzU_about_1 (by decide) (by decide) (by rfl) (by decide) ?_
  refine lv_aload_n (pc := 132) hx hb dzU_about_132 rfl (lv_at hl 0 rfl) ?_
  refine xk_allVI (As := []) (rest := []) (H0 := s.heap) (pc := 133) hx hb hml hts hown hK hA hP hD hS (kzU_standingOrders l G ac ad g0) vfzU_242 (fun _ => rfl) 0 rfl rfl ⟨rfl, rfl⟩ ⟨Nat.le_of_ble_eq_true rfl, Nat.le_of_ble_eq_true rfl⟩ rfl hl.1 rfl (Nat.le_of_ble_eq_true rfl) ⟨Nat.zero_le _, Nat.zero_le _⟩ dzU_about_133 (fun r1 u9 H locs e9 hP hD hS => ?_)
  obtain rfl : r1 = qzU_standingOrders g0 := e9
  have hP : va_P G xk_cls (xk_wU ad ac g0) H := hP
  have hD : va_D A (xk_wU ad ac g0) := hD
  have jr : qzU_about_9 g0 = qzU_standingOrders g0 := by unfold qzU_about_9; rfl
  exact hret _ () H locs 136 ls hP hS rfl jr.symm dzU_about_136

def qzU_about_10 (g0 : xk_St) : Int32 := g0 5 3
set_option maxHeartbeats 4000000 in
set_option maxRecDepth 100000 in
theorem kzU_about_10 (l : Launch) (G : va_G) (ac : Nat → ClassId) (ad : Nat → Nat) (g0 : xk_St) : xk_CI l yzU_about czU_about 2 .int xk_WS xk_r2 G xk_cls (xk_tys ac) [.ref (ad 0), .int 10] (xk_wU ad ac g0) (fun r (_ : Unit) => r = qzU_about_10 g0) (fun _ => (xk_wU ad ac g0)) := by
  refine xk_ofI (by decide) (Nat.le_of_ble_eq_true rfl) ?_
  intro p e s m args below meth c A Q H locs ls C0 hret hP hD hS hl
  obtain ⟨hx, hb, hml, hts, hown, hK, hA⟩ := C0
  have hl : lv_has ls 2 [(0, .ref (ad 0)), (1, .int 10)] := hl
  refine lv_iload_n (pc := 0) hx hb dzU_about_0 rfl (lv_at hl 1 rfl) ?_
  refine lv_tableIn (pc := 1) (tgt := 137) hx hb dzU_about_1 (by decide) (by decide) (by rfl) (by decide) ?_
  refine lv_aload_n (pc := 137) hx hb dzU_about_137 rfl (lv_at hl 0 rfl) ?_
  refine xk_get (pc := 138) hx hb hts hown hK hP ffzU_37 0 rfl rfl dzU_about_138 ?_
  refine xk_get (pc := 141) hx hb hts hown hK hP ffzU_245 5 rfl rfl dzU_about_141 ?_
  have jr : qzU_about_10 g0 = g0 5 3 := by unfold qzU_about_10; rfl
  exact hret _ () H locs 144 ls hP hS rfl jr.symm dzU_about_144

def qzU_event_0 (g0 : xk_St) (k0 : Int32) : Int32 := (g0 6) ((k0 &&& 63).toNatClampNeg)
set_option maxHeartbeats 4000000 in
set_option maxRecDepth 100000 in
theorem kzU_event_0 (l : Launch) (G : va_G) (ac : Nat → ClassId) (ad : Nat → Nat) (g0 : xk_St) (k0 : Int32) (hk : ¬ (qzJ_keeps (g0 5 3) k0) = 0) : xk_CI l yzU_event czU_event 4 .int xk_WS xk_r1 G xk_cls (xk_tys ac) [.ref (ad 0), .int k0, .int 0] (xk_wU ad ac g0) (fun r (_ : Unit) => r = qzU_event_0 g0 k0) (fun _ => (xk_wU ad ac g0)) := by
  refine xk_ofI (by decide) (Nat.le_of_ble_eq_true rfl) ?_
  intro p e s m args below meth c A Q H locs ls C0 hret hP hD hS hl
  obtain ⟨hx, hb, hml, hts, hown, hK, hA⟩ := C0
  have hl : lv_has ls 4 [(0, .ref (ad 0)), (1, .int k0), (2, .int 0)] := hl
  refine lv_aload_n (pc := 0) hx hb dzU_event_0 rfl (lv_at hl 0 rfl) ?_
  refine xk_get (pc := 1) hx hb hts hown hK hP ffzU_37 0 rfl rfl dzU_event_1 ?_
  refine lv_iload_n (pc := 4) hx hb dzU_event_4 rfl (lv_at hl 1 rfl) ?_
  refine xk_callVI (As := [.int k0]) (rest := []) (H0 := s.heap) (pc := 5) hx hb hml hts hown hK hA hP hD hS (kzJ_keeps l G ac (ad 5) (ad 6) (ad 7) (ad 8) (g0 5 3) k0) vfzU_250 [5] (by decide) rfl (fun _ => rfl) 5 rfl rfl ⟨rfl, rfl⟩ ⟨Nat.le_of_ble_eq_true rfl, Nat.le_of_ble_eq_true rfl⟩ rfl hl.1 rfl (Nat.le_of_ble_eq_true rfl) ⟨Nat.zero_le _, Nat.zero_le _⟩ dzU_event_5 (fun r1 u9 H locs e9 hP hD hS => ?_)
  obtain rfl : r1 = qzJ_keeps (g0 5 3) k0 := e9
  have hP : va_P G xk_cls (xk_wU ad ac g0) H := hP
  have hD : va_D A (xk_wU ad ac g0) := hD
  refine lv_if_ne (pc := 8) (tgt := 21) hx hb dzU_event_8 (by decide) (fun _ => ?_) (fun hq9 => absurd hq9 hk)
  refine lv_iload_n (pc := 21) hx hb dzU_event_21 rfl (lv_at hl 1 rfl) ?_
  refine lv_bipush (v := 63) (pc := 22) hx hb dzU_event_22 (by decide) ?_
  refine lv_iand (pc := 24) hx hb dzU_event_24 ?_
  refine lv_istore_n (lv' := [(3, .int (k0 &&& 63)), (0, .ref (ad 0)), (1, .int k0), (2, .int 0)]) (pc := 25) hx hb dzU_event_25 rfl hl (by decide) rfl (fun ls hl => ?_)
  refine lv_iload_n (pc := 26) hx hb dzU_event_26 rfl (lv_at hl 3 rfl) ?_
  refine lv_tableIn (pc := 27) (tgt := 52) hx hb dzU_event_27 (by decide) (by decide) (by rfl) (by decide) ?_
  refine lv_aload_n (pc := 52) hx hb dzU_event_52 rfl (lv_at hl 1 rfl) ?_
  refine xk_get (pc := 53) hx hb hts hown hK hP ffzU_37 0 rfl rfl dzU_event_53 ?_
  refine xk_get (pc := 56) hx hb hts hown hK hP ffzU_255 5 rfl rfl dzU_event_56 ?_
  refine lv_iload_n (pc := 59) hx hb dzU_event_59 rfl (lv_at hl 0 rfl) ?_
  refine xk_iald (q0 := 6) (t0 := 0) (j := (k0 &&& 63).toNatClampNeg) (pc := 60) hx hb hK hP rfl rfl (pk_andIn _ 6 (by decide) (by decide)) rfl dzU_event_60 ?_
  have jr : qzU_event_0 g0 k0 = (g0 6) ((k0 &&& 63).toNatClampNeg) := by unfold qzU_event_0; rfl
  exact hret _ () H locs 61 ls hP hS rfl jr.symm dzU_event_61

def qzU_event_1 (g0 : xk_St) (k0 : Int32) : Int32 := (g0 7) ((k0 &&& 63).toNatClampNeg)
set_option maxHeartbeats 4000000 in
set_option maxRecDepth 100000 in
theorem kzU_event_1 (l : Launch) (G : va_G) (ac : Nat → ClassId) (ad : Nat → Nat) (g0 : xk_St) (k0 : Int32) (hk : ¬ (qzJ_keeps (g0 5 3) k0) = 0) : xk_CI l yzU_event czU_event 4 .int xk_WS xk_r1 G xk_cls (xk_tys ac) [.ref (ad 0), .int k0, .int 1] (xk_wU ad ac g0) (fun r (_ : Unit) => r = qzU_event_1 g0 k0) (fun _ => (xk_wU ad ac g0)) := by
  refine xk_ofI (by decide) (Nat.le_of_ble_eq_true rfl) ?_
  intro p e s m args below meth c A Q H locs ls C0 hret hP hD hS hl
  obtain ⟨hx, hb, hml, hts, hown, hK, hA⟩ := C0
  have hl : lv_has ls 4 [(0, .ref (ad 0)), (1, .int k0), (2, .int 1)] := hl
  refine lv_aload_n (pc := 0) hx hb dzU_event_0 rfl (lv_at hl 0 rfl) ?_
  refine xk_get (pc := 1) hx hb hts hown hK hP ffzU_37 0 rfl rfl dzU_event_1 ?_
  refine lv_iload_n (pc := 4) hx hb dzU_event_4 rfl (lv_at hl 1 rfl) ?_
  refine xk_callVI (As := [.int k0]) (rest := []) (H0 := s.heap) (pc := 5) hx hb hml hts hown hK hA hP hD hS (kzJ_keeps l G ac (ad 5) (ad 6) (ad 7) (ad 8) (g0 5 3) k0) vfzU_250 [5] (by decide) rfl (fun _ => rfl) 5 rfl rfl ⟨rfl, rfl⟩ ⟨Nat.le_of_ble_eq_true rfl, Nat.le_of_ble_eq_true rfl⟩ rfl hl.1 rfl (Nat.le_of_ble_eq_true rfl) ⟨Nat.zero_le _, Nat.zero_le _⟩ dzU_event_5 (fun r1 u9 H locs e9 hP hD hS => ?_)
  obtain rfl : r1 = qzJ_keeps (g0 5 3) k0 := e9
  have hP : va_P G xk_cls (xk_wU ad ac g0) H := hP
  have hD : va_D A (xk_wU ad ac g0) := hD
  refine lv_if_ne (pc := 8) (tgt := 21) hx hb dzU_event_8 (by decide) (fun _ => ?_) (fun hq9 => absurd hq9 hk)
  refine lv_iload_n (pc := 21) hx hb dzU_event_21 rfl (lv_at hl 1 rfl) ?_
  refine lv_bipush (v := 63) (pc := 22) hx hb dzU_event_22 (by decide) ?_
  refine lv_iand (pc := 24) hx hb dzU_event_24 ?_
  refine lv_istore_n (lv' := [(3, .int (k0 &&& 63)), (0, .ref (ad 0)), (1, .int k0), (2, .int 1)]) (pc := 25) hx hb dzU_event_25 rfl hl (by decide) rfl (fun ls hl => ?_)
  refine lv_iload_n (pc := 26) hx hb dzU_event_26 rfl (lv_at hl 3 rfl) ?_
  refine lv_tableIn (pc := 27) (tgt := 62) hx hb dzU_event_27 (by decide) (by decide) (by rfl) (by decide) ?_
  refine lv_aload_n (pc := 62) hx hb dzU_event_62 rfl (lv_at hl 1 rfl) ?_
  refine xk_get (pc := 63) hx hb hts hown hK hP ffzU_37 0 rfl rfl dzU_event_63 ?_
  refine xk_get (pc := 66) hx hb hts hown hK hP ffzU_258 5 rfl rfl dzU_event_66 ?_
  refine lv_iload_n (pc := 69) hx hb dzU_event_69 rfl (lv_at hl 0 rfl) ?_
  refine xk_iald (q0 := 7) (t0 := 0) (j := (k0 &&& 63).toNatClampNeg) (pc := 70) hx hb hK hP rfl rfl (pk_andIn _ 6 (by decide) (by decide)) rfl dzU_event_70 ?_
  have jr : qzU_event_1 g0 k0 = (g0 7) ((k0 &&& 63).toNatClampNeg) := by unfold qzU_event_1; rfl
  exact hret _ () H locs 71 ls hP hS rfl jr.symm dzU_event_71

def qzU_event_2 (g0 : xk_St) (k0 : Int32) : Int32 := (g0 8) ((k0 &&& 63).toNatClampNeg)
set_option maxHeartbeats 4000000 in
set_option maxRecDepth 100000 in
theorem kzU_event_2 (l : Launch) (G : va_G) (ac : Nat → ClassId) (ad : Nat → Nat) (g0 : xk_St) (k0 : Int32) (hk : ¬ (qzJ_keeps (g0 5 3) k0) = 0) : xk_CI l yzU_event czU_event 4 .int xk_WS xk_r1 G xk_cls (xk_tys ac) [.ref (ad 0), .int k0, .int 2] (xk_wU ad ac g0) (fun r (_ : Unit) => r = qzU_event_2 g0 k0) (fun _ => (xk_wU ad ac g0)) := by
  refine xk_ofI (by decide) (Nat.le_of_ble_eq_true rfl) ?_
  intro p e s m args below meth c A Q H locs ls C0 hret hP hD hS hl
  obtain ⟨hx, hb, hml, hts, hown, hK, hA⟩ := C0
  have hl : lv_has ls 4 [(0, .ref (ad 0)), (1, .int k0), (2, .int 2)] := hl
  refine lv_aload_n (pc := 0) hx hb dzU_event_0 rfl (lv_at hl 0 rfl) ?_
  refine xk_get (pc := 1) hx hb hts hown hK hP ffzU_37 0 rfl rfl dzU_event_1 ?_
  refine lv_iload_n (pc := 4) hx hb dzU_event_4 rfl (lv_at hl 1 rfl) ?_
  refine xk_callVI (As := [.int k0]) (rest := []) (H0 := s.heap) (pc := 5) hx hb hml hts hown hK hA hP hD hS (kzJ_keeps l G ac (ad 5) (ad 6) (ad 7) (ad 8) (g0 5 3) k0) vfzU_250 [5] (by decide) rfl (fun _ => rfl) 5 rfl rfl ⟨rfl, rfl⟩ ⟨Nat.le_of_ble_eq_true rfl, Nat.le_of_ble_eq_true rfl⟩ rfl hl.1 rfl (Nat.le_of_ble_eq_true rfl) ⟨Nat.zero_le _, Nat.zero_le _⟩ dzU_event_5 (fun r1 u9 H locs e9 hP hD hS => ?_)
  obtain rfl : r1 = qzJ_keeps (g0 5 3) k0 := e9
  have hP : va_P G xk_cls (xk_wU ad ac g0) H := hP
  have hD : va_D A (xk_wU ad ac g0) := hD
  refine lv_if_ne (pc := 8) (tgt := 21) hx hb dzU_event_8 (by decide) (fun _ => ?_) (fun hq9 => absurd hq9 hk)
  refine lv_iload_n (pc := 21) hx hb dzU_event_21 rfl (lv_at hl 1 rfl) ?_
  refine lv_bipush (v := 63) (pc := 22) hx hb dzU_event_22 (by decide) ?_
  refine lv_iand (pc := 24) hx hb dzU_event_24 ?_
  refine lv_istore_n (lv' := [(3, .int (k0 &&& 63)), (0, .ref (ad 0)), (1, .int k0), (2, .int 2)]) (pc := 25) hx hb dzU_event_25 rfl hl (by decide) rfl (fun ls hl => ?_)
  refine lv_iload_n (pc := 26) hx hb dzU_event_26 rfl (lv_at hl 3 rfl) ?_
  refine lv_tableIn (pc := 27) (tgt := 72) hx hb dzU_event_27 (by decide) (by decide) (by rfl) (by decide) ?_
  refine lv_aload_n (pc := 72) hx hb dzU_event_72 rfl (lv_at hl 1 rfl) ?_
  refine xk_get (pc := 73) hx hb hts hown hK hP ffzU_37 0 rfl rfl dzU_event_73 ?_
  refine xk_get (pc := 76) hx hb hts hown hK hP ffzU_261 5 rfl rfl dzU_event_76 ?_
  refine lv_iload_n (pc := 79) hx hb dzU_event_79 rfl (lv_at hl 0 rfl) ?_
  refine xk_iald (q0 := 8) (t0 := 0) (j := (k0 &&& 63).toNatClampNeg) (pc := 80) hx hb hK hP rfl rfl (pk_andIn _ 6 (by decide) (by decide)) rfl dzU_event_80 ?_
  have jr : qzU_event_2 g0 k0 = (g0 8) ((k0 &&& 63).toNatClampNeg) := by unfold qzU_event_2; rfl
  exact hret _ () H locs 81 ls hP hS rfl jr.symm dzU_event_81

