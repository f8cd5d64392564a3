def xt_rH : Room := { frames := 11, cells := 1, slots := 6, locals := 400 }
def xk_NN : List (String × String) := [("java/lang/IllegalArgumentException", "java/util/NoSuchElementException"), ("java/lang/IllegalStateException", "java/util/NoSuchElementException"), ("java/lang/IllegalStateException", "java/lang/IllegalArgumentException")]
theorem sh_pulse : xt_SH xk_WS RzL 66 yzL_pulse czL_pulse 5 [(0, 7, 10, 13), (0, 7, 14, 15), (0, 7, 18, 17)] 4 := ⟨gWS, xk_m562, xk_m563, xk_m557, xk_m564, ⟨by decide, by decide⟩, by decide +kernel⟩
set_option maxHeartbeats 4000000 in
set_option maxRecDepth 100000 in
theorem hr_pulse {S : Type} (l : Launch) (G : va_G) (ac : Nat → ClassId) (ad : Nat → Nat) (g : xk_St) (k0 k1 k2 : Int32) (rm : Room) (post : S → Prop) (w1 : S → va_W) (hM : xk_CV l yzU_pulse czU_pulse 5 xk_WS rm G xk_cls (xk_tys ac) [.ref (ad 0), .int k0, .int k1, .int k2] (xk_wU ad ac g) post w1) (hw1 : ∀ u, (w1 u).map Prod.fst = (xk_wU ad ac g).map Prod.fst) (hrm : rm.cells = 0 ∧ rm.slots = 0) (hR : rm.frames + 1 ≤ xt_rH.frames ∧ 8 + (5 + 11) + rm.locals ≤ xt_rH.locals) : xt_H l yzL_pulse czL_pulse 5 [(0, 7, 10, 13), (0, 7, 14, 15), (0, 7, 18, 17)] xk_WS xt_rH G xk_cls (xk_tys ac) RzU xk_tx xk_ex xk_NN [.ref (ad 0), .int k0, .int k1, .int k2] (xk_wU ad ac g) (fun r u => r = 0 ∧ post u) w1 := by
  refine xt_ofH (by decide) (Nat.le_of_ble_eq_true rfl) ?_
  intro p e s m args below meth c A Q H locs ls C0 htab hX hN hret hP hD hS hl
  obtain ⟨hx, hb, hml, hts, hown, hK, hA⟩ := C0
  have hl : lv_has ls 5 [(0, .ref (ad 0)), (1, .int k0), (2, .int k1), (3, .int k2)] := hl
  refine lv_aload_n (pc := 0) hx hb dzL_pulse_0 rfl (lv_at hl 0 rfl) ?_
  refine lv_iload_n (pc := 1) hx hb dzL_pulse_1 rfl (lv_at hl 1 rfl) ?_
  refine lv_iload_n (pc := 2) hx hb dzL_pulse_2 rfl (lv_at hl 2 rfl) ?_
  refine lv_iload_n (pc := 3) hx hb dzL_pulse_3 rfl (lv_at hl 3 rfl) ?_
  refine xw_VV (As := [.int k0, .int k1, .int k2]) (rest := []) (H0 := s.heap) (pc := 4) hx hb hml hts hown hK hA hP hD hS hM vfzL_7 0 rfl rfl hrm hR rfl hl.1 rfl (Nat.le_of_ble_eq_true rfl) ⟨Nat.zero_le _, Nat.zero_le _⟩ dzL_pulse_4 (fun u H locs hp hk hP hS => ?_)
  refine lv_goto (tgt := 22) (pc := 7) hx hb dzL_pulse_7 (by decide) ?_
  refine lv_iconst (v := 0) (pc := 22) hx hb dzL_pulse_22 (by decide) ?_
  exact hret 0 u H locs 23 0 0 ls (by decide) (by decide) hP hS ⟨rfl, hp⟩ dzL_pulse_23

set_option maxHeartbeats 4000000 in
set_option maxRecDepth 100000 in
theorem ht_pulse_NS (l : Launch) (G : va_G) (ac : Nat → ClassId) (ad : Nat → Nat) (g : xk_St) (k0 k1 k2 : Int32) (rm : Room) (hM : xt_C l yzU_pulse czU_pulse 5 none xk_WS rm G xk_cls (xk_tys ac) RzU xk_tx xk_ex [.ref (ad 0), .int k0, .int k1, .int k2] (xk_wU ad ac g) "java/util/NoSuchElementException") (hrm : rm.cells = 1 ∧ rm.slots = 6) (hR : rm.frames + 1 ≤ xt_rH.frames ∧ 8 + (5 + 11) + rm.locals ≤ xt_rH.locals) : xt_H l yzL_pulse czL_pulse 5 [(0, 7, 10, 13), (0, 7, 14, 15), (0, 7, 18, 17)] xk_WS xt_rH G xk_cls (xk_tys ac) RzU xk_tx xk_ex xk_NN [.ref (ad 0), .int k0, .int k1, .int k2] (xk_wU ad ac g) (fun r (_ : Unit) => r = 1) (fun _ => (xk_wU ad ac g)) := by
  refine xt_ofH (by decide) (Nat.le_of_ble_eq_true rfl) ?_
  intro p e s m args below meth c A Q H locs ls C0 htab hX hN hret hP hD hS hl
  obtain ⟨hx, hb, hml, hts, hown, hK, hA⟩ := C0
  have hl : lv_has ls 5 [(0, .ref (ad 0)), (1, .int k0), (2, .int k1), (3, .int k2)] := hl
  refine lv_aload_n (pc := 0) hx hb dzL_pulse_0 rfl (lv_at hl 0 rfl) ?_
  refine lv_iload_n (pc := 1) hx hb dzL_pulse_1 rfl (lv_at hl 1 rfl) ?_
  refine lv_iload_n (pc := 2) hx hb dzL_pulse_2 rfl (lv_at hl 2 rfl) ?_
  refine lv_iload_n (pc := 3) hx hb dzL_pulse_3 rfl (lv_at hl 3 rfl) ?_
  have hF := xk_freeAll hD hS hA
  refine xt_lands (h := 10) (E := "java/util/NoSuchElementException") (own := RzL) (ws := (xk_wU ad ac g)) (xt_runV (As := [.int k0, .int k1, .int k2]) (rest := []) (pc := 4) hx hb hml hts hown hK hP hD hX hS hF hM vfzL_7 0 rfl rfl hrm hR rfl hl.1 rfl (Nat.le_of_ble_eq_true rfl) ⟨(Nat.le_of_ble_eq_true rfl), (Nat.le_of_ble_eq_true rfl)⟩ dzL_pulse_4) hts hown hN (hX.2.2.2.1 _ (by decide)) htab ["java/util/NoSuchElementException", "java/lang/IllegalArgumentException", "java/lang/IllegalStateException"] ⟨Nat.zero_le _, by decide, by decide, xk_m565, Or.inl ⟨rfl, rfl⟩⟩ hS hF (fun _ _ h9 => h9) (fun q H locs hP hS => ?_)
  refine lv_astore (lv' := [(4, .ref q), (0, .ref (ad 0)), (1, .int k0), (2, .int k1), (3, .int k2)]) (pc := 10) hx hb dzL_pulse_10 hl (by decide) rfl (fun ls hl => ?_)
  refine lv_iconst (v := 1) (pc := 12) hx hb dzL_pulse_12 (by decide) ?_
  exact hret 1 () H locs 13 1 6 ls (by decide) (by decide) hP hS rfl dzL_pulse_13

set_option maxHeartbeats 4000000 in
set_option maxRecDepth 100000 in
theorem ht_pulse_IA (l : Launch) (G : va_G) (ac : Nat → ClassId) (ad : Nat → Nat) (g : xk_St) (k0 k1 k2 : Int32) (rm : Room) (hM : xt_C l yzU_pulse czU_pulse 5 none xk_WS rm G xk_cls (xk_tys ac) RzU xk_tx xk_ex [.ref (ad 0), .int k0, .int k1, .int k2] (xk_wU ad ac g) "java/lang/IllegalArgumentException") (hrm : rm.cells = 1 ∧ rm.slots = 6) (hR : rm.frames + 1 ≤ xt_rH.frames ∧ 8 + (5 + 11) + rm.locals ≤ xt_rH.locals) : xt_H l yzL_pulse czL_pulse 5 [(0, 7, 10, 13), (0, 7, 14, 15), (0, 7, 18, 17)] xk_WS xt_rH G xk_cls (xk_tys ac) RzU xk_tx xk_ex xk_NN [.ref (ad 0), .int k0, .int k1, .int k2] (xk_wU ad ac g) (fun r (_ : Unit) => r = 2) (fun _ => (xk_wU ad ac g)) := by
  refine xt_ofH (by decide) (Nat.le_of_ble_eq_true rfl) ?_
  intro p e s m args below meth c A Q H locs ls C0 htab hX hN hret hP hD hS hl
  obtain ⟨hx, hb, hml, hts, hown, hK, hA⟩ := C0
  have hl : lv_has ls 5 [(0, .ref (ad 0)), (1, .int k0), (2, .int k1), (3, .int k2)] := hl
  refine lv_aload_n (pc := 0) hx hb dzL_pulse_0 rfl (lv_at hl 0 rfl) ?_
  refine lv_iload_n (pc := 1) hx hb dzL_pulse_1 rfl (lv_at hl 1 rfl) ?_
  refine lv_iload_n (pc := 2) hx hb dzL_pulse_2 rfl (lv_at hl 2 rfl) ?_
  refine lv_iload_n (pc := 3) hx hb dzL_pulse_3 rfl (lv_at hl 3 rfl) ?_
  have hF := xk_freeAll hD hS hA
  refine xt_lands (h := 14) (E := "java/lang/IllegalArgumentException") (own := RzL) (ws := (xk_wU ad ac g)) (xt_runV (As := [.int k0, .int k1, .int k2]) (rest := []) (pc := 4) hx hb hml hts hown hK hP hD hX hS hF hM vfzL_7 0 rfl rfl hrm hR rfl hl.1 rfl (Nat.le_of_ble_eq_true rfl) ⟨(Nat.le_of_ble_eq_true rfl), (Nat.le_of_ble_eq_true rfl)⟩ dzL_pulse_4) hts hown hN (hX.2.2.2.1 _ (by decide)) htab ["java/util/NoSuchElementException", "java/lang/IllegalArgumentException", "java/lang/IllegalStateException"] ⟨Nat.zero_le _, by decide, by decide, xk_m565, Or.inr ⟨by decide, ⟨Nat.zero_le _, by decide, by decide, xk_m566, Or.inl ⟨rfl, rfl⟩⟩⟩⟩ hS hF (fun _ _ h9 => h9) (fun q H locs hP hS => ?_)
  refine lv_astore (lv' := [(4, .ref q), (0, .ref (ad 0)), (1, .int k0), (2, .int k1), (3, .int k2)]) (pc := 14) hx hb dzL_pulse_14 hl (by decide) rfl (fun ls hl => ?_)
  refine lv_iconst (v := 2) (pc := 16) hx hb dzL_pulse_16 (by decide) ?_
  exact hret 2 () H locs 17 1 6 ls (by decide) (by decide) hP hS rfl dzL_pulse_17

set_option maxHeartbeats 4000000 in
set_option maxRecDepth 100000 in
theorem ht_pulse_IS (l : Launch) (G : va_G) (ac : Nat → ClassId) (ad : Nat → Nat) (g : xk_St) (k0 k1 k2 : Int32) (rm : Room) (hM : xt_C l yzU_pulse czU_pulse 5 none xk_WS rm G xk_cls (xk_tys ac) RzU xk_tx xk_ex [.ref (ad 0), .int k0, .int k1, .int k2] (xk_wU ad ac g) "java/lang/IllegalStateException") (hrm : rm.cells = 1 ∧ rm.slots = 6) (hR : rm.frames + 1 ≤ xt_rH.frames ∧ 8 + (5 + 11) + rm.locals ≤ xt_rH.locals) : xt_H l yzL_pulse czL_pulse 5 [(0, 7, 10, 13), (0, 7, 14, 15), (0, 7, 18, 17)] xk_WS xt_rH G xk_cls (xk_tys ac) RzU xk_tx xk_ex xk_NN [.ref (ad 0), .int k0, .int k1, .int k2] (xk_wU ad ac g) (fun r (_ : Unit) => r = 3) (fun _ => (xk_wU ad ac g)) := by
  refine xt_ofH (by decide) (Nat.le_of_ble_eq_true rfl) ?_
  intro p e s m args below meth c A Q H locs ls C0 htab hX hN hret hP hD hS hl
  obtain ⟨hx, hb, hml, hts, hown, hK, hA⟩ := C0
  have hl : lv_has ls 5 [(0, .ref (ad 0)), (1, .int k0), (2, .int k1), (3, .int k2)] := hl
  refine lv_aload_n (pc := 0) hx hb dzL_pulse_0 rfl (lv_at hl 0 rfl) ?_
  refine lv_iload_n (pc := 1) hx hb dzL_pulse_1 rfl (lv_at hl 1 rfl) ?_
  refine lv_iload_n (pc := 2) hx hb dzL_pulse_2 rfl (lv_at hl 2 rfl) ?_
  refine lv_iload_n (pc := 3) hx hb dzL_pulse_3 rfl (lv_at hl 3 rfl) ?_
  have hF := xk_freeAll hD hS hA
  refine xt_lands (h := 18) (E := "java/lang/IllegalStateException") (own := RzL) (ws := (xk_wU ad ac g)) (xt_runV (As := [.int k0, .int k1, .int k2]) (rest := []) (pc := 4) hx hb hml hts hown hK hP hD hX hS hF hM vfzL_7 0 rfl rfl hrm hR rfl hl.1 rfl (Nat.le_of_ble_eq_true rfl) ⟨(Nat.le_of_ble_eq_true rfl), (Nat.le_of_ble_eq_true rfl)⟩ dzL_pulse_4) hts hown hN (hX.2.2.2.1 _ (by decide)) htab ["java/util/NoSuchElementException", "java/lang/IllegalArgumentException", "java/lang/IllegalStateException"] ⟨Nat.zero_le _, by decide, by decide, xk_m565, Or.inr ⟨by decide, ⟨Nat.zero_le _, by decide, by decide, xk_m566, Or.inr ⟨by decide, ⟨Nat.zero_le _, by decide, by decide, xk_m567, Or.inl ⟨rfl, rfl⟩⟩⟩⟩⟩⟩ hS hF (fun _ _ h9 => h9) (fun q H locs hP hS => ?_)
  refine lv_astore (lv' := [(4, .ref q), (0, .ref (ad 0)), (1, .int k0), (2, .int k1), (3, .int k2)]) (pc := 18) hx hb dzL_pulse_18 hl (by decide) rfl (fun ls hl => ?_)
  refine lv_iconst (v := 3) (pc := 20) hx hb dzL_pulse_20 (by decide) ?_
  exact hret 3 () H locs 21 1 6 ls (by decide) (by decide) hP hS rfl dzL_pulse_21

theorem sh_health : xt_SH xk_WS RzL 76 yzL_health czL_health 6 [(0, 19, 22, 13)] 5 := ⟨gWS, xk_m569, xk_m570, xk_m557, xk_m571, ⟨by decide, by decide⟩, by decide +kernel⟩
set_option maxHeartbeats 4000000 in
set_option maxRecDepth 100000 in
theorem hr_health {S : Type} (l : Launch) (G : va_G) (ac : Nat → ClassId) (ad : Nat → Nat) (g : xk_St) (o : Nat) (f : Nat → Int64) (k0 k1 k2 : Int32) (rm : Room) (post : Int32 → S → Prop) (w1 : S → va_W) (hM : xk_CI l yzU_health czU_health 6 .boolean xk_WS rm G xk_cls (xk_tys ac) [.ref (ad 0), .int k0, .int k1, .int k2] (xk_wU ad ac g) post w1) (hw1 : ∀ u, (w1 u).map Prod.fst = (xk_wU ad ac g).map Prod.fst) (hrm : rm.cells = 0 ∧ rm.slots = 0) (hR : rm.frames + 1 ≤ xt_rH.frames ∧ 8 + (6 + 11) + rm.locals ≤ xt_rH.locals) : xt_H l yzL_health czL_health 6 [(0, 19, 22, 13)] xk_WS xt_rH G xk_cls (xk_tys ac) RzU xk_tx xk_ex xk_NN [.ref (ad 0), .int k0, .int k1, .int k2, .ref o] ((o, Sum.inl (ac 7, 1, Sum.inr (Sum.inl f))) :: xk_wU ad ac g) (fun r (u : S × (Nat → Int64)) => r = 0 ∧ ∃ a : Int32, post a u.1 ∧ u.2 0 = (if a = 0 then 0 else 1)) (fun u => (o, Sum.inl (ac 7, 1, Sum.inr (Sum.inl u.2))) :: w1 u.1) := by
  refine xt_ofH (by decide) (Nat.le_of_ble_eq_true rfl) ?_
  intro p e s m args below meth c A Q H locs ls C0 htab hX hN hret hP hD hS hl
  obtain ⟨hx, hb, hml, hts, hown, hK, hA⟩ := C0
  have hl : lv_has ls 6 [(0, .ref (ad 0)), (1, .int k0), (2, .int k1), (3, .int k2), (4, .ref o)] := hl
  refine lv_aload (pc := 0) hx hb dzL_health_0 (lv_at hl 4 rfl) ?_
  refine lv_iconst (v := 0) (pc := 2) hx hb dzL_health_2 (by decide) ?_
  refine lv_aload_n (pc := 3) hx hb dzL_health_3 rfl (lv_at hl 0 rfl) ?_
  refine lv_iload_n (pc := 4) hx hb dzL_health_4 rfl (lv_at hl 1 rfl) ?_
  refine lv_iload_n (pc := 5) hx hb dzL_health_5 rfl (lv_at hl 2 rfl) ?_
  refine lv_iload_n (pc := 6) hx hb dzL_health_6 rfl (lv_at hl 3 rfl) ?_
  have hP9 : va_P G xk_cls ([(o, Sum.inl (ac 7, 1, Sum.inr (Sum.inl f)))] ++ xk_wU ad ac g) H := hP
  have hD9 : va_D A ([(o, Sum.inl (ac 7, 1, Sum.inr (Sum.inl f)))] ++ xk_wU ad ac g) := hD
  refine xw_VI (wc := (xk_wU ad ac g)) (As := [.int k0, .int k1, .int k2]) (rest := [.int 0, .ref o]) (H0 := s.heap) (pc := 7) hx hb hml hts hown hK hA (xw_PR hP9) (xw_DR hD9) hS hM vfzL_19 0 rfl rfl hrm hR rfl hl.1 rfl (Nat.le_of_ble_eq_true rfl) ⟨Nat.zero_le _, Nat.zero_le _⟩ dzL_health_7 (fun r u H locs hp hk hP1 hS => ?_)
  obtain ⟨hP, hD⟩ := xw_putR hP9 hD9 (hw1 u) hk hP1
  refine lv_if_eq (pc := 10) (tgt := 17) hx hb dzL_health_10 (by decide) (fun hr0 => ?_) (fun hr0 => ?_)
  · refine lv_lconst (v := 0) (pc := 17) hx hb dzL_health_17 (by decide) ?_
    refine va_last (ls := ls) (rest := []) (pc := 18) hx hb hK hP hD hS 0 7 rfl rfl (x := 0) (i := 0) (by unfold vp_in; decide) dzL_health_18 (fun H locs hP hD hS => ?_)
    refine lv_goto (tgt := 26) (pc := 19) hx hb dzL_health_19 (by decide) ?_
    refine lv_iconst (v := 0) (pc := 26) hx hb dzL_health_26 (by decide) ?_
    exact hret 0 (u, vp_updL f (0 : Int32).toNatClampNeg (0)) H locs 27 0 0 ls (by decide) (by decide) hP hS ⟨rfl, r, hp, (if_pos hr0).symm⟩ dzL_health_27
  · refine lv_lconst (v := 1) (pc := 13) hx hb dzL_health_13 (by decide) ?_
    refine lv_goto (tgt := 18) (pc := 14) hx hb dzL_health_14 (by decide) ?_
    refine va_last (ls := ls) (rest := []) (pc := 18) hx hb hK hP hD hS 0 7 rfl rfl (x := 1) (i := 0) (by unfold vp_in; decide) dzL_health_18 (fun H locs hP hD hS => ?_)
    refine lv_goto (tgt := 26) (pc := 19) hx hb dzL_health_19 (by decide) ?_
    refine lv_iconst (v := 0) (pc := 26) hx hb dzL_health_26 (by decide) ?_
    exact hret 0 (u, vp_updL f (0 : Int32).toNatClampNeg (1)) H locs 27 0 0 ls (by decide) (by decide) hP hS ⟨rfl, r, hp, (if_neg hr0).symm⟩ dzL_health_27

set_option maxHeartbeats 4000000 in
set_option maxRecDepth 100000 in
theorem ht_health_NS (l : Launch) (G : va_G) (ac : Nat → ClassId) (ad : Nat → Nat) (g : xk_St) (o : Nat) (f : Nat → Int64) (k0 k1 k2 : Int32) (rm : Room) (hM : xt_C l yzU_health czU_health 6 (some .boolean) xk_WS rm G xk_cls (xk_tys ac) RzU xk_tx xk_ex [.ref (ad 0), .int k0, .int k1, .int k2] (xk_wU ad ac g) "java/util/NoSuchElementException") (hrm : rm.cells = 1 ∧ rm.slots = 6) (hR : rm.frames + 1 ≤ xt_rH.frames ∧ 8 + (6 + 11) + rm.locals ≤ xt_rH.locals) : xt_H l yzL_health czL_health 6 [(0, 19, 22, 13)] xk_WS xt_rH G xk_cls (xk_tys ac) RzU xk_tx xk_ex xk_NN [.ref (ad 0), .int k0, .int k1, .int k2, .ref o] ((o, Sum.inl (ac 7, 1, Sum.inr (Sum.inl f))) :: xk_wU ad ac g) (fun r (_ : Unit) => r = 1) (fun _ => ((o, Sum.inl (ac 7, 1, Sum.inr (Sum.inl f))) :: xk_wU ad ac g)) := by
  refine xt_ofH (by decide) (Nat.le_of_ble_eq_true rfl) ?_
  intro p e s m args below meth c A Q H locs ls C0 htab hX hN hret hP hD hS hl
  obtain ⟨hx, hb, hml, hts, hown, hK, hA⟩ := C0
  have hl : lv_has ls 6 [(0, .ref (ad 0)), (1, .int k0), (2, .int k1), (3, .int k2), (4, .ref o)] := hl
  refine lv_aload (pc := 0) hx hb dzL_health_0 (lv_at hl 4 rfl) ?_
  refine lv_iconst (v := 0) (pc := 2) hx hb dzL_health_2 (by decide) ?_
  refine lv_aload_n (pc := 3) hx hb dzL_health_3 rfl (lv_at hl 0 rfl) ?_
  refine lv_iload_n (pc := 4) hx hb dzL_health_4 rfl (lv_at hl 1 rfl) ?_
  refine lv_iload_n (pc := 5) hx hb dzL_health_5 rfl (lv_at hl 2 rfl) ?_
  refine lv_iload_n (pc := 6) hx hb dzL_health_6 rfl (lv_at hl 3 rfl) ?_
  have hP9 : va_P G xk_cls ([(o, Sum.inl (ac 7, 1, Sum.inr (Sum.inl f)))] ++ xk_wU ad ac g) H := hP
  have hD9 : va_D A ([(o, Sum.inl (ac 7, 1, Sum.inr (Sum.inl f)))] ++ xk_wU ad ac g) := hD
  have hF := xk_freeAll (xw_DR hD9) hS hA
  refine xt_lands (h := 22) (E := "java/util/NoSuchElementException") (own := RzL) (ws := ((o, Sum.inl (ac 7, 1, Sum.inr (Sum.inl f))) :: xk_wU ad ac g)) (xt_runV (As := [.int k0, .int k1, .int k2]) (rest := [.int 0, .ref o]) (pc := 7) hx hb hml hts hown hK (xw_PR hP9) (xw_DR hD9) hX hS hF hM vfzL_19 0 rfl rfl hrm hR rfl hl.1 rfl (Nat.le_of_ble_eq_true rfl) ⟨(Nat.le_of_ble_eq_true rfl), (Nat.le_of_ble_eq_true rfl)⟩ dzL_health_7) hts hown hN (hX.2.2.2.1 _ (by decide)) htab ["java/util/NoSuchElementException"] ⟨Nat.zero_le _, by decide, by decide, xk_m565, Or.inl ⟨rfl, rfl⟩⟩ hS hF (fun H1 hk h9 => (xw_putR hP9 hD9 rfl hk h9).1) (fun q H locs hP hS => ?_)
  refine lv_astore (lv' := [(5, .ref q), (0, .ref (ad 0)), (1, .int k0), (2, .int k1), (3, .int k2), (4, .ref o)]) (pc := 22) hx hb dzL_health_22 hl (by decide) rfl (fun ls hl => ?_)
  refine lv_iconst (v := 1) (pc := 24) hx hb dzL_health_24 (by decide) ?_
  exact hret 1 () H locs 25 1 6 ls (by decide) (by decide) hP hS rfl dzL_health_25

theorem sh_ticks : xt_SH xk_WS RzL 84 yzL_ticks czL_ticks 4 [(0, 9, 12, 15)] 3 := ⟨gWS, xk_m573, xk_m574, xk_m557, xk_m575, ⟨by decide, by decide⟩, by decide +kernel⟩
set_option maxHeartbeats 4000000 in
set_option maxRecDepth 100000 in
theorem hr_ticks {S : Type} (l : Launch) (G : va_G) (ac : Nat → ClassId) (ad : Nat → Nat) (g : xk_St) (o : Nat) (f : Nat → Int64) (k0 : Int32) (rm : Room) (post : Int32 → S → Prop) (w1 : S → va_W) (hM : xk_CI l yzU_ticks czU_ticks 3 .int xk_WS rm G xk_cls (xk_tys ac) [.ref (ad 0), .int k0] (xk_wU ad ac g) post w1) (hw1 : ∀ u, (w1 u).map Prod.fst = (xk_wU ad ac g).map Prod.fst) (hrm : rm.cells = 0 ∧ rm.slots = 0) (hR : rm.frames + 1 ≤ xt_rH.frames ∧ 8 + (3 + 11) + rm.locals ≤ xt_rH.locals) : xt_H l yzL_ticks czL_ticks 4 [(0, 9, 12, 15)] xk_WS xt_rH G xk_cls (xk_tys ac) RzU xk_tx xk_ex xk_NN [.ref (ad 0), .int k0, .ref o] ((o, Sum.inl (ac 7, 1, Sum.inr (Sum.inl f))) :: xk_wU ad ac g) (fun r (u : S × (Nat → Int64)) => r = 0 ∧ ∃ a : Int32, post a u.1 ∧ u.2 0 = a.toInt64) (fun u => (o, Sum.inl (ac 7, 1, Sum.inr (Sum.inl u.2))) :: w1 u.1) := by
  refine xt_ofH (by decide) (Nat.le_of_ble_eq_true rfl) ?_
  intro p e s m args below meth c A Q H locs ls C0 htab hX hN hret hP hD hS hl
  obtain ⟨hx, hb, hml, hts, hown, hK, hA⟩ := C0
  have hl : lv_has ls 4 [(0, .ref (ad 0)), (1, .int k0), (2, .ref o)] := hl
  refine lv_aload_n (pc := 0) hx hb dzL_ticks_0 rfl (lv_at hl 2 rfl) ?_
  refine lv_iconst (v := 0) (pc := 1) hx hb dzL_ticks_1 (by decide) ?_
  refine lv_aload_n (pc := 2) hx hb dzL_ticks_2 rfl (lv_at hl 0 rfl) ?_
  refine lv_iload_n (pc := 3) hx hb dzL_ticks_3 rfl (lv_at hl 1 rfl) ?_
  have hP9 : va_P G xk_cls ([(o, Sum.inl (ac 7, 1, Sum.inr (Sum.inl f)))] ++ xk_wU ad ac g) H := hP
  have hD9 : va_D A ([(o, Sum.inl (ac 7, 1, Sum.inr (Sum.inl f)))] ++ xk_wU ad ac g) := hD
  refine xw_VI (wc := (xk_wU ad ac g)) (As := [.int k0]) (rest := [.int 0, .ref o]) (H0 := s.heap) (pc := 4) hx hb hml hts hown hK hA (xw_PR hP9) (xw_DR hD9) hS hM vfzL_23 0 rfl rfl hrm hR rfl hl.1 rfl (Nat.le_of_ble_eq_true rfl) ⟨Nat.zero_le _, Nat.zero_le _⟩ dzL_ticks_4 (fun r u H locs hp hk hP1 hS => ?_)
  obtain ⟨hP, hD⟩ := xw_putR hP9 hD9 (hw1 u) hk hP1
  refine lv_i2l (v := r.toInt64) (pc := 7) hx hb dzL_ticks_7 rfl ?_
  refine va_last (ls := ls) (rest := []) (pc := 8) hx hb hK hP hD hS 0 7 rfl rfl (x := r.toInt64) (i := 0) (by unfold vp_in; decide) dzL_ticks_8 (fun H locs hP hD hS => ?_)
  refine lv_goto (tgt := 15) (pc := 9) hx hb dzL_ticks_9 (by decide) ?_
  refine lv_iconst (v := 0) (pc := 15) hx hb dzL_ticks_15 (by decide) ?_
  exact hret 0 (u, vp_updL f (0 : Int32).toNatClampNeg (r.toInt64)) H locs 16 0 0 ls (by decide) (by decide) hP hS ⟨rfl, r, hp, rfl⟩ dzL_ticks_16

set_option maxHeartbeats 4000000 in
set_option maxRecDepth 100000 in
theorem ht_ticks_IA (l : Launch) (G : va_G) (ac : Nat → ClassId) (ad : Nat → Nat) (g : xk_St) (o : Nat) (f : Nat → Int64) (k0 : Int32) (rm : Room) (hM : xt_C l yzU_ticks czU_ticks 3 (some .int) xk_WS rm G xk_cls (xk_tys ac) RzU xk_tx xk_ex [.ref (ad 0), .int k0] (xk_wU ad ac g) "java/lang/IllegalArgumentException") (hrm : rm.cells = 1 ∧ rm.slots = 6) (hR : rm.frames + 1 ≤ xt_rH.frames ∧ 8 + (3 + 11) + rm.locals ≤ xt_rH.locals) : xt_H l yzL_ticks czL_ticks 4 [(0, 9, 12, 15)] xk_WS xt_rH G xk_cls (xk_tys ac) RzU xk_tx xk_ex xk_NN [.ref (ad 0), .int k0, .ref o] ((o, Sum.inl (ac 7, 1, Sum.inr (Sum.inl f))) :: xk_wU ad ac g) (fun r (_ : Unit) => r = 1) (fun _ => ((o, Sum.inl (ac 7, 1, Sum.inr (Sum.inl f))) :: xk_wU ad ac g)) := by
  refine xt_ofH (by decide) (Nat.le_of_ble_eq_true rfl) ?_
  intro p e s m args below meth c A Q H locs ls C0 htab hX hN hret hP hD hS hl
  obtain ⟨hx, hb, hml, hts, hown, hK, hA⟩ := C0
  have hl : lv_has ls 4 [(0, .ref (ad 0)), (1, .int k0), (2, .ref o)] := hl
  refine lv_aload_n (pc := 0) hx hb dzL_ticks_0 rfl (lv_at hl 2 rfl) ?_
  refine lv_iconst (v := 0) (pc := 1) hx hb dzL_ticks_1 (by decide) ?_
  refine lv_aload_n (pc := 2) hx hb dzL_ticks_2 rfl (lv_at hl 0 rfl) ?_
  refine lv_iload_n (pc := 3) hx hb dzL_ticks_3 rfl (lv_at hl 1 rfl) ?_
  have hP9 : va_P G xk_cls ([(o, Sum.inl (ac 7, 1, Sum.inr (Sum.inl f)))] ++ xk_wU ad ac g) H := hP
  have hD9 : va_D A ([(o, Sum.inl (ac 7, 1, Sum.inr (Sum.inl f)))] ++ xk_wU ad ac g) := hD
  have hF := xk_freeAll (xw_DR hD9) hS hA
  refine xt_lands (h := 12) (E := "java/lang/IllegalArgumentException") (own := RzL) (ws := ((o, Sum.inl (ac 7, 1, Sum.inr (Sum.inl f))) :: xk_wU ad ac g)) (xt_runV (As := [.int k0]) (rest := [.int 0, .ref o]) (pc := 4) hx hb hml hts hown hK (xw_PR hP9) (xw_DR hD9) hX hS hF hM vfzL_23 0 rfl rfl hrm hR rfl hl.1 rfl (Nat.le_of_ble_eq_true rfl) ⟨(Nat.le_of_ble_eq_true rfl), (Nat.le_of_ble_eq_true rfl)⟩ dzL_ticks_4) hts hown hN (hX.2.2.2.1 _ (by decide)) htab ["java/lang/IllegalArgumentException"] ⟨Nat.zero_le _, by decide, by decide, xk_m566, Or.inl ⟨rfl, rfl⟩⟩ hS hF (fun H1 hk h9 => (xw_putR hP9 hD9 rfl hk h9).1) (fun q H locs hP hS => ?_)
  refine lv_astore_n (lv' := [(3, .ref q), (0, .ref (ad 0)), (1, .int k0), (2, .ref o)]) (pc := 12) hx hb dzL_ticks_12 rfl hl (by decide) rfl (fun ls hl => ?_)
  refine lv_iconst (v := 1) (pc := 13) hx hb dzL_ticks_13 (by decide) ?_
  exact hret 1 () H locs 14 1 6 ls (by decide) (by decide) hP hS rfl dzL_ticks_14

theorem sh_barrier : xt_SH xk_WS RzL 88 yzL_barrier czL_barrier 5 [(0, 10, 13, 13), (0, 10, 17, 15)] 4 := ⟨gWS, xk_m577, xk_m578, xk_m557, xk_m579, ⟨by decide, by decide⟩, by decide +kernel⟩
set_option maxHeartbeats 4000000 in
set_option maxRecDepth 100000 in
theorem hr_barrier {S : Type} (l : Launch) (G : va_G) (ac : Nat → ClassId) (ad : Nat → Nat) (g : xk_St) (o : Nat) (f : Nat → Int64) (k0 k1 : Int32) (rm : Room) (post : Int32 → S → Prop) (w1 : S → va_W) (hM : xk_CI l yzU_barrier czU_barrier 4 .int xk_WS rm G xk_cls (xk_tys ac) [.ref (ad 0), .int k0, .int k1] (xk_wU ad ac g) post w1) (hw1 : ∀ u, (w1 u).map Prod.fst = (xk_wU ad ac g).map Prod.fst) (hrm : rm.cells = 0 ∧ rm.slots = 0) (hR : rm.frames + 1 ≤ xt_rH.frames ∧ 8 + (4 + 11) + rm.locals ≤ xt_rH.locals) : xt_H l yzL_barrier czL_barrier 5 [(0, 10, 13, 13), (0, 10, 17, 15)] xk_WS xt_rH G xk_cls (xk_tys ac) RzU xk_tx xk_ex xk_NN [.ref (ad 0), .int k0, .int k1, .ref o] ((o, Sum.inl (ac 7, 1, Sum.inr (Sum.inl f))) :: xk_wU ad ac g) (fun r (u : S × (Nat → Int64)) => r = 0 ∧ ∃ a : Int32, post a u.1 ∧ u.2 0 = a.toInt64) (fun u => (o, Sum.inl (ac 7, 1, Sum.inr (Sum.inl u.2))) :: w1 u.1) := by
  refine xt_ofH (by decide) (Nat.le_of_ble_eq_true rfl) ?_
  intro p e s m args below meth c A Q H locs ls C0 htab hX hN hret hP hD hS hl
  obtain ⟨hx, hb, hml, hts, hown, hK, hA⟩ := C0
  have hl : lv_has ls 5 [(0, .ref (ad 0)), (1, .int k0), (2, .int k1), (3, .ref o)] := hl
  refine lv_aload_n (pc := 0) hx hb dzL_barrier_0 rfl (lv_at hl 3 rfl) ?_
  refine lv_iconst (v := 0) (pc := 1) hx hb dzL_barrier_1 (by decide) ?_
  refine lv_aload_n (pc := 2) hx hb dzL_barrier_2 rfl (lv_at hl 0 rfl) ?_
  refine lv_iload_n (pc := 3) hx hb dzL_barrier_3 rfl (lv_at hl 1 rfl) ?_
  refine lv_iload_n (pc := 4) hx hb dzL_barrier_4 rfl (lv_at hl 2 rfl) ?_
  have hP9 : va_P G xk_cls ([(o, Sum.inl (ac 7, 1, Sum.inr (Sum.inl f)))] ++ xk_wU ad ac g) H := hP
  have hD9 : va_D A ([(o, Sum.inl (ac 7, 1, Sum.inr (Sum.inl f)))] ++ xk_wU ad ac g) := hD
  refine xw_VI (wc := (xk_wU ad ac g)) (As := [.int k0, .int k1]) (rest := [.int 0, .ref o]) (H0 := s.heap) (pc := 5) hx hb hml hts hown hK hA (xw_PR hP9) (xw_DR hD9) hS hM vfzL_27 0 rfl rfl hrm hR rfl hl.1 rfl (Nat.le_of_ble_eq_true rfl) ⟨Nat.zero_le _, Nat.zero_le _⟩ dzL_barrier_5 (fun r u H locs hp hk hP1 hS => ?_)
  obtain ⟨hP, hD⟩ := xw_putR hP9 hD9 (hw1 u) hk hP1
  refine lv_i2l (v := r.toInt64) (pc := 8) hx hb dzL_barrier_8 rfl ?_
  refine va_last (ls := ls) (rest := []) (pc := 9) hx hb hK hP hD hS 0 7 rfl rfl (x := r.toInt64) (i := 0) (by unfold vp_in; decide) dzL_barrier_9 (fun H locs hP hD hS => ?_)
  refine lv_goto (tgt := 21) (pc := 10) hx hb dzL_barrier_10 (by decide) ?_
  refine lv_iconst (v := 0) (pc := 21) hx hb dzL_barrier_21 (by decide) ?_
  exact hret 0 (u, vp_updL f (0 : Int32).toNatClampNeg (r.toInt64)) H locs 22 0 0 ls (by decide) (by decide) hP hS ⟨rfl, r, hp, rfl⟩ dzL_barrier_22

set_option maxHeartbeats 4000000 in
set_option maxRecDepth 100000 in
theorem ht_barrier_NS (l : Launch) (G : va_G) (ac : Nat → ClassId) (ad : Nat → Nat) (g : xk_St) (o : Nat) (f : Nat → Int64) (k0 k1 : Int32) (rm : Room) (hM : xt_C l yzU_barrier czU_barrier 4 (some .int) xk_WS rm G xk_cls (xk_tys ac) RzU xk_tx xk_ex [.ref (ad 0), .int k0, .int k1] (xk_wU ad ac g) "java/util/NoSuchElementException") (hrm : rm.cells = 1 ∧ rm.slots = 6) (hR : rm.frames + 1 ≤ xt_rH.frames ∧ 8 + (4 + 11) + rm.locals ≤ xt_rH.locals) : xt_H l yzL_barrier czL_barrier 5 [(0, 10, 13, 13), (0, 10, 17, 15)] xk_WS xt_rH G xk_cls (xk_tys ac) RzU xk_tx xk_ex xk_NN [.ref (ad 0), .int k0, .int k1, .ref o] ((o, Sum.inl (ac 7, 1, Sum.inr (Sum.inl f))) :: xk_wU ad ac g) (fun r (_ : Unit) => r = 1) (fun _ => ((o, Sum.inl (ac 7, 1, Sum.inr (Sum.inl f))) :: xk_wU ad ac g)) := by
  refine xt_ofH (by decide) (Nat.le_of_ble_eq_true rfl) ?_
  intro p e s m args below meth c A Q H locs ls C0 htab hX hN hret hP hD hS hl
  obtain ⟨hx, hb, hml, hts, hown, hK, hA⟩ := C0
  have hl : lv_has ls 5 [(0, .ref (ad 0)), (1, .int k0), (2, .int k1), (3, .ref o)] := hl
  refine lv_aload_n (pc := 0) hx hb dzL_barrier_0 rfl (lv_at hl 3 rfl) ?_
  refine lv_iconst (v := 0) (pc := 1) hx hb dzL_barrier_1 (by decide) ?_
  refine lv_aload_n (pc := 2) hx hb dzL_barrier_2 rfl (lv_at hl 0 rfl) ?_
  refine lv_iload_n (pc := 3) hx hb dzL_barrier_3 rfl (lv_at hl 1 rfl) ?_
  refine lv_iload_n (pc := 4) hx hb dzL_barrier_4 rfl (lv_at hl 2 rfl) ?_
  have hP9 : va_P G xk_cls ([(o, Sum.inl (ac 7, 1, Sum.inr (Sum.inl f)))] ++ xk_wU ad ac g) H := hP
  have hD9 : va_D A ([(o, Sum.inl (ac 7, 1, Sum.inr (Sum.inl f)))] ++ xk_wU ad ac g) := hD
  have hF := xk_freeAll (xw_DR hD9) hS hA
  refine xt_lands (h := 13) (E := "java/util/NoSuchElementException") (own := RzL) (ws := ((o, Sum.inl (ac 7, 1, Sum.inr (Sum.inl f))) :: xk_wU ad ac g)) (xt_runV (As := [.int k0, .int k1]) (rest := [.int 0, .ref o]) (pc := 5) hx hb hml hts hown hK (xw_PR hP9) (xw_DR hD9) hX hS hF hM vfzL_27 0 rfl rfl hrm hR rfl hl.1 rfl (Nat.le_of_ble_eq_true rfl) ⟨(Nat.le_of_ble_eq_true rfl), (Nat.le_of_ble_eq_true rfl)⟩ dzL_barrier_5) hts hown hN (hX.2.2.2.1 _ (by decide)) htab ["java/util/NoSuchElementException", "java/lang/IllegalArgumentException"] ⟨Nat.zero_le _, by decide, by decide, xk_m565, Or.inl ⟨rfl, rfl⟩⟩ hS hF (fun H1 hk h9 => (xw_putR hP9 hD9 rfl hk h9).1) (fun q H locs hP hS => ?_)
  refine lv_astore (lv' := [(4, .ref q), (0, .ref (ad 0)), (1, .int k0), (2, .int k1), (3, .ref o)]) (pc := 13) hx hb dzL_barrier_13 hl (by decide) rfl (fun ls hl => ?_)
  refine lv_iconst (v := 1) (pc := 15) hx hb dzL_barrier_15 (by decide) ?_
  exact hret 1 () H locs 16 1 6 ls (by decide) (by decide) hP hS rfl dzL_barrier_16

set_option maxHeartbeats 4000000 in
set_option maxRecDepth 100000 in
theorem ht_barrier_IA (l : Launch) (G : va_G) (ac : Nat → ClassId) (ad : Nat → Nat) (g : xk_St) (o : Nat) (f : Nat → Int64) (k0 k1 : Int32) (rm : Room) (hM : xt_C l yzU_barrier czU_barrier 4 (some .int) xk_WS rm G xk_cls (xk_tys ac) RzU xk_tx xk_ex [.ref (ad 0), .int k0, .int k1] (xk_wU ad ac g) "java/lang/IllegalArgumentException") (hrm : rm.cells = 1 ∧ rm.slots = 6) (hR : rm.frames + 1 ≤ xt_rH.frames ∧ 8 + (4 + 11) + rm.locals ≤ xt_rH.locals) : xt_H l yzL_barrier czL_barrier 5 [(0, 10, 13, 13), (0, 10, 17, 15)] xk_WS xt_rH G xk_cls (xk_tys ac) RzU xk_tx xk_ex xk_NN [.ref (ad 0), .int k0, .int k1, .ref o] ((o, Sum.inl (ac 7, 1, Sum.inr (Sum.inl f))) :: xk_wU ad ac g) (fun r (_ : Unit) => r = 2) (fun _ => ((o, Sum.inl (ac 7, 1, Sum.inr (Sum.inl f))) :: xk_wU ad ac g)) := by
  refine xt_ofH (by decide) (Nat.le_of_ble_eq_true rfl) ?_
  intro p e s m args below meth c A Q H locs ls C0 htab hX hN hret hP hD hS hl
  obtain ⟨hx, hb, hml, hts, hown, hK, hA⟩ := C0
  have hl : lv_has ls 5 [(0, .ref (ad 0)), (1, .int k0), (2, .int k1), (3, .ref o)] := hl
  refine lv_aload_n (pc := 0) hx hb dzL_barrier_0 rfl (lv_at hl 3 rfl) ?_
  refine lv_iconst (v := 0) (pc := 1) hx hb dzL_barrier_1 (by decide) ?_
  refine lv_aload_n (pc := 2) hx hb dzL_barrier_2 rfl (lv_at hl 0 rfl) ?_
  refine lv_iload_n (pc := 3) hx hb dzL_barrier_3 rfl (lv_at hl 1 rfl) ?_
  refine lv_iload_n (pc := 4) hx hb dzL_barrier_4 rfl (lv_at hl 2 rfl) ?_
  have hP9 : va_P G xk_cls ([(o, Sum.inl (ac 7, 1, Sum.inr (Sum.inl f)))] ++ xk_wU ad ac g) H := hP
  have hD9 : va_D A ([(o, Sum.inl (ac 7, 1, Sum.inr (Sum.inl f)))] ++ xk_wU ad ac g) := hD
  have hF := xk_freeAll (xw_DR hD9) hS hA
  refine xt_lands (h := 17) (E := "java/lang/IllegalArgumentException") (own := RzL) (ws := ((o, Sum.inl (ac 7, 1, Sum.inr (Sum.inl f))) :: xk_wU ad ac g)) (xt_runV (As := [.int k0, .int k1]) (rest := [.int 0, .ref o]) (pc := 5) hx hb hml hts hown hK (xw_PR hP9) (xw_DR hD9) hX hS hF hM vfzL_27 0 rfl rfl hrm hR rfl hl.1 rfl (Nat.le_of_ble_eq_true rfl) ⟨(Nat.le_of_ble_eq_true rfl), (Nat.le_of_ble_eq_true rfl)⟩ dzL_barrier_5) hts hown hN (hX.2.2.2.1 _ (by decide)) htab ["java/util/NoSuchElementException", "java/lang/IllegalArgumentException"] ⟨Nat.zero_le _, by decide, by decide, xk_m565, Or.inr ⟨by decide, ⟨Nat.zero_le _, by decide, by decide, xk_m566, Or.inl ⟨rfl, rfl⟩⟩⟩⟩ hS hF (fun H1 hk h9 => (xw_putR hP9 hD9 rfl hk h9).1) (fun q H locs hP hS => ?_)
  refine lv_astore (lv' := [(4, .ref q), (0, .ref (ad 0)), (1, .int k0), (2, .int k1), (3, .ref o)]) (pc := 17) hx hb dzL_barrier_17 hl (by decide) rfl (fun ls hl => ?_)
  refine lv_iconst (v := 2) (pc := 19) hx hb dzL_barrier_19 (by decide) ?_
  exact hret 2 () H locs 20 1 6 ls (by decide) (by decide) hP hS rfl dzL_barrier_20

theorem sh_current : xt_SH xk_WS RzL 92 yzL_current czL_current 5 [(0, 17, 20, 13)] 4 := ⟨gWS, xk_m581, xk_m582, xk_m557, xk_m583, ⟨by decide, by decide⟩, by decide +kernel⟩
set_option maxHeartbeats 4000000 in
set_option maxRecDepth 100000 in
theorem hr_current {S : Type} (l : Launch) (G : va_G) (ac : Nat → ClassId) (ad : Nat → Nat) (g : xk_St) (o : Nat) (f : Nat → Int64) (k0 k1 : Int32) (rm : Room) (post : Int32 → S → Prop) (w1 : S → va_W) (hM : xk_CI l yzU_current czU_current 4 .boolean xk_WS rm G xk_cls (xk_tys ac) [.ref (ad 0), .int k0, .int k1] (xk_wU ad ac g) post w1) (hw1 : ∀ u, (w1 u).map Prod.fst = (xk_wU ad ac g).map Prod.fst) (hrm : rm.cells = 0 ∧ rm.slots = 0) (hR : rm.frames + 1 ≤ xt_rH.frames ∧ 8 + (4 + 11) + rm.locals ≤ xt_rH.locals) : xt_H l yzL_current czL_current 5 [(0, 17, 20, 13)] xk_WS xt_rH G xk_cls (xk_tys ac) RzU xk_tx xk_ex xk_NN [.ref (ad 0), .int k0, .int k1, .ref o] ((o, Sum.inl (ac 7, 1, Sum.inr (Sum.inl f))) :: xk_wU ad ac g) (fun r (u : S × (Nat → Int64)) => r = 0 ∧ ∃ a : Int32, post a u.1 ∧ u.2 0 = (if a = 0 then 0 else 1)) (fun u => (o, Sum.inl (ac 7, 1, Sum.inr (Sum.inl u.2))) :: w1 u.1) := by
  refine xt_ofH (by decide) (Nat.le_of_ble_eq_true rfl) ?_
  intro p e s m args below meth c A Q H locs ls C0 htab hX hN hret hP hD hS hl
  obtain ⟨hx, hb, hml, hts, hown, hK, hA⟩ := C0
  have hl : lv_has ls 5 [(0, .ref (ad 0)), (1, .int k0), (2, .int k1), (3, .ref o)] := hl
  refine lv_aload_n (pc := 0) hx hb dzL_current_0 rfl (lv_at hl 3 rfl) ?_
  refine lv_iconst (v := 0) (pc := 1) hx hb dzL_current_1 (by decide) ?_
  refine lv_aload_n (pc := 2) hx hb dzL_current_2 rfl (lv_at hl 0 rfl) ?_
  refine lv_iload_n (pc := 3) hx hb dzL_current_3 rfl (lv_at hl 1 rfl) ?_
  refine lv_iload_n (pc := 4) hx hb dzL_current_4 rfl (lv_at hl 2 rfl) ?_
  have hP9 : va_P G xk_cls ([(o, Sum.inl (ac 7, 1, Sum.inr (Sum.inl f)))] ++ xk_wU ad ac g) H := hP
  have hD9 : va_D A ([(o, Sum.inl (ac 7, 1, Sum.inr (Sum.inl f)))] ++ xk_wU ad ac g) := hD
  refine xw_VI (wc := (xk_wU ad ac g)) (As := [.int k0, .int k1]) (rest := [.int 0, .ref o]) (H0 := s.heap) (pc := 5) hx hb hml hts hown hK hA (xw_PR hP9) (xw_DR hD9) hS hM vfzL_31 0 rfl rfl hrm hR rfl hl.1 rfl (Nat.le_of_ble_eq_true rfl) ⟨Nat.zero_le _, Nat.zero_le _⟩ dzL_current_5 (fun r u H locs hp hk hP1 hS => ?_)
  obtain ⟨hP, hD⟩ := xw_putR hP9 hD9 (hw1 u) hk hP1
  refine lv_if_eq (pc := 8) (tgt := 15) hx hb dzL_current_8 (by decide) (fun hr0 => ?_) (fun hr0 => ?_)
  · refine lv_lconst (v := 0) (pc := 15) hx hb dzL_current_15 (by decide) ?_
    refine va_last (ls := ls) (rest := []) (pc := 16) hx hb hK hP hD hS 0 7 rfl rfl (x := 0) (i := 0) (by unfold vp_in; decide) dzL_current_16 (fun H locs hP hD hS => ?_)
    refine lv_goto (tgt := 24) (pc := 17) hx hb dzL_current_17 (by decide) ?_
    refine lv_iconst (v := 0) (pc := 24) hx hb dzL_current_24 (by decide) ?_
    exact hret 0 (u, vp_updL f (0 : Int32).toNatClampNeg (0)) H locs 25 0 0 ls (by decide) (by decide) hP hS ⟨rfl, r, hp, (if_pos hr0).symm⟩ dzL_current_25
  · refine lv_lconst (v := 1) (pc := 11) hx hb dzL_current_11 (by decide) ?_
    refine lv_goto (tgt := 16) (pc := 12) hx hb dzL_current_12 (by decide) ?_
    refine va_last (ls := ls) (rest := []) (pc := 16) hx hb hK hP hD hS 0 7 rfl rfl (x := 1) (i := 0) (by unfold vp_in; decide) dzL_current_16 (fun H locs hP hD hS => ?_)
    refine lv_goto (tgt := 24) (pc := 17) hx hb dzL_current_17 (by decide) ?_
    refine lv_iconst (v := 0) (pc := 24) hx hb dzL_current_24 (by decide) ?_
    exact hret 0 (u, vp_updL f (0 : Int32).toNatClampNeg (1)) H locs 25 0 0 ls (by decide) (by decide) hP hS ⟨rfl, r, hp, (if_neg hr0).symm⟩ dzL_current_25

set_option maxHeartbeats 4000000 in
set_option maxRecDepth 100000 in
theorem ht_current_NS (l : Launch) (G : va_G) (ac : Nat → ClassId) (ad : Nat → Nat) (g : xk_St) (o : Nat) (f : Nat → Int64) (k0 k1 : Int32) (rm : Room) (hM : xt_C l yzU_current czU_current 4 (some .boolean) xk_WS rm G xk_cls (xk_tys ac) RzU xk_tx xk_ex [.ref (ad 0), .int k0, .int k1] (xk_wU ad ac g) "java/util/NoSuchElementException") (hrm : rm.cells = 1 ∧ rm.slots = 6) (hR : rm.frames + 1 ≤ xt_rH.frames ∧ 8 + (4 + 11) + rm.locals ≤ xt_rH.locals) : xt_H l yzL_current czL_current 5 [(0, 17, 20, 13)] xk_WS xt_rH G xk_cls (xk_tys ac) RzU xk_tx xk_ex xk_NN [.ref (ad 0), .int k0, .int k1, .ref o] ((o, Sum.inl (ac 7, 1, Sum.inr (Sum.inl f))) :: xk_wU ad ac g) (fun r (_ : Unit) => r = 1) (fun _ => ((o, Sum.inl (ac 7, 1, Sum.inr (Sum.inl f))) :: xk_wU ad ac g)) := by
  refine xt_ofH (by decide) (Nat.le_of_ble_eq_true rfl) ?_
  intro p e s m args below meth c A Q H locs ls C0 htab hX hN hret hP hD hS hl
  obtain ⟨hx, hb, hml, hts, hown, hK, hA⟩ := C0
  have hl : lv_has ls 5 [(0, .ref (ad 0)), (1, .int k0), (2, .int k1), (3, .ref o)] := hl
  refine lv_aload_n (pc := 0) hx hb dzL_current_0 rfl (lv_at hl 3 rfl) ?_
  refine lv_iconst (v := 0) (pc := 1) hx hb dzL_current_1 (by decide) ?_
  refine lv_aload_n (pc := 2) hx hb dzL_current_2 rfl (lv_at hl 0 rfl) ?_
  refine lv_iload_n (pc := 3) hx hb dzL_current_3 rfl (lv_at hl 1 rfl) ?_
  refine lv_iload_n (pc := 4) hx hb dzL_current_4 rfl (lv_at hl 2 rfl) ?_
  have hP9 : va_P G xk_cls ([(o, Sum.inl (ac 7, 1, Sum.inr (Sum.inl f)))] ++ xk_wU ad ac g) H := hP
  have hD9 : va_D A ([(o, Sum.inl (ac 7, 1, Sum.inr (Sum.inl f)))] ++ xk_wU ad ac g) := hD
  have hF := xk_freeAll (xw_DR hD9) hS hA
  refine xt_lands (h := 20) (E := "java/util/NoSuchElementException") (own := RzL) (ws := ((o, Sum.inl (ac 7, 1, Sum.inr (Sum.inl f))) :: xk_wU ad ac g)) (xt_runV (As := [.int k0, .int k1]) (rest := [.int 0, .ref o]) (pc := 5) hx hb hml hts hown hK (xw_PR hP9) (xw_DR hD9) hX hS hF hM vfzL_31 0 rfl rfl hrm hR rfl hl.1 rfl (Nat.le_of_ble_eq_true rfl) ⟨(Nat.le_of_ble_eq_true rfl), (Nat.le_of_ble_eq_true rfl)⟩ dzL_current_5) hts hown hN (hX.2.2.2.1 _ (by decide)) htab ["java/util/NoSuchElementException"] ⟨Nat.zero_le _, by decide, by decide, xk_m565, Or.inl ⟨rfl, rfl⟩⟩ hS hF (fun H1 hk h9 => (xw_putR hP9 hD9 rfl hk h9).1) (fun q H locs hP hS => ?_)
  refine lv_astore (lv' := [(4, .ref q), (0, .ref (ad 0)), (1, .int k0), (2, .int k1), (3, .ref o)]) (pc := 20) hx hb dzL_current_20 hl (by decide) rfl (fun ls hl => ?_)
  refine lv_iconst (v := 1) (pc := 22) hx hb dzL_current_22 (by decide) ?_
  exact hret 1 () H locs 23 1 6 ls (by decide) (by decide) hP hS rfl dzL_current_23

theorem sh_order : xt_SH xk_WS RzL 101 yzL_order czL_order 4 [(0, 9, 12, 13)] 3 := ⟨gWS, xk_m585, xk_m586, xk_m557, xk_m587, ⟨by decide, by decide⟩, by decide +kernel⟩
set_option maxHeartbeats 4000000 in
set_option maxRecDepth 100000 in
theorem hr_order {S : Type} (l : Launch) (G : va_G) (ac : Nat → ClassId) (ad : Nat → Nat) (g : xk_St) (o : Nat) (f : Nat → Int64) (k0 : Int32) (rm : Room) (post : Int32 → S → Prop) (w1 : S → va_W) (hM : xk_CI l yzU_order czU_order 3 .int xk_WS rm G xk_cls (xk_tys ac) [.ref (ad 0), .int k0] (xk_wU ad ac g) post w1) (hw1 : ∀ u, (w1 u).map Prod.fst = (xk_wU ad ac g).map Prod.fst) (hrm : rm.cells = 0 ∧ rm.slots = 0) (hR : rm.frames + 1 ≤ xt_rH.frames ∧ 8 + (3 + 11) + rm.locals ≤ xt_rH.locals) : xt_H l yzL_order czL_order 4 [(0, 9, 12, 13)] xk_WS xt_rH G xk_cls (xk_tys ac) RzU xk_tx xk_ex xk_NN [.ref (ad 0), .int k0, .ref o] ((o, Sum.inl (ac 7, 1, Sum.inr (Sum.inl f))) :: xk_wU ad ac g) (fun r (u : S × (Nat → Int64)) => r = 0 ∧ ∃ a : Int32, post a u.1 ∧ u.2 0 = a.toInt64) (fun u => (o, Sum.inl (ac 7, 1, Sum.inr (Sum.inl u.2))) :: w1 u.1) := by
  refine xt_ofH (by decide) (Nat.le_of_ble_eq_true rfl) ?_
  intro p e s m args below meth c A Q H locs ls C0 htab hX hN hret hP hD hS hl
  obtain ⟨hx, hb, hml, hts, hown, hK, hA⟩ := C0
  have hl : lv_has ls 4 [(0, .ref (ad 0)), (1, .int k0), (2, .ref o)] := hl
  refine lv_aload_n (pc := 0) hx hb dzL_order_0 rfl (lv_at hl 2 rfl) ?_
  refine lv_iconst (v := 0) (pc := 1) hx hb dzL_order_1 (by decide) ?_
  refine lv_aload_n (pc := 2) hx hb dzL_order_2 rfl (lv_at hl 0 rfl) ?_
  refine lv_iload_n (pc := 3) hx hb dzL_order_3 rfl (lv_at hl 1 rfl) ?_
  have hP9 : va_P G xk_cls ([(o, Sum.inl (ac 7, 1, Sum.inr (Sum.inl f)))] ++ xk_wU ad ac g) H := hP
  have hD9 : va_D A ([(o, Sum.inl (ac 7, 1, Sum.inr (Sum.inl f)))] ++ xk_wU ad ac g) := hD
  refine xw_VI (wc := (xk_wU ad ac g)) (As := [.int k0]) (rest := [.int 0, .ref o]) (H0 := s.heap) (pc := 4) hx hb hml hts hown hK hA (xw_PR hP9) (xw_DR hD9) hS hM vfzL_35 0 rfl rfl hrm hR rfl hl.1 rfl (Nat.le_of_ble_eq_true rfl) ⟨Nat.zero_le _, Nat.zero_le _⟩ dzL_order_4 (fun r u H locs hp hk hP1 hS => ?_)
  obtain ⟨hP, hD⟩ := xw_putR hP9 hD9 (hw1 u) hk hP1
  refine lv_i2l (v := r.toInt64) (pc := 7) hx hb dzL_order_7 rfl ?_
  refine va_last (ls := ls) (rest := []) (pc := 8) hx hb hK hP hD hS 0 7 rfl rfl (x := r.toInt64) (i := 0) (by unfold vp_in; decide) dzL_order_8 (fun H locs hP hD hS => ?_)
  refine lv_goto (tgt := 15) (pc := 9) hx hb dzL_order_9 (by decide) ?_
  refine lv_iconst (v := 0) (pc := 15) hx hb dzL_order_15 (by decide) ?_
  exact hret 0 (u, vp_updL f (0 : Int32).toNatClampNeg (r.toInt64)) H locs 16 0 0 ls (by decide) (by decide) hP hS ⟨rfl, r, hp, rfl⟩ dzL_order_16

set_option maxHeartbeats 4000000 in
set_option maxRecDepth 100000 in
theorem ht_order_NS (l : Launch) (G : va_G) (ac : Nat → ClassId) (ad : Nat → Nat) (g : xk_St) (o : Nat) (f : Nat → Int64) (k0 : Int32) (rm : Room) (hM : xt_C l yzU_order czU_order 3 (some .int) xk_WS rm G xk_cls (xk_tys ac) RzU xk_tx xk_ex [.ref (ad 0), .int k0] (xk_wU ad ac g) "java/util/NoSuchElementException") (hrm : rm.cells = 1 ∧ rm.slots = 6) (hR : rm.frames + 1 ≤ xt_rH.frames ∧ 8 + (3 + 11) + rm.locals ≤ xt_rH.locals) : xt_H l yzL_order czL_order 4 [(0, 9, 12, 13)] xk_WS xt_rH G xk_cls (xk_tys ac) RzU xk_tx xk_ex xk_NN [.ref (ad 0), .int k0, .ref o] ((o, Sum.inl (ac 7, 1, Sum.inr (Sum.inl f))) :: xk_wU ad ac g) (fun r (_ : Unit) => r = 1) (fun _ => ((o, Sum.inl (ac 7, 1, Sum.inr (Sum.inl f))) :: xk_wU ad ac g)) := by
  refine xt_ofH (by decide) (Nat.le_of_ble_eq_true rfl) ?_
  intro p e s m args below meth c A Q H locs ls C0 htab hX hN hret hP hD hS hl
  obtain ⟨hx, hb, hml, hts, hown, hK, hA⟩ := C0
  have hl : lv_has ls 4 [(0, .ref (ad 0)), (1, .int k0), (2, .ref o)] := hl
  refine lv_aload_n (pc := 0) hx hb dzL_order_0 rfl (lv_at hl 2 rfl) ?_
  refine lv_iconst (v := 0) (pc := 1) hx hb dzL_order_1 (by decide) ?_
  refine lv_aload_n (pc := 2) hx hb dzL_order_2 rfl (lv_at hl 0 rfl) ?_
  refine lv_iload_n (pc := 3) hx hb dzL_order_3 rfl (lv_at hl 1 rfl) ?_
  have hP9 : va_P G xk_cls ([(o, Sum.inl (ac 7, 1, Sum.inr (Sum.inl f)))] ++ xk_wU ad ac g) H := hP
  have hD9 : va_D A ([(o, Sum.inl (ac 7, 1, Sum.inr (Sum.inl f)))] ++ xk_wU ad ac g) := hD
  have hF := xk_freeAll (xw_DR hD9) hS hA
  refine xt_lands (h := 12) (E := "java/util/NoSuchElementException") (own := RzL) (ws := ((o, Sum.inl (ac 7, 1, Sum.inr (Sum.inl f))) :: xk_wU ad ac g)) (xt_runV (As := [.int k0]) (rest := [.int 0, .ref o]) (pc := 4) hx hb hml hts hown hK (xw_PR hP9) (xw_DR hD9) hX hS hF hM vfzL_35 0 rfl rfl hrm hR rfl hl.1 rfl (Nat.le_of_ble_eq_true rfl) ⟨(Nat.le_of_ble_eq_true rfl), (Nat.le_of_ble_eq_true rfl)⟩ dzL_order_4) hts hown hN (hX.2.2.2.1 _ (by decide)) htab ["java/util/NoSuchElementException"] ⟨Nat.zero_le _, by decide, by decide, xk_m565, Or.inl ⟨rfl, rfl⟩⟩ hS hF (fun H1 hk h9 => (xw_putR hP9 hD9 rfl hk h9).1) (fun q H locs hP hS => ?_)
  refine lv_astore_n (lv' := [(3, .ref q), (0, .ref (ad 0)), (1, .int k0), (2, .ref o)]) (pc := 12) hx hb dzL_order_12 rfl hl (by decide) rfl (fun ls hl => ?_)
  refine lv_iconst (v := 1) (pc := 13) hx hb dzL_order_13 (by decide) ?_
  exact hret 1 () H locs 14 1 6 ls (by decide) (by decide) hP hS rfl dzL_order_14

theorem sh_cancel : xt_SH xk_WS RzL 104 yzL_cancel czL_cancel 4 [(0, 16, 19, 13)] 3 := ⟨gWS, xk_m589, xk_m590, xk_m557, xk_m591, ⟨by decide, by decide⟩, by decide +kernel⟩
set_option maxHeartbeats 4000000 in
set_option maxRecDepth 100000 in
theorem hr_cancel {S : Type} (l : Launch) (G : va_G) (ac : Nat → ClassId) (ad : Nat → Nat) (g : xk_St) (o : Nat) (f : Nat → Int64) (k0 : Int32) (rm : Room) (post : Int32 → S → Prop) (w1 : S → va_W) (hM : xk_CI l yzU_cancel czU_cancel 4 .boolean xk_WS rm G xk_cls (xk_tys ac) [.ref (ad 0), .int k0] (xk_wU ad ac g) post w1) (hw1 : ∀ u, (w1 u).map Prod.fst = (xk_wU ad ac g).map Prod.fst) (hrm : rm.cells = 0 ∧ rm.slots = 0) (hR : rm.frames + 1 ≤ xt_rH.frames ∧ 8 + (4 + 11) + rm.locals ≤ xt_rH.locals) : xt_H l yzL_cancel czL_cancel 4 [(0, 16, 19, 13)] xk_WS xt_rH G xk_cls (xk_tys ac) RzU xk_tx xk_ex xk_NN [.ref (ad 0), .int k0, .ref o] ((o, Sum.inl (ac 7, 1, Sum.inr (Sum.inl f))) :: xk_wU ad ac g) (fun r (u : S × (Nat → Int64)) => r = 0 ∧ ∃ a : Int32, post a u.1 ∧ u.2 0 = (if a = 0 then 0 else 1)) (fun u => (o, Sum.inl (ac 7, 1, Sum.inr (Sum.inl u.2))) :: w1 u.1) := by
  refine xt_ofH (by decide) (Nat.le_of_ble_eq_true rfl) ?_
  intro p e s m args below meth c A Q H locs ls C0 htab hX hN hret hP hD hS hl
  obtain ⟨hx, hb, hml, hts, hown, hK, hA⟩ := C0
  have hl : lv_has ls 4 [(0, .ref (ad 0)), (1, .int k0), (2, .ref o)] := hl
  refine lv_aload_n (pc := 0) hx hb dzL_cancel_0 rfl (lv_at hl 2 rfl) ?_
  refine lv_iconst (v := 0) (pc := 1) hx hb dzL_cancel_1 (by decide) ?_
  refine lv_aload_n (pc := 2) hx hb dzL_cancel_2 rfl (lv_at hl 0 rfl) ?_
  refine lv_iload_n (pc := 3) hx hb dzL_cancel_3 rfl (lv_at hl 1 rfl) ?_
  have hP9 : va_P G xk_cls ([(o, Sum.inl (ac 7, 1, Sum.inr (Sum.inl f)))] ++ xk_wU ad ac g) H := hP
  have hD9 : va_D A ([(o, Sum.inl (ac 7, 1, Sum.inr (Sum.inl f)))] ++ xk_wU ad ac g) := hD
  refine xw_VI (wc := (xk_wU ad ac g)) (As := [.int k0]) (rest := [.int 0, .ref o]) (H0 := s.heap) (pc := 4) hx hb hml hts hown hK hA (xw_PR hP9) (xw_DR hD9) hS hM vfzL_38 0 rfl rfl hrm hR rfl hl.1 rfl (Nat.le_of_ble_eq_true rfl) ⟨Nat.zero_le _, Nat.zero_le _⟩ dzL_cancel_4 (fun r u H locs hp hk hP1 hS => ?_)
  obtain ⟨hP, hD⟩ := xw_putR hP9 hD9 (hw1 u) hk hP1
  refine lv_if_eq (pc := 7) (tgt := 14) hx hb dzL_cancel_7 (by decide) (fun hr0 => ?_) (fun hr0 => ?_)
  · refine lv_lconst (v := 0) (pc := 14) hx hb dzL_cancel_14 (by decide) ?_
    refine va_last (ls := ls) (rest := []) (pc := 15) hx hb hK hP hD hS 0 7 rfl rfl (x := 0) (i := 0) (by unfold vp_in; decide) dzL_cancel_15 (fun H locs hP hD hS => ?_)
    refine lv_goto (tgt := 22) (pc := 16) hx hb dzL_cancel_16 (by decide) ?_
    refine lv_iconst (v := 0) (pc := 22) hx hb dzL_cancel_22 (by decide) ?_
    exact hret 0 (u, vp_updL f (0 : Int32).toNatClampNeg (0)) H locs 23 0 0 ls (by decide) (by decide) hP hS ⟨rfl, r, hp, (if_pos hr0).symm⟩ dzL_cancel_23
  · refine lv_lconst (v := 1) (pc := 10) hx hb dzL_cancel_10 (by decide) ?_
    refine lv_goto (tgt := 15) (pc := 11) hx hb dzL_cancel_11 (by decide) ?_
    refine va_last (ls := ls) (rest := []) (pc := 15) hx hb hK hP hD hS 0 7 rfl rfl (x := 1) (i := 0) (by unfold vp_in; decide) dzL_cancel_15 (fun H locs hP hD hS => ?_)
    refine lv_goto (tgt := 22) (pc := 16) hx hb dzL_cancel_16 (by decide) ?_
    refine lv_iconst (v := 0) (pc := 22) hx hb dzL_cancel_22 (by decide) ?_
    exact hret 0 (u, vp_updL f (0 : Int32).toNatClampNeg (1)) H locs 23 0 0 ls (by decide) (by decide) hP hS ⟨rfl, r, hp, (if_neg hr0).symm⟩ dzL_cancel_23

set_option maxHeartbeats 4000000 in
set_option maxRecDepth 100000 in
theorem ht_cancel_NS (l : Launch) (G : va_G) (ac : Nat → ClassId) (ad : Nat → Nat) (g : xk_St) (o : Nat) (f : Nat → Int64) (k0 : Int32) (rm : Room) (hM : xt_C l yzU_cancel czU_cancel 4 (some .boolean) xk_WS rm G xk_cls (xk_tys ac) RzU xk_tx xk_ex [.ref (ad 0), .int k0] (xk_wU ad ac g) "java/util/NoSuchElementException") (hrm : rm.cells = 1 ∧ rm.slots = 6) (hR : rm.frames + 1 ≤ xt_rH.frames ∧ 8 + (4 + 11) + rm.locals ≤ xt_rH.locals) : xt_H l yzL_cancel czL_cancel 4 [(0, 16, 19, 13)] xk_WS xt_rH G xk_cls (xk_tys ac) RzU xk_tx xk_ex xk_NN [.ref (ad 0), .int k0, .ref o] ((o, Sum.inl (ac 7, 1, Sum.inr (Sum.inl f))) :: xk_wU ad ac g) (fun r (_ : Unit) => r = 1) (fun _ => ((o, Sum.inl (ac 7, 1, Sum.inr (Sum.inl f))) :: xk_wU ad ac g)) := by
  refine xt_ofH (by decide) (Nat.le_of_ble_eq_true rfl) ?_
  intro p e s m args below meth c A Q H locs ls C0 htab hX hN hret hP hD hS hl
  obtain ⟨hx, hb, hml, hts, hown, hK, hA⟩ := C0
  have hl : lv_has ls 4 [(0, .ref (ad 0)), (1, .int k0), (2, .ref o)] := hl
  refine lv_aload_n (pc := 0) hx hb dzL_cancel_0 rfl (lv_at hl 2 rfl) ?_
  refine lv_iconst (v := 0) (pc := 1) hx hb dzL_cancel_1 (by decide) ?_
  refine lv_aload_n (pc := 2) hx hb dzL_cancel_2 rfl (lv_at hl 0 rfl) ?_
  refine lv_iload_n (pc := 3) hx hb dzL_cancel_3 rfl (lv_at hl 1 rfl) ?_
  have hP9 : va_P G xk_cls ([(o, Sum.inl (ac 7, 1, Sum.inr (Sum.inl f)))] ++ xk_wU ad ac g) H := hP
  have hD9 : va_D A ([(o, Sum.inl (ac 7, 1, Sum.inr (Sum.inl f)))] ++ xk_wU ad ac g) := hD
  have hF := xk_freeAll (xw_DR hD9) hS hA
  refine xt_lands (h := 19) (E := "java/util/NoSuchElementException") (own := RzL) (ws := ((o, Sum.inl (ac 7, 1, Sum.inr (Sum.inl f))) :: xk_wU ad ac g)) (xt_runV (As := [.int k0]) (rest := [.int 0, .ref o]) (pc := 4) hx hb hml hts hown hK (xw_PR hP9) (xw_DR hD9) hX hS hF hM vfzL_38 0 rfl rfl hrm hR rfl hl.1 rfl (Nat.le_of_ble_eq_true rfl) ⟨(Nat.le_of_ble_eq_true rfl), (Nat.le_of_ble_eq_true rfl)⟩ dzL_cancel_4) hts hown hN (hX.2.2.2.1 _ (by decide)) htab ["java/util/NoSuchElementException"] ⟨Nat.zero_le _, by decide, by decide, xk_m565, Or.inl ⟨rfl, rfl⟩⟩ hS hF (fun H1 hk h9 => (xw_putR hP9 hD9 rfl hk h9).1) (fun q H locs hP hS => ?_)
  refine lv_astore_n (lv' := [(3, .ref q), (0, .ref (ad 0)), (1, .int k0), (2, .ref o)]) (pc := 19) hx hb dzL_cancel_19 rfl hl (by decide) rfl (fun ls hl => ?_)
  refine lv_iconst (v := 1) (pc := 20) hx hb dzL_cancel_20 (by decide) ?_
  exact hret 1 () H locs 21 1 6 ls (by decide) (by decide) hP hS rfl dzL_cancel_21

theorem sh_ask : xt_SH xk_WS RzL 107 yzL_ask czL_ask 5 [(0, 7, 10, 13), (0, 7, 14, 17)] 4 := ⟨gWS, xk_m593, xk_m594, xk_m557, xk_m595, ⟨by decide, by decide⟩, by decide +kernel⟩
set_option maxHeartbeats 4000000 in
set_option maxRecDepth 100000 in
theorem hr_ask {S : Type} (l : Launch) (G : va_G) (ac : Nat → ClassId) (ad : Nat → Nat) (g : xk_St) (k0 k1 k2 : Int32) (rm : Room) (post : S → Prop) (w1 : S → va_W) (hM : xk_CV l yzU_ask czU_ask 5 xk_WS rm G xk_cls (xk_tys ac) [.ref (ad 0), .int k0, .int k1, .int k2] (xk_wU ad ac g) post w1) (hw1 : ∀ u, (w1 u).map Prod.fst = (xk_wU ad ac g).map Prod.fst) (hrm : rm.cells = 0 ∧ rm.slots = 0) (hR : rm.frames + 1 ≤ xt_rH.frames ∧ 8 + (5 + 11) + rm.locals ≤ xt_rH.locals) : xt_H l yzL_ask czL_ask 5 [(0, 7, 10, 13), (0, 7, 14, 17)] xk_WS xt_rH G xk_cls (xk_tys ac) RzU xk_tx xk_ex xk_NN [.ref (ad 0), .int k0, .int k1, .int k2] (xk_wU ad ac g) (fun r u => r = 0 ∧ post u) w1 := by
  refine xt_ofH (by decide) (Nat.le_of_ble_eq_true rfl) ?_
  intro p e s m args below meth c A Q H locs ls C0 htab hX hN hret hP hD hS hl
  obtain ⟨hx, hb, hml, hts, hown, hK, hA⟩ := C0
  have hl : lv_has ls 5 [(0, .ref (ad 0)), (1, .int k0), (2, .int k1), (3, .int k2)] := hl
  refine lv_aload_n (pc := 0) hx hb dzL_ask_0 rfl (lv_at hl 0 rfl) ?_
  refine lv_iload_n (pc := 1) hx hb dzL_ask_1 rfl (lv_at hl 1 rfl) ?_
  refine lv_iload_n (pc := 2) hx hb dzL_ask_2 rfl (lv_at hl 2 rfl) ?_
  refine lv_iload_n (pc := 3) hx hb dzL_ask_3 rfl (lv_at hl 3 rfl) ?_
  refine xw_VV (As := [.int k0, .int k1, .int k2]) (rest := []) (H0 := s.heap) (pc := 4) hx hb hml hts hown hK hA hP hD hS hM vfzL_42 0 rfl rfl hrm hR rfl hl.1 rfl (Nat.le_of_ble_eq_true rfl) ⟨Nat.zero_le _, Nat.zero_le _⟩ dzL_ask_4 (fun u H locs hp hk hP hS => ?_)
  refine lv_goto (tgt := 18) (pc := 7) hx hb dzL_ask_7 (by decide) ?_
  refine lv_iconst (v := 0) (pc := 18) hx hb dzL_ask_18 (by decide) ?_
  exact hret 0 u H locs 19 0 0 ls (by decide) (by decide) hP hS ⟨rfl, hp⟩ dzL_ask_19

set_option maxHeartbeats 4000000 in
set_option maxRecDepth 100000 in
theorem ht_ask_NS (l : Launch) (G : va_G) (ac : Nat → ClassId) (ad : Nat → Nat) (g : xk_St) (k0 k1 k2 : Int32) (rm : Room) (hM : xt_C l yzU_ask czU_ask 5 none xk_WS rm G xk_cls (xk_tys ac) RzU xk_tx xk_ex [.ref (ad 0), .int k0, .int k1, .int k2] (xk_wU ad ac g) "java/util/NoSuchElementException") (hrm : rm.cells = 1 ∧ rm.slots = 6) (hR : rm.frames + 1 ≤ xt_rH.frames ∧ 8 + (5 + 11) + rm.locals ≤ xt_rH.locals) : xt_H l yzL_ask czL_ask 5 [(0, 7, 10, 13), (0, 7, 14, 17)] xk_WS xt_rH G xk_cls (xk_tys ac) RzU xk_tx xk_ex xk_NN [.ref (ad 0), .int k0, .int k1, .int k2] (xk_wU ad ac g) (fun r (_ : Unit) => r = 1) (fun _ => (xk_wU ad ac g)) := by
  refine xt_ofH (by decide) (Nat.le_of_ble_eq_true rfl) ?_
  intro p e s m args below meth c A Q H locs ls C0 htab hX hN hret hP hD hS hl
  obtain ⟨hx, hb, hml, hts, hown, hK, hA⟩ := C0
  have hl : lv_has ls 5 [(0, .ref (ad 0)), (1, .int k0), (2, .int k1), (3, .int k2)] := hl
  refine lv_aload_n (pc := 0) hx hb dzL_ask_0 rfl (lv_at hl 0 rfl) ?_
  refine lv_iload_n (pc := 1) hx hb dzL_ask_1 rfl (lv_at hl 1 rfl) ?_
  refine lv_iload_n (pc := 2) hx hb dzL_ask_2 rfl (lv_at hl 2 rfl) ?_
  refine lv_iload_n (pc := 3) hx hb dzL_ask_3 rfl (lv_at hl 3 rfl) ?_
  have hF := xk_freeAll hD hS hA
  refine xt_lands (h := 10) (E := "java/util/NoSuchElementException") (own := RzL) (ws := (xk_wU ad ac g)) (xt_runV (As := [.int k0, .int k1, .int k2]) (rest := []) (pc := 4) hx hb hml hts hown hK hP hD hX hS hF hM vfzL_42 0 rfl rfl hrm hR rfl hl.1 rfl (Nat.le_of_ble_eq_true rfl) ⟨(Nat.le_of_ble_eq_true rfl), (Nat.le_of_ble_eq_true rfl)⟩ dzL_ask_4) hts hown hN (hX.2.2.2.1 _ (by decide)) htab ["java/util/NoSuchElementException", "java/lang/IllegalStateException"] ⟨Nat.zero_le _, by decide, by decide, xk_m565, Or.inl ⟨rfl, rfl⟩⟩ hS hF (fun _ _ h9 => h9) (fun q H locs hP hS => ?_)
  refine lv_astore (lv' := [(4, .ref q), (0, .ref (ad 0)), (1, .int k0), (2, .int k1), (3, .int k2)]) (pc := 10) hx hb dzL_ask_10 hl (by decide) rfl (fun ls hl => ?_)
  refine lv_iconst (v := 1) (pc := 12) hx hb dzL_ask_12 (by decide) ?_
  exact hret 1 () H locs 13 1 6 ls (by decide) (by decide) hP hS rfl dzL_ask_13

set_option maxHeartbeats 4000000 in
set_option maxRecDepth 100000 in
theorem ht_ask_IS (l : Launch) (G : va_G) (ac : Nat → ClassId) (ad : Nat → Nat) (g : xk_St) (k0 k1 k2 : Int32) (rm : Room) (hM : xt_C l yzU_ask czU_ask 5 none xk_WS rm G xk_cls (xk_tys ac) RzU xk_tx xk_ex [.ref (ad 0), .int k0, .int k1, .int k2] (xk_wU ad ac g) "java/lang/IllegalStateException") (hrm : rm.cells = 1 ∧ rm.slots = 6) (hR : rm.frames + 1 ≤ xt_rH.frames ∧ 8 + (5 + 11) + rm.locals ≤ xt_rH.locals) : xt_H l yzL_ask czL_ask 5 [(0, 7, 10, 13), (0, 7, 14, 17)] xk_WS xt_rH G xk_cls (xk_tys ac) RzU xk_tx xk_ex xk_NN [.ref (ad 0), .int k0, .int k1, .int k2] (xk_wU ad ac g) (fun r (_ : Unit) => r = 2) (fun _ => (xk_wU ad ac g)) := by
  refine xt_ofH (by decide) (Nat.le_of_ble_eq_true rfl) ?_
  intro p e s m args below meth c A Q H locs ls C0 htab hX hN hret hP hD hS hl
  obtain ⟨hx, hb, hml, hts, hown, hK, hA⟩ := C0
  have hl : lv_has ls 5 [(0, .ref (ad 0)), (1, .int k0), (2, .int k1), (3, .int k2)] := hl
  refine lv_aload_n (pc := 0) hx hb dzL_ask_0 rfl (lv_at hl 0 rfl) ?_
  refine lv_iload_n (pc := 1) hx hb dzL_ask_1 rfl (lv_at hl 1 rfl) ?_
  refine lv_iload_n (pc := 2) hx hb dzL_ask_2 rfl (lv_at hl 2 rfl) ?_
  refine lv_iload_n (pc := 3) hx hb dzL_ask_3 rfl (lv_at hl 3 rfl) ?_
  have hF := xk_freeAll hD hS hA
  refine xt_lands (h := 14) (E := "java/lang/IllegalStateException") (own := RzL) (ws := (xk_wU ad ac g)) (xt_runV (As := [.int k0, .int k1, .int k2]) (rest := []) (pc := 4) hx hb hml hts hown hK hP hD hX hS hF hM vfzL_42 0 rfl rfl hrm hR rfl hl.1 rfl (Nat.le_of_ble_eq_true rfl) ⟨(Nat.le_of_ble_eq_true rfl), (Nat.le_of_ble_eq_true rfl)⟩ dzL_ask_4) hts hown hN (hX.2.2.2.1 _ (by decide)) htab ["java/util/NoSuchElementException", "java/lang/IllegalStateException"] ⟨Nat.zero_le _, by decide, by decide, xk_m565, Or.inr ⟨by decide, ⟨Nat.zero_le _, by decide, by decide, xk_m567, Or.inl ⟨rfl, rfl⟩⟩⟩⟩ hS hF (fun _ _ h9 => h9) (fun q H locs hP hS => ?_)
  refine lv_astore (lv' := [(4, .ref q), (0, .ref (ad 0)), (1, .int k0), (2, .int k1), (3, .int k2)]) (pc := 14) hx hb dzL_ask_14 hl (by decide) rfl (fun ls hl => ?_)
  refine lv_iconst (v := 2) (pc := 16) hx hb dzL_ask_16 (by decide) ?_
  exact hret 2 () H locs 17 1 6 ls (by decide) (by decide) hP hS rfl dzL_ask_17

theorem sh_confirm : xt_SH xk_WS RzL 110 yzL_confirm czL_confirm 6 [(0, 19, 22, 13), (0, 19, 26, 17)] 5 := ⟨gWS, xk_m597, xk_m598, xk_m557, xk_m599, ⟨by decide, by decide⟩, by decide +kernel⟩
set_option maxHeartbeats 4000000 in
set_option maxRecDepth 100000 in
theorem hr_confirm {S : Type} (l : Launch) (G : va_G) (ac : Nat → ClassId) (ad : Nat → Nat) (g : xk_St) (o : Nat) (f : Nat → Int64) (k0 k1 k2 : Int32) (rm : Room) (post : Int32 → S → Prop) (w1 : S → va_W) (hM : xk_CI l yzU_confirm czU_confirm 5 .boolean xk_WS rm G xk_cls (xk_tys ac) [.ref (ad 0), .int k0, .int k1, .int k2] (xk_wU ad ac g) post w1) (hw1 : ∀ u, (w1 u).map Prod.fst = (xk_wU ad ac g).map Prod.fst) (hrm : rm.cells = 0 ∧ rm.slots = 0) (hR : rm.frames + 1 ≤ xt_rH.frames ∧ 8 + (5 + 11) + rm.locals ≤ xt_rH.locals) : xt_H l yzL_confirm czL_confirm 6 [(0, 19, 22, 13), (0, 19, 26, 17)] xk_WS xt_rH G xk_cls (xk_tys ac) RzU xk_tx xk_ex xk_NN [.ref (ad 0), .int k0, .int k1, .int k2, .ref o] ((o, Sum.inl (ac 7, 1, Sum.inr (Sum.inl f))) :: xk_wU ad ac g) (fun r (u : S × (Nat → Int64)) => r = 0 ∧ ∃ a : Int32, post a u.1 ∧ u.2 0 = (if a = 0 then 0 else 1)) (fun u => (o, Sum.inl (ac 7, 1, Sum.inr (Sum.inl u.2))) :: w1 u.1) := by
  refine xt_ofH (by decide) (Nat.le_of_ble_eq_true rfl) ?_
  intro p e s m args below meth c A Q H locs ls C0 htab hX hN hret hP hD hS hl
  obtain ⟨hx, hb, hml, hts, hown, hK, hA⟩ := C0
  have hl : lv_has ls 6 [(0, .ref (ad 0)), (1, .int k0), (2, .int k1), (3, .int k2), (4, .ref o)] := hl
  refine lv_aload (pc := 0) hx hb dzL_confirm_0 (lv_at hl 4 rfl) ?_
  refine lv_iconst (v := 0) (pc := 2) hx hb dzL_confirm_2 (by decide) ?_
  refine lv_aload_n (pc := 3) hx hb dzL_confirm_3 rfl (lv_at hl 0 rfl) ?_
  refine lv_iload_n (pc := 4) hx hb dzL_confirm_4 rfl (lv_at hl 1 rfl) ?_
  refine lv_iload_n (pc := 5) hx hb dzL_confirm_5 rfl (lv_at hl 2 rfl) ?_
  refine lv_iload_n (pc := 6) hx hb dzL_confirm_6 rfl (lv_at hl 3 rfl) ?_
  have hP9 : va_P G xk_cls ([(o, Sum.inl (ac 7, 1, Sum.inr (Sum.inl f)))] ++ xk_wU ad ac g) H := hP
  have hD9 : va_D A ([(o, Sum.inl (ac 7, 1, Sum.inr (Sum.inl f)))] ++ xk_wU ad ac g) := hD
  refine xw_VI (wc := (xk_wU ad ac g)) (As := [.int k0, .int k1, .int k2]) (rest := [.int 0, .ref o]) (H0 := s.heap) (pc := 7) hx hb hml hts hown hK hA (xw_PR hP9) (xw_DR hD9) hS hM vfzL_45 0 rfl rfl hrm hR rfl hl.1 rfl (Nat.le_of_ble_eq_true rfl) ⟨Nat.zero_le _, Nat.zero_le _⟩ dzL_confirm_7 (fun r u H locs hp hk hP1 hS => ?_)
  obtain ⟨hP, hD⟩ := xw_putR hP9 hD9 (hw1 u) hk hP1
  refine lv_if_eq (pc := 10) (tgt := 17) hx hb dzL_confirm_10 (by decide) (fun hr0 => ?_) (fun hr0 => ?_)
  · refine lv_lconst (v := 0) (pc := 17) hx hb dzL_confirm_17 (by decide) ?_
    refine va_last (ls := ls) (rest := []) (pc := 18) hx hb hK hP hD hS 0 7 rfl rfl (x := 0) (i := 0) (by unfold vp_in; decide) dzL_confirm_18 (fun H locs hP hD hS => ?_)
    refine lv_goto (tgt := 30) (pc := 19) hx hb dzL_confirm_19 (by decide) ?_
    refine lv_iconst (v := 0) (pc := 30) hx hb dzL_confirm_30 (by decide) ?_
    exact hret 0 (u, vp_updL f (0 : Int32).toNatClampNeg (0)) H locs 31 0 0 ls (by decide) (by decide) hP hS ⟨rfl, r, hp, (if_pos hr0).symm⟩ dzL_confirm_31
  · refine lv_lconst (v := 1) (pc := 13) hx hb dzL_confirm_13 (by decide) ?_
    refine lv_goto (tgt := 18) (pc := 14) hx hb dzL_confirm_14 (by decide) ?_
    refine va_last (ls := ls) (rest := []) (pc := 18) hx hb hK hP hD hS 0 7 rfl rfl (x := 1) (i := 0) (by unfold vp_in; decide) dzL_confirm_18 (fun H locs hP hD hS => ?_)
    refine lv_goto (tgt := 30) (pc := 19) hx hb dzL_confirm_19 (by decide) ?_
    refine lv_iconst (v := 0) (pc := 30) hx hb dzL_confirm_30 (by decide) ?_
    exact hret 0 (u, vp_updL f (0 : Int32).toNatClampNeg (1)) H locs 31 0 0 ls (by decide) (by decide) hP hS ⟨rfl, r, hp, (if_neg hr0).symm⟩ dzL_confirm_31

set_option maxHeartbeats 4000000 in
set_option maxRecDepth 100000 in
theorem ht_confirm_NS (l : Launch) (G : va_G) (ac : Nat → ClassId) (ad : Nat → Nat) (g : xk_St) (o : Nat) (f : Nat → Int64) (k0 k1 k2 : Int32) (rm : Room) (hM : xt_C l yzU_confirm czU_confirm 5 (some .boolean) xk_WS rm G xk_cls (xk_tys ac) RzU xk_tx xk_ex [.ref (ad 0), .int k0, .int k1, .int k2] (xk_wU ad ac g) "java/util/NoSuchElementException") (hrm : rm.cells = 1 ∧ rm.slots = 6) (hR : rm.frames + 1 ≤ xt_rH.frames ∧ 8 + (5 + 11) + rm.locals ≤ xt_rH.locals) : xt_H l yzL_confirm czL_confirm 6 [(0, 19, 22, 13), (0, 19, 26, 17)] xk_WS xt_rH G xk_cls (xk_tys ac) RzU xk_tx xk_ex xk_NN [.ref (ad 0), .int k0, .int k1, .int k2, .ref o] ((o, Sum.inl (ac 7, 1, Sum.inr (Sum.inl f))) :: xk_wU ad ac g) (fun r (_ : Unit) => r = 1) (fun _ => ((o, Sum.inl (ac 7, 1, Sum.inr (Sum.inl f))) :: xk_wU ad ac g)) := by
  refine xt_ofH (by decide) (Nat.le_of_ble_eq_true rfl) ?_
  intro p e s m args below meth c A Q H locs ls C0 htab hX hN hret hP hD hS hl
  obtain ⟨hx, hb, hml, hts, hown, hK, hA⟩ := C0
  have hl : lv_has ls 6 [(0, .ref (ad 0)), (1, .int k0), (2, .int k1), (3, .int k2), (4, .ref o)] := hl
  refine lv_aload (pc := 0) hx hb dzL_confirm_0 (lv_at hl 4 rfl) ?_
  refine lv_iconst (v := 0) (pc := 2) hx hb dzL_confirm_2 (by decide) ?_
  refine lv_aload_n (pc := 3) hx hb dzL_confirm_3 rfl (lv_at hl 0 rfl) ?_
  refine lv_iload_n (pc := 4) hx hb dzL_confirm_4 rfl (lv_at hl 1 rfl) ?_
  refine lv_iload_n (pc := 5) hx hb dzL_confirm_5 rfl (lv_at hl 2 rfl) ?_
  refine lv_iload_n (pc := 6) hx hb dzL_confirm_6 rfl (lv_at hl 3 rfl) ?_
  have hP9 : va_P G xk_cls ([(o, Sum.inl (ac 7, 1, Sum.inr (Sum.inl f)))] ++ xk_wU ad ac g) H := hP
  have hD9 : va_D A ([(o, Sum.inl (ac 7, 1, Sum.inr (Sum.inl f)))] ++ xk_wU ad ac g) := hD
  have hF := xk_freeAll (xw_DR hD9) hS hA
  refine xt_lands (h := 22) (E := "java/util/NoSuchElementException") (own := RzL) (ws := ((o, Sum.inl (ac 7, 1, Sum.inr (Sum.inl f))) :: xk_wU ad ac g)) (xt_runV (As := [.int k0, .int k1, .int k2]) (rest := [.int 0, .ref o]) (pc := 7) hx hb hml hts hown hK (xw_PR hP9) (xw_DR hD9) hX hS hF hM vfzL_45 0 rfl rfl hrm hR rfl hl.1 rfl (Nat.le_of_ble_eq_true rfl) ⟨(Nat.le_of_ble_eq_true rfl), (Nat.le_of_ble_eq_true rfl)⟩ dzL_confirm_7) hts hown hN (hX.2.2.2.1 _ (by decide)) htab ["java/util/NoSuchElementException", "java/lang/IllegalStateException"] ⟨Nat.zero_le _, by decide, by decide, xk_m565, Or.inl ⟨rfl, rfl⟩⟩ hS hF (fun H1 hk h9 => (xw_putR hP9 hD9 rfl hk h9).1) (fun q H locs hP hS => ?_)
  refine lv_astore (lv' := [(5, .ref q), (0, .ref (ad 0)), (1, .int k0), (2, .int k1), (3, .int k2), (4, .ref o)]) (pc := 22) hx hb dzL_confirm_22 hl (by decide) rfl (fun ls hl => ?_)
  refine lv_iconst (v := 1) (pc := 24) hx hb dzL_confirm_24 (by decide) ?_
  exact hret 1 () H locs 25 1 6 ls (by decide) (by decide) hP hS rfl dzL_confirm_25

set_option maxHeartbeats 4000000 in
set_option maxRecDepth 100000 in
theorem ht_confirm_IS (l : Launch) (G : va_G) (ac : Nat → ClassId) (ad : Nat → Nat) (g : xk_St) (o : Nat) (f : Nat → Int64) (k0 k1 k2 : Int32) (rm : Room) (hM : xt_C l yzU_confirm czU_confirm 5 (some .boolean) xk_WS rm G xk_cls (xk_tys ac) RzU xk_tx xk_ex [.ref (ad 0), .int k0, .int k1, .int k2] (xk_wU ad ac g) "java/lang/IllegalStateException") (hrm : rm.cells = 1 ∧ rm.slots = 6) (hR : rm.frames + 1 ≤ xt_rH.frames ∧ 8 + (5 + 11) + rm.locals ≤ xt_rH.locals) : xt_H l yzL_confirm czL_confirm 6 [(0, 19, 22, 13), (0, 19, 26, 17)] xk_WS xt_rH G xk_cls (xk_tys ac) RzU xk_tx xk_ex xk_NN [.ref (ad 0), .int k0, .int k1, .int k2, .ref o] ((o, Sum.inl (ac 7, 1, Sum.inr (Sum.inl f))) :: xk_wU ad ac g) (fun r (_ : Unit) => r = 2) (fun _ => ((o, Sum.inl (ac 7, 1, Sum.inr (Sum.inl f))) :: xk_wU ad ac g)) := by
  refine xt_ofH (by decide) (Nat.le_of_ble_eq_true rfl) ?_
  intro p e s m args below meth c A Q H locs ls C0 htab hX hN hret hP hD hS hl
  obtain ⟨hx, hb, hml, hts, hown, hK, hA⟩ := C0
  have hl : lv_has ls 6 [(0, .ref (ad 0)), (1, .int k0), (2, .int k1), (3, .int k2), (4, .ref o)] := hl
  refine lv_aload (pc := 0) hx hb dzL_confirm_0 (lv_at hl 4 rfl) ?_
  refine lv_iconst (v := 0) (pc := 2) hx hb dzL_confirm_2 (by decide) ?_
  refine lv_aload_n (pc := 3) hx hb dzL_confirm_3 rfl (lv_at hl 0 rfl) ?_
  refine lv_iload_n (pc := 4) hx hb dzL_confirm_4 rfl (lv_at hl 1 rfl) ?_
  refine lv_iload_n (pc := 5) hx hb dzL_confirm_5 rfl (lv_at hl 2 rfl) ?_
  refine lv_iload_n (pc := 6) hx hb dzL_confirm_6 rfl (lv_at hl 3 rfl) ?_
  have hP9 : va_P G xk_cls ([(o, Sum.inl (ac 7, 1, Sum.inr (Sum.inl f)))] ++ xk_wU ad ac g) H := hP
  have hD9 : va_D A ([(o, Sum.inl (ac 7, 1, Sum.inr (Sum.inl f)))] ++ xk_wU ad ac g) := hD
  have hF := xk_freeAll (xw_DR hD9) hS hA
  refine xt_lands (h := 26) (E := "java/lang/IllegalStateException") (own := RzL) (ws := ((o, Sum.inl (ac 7, 1, Sum.inr (Sum.inl f))) :: xk_wU ad ac g)) (xt_runV (As := [.int k0, .int k1, .int k2]) (rest := [.int 0, .ref o]) (pc := 7) hx hb hml hts hown hK (xw_PR hP9) (xw_DR hD9) hX hS hF hM vfzL_45 0 rfl rfl hrm hR rfl hl.1 rfl (Nat.le_of_ble_eq_true rfl) ⟨(Nat.le_of_ble_eq_true rfl), (Nat.le_of_ble_eq_true rfl)⟩ dzL_confirm_7) hts hown hN (hX.2.2.2.1 _ (by decide)) htab ["java/util/NoSuchElementException", "java/lang/IllegalStateException"] ⟨Nat.zero_le _, by decide, by decide, xk_m565, Or.inr ⟨by decide, ⟨Nat.zero_le _, by decide, by decide, xk_m567, Or.inl ⟨rfl, rfl⟩⟩⟩⟩ hS hF (fun H1 hk h9 => (xw_putR hP9 hD9 rfl hk h9).1) (fun q H locs hP hS => ?_)
  refine lv_astore (lv' := [(5, .ref q), (0, .ref (ad 0)), (1, .int k0), (2, .int k1), (3, .int k2), (4, .ref o)]) (pc := 26) hx hb dzL_confirm_26 hl (by decide) rfl (fun ls hl => ?_)
  refine lv_iconst (v := 2) (pc := 28) hx hb dzL_confirm_28 (by decide) ?_
  exact hret 2 () H locs 29 1 6 ls (by decide) (by decide) hP hS rfl dzL_confirm_29

theorem sh_section : xt_SH xk_WS RzL 114 yzL_section czL_section 6 [(0, 12, 15, 13), (0, 12, 19, 15)] 5 := ⟨gWS, xk_m601, xk_m602, xk_m557, xk_m603, ⟨by decide, by decide⟩, by decide +kernel⟩
set_option maxHeartbeats 4000000 in
set_option maxRecDepth 100000 in
theorem hr_section {S : Type} (l : Launch) (G : va_G) (ac : Nat → ClassId) (ad : Nat → Nat) (g : xk_St) (o : Nat) (f : Nat → Int64) (k0 k1 k2 : Int32) (rm : Room) (post : Int32 → S → Prop) (w1 : S → va_W) (hM : xk_CI l yzU_section czU_section 5 .int xk_WS rm G xk_cls (xk_tys ac) [.ref (ad 0), .int k0, .int k1, .int k2] (xk_wU ad ac g) post w1) (hw1 : ∀ u, (w1 u).map Prod.fst = (xk_wU ad ac g).map Prod.fst) (hrm : rm.cells = 0 ∧ rm.slots = 0) (hR : rm.frames + 1 ≤ xt_rH.frames ∧ 8 + (5 + 11) + rm.locals ≤ xt_rH.locals) : xt_H l yzL_section czL_section 6 [(0, 12, 15, 13), (0, 12, 19, 15)] xk_WS xt_rH G xk_cls (xk_tys ac) RzU xk_tx xk_ex xk_NN [.ref (ad 0), .int k0, .int k1, .int k2, .ref o] ((o, Sum.inl (ac 7, 1, Sum.inr (Sum.inl f))) :: xk_wU ad ac g) (fun r (u : S × (Nat → Int64)) => r = 0 ∧ ∃ a : Int32, post a u.1 ∧ u.2 0 = a.toInt64) (fun u => (o, Sum.inl (ac 7, 1, Sum.inr (Sum.inl u.2))) :: w1 u.1) := by
  refine xt_ofH (by decide) (Nat.le_of_ble_eq_true rfl) ?_
  intro p e s m args below meth c A Q H locs ls C0 htab hX hN hret hP hD hS hl
  obtain ⟨hx, hb, hml, hts, hown, hK, hA⟩ := C0
  have hl : lv_has ls 6 [(0, .ref (ad 0)), (1, .int k0), (2, .int k1), (3, .int k2), (4, .ref o)] := hl
  refine lv_aload (pc := 0) hx hb dzL_section_0 (lv_at hl 4 rfl) ?_
  refine lv_iconst (v := 0) (pc := 2) hx hb dzL_section_2 (by decide) ?_
  refine lv_aload_n (pc := 3) hx hb dzL_section_3 rfl (lv_at hl 0 rfl) ?_
  refine lv_iload_n (pc := 4) hx hb dzL_section_4 rfl (lv_at hl 1 rfl) ?_
  refine lv_iload_n (pc := 5) hx hb dzL_section_5 rfl (lv_at hl 2 rfl) ?_
  refine lv_iload_n (pc := 6) hx hb dzL_section_6 rfl (lv_at hl 3 rfl) ?_
  have hP9 : va_P G xk_cls ([(o, Sum.inl (ac 7, 1, Sum.inr (Sum.inl f)))] ++ xk_wU ad ac g) H := hP
  have hD9 : va_D A ([(o, Sum.inl (ac 7, 1, Sum.inr (Sum.inl f)))] ++ xk_wU ad ac g) := hD
  refine xw_VI (wc := (xk_wU ad ac g)) (As := [.int k0, .int k1, .int k2]) (rest := [.int 0, .ref o]) (H0 := s.heap) (pc := 7) hx hb hml hts hown hK hA (xw_PR hP9) (xw_DR hD9) hS hM vfzL_49 0 rfl rfl hrm hR rfl hl.1 rfl (Nat.le_of_ble_eq_true rfl) ⟨Nat.zero_le _, Nat.zero_le _⟩ dzL_section_7 (fun r u H locs hp hk hP1 hS => ?_)
  obtain ⟨hP, hD⟩ := xw_putR hP9 hD9 (hw1 u) hk hP1
  refine lv_i2l (v := r.toInt64) (pc := 10) hx hb dzL_section_10 rfl ?_
  refine va_last (ls := ls) (rest := []) (pc := 11) hx hb hK hP hD hS 0 7 rfl rfl (x := r.toInt64) (i := 0) (by unfold vp_in; decide) dzL_section_11 (fun H locs hP hD hS => ?_)
  refine lv_goto (tgt := 23) (pc := 12) hx hb dzL_section_12 (by decide) ?_
  refine lv_iconst (v := 0) (pc := 23) hx hb dzL_section_23 (by decide) ?_
  exact hret 0 (u, vp_updL f (0 : Int32).toNatClampNeg (r.toInt64)) H locs 24 0 0 ls (by decide) (by decide) hP hS ⟨rfl, r, hp, rfl⟩ dzL_section_24

set_option maxHeartbeats 4000000 in
set_option maxRecDepth 100000 in
theorem ht_section_NS (l : Launch) (G : va_G) (ac : Nat → ClassId) (ad : Nat → Nat) (g : xk_St) (o : Nat) (f : Nat → Int64) (k0 k1 k2 : Int32) (rm : Room) (hM : xt_C l yzU_section czU_section 5 (some .int) xk_WS rm G xk_cls (xk_tys ac) RzU xk_tx xk_ex [.ref (ad 0), .int k0, .int k1, .int k2] (xk_wU ad ac g) "java/util/NoSuchElementException") (hrm : rm.cells = 1 ∧ rm.slots = 6) (hR : rm.frames + 1 ≤ xt_rH.frames ∧ 8 + (5 + 11) + rm.locals ≤ xt_rH.locals) : xt_H l yzL_section czL_section 6 [(0, 12, 15, 13), (0, 12, 19, 15)] xk_WS xt_rH G xk_cls (xk_tys ac) RzU xk_tx xk_ex xk_NN [.ref (ad 0), .int k0, .int k1, .int k2, .ref o] ((o, Sum.inl (ac 7, 1, Sum.inr (Sum.inl f))) :: xk_wU ad ac g) (fun r (_ : Unit) => r = 1) (fun _ => ((o, Sum.inl (ac 7, 1, Sum.inr (Sum.inl f))) :: xk_wU ad ac g)) := by
  refine xt_ofH (by decide) (Nat.le_of_ble_eq_true rfl) ?_
  intro p e s m args below meth c A Q H locs ls C0 htab hX hN hret hP hD hS hl
  obtain ⟨hx, hb, hml, hts, hown, hK, hA⟩ := C0
  have hl : lv_has ls 6 [(0, .ref (ad 0)), (1, .int k0), (2, .int k1), (3, .int k2), (4, .ref o)] := hl
  refine lv_aload (pc := 0) hx hb dzL_section_0 (lv_at hl 4 rfl) ?_
  refine lv_iconst (v := 0) (pc := 2) hx hb dzL_section_2 (by decide) ?_
  refine lv_aload_n (pc := 3) hx hb dzL_section_3 rfl (lv_at hl 0 rfl) ?_
  refine lv_iload_n (pc := 4) hx hb dzL_section_4 rfl (lv_at hl 1 rfl) ?_
  refine lv_iload_n (pc := 5) hx hb dzL_section_5 rfl (lv_at hl 2 rfl) ?_
  refine lv_iload_n (pc := 6) hx hb dzL_section_6 rfl (lv_at hl 3 rfl) ?_
  have hP9 : va_P G xk_cls ([(o, Sum.inl (ac 7, 1, Sum.inr (Sum.inl f)))] ++ xk_wU ad ac g) H := hP
  have hD9 : va_D A ([(o, Sum.inl (ac 7, 1, Sum.inr (Sum.inl f)))] ++ xk_wU ad ac g) := hD
  have hF := xk_freeAll (xw_DR hD9) hS hA
  refine xt_lands (h := 15) (E := "java/util/NoSuchElementException") (own := RzL) (ws := ((o, Sum.inl (ac 7, 1, Sum.inr (Sum.inl f))) :: xk_wU ad ac g)) (xt_runV (As := [.int k0, .int k1, .int k2]) (rest := [.int 0, .ref o]) (pc := 7) hx hb hml hts hown hK (xw_PR hP9) (xw_DR hD9) hX hS hF hM vfzL_49 0 rfl rfl hrm hR rfl hl.1 rfl (Nat.le_of_ble_eq_true rfl) ⟨(Nat.le_of_ble_eq_true rfl), (Nat.le_of_ble_eq_true rfl)⟩ dzL_section_7) hts hown hN (hX.2.2.2.1 _ (by decide)) htab ["java/util/NoSuchElementException", "java/lang/IllegalArgumentException"] ⟨Nat.zero_le _, by decide, by decide, xk_m565, Or.inl ⟨rfl, rfl⟩⟩ hS hF (fun H1 hk h9 => (xw_putR hP9 hD9 rfl hk h9).1) (fun q H locs hP hS => ?_)
  refine lv_astore (lv' := [(5, .ref q), (0, .ref (ad 0)), (1, .int k0), (2, .int k1), (3, .int k2), (4, .ref o)]) (pc := 15) hx hb dzL_section_15 hl (by decide) rfl (fun ls hl => ?_)
  refine lv_iconst (v := 1) (pc := 17) hx hb dzL_section_17 (by decide) ?_
  exact hret 1 () H locs 18 1 6 ls (by decide) (by decide) hP hS rfl dzL_section_18

set_option maxHeartbeats 4000000 in
set_option maxRecDepth 100000 in
theorem ht_section_IA (l : Launch) (G : va_G) (ac : Nat → ClassId) (ad : Nat → Nat) (g : xk_St) (o : Nat) (f : Nat → Int64) (k0 k1 k2 : Int32) (rm : Room) (hM : xt_C l yzU_section czU_section 5 (some .int) xk_WS rm G xk_cls (xk_tys ac) RzU xk_tx xk_ex [.ref (ad 0), .int k0, .int k1, .int k2] (xk_wU ad ac g) "java/lang/IllegalArgumentException") (hrm : rm.cells = 1 ∧ rm.slots = 6) (hR : rm.frames + 1 ≤ xt_rH.frames ∧ 8 + (5 + 11) + rm.locals ≤ xt_rH.locals) : xt_H l yzL_section czL_section 6 [(0, 12, 15, 13), (0, 12, 19, 15)] xk_WS xt_rH G xk_cls (xk_tys ac) RzU xk_tx xk_ex xk_NN [.ref (ad 0), .int k0, .int k1, .int k2, .ref o] ((o, Sum.inl (ac 7, 1, Sum.inr (Sum.inl f))) :: xk_wU ad ac g) (fun r (_ : Unit) => r = 2) (fun _ => ((o, Sum.inl (ac 7, 1, Sum.inr (Sum.inl f))) :: xk_wU ad ac g)) := by
  refine xt_ofH (by decide) (Nat.le_of_ble_eq_true rfl) ?_
  intro p e s m args below meth c A Q H locs ls C0 htab hX hN hret hP hD hS hl
  obtain ⟨hx, hb, hml, hts, hown, hK, hA⟩ := C0
  have hl : lv_has ls 6 [(0, .ref (ad 0)), (1, .int k0), (2, .int k1), (3, .int k2), (4, .ref o)] := hl
  refine lv_aload (pc := 0) hx hb dzL_section_0 (lv_at hl 4 rfl) ?_
  refine lv_iconst (v := 0) (pc := 2) hx hb dzL_section_2 (by decide) ?_
  refine lv_aload_n (pc := 3) hx hb dzL_section_3 rfl (lv_at hl 0 rfl) ?_
  refine lv_iload_n (pc := 4) hx hb dzL_section_4 rfl (lv_at hl 1 rfl) ?_
  refine lv_iload_n (pc := 5) hx hb dzL_section_5 rfl (lv_at hl 2 rfl) ?_
  refine lv_iload_n (pc := 6) hx hb dzL_section_6 rfl (lv_at hl 3 rfl) ?_
  have hP9 : va_P G xk_cls ([(o, Sum.inl (ac 7, 1, Sum.inr (Sum.inl f)))] ++ xk_wU ad ac g) H := hP
  have hD9 : va_D A ([(o, Sum.inl (ac 7, 1, Sum.inr (Sum.inl f)))] ++ xk_wU ad ac g) := hD
  have hF := xk_freeAll (xw_DR hD9) hS hA
  refine xt_lands (h := 19) (E := "java/lang/IllegalArgumentException") (own := RzL) (ws := ((o, Sum.inl (ac 7, 1, Sum.inr (Sum.inl f))) :: xk_wU ad ac g)) (xt_runV (As := [.int k0, .int k1, .int k2]) (rest := [.int 0, .ref o]) (pc := 7) hx hb hml hts hown hK (xw_PR hP9) (xw_DR hD9) hX hS hF hM vfzL_49 0 rfl rfl hrm hR rfl hl.1 rfl (Nat.le_of_ble_eq_true rfl) ⟨(Nat.le_of_ble_eq_true rfl), (Nat.le_of_ble_eq_true rfl)⟩ dzL_section_7) hts hown hN (hX.2.2.2.1 _ (by decide)) htab ["java/util/NoSuchElementException", "java/lang/IllegalArgumentException"] ⟨Nat.zero_le _, by decide, by decide, xk_m565, Or.inr ⟨by decide, ⟨Nat.zero_le _, by decide, by decide, xk_m566, Or.inl ⟨rfl, rfl⟩⟩⟩⟩ hS hF (fun H1 hk h9 => (xw_putR hP9 hD9 rfl hk h9).1) (fun q H locs hP hS => ?_)
  refine lv_astore (lv' := [(5, .ref q), (0, .ref (ad 0)), (1, .int k0), (2, .int k1), (3, .int k2), (4, .ref o)]) (pc := 19) hx hb dzL_section_19 hl (by decide) rfl (fun ls hl => ?_)
  refine lv_iconst (v := 2) (pc := 21) hx hb dzL_section_21 (by decide) ?_
  exact hret 2 () H locs 22 1 6 ls (by decide) (by decide) hP hS rfl dzL_section_22

theorem sh_earliest : xt_SH xk_WS RzL 117 yzL_earliest czL_earliest 4 [(0, 9, 12, 13)] 3 := ⟨gWS, xk_m605, xk_m606, xk_m557, xk_m607, ⟨by decide, by decide⟩, by decide +kernel⟩
set_option maxHeartbeats 4000000 in
set_option maxRecDepth 100000 in
theorem hr_earliest {S : Type} (l : Launch) (G : va_G) (ac : Nat → ClassId) (ad : Nat → Nat) (g : xk_St) (o : Nat) (f : Nat → Int64) (k0 : Int32) (rm : Room) (post : Int32 → S → Prop) (w1 : S → va_W) (hM : xk_CI l yzU_earliest czU_earliest 5 .int xk_WS rm G xk_cls (xk_tys ac) [.ref (ad 0), .int k0] (xk_wU ad ac g) post w1) (hw1 : ∀ u, (w1 u).map Prod.fst = (xk_wU ad ac g).map Prod.fst) (hrm : rm.cells = 0 ∧ rm.slots = 0) (hR : rm.frames + 1 ≤ xt_rH.frames ∧ 8 + (5 + 11) + rm.locals ≤ xt_rH.locals) : xt_H l yzL_earliest czL_earliest 4 [(0, 9, 12, 13)] xk_WS xt_rH G xk_cls (xk_tys ac) RzU xk_tx xk_ex xk_NN [.ref (ad 0), .int k0, .ref o] ((o, Sum.inl (ac 7, 1, Sum.inr (Sum.inl f))) :: xk_wU ad ac g) (fun r (u : S × (Nat → Int64)) => r = 0 ∧ ∃ a : Int32, post a u.1 ∧ u.2 0 = a.toInt64) (fun u => (o, Sum.inl (ac 7, 1, Sum.inr (Sum.inl u.2))) :: w1 u.1) := by
  refine xt_ofH (by decide) (Nat.le_of_ble_eq_true rfl) ?_
  intro p e s m args below meth c A Q H locs ls C0 htab hX hN hret hP hD hS hl
  obtain ⟨hx, hb, hml, hts, hown, hK, hA⟩ := C0
  have hl : lv_has ls 4 [(0, .ref (ad 0)), (1, .int k0), (2, .ref o)] := hl
  refine lv_aload_n (pc := 0) hx hb dzL_earliest_0 rfl (lv_at hl 2 rfl) ?_
  refine lv_iconst (v := 0) (pc := 1) hx hb dzL_earliest_1 (by decide) ?_
  refine lv_aload_n (pc := 2) hx hb dzL_earliest_2 rfl (lv_at hl 0 rfl) ?_
  refine lv_iload_n (pc := 3) hx hb dzL_earliest_3 rfl (lv_at hl 1 rfl) ?_
  have hP9 : va_P G xk_cls ([(o, Sum.inl (ac 7, 1, Sum.inr (Sum.inl f)))] ++ xk_wU ad ac g) H := hP
  have hD9 : va_D A ([(o, Sum.inl (ac 7, 1, Sum.inr (Sum.inl f)))] ++ xk_wU ad ac g) := hD
  refine xw_VI (wc := (xk_wU ad ac g)) (As := [.int k0]) (rest := [.int 0, .ref o]) (H0 := s.heap) (pc := 4) hx hb hml hts hown hK hA (xw_PR hP9) (xw_DR hD9) hS hM vfzL_53 0 rfl rfl hrm hR rfl hl.1 rfl (Nat.le_of_ble_eq_true rfl) ⟨Nat.zero_le _, Nat.zero_le _⟩ dzL_earliest_4 (fun r u H locs hp hk hP1 hS => ?_)
  obtain ⟨hP, hD⟩ := xw_putR hP9 hD9 (hw1 u) hk hP1
  refine lv_i2l (v := r.toInt64) (pc := 7) hx hb dzL_earliest_7 rfl ?_
  refine va_last (ls := ls) (rest := []) (pc := 8) hx hb hK hP hD hS 0 7 rfl rfl (x := r.toInt64) (i := 0) (by unfold vp_in; decide) dzL_earliest_8 (fun H locs hP hD hS => ?_)
  refine lv_goto (tgt := 15) (pc := 9) hx hb dzL_earliest_9 (by decide) ?_
  refine lv_iconst (v := 0) (pc := 15) hx hb dzL_earliest_15 (by decide) ?_
  exact hret 0 (u, vp_updL f (0 : Int32).toNatClampNeg (r.toInt64)) H locs 16 0 0 ls (by decide) (by decide) hP hS ⟨rfl, r, hp, rfl⟩ dzL_earliest_16

set_option maxHeartbeats 4000000 in
set_option maxRecDepth 100000 in
theorem ht_earliest_NS (l : Launch) (G : va_G) (ac : Nat → ClassId) (ad : Nat → Nat) (g : xk_St) (o : Nat) (f : Nat → Int64) (k0 : Int32) (rm : Room) (hM : xt_C l yzU_earliest czU_earliest 5 (some .int) xk_WS rm G xk_cls (xk_tys ac) RzU xk_tx xk_ex [.ref (ad 0), .int k0] (xk_wU ad ac g) "java/util/NoSuchElementException") (hrm : rm.cells = 1 ∧ rm.slots = 6) (hR : rm.frames + 1 ≤ xt_rH.frames ∧ 8 + (5 + 11) + rm.locals ≤ xt_rH.locals) : xt_H l yzL_earliest czL_earliest 4 [(0, 9, 12, 13)] xk_WS xt_rH G xk_cls (xk_tys ac) RzU xk_tx xk_ex xk_NN [.ref (ad 0), .int k0, .ref o] ((o, Sum.inl (ac 7, 1, Sum.inr (Sum.inl f))) :: xk_wU ad ac g) (fun r (_ : Unit) => r = 1) (fun _ => ((o, Sum.inl (ac 7, 1, Sum.inr (Sum.inl f))) :: xk_wU ad ac g)) := by
  refine xt_ofH (by decide) (Nat.le_of_ble_eq_true rfl) ?_
  intro p e s m args below meth c A Q H locs ls C0 htab hX hN hret hP hD hS hl
  obtain ⟨hx, hb, hml, hts, hown, hK, hA⟩ := C0
  have hl : lv_has ls 4 [(0, .ref (ad 0)), (1, .int k0), (2, .ref o)] := hl
  refine lv_aload_n (pc := 0) hx hb dzL_earliest_0 rfl (lv_at hl 2 rfl) ?_
  refine lv_iconst (v := 0) (pc := 1) hx hb dzL_earliest_1 (by decide) ?_
  refine lv_aload_n (pc := 2) hx hb dzL_earliest_2 rfl (lv_at hl 0 rfl) ?_
  refine lv_iload_n (pc := 3) hx hb dzL_earliest_3 rfl (lv_at hl 1 rfl) ?_
  have hP9 : va_P G xk_cls ([(o, Sum.inl (ac 7, 1, Sum.inr (Sum.inl f)))] ++ xk_wU ad ac g) H := hP
  have hD9 : va_D A ([(o, Sum.inl (ac 7, 1, Sum.inr (Sum.inl f)))] ++ xk_wU ad ac g) := hD
  have hF := xk_freeAll (xw_DR hD9) hS hA
  refine xt_lands (h := 12) (E := "java/util/NoSuchElementException") (own := RzL) (ws := ((o, Sum.inl (ac 7, 1, Sum.inr (Sum.inl f))) :: xk_wU ad ac g)) (xt_runV (As := [.int k0]) (rest := [.int 0, .ref o]) (pc := 4) hx hb hml hts hown hK (xw_PR hP9) (xw_DR hD9) hX hS hF hM vfzL_53 0 rfl rfl hrm hR rfl hl.1 rfl (Nat.le_of_ble_eq_true rfl) ⟨(Nat.le_of_ble_eq_true rfl), (Nat.le_of_ble_eq_true rfl)⟩ dzL_earliest_4) hts hown hN (hX.2.2.2.1 _ (by decide)) htab ["java/util/NoSuchElementException"] ⟨Nat.zero_le _, by decide, by decide, xk_m565, Or.inl ⟨rfl, rfl⟩⟩ hS hF (fun H1 hk h9 => (xw_putR hP9 hD9 rfl hk h9).1) (fun q H locs hP hS => ?_)
  refine lv_astore_n (lv' := [(3, .ref q), (0, .ref (ad 0)), (1, .int k0), (2, .ref o)]) (pc := 12) hx hb dzL_earliest_12 rfl hl (by decide) rfl (fun ls hl => ?_)
  refine lv_iconst (v := 1) (pc := 13) hx hb dzL_earliest_13 (by decide) ?_
  exact hret 1 () H locs 14 1 6 ls (by decide) (by decide) hP hS rfl dzL_earliest_14

theorem sh_about : xt_SH xk_WS RzL 120 yzL_about czL_about 4 [(0, 9, 12, 15)] 3 := ⟨gWS, xk_m609, xk_m610, xk_m557, xk_m611, ⟨by decide, by decide⟩, by decide +kernel⟩
set_option maxHeartbeats 4000000 in
set_option maxRecDepth 100000 in
theorem hr_about {S : Type} (l : Launch) (G : va_G) (ac : Nat → ClassId) (ad : Nat → Nat) (g : xk_St) (o : Nat) (f : Nat → Int64) (k0 : Int32) (rm : Room) (post : Int32 → S → Prop) (w1 : S → va_W) (hM : xk_CI l yzU_about czU_about 2 .int xk_WS rm G xk_cls (xk_tys ac) [.ref (ad 0), .int k0] (xk_wU ad ac g) post w1) (hw1 : ∀ u, (w1 u).map Prod.fst = (xk_wU ad ac g).map Prod.fst) (hrm : rm.cells = 0 ∧ rm.slots = 0) (hR : rm.frames + 1 ≤ xt_rH.frames ∧ 8 + (2 + 11) + rm.locals ≤ xt_rH.locals) : xt_H l yzL_about czL_about 4 [(0, 9, 12, 15)] xk_WS xt_rH G xk_cls (xk_tys ac) RzU xk_tx xk_ex xk_NN [.ref (ad 0), .int k0, .ref o] ((o, Sum.inl (ac 7, 1, Sum.inr (Sum.inl f))) :: xk_wU ad ac g) (fun r (u : S × (Nat → Int64)) => r = 0 ∧ ∃ a : Int32, post a u.1 ∧ u.2 0 = a.toInt64) (fun u => (o, Sum.inl (ac 7, 1, Sum.inr (Sum.inl u.2))) :: w1 u.1) := by
  refine xt_ofH (by decide) (Nat.le_of_ble_eq_true rfl) ?_
  intro p e s m args below meth c A Q H locs ls C0 htab hX hN hret hP hD hS hl
  obtain ⟨hx, hb, hml, hts, hown, hK, hA⟩ := C0
  have hl : lv_has ls 4 [(0, .ref (ad 0)), (1, .int k0), (2, .ref o)] := hl
  refine lv_aload_n (pc := 0) hx hb dzL_about_0 rfl (lv_at hl 2 rfl) ?_
  refine lv_iconst (v := 0) (pc := 1) hx hb dzL_about_1 (by decide) ?_
  refine lv_aload_n (pc := 2) hx hb dzL_about_2 rfl (lv_at hl 0 rfl) ?_
  refine lv_iload_n (pc := 3) hx hb dzL_about_3 rfl (lv_at hl 1 rfl) ?_
  have hP9 : va_P G xk_cls ([(o, Sum.inl (ac 7, 1, Sum.inr (Sum.inl f)))] ++ xk_wU ad ac g) H := hP
  have hD9 : va_D A ([(o, Sum.inl (ac 7, 1, Sum.inr (Sum.inl f)))] ++ xk_wU ad ac g) := hD
  refine xw_VI (wc := (xk_wU ad ac g)) (As := [.int k0]) (rest := [.int 0, .ref o]) (H0 := s.heap) (pc := 4) hx hb hml hts hown hK hA (xw_PR hP9) (xw_DR hD9) hS hM vfzL_56 0 rfl rfl hrm hR rfl hl.1 rfl (Nat.le_of_ble_eq_true rfl) ⟨Nat.zero_le _, Nat.zero_le _⟩ dzL_about_4 (fun r u H locs hp hk hP1 hS => ?_)
  obtain ⟨hP, hD⟩ := xw_putR hP9 hD9 (hw1 u) hk hP1
  refine lv_i2l (v := r.toInt64) (pc := 7) hx hb dzL_about_7 rfl ?_
  refine va_last (ls := ls) (rest := []) (pc := 8) hx hb hK hP hD hS 0 7 rfl rfl (x := r.toInt64) (i := 0) (by unfold vp_in; decide) dzL_about_8 (fun H locs hP hD hS => ?_)
  refine lv_goto (tgt := 15) (pc := 9) hx hb dzL_about_9 (by decide) ?_
  refine lv_iconst (v := 0) (pc := 15) hx hb dzL_about_15 (by decide) ?_
  exact hret 0 (u, vp_updL f (0 : Int32).toNatClampNeg (r.toInt64)) H locs 16 0 0 ls (by decide) (by decide) hP hS ⟨rfl, r, hp, rfl⟩ dzL_about_16

set_option maxHeartbeats 4000000 in
set_option maxRecDepth 100000 in
theorem ht_about_IA (l : Launch) (G : va_G) (ac : Nat → ClassId) (ad : Nat → Nat) (g : xk_St) (o : Nat) (f : Nat → Int64) (k0 : Int32) (rm : Room) (hM : xt_C l yzU_about czU_about 2 (some .int) xk_WS rm G xk_cls (xk_tys ac) RzU xk_tx xk_ex [.ref (ad 0), .int k0] (xk_wU ad ac g) "java/lang/IllegalArgumentException") (hrm : rm.cells = 1 ∧ rm.slots = 6) (hR : rm.frames + 1 ≤ xt_rH.frames ∧ 8 + (2 + 11) + rm.locals ≤ xt_rH.locals) : xt_H l yzL_about czL_about 4 [(0, 9, 12, 15)] xk_WS xt_rH G xk_cls (xk_tys ac) RzU xk_tx xk_ex xk_NN [.ref (ad 0), .int k0, .ref o] ((o, Sum.inl (ac 7, 1, Sum.inr (Sum.inl f))) :: xk_wU ad ac g) (fun r (_ : Unit) => r = 1) (fun _ => ((o, Sum.inl (ac 7, 1, Sum.inr (Sum.inl f))) :: xk_wU ad ac g)) := by
  refine xt_ofH (by decide) (Nat.le_of_ble_eq_true rfl) ?_
  intro p e s m args below meth c A Q H locs ls C0 htab hX hN hret hP hD hS hl
  obtain ⟨hx, hb, hml, hts, hown, hK, hA⟩ := C0
  have hl : lv_has ls 4 [(0, .ref (ad 0)), (1, .int k0), (2, .ref o)] := hl
  refine lv_aload_n (pc := 0) hx hb dzL_about_0 rfl (lv_at hl 2 rfl) ?_
  refine lv_iconst (v := 0) (pc := 1) hx hb dzL_about_1 (by decide) ?_
  refine lv_aload_n (pc := 2) hx hb dzL_about_2 rfl (lv_at hl 0 rfl) ?_
  refine lv_iload_n (pc := 3) hx hb dzL_about_3 rfl (lv_at hl 1 rfl) ?_
  have hP9 : va_P G xk_cls ([(o, Sum.inl (ac 7, 1, Sum.inr (Sum.inl f)))] ++ xk_wU ad ac g) H := hP
  have hD9 : va_D A ([(o, Sum.inl (ac 7, 1, Sum.inr (Sum.inl f)))] ++ xk_wU ad ac g) := hD
  have hF := xk_freeAll (xw_DR hD9) hS hA
  refine xt_lands (h := 12) (E := "java/lang/IllegalArgumentException") (own := RzL) (ws := ((o, Sum.inl (ac 7, 1, Sum.inr (Sum.inl f))) :: xk_wU ad ac g)) (xt_runV (As := [.int k0]) (rest := [.int 0, .ref o]) (pc := 4) hx hb hml hts hown hK (xw_PR hP9) (xw_DR hD9) hX hS hF hM vfzL_56 0 rfl rfl hrm hR rfl hl.1 rfl (Nat.le_of_ble_eq_true rfl) ⟨(Nat.le_of_ble_eq_true rfl), (Nat.le_of_ble_eq_true rfl)⟩ dzL_about_4) hts hown hN (hX.2.2.2.1 _ (by decide)) htab ["java/lang/IllegalArgumentException"] ⟨Nat.zero_le _, by decide, by decide, xk_m566, Or.inl ⟨rfl, rfl⟩⟩ hS hF (fun H1 hk h9 => (xw_putR hP9 hD9 rfl hk h9).1) (fun q H locs hP hS => ?_)
  refine lv_astore_n (lv' := [(3, .ref q), (0, .ref (ad 0)), (1, .int k0), (2, .ref o)]) (pc := 12) hx hb dzL_about_12 rfl hl (by decide) rfl (fun ls hl => ?_)
  refine lv_iconst (v := 1) (pc := 13) hx hb dzL_about_13 (by decide) ?_
  exact hret 1 () H locs 14 1 6 ls (by decide) (by decide) hP hS rfl dzL_about_14

theorem sh_event : xt_SH xk_WS RzL 123 yzL_event czL_event 5 [(0, 10, 13, 13), (0, 10, 17, 15)] 4 := ⟨gWS, xk_m613, xk_m614, xk_m557, xk_m615, ⟨by decide, by decide⟩, by decide +kernel⟩
set_option maxHeartbeats 4000000 in
set_option maxRecDepth 100000 in
theorem hr_event {S : Type} (l : Launch) (G : va_G) (ac : Nat → ClassId) (ad : Nat → Nat) (g : xk_St) (o : Nat) (f : Nat → Int64) (k0 k1 : Int32) (rm : Room) (post : Int32 → S → Prop) (w1 : S → va_W) (hM : xk_CI l yzU_event czU_event 4 .int xk_WS rm G xk_cls (xk_tys ac) [.ref (ad 0), .int k0, .int k1] (xk_wU ad ac g) post w1) (hw1 : ∀ u, (w1 u).map Prod.fst = (xk_wU ad ac g).map Prod.fst) (hrm : rm.cells = 0 ∧ rm.slots = 0) (hR : rm.frames + 1 ≤ xt_rH.frames ∧ 8 + (4 + 11) + rm.locals ≤ xt_rH.locals) : xt_H l yzL_event czL_event 5 [(0, 10, 13, 13), (0, 10, 17, 15)] xk_WS xt_rH G xk_cls (xk_tys ac) RzU xk_tx xk_ex xk_NN [.ref (ad 0), .int k0, .int k1, .ref o] ((o, Sum.inl (ac 7, 1, Sum.inr (Sum.inl f))) :: xk_wU ad ac g) (fun r (u : S × (Nat → Int64)) => r = 0 ∧ ∃ a : Int32, post a u.1 ∧ u.2 0 = a.toInt64) (fun u => (o, Sum.inl (ac 7, 1, Sum.inr (Sum.inl u.2))) :: w1 u.1) := by
  refine xt_ofH (by decide) (Nat.le_of_ble_eq_true rfl) ?_
  intro p e s m args below meth c A Q H locs ls C0 htab hX hN hret hP hD hS hl
  obtain ⟨hx, hb, hml, hts, hown, hK, hA⟩ := C0
  have hl : lv_has ls 5 [(0, .ref (ad 0)), (1, .int k0), (2, .int k1), (3, .ref o)] := hl
  refine lv_aload_n (pc := 0) hx hb dzL_event_0 rfl (lv_at hl 3 rfl) ?_
  refine lv_iconst (v := 0) (pc := 1) hx hb dzL_event_1 (by decide) ?_
  refine lv_aload_n (pc := 2) hx hb dzL_event_2 rfl (lv_at hl 0 rfl) ?_
  refine lv_iload_n (pc := 3) hx hb dzL_event_3 rfl (lv_at hl 1 rfl) ?_
  refine lv_iload_n (pc := 4) hx hb dzL_event_4 rfl (lv_at hl 2 rfl) ?_
  have hP9 : va_P G xk_cls ([(o, Sum.inl (ac 7, 1, Sum.inr (Sum.inl f)))] ++ xk_wU ad ac g) H := hP
  have hD9 : va_D A ([(o, Sum.inl (ac 7, 1, Sum.inr (Sum.inl f)))] ++ xk_wU ad ac g) := hD
  refine xw_VI (wc := (xk_wU ad ac g)) (As := [.int k0, .int k1]) (rest := [.int 0, .ref o]) (H0 := s.heap) (pc := 5) hx hb hml hts hown hK hA (xw_PR hP9) (xw_DR hD9) hS hM vfzL_59 0 rfl rfl hrm hR rfl hl.1 rfl (Nat.le_of_ble_eq_true rfl) ⟨Nat.zero_le _, Nat.zero_le _⟩ dzL_event_5 (fun r u H locs hp hk hP1 hS => ?_)
  obtain ⟨hP, hD⟩ := xw_putR hP9 hD9 (hw1 u) hk hP1
  refine lv_i2l (v := r.toInt64) (pc := 8) hx hb dzL_event_8 rfl ?_
  refine va_last (ls := ls) (rest := []) (pc := 9) hx hb hK hP hD hS 0 7 rfl rfl (x := r.toInt64) (i := 0) (by unfold vp_in; decide) dzL_event_9 (fun H locs hP hD hS => ?_)
  refine lv_goto (tgt := 21) (pc := 10) hx hb dzL_event_10 (by decide) ?_
  refine lv_iconst (v := 0) (pc := 21) hx hb dzL_event_21 (by decide) ?_
  exact hret 0 (u, vp_updL f (0 : Int32).toNatClampNeg (r.toInt64)) H locs 22 0 0 ls (by decide) (by decide) hP hS ⟨rfl, r, hp, rfl⟩ dzL_event_22

set_option maxHeartbeats 4000000 in
set_option maxRecDepth 100000 in
theorem ht_event_NS (l : Launch) (G : va_G) (ac : Nat → ClassId) (ad : Nat → Nat) (g : xk_St) (o : Nat) (f : Nat → Int64) (k0 k1 : Int32) (rm : Room) (hM : xt_C l yzU_event czU_event 4 (some .int) xk_WS rm G xk_cls (xk_tys ac) RzU xk_tx xk_ex [.ref (ad 0), .int k0, .int k1] (xk_wU ad ac g) "java/util/NoSuchElementException") (hrm : rm.cells = 1 ∧ rm.slots = 6) (hR : rm.frames + 1 ≤ xt_rH.frames ∧ 8 + (4 + 11) + rm.locals ≤ xt_rH.locals) : xt_H l yzL_event czL_event 5 [(0, 10, 13, 13), (0, 10, 17, 15)] xk_WS xt_rH G xk_cls (xk_tys ac) RzU xk_tx xk_ex xk_NN [.ref (ad 0), .int k0, .int k1, .ref o] ((o, Sum.inl (ac 7, 1, Sum.inr (Sum.inl f))) :: xk_wU ad ac g) (fun r (_ : Unit) => r = 1) (fun _ => ((o, Sum.inl (ac 7, 1, Sum.inr (Sum.inl f))) :: xk_wU ad ac g)) := by
  refine xt_ofH (by decide) (Nat.le_of_ble_eq_true rfl) ?_
  intro p e s m args below meth c A Q H locs ls C0 htab hX hN hret hP hD hS hl
  obtain ⟨hx, hb, hml, hts, hown, hK, hA⟩ := C0
  have hl : lv_has ls 5 [(0, .ref (ad 0)), (1, .int k0), (2, .int k1), (3, .ref o)] := hl
  refine lv_aload_n (pc := 0) hx hb dzL_event_0 rfl (lv_at hl 3 rfl) ?_
  refine lv_iconst (v := 0) (pc := 1) hx hb dzL_event_1 (by decide) ?_
  refine lv_aload_n (pc := 2) hx hb dzL_event_2 rfl (lv_at hl 0 rfl) ?_
  refine lv_iload_n (pc := 3) hx hb dzL_event_3 rfl (lv_at hl 1 rfl) ?_
  refine lv_iload_n (pc := 4) hx hb dzL_event_4 rfl (lv_at hl 2 rfl) ?_
  have hP9 : va_P G xk_cls ([(o, Sum.inl (ac 7, 1, Sum.inr (Sum.inl f)))] ++ xk_wU ad ac g) H := hP
  have hD9 : va_D A ([(o, Sum.inl (ac 7, 1, Sum.inr (Sum.inl f)))] ++ xk_wU ad ac g) := hD
  have hF := xk_freeAll (xw_DR hD9) hS hA
  refine xt_lands (h := 13) (E := "java/util/NoSuchElementException") (own := RzL) (ws := ((o, Sum.inl (ac 7, 1, Sum.inr (Sum.inl f))) :: xk_wU ad ac g)) (xt_runV (As := [.int k0, .int k1]) (rest := [.int 0, .ref o]) (pc := 5) hx hb hml hts hown hK (xw_PR hP9) (xw_DR hD9) hX hS hF hM vfzL_59 0 rfl rfl hrm hR rfl hl.1 rfl (Nat.le_of_ble_eq_true rfl) ⟨(Nat.le_of_ble_eq_true rfl), (Nat.le_of_ble_eq_true rfl)⟩ dzL_event_5) hts hown hN (hX.2.2.2.1 _ (by decide)) htab ["java/util/NoSuchElementException", "java/lang/IllegalArgumentException"] ⟨Nat.zero_le _, by decide, by decide, xk_m565, Or.inl ⟨rfl, rfl⟩⟩ hS hF (fun H1 hk h9 => (xw_putR hP9 hD9 rfl hk h9).1) (fun q H locs hP hS => ?_)
  refine lv_astore (lv' := [(4, .ref q), (0, .ref (ad 0)), (1, .int k0), (2, .int k1), (3, .ref o)]) (pc := 13) hx hb dzL_event_13 hl (by decide) rfl (fun ls hl => ?_)
  refine lv_iconst (v := 1) (pc := 15) hx hb dzL_event_15 (by decide) ?_
  exact hret 1 () H locs 16 1 6 ls (by decide) (by decide) hP hS rfl dzL_event_16

set_option maxHeartbeats 4000000 in
set_option maxRecDepth 100000 in
theorem ht_event_IA (l : Launch) (G : va_G) (ac : Nat → ClassId) (ad : Nat → Nat) (g : xk_St) (o : Nat) (f : Nat → Int64) (k0 k1 : Int32) (rm : Room) (hM : xt_C l yzU_event czU_event 4 (some .int) xk_WS rm G xk_cls (xk_tys ac) RzU xk_tx xk_ex [.ref (ad 0), .int k0, .int k1] (xk_wU ad ac g) "java/lang/IllegalArgumentException") (hrm : rm.cells = 1 ∧ rm.slots = 6) (hR : rm.frames + 1 ≤ xt_rH.frames ∧ 8 + (4 + 11) + rm.locals ≤ xt_rH.locals) : xt_H l yzL_event czL_event 5 [(0, 10, 13, 13), (0, 10, 17, 15)] xk_WS xt_rH G xk_cls (xk_tys ac) RzU xk_tx xk_ex xk_NN [.ref (ad 0), .int k0, .int k1, .ref o] ((o, Sum.inl (ac 7, 1, Sum.inr (Sum.inl f))) :: xk_wU ad ac g) (fun r (_ : Unit) => r = 2) (fun _ => ((o, Sum.inl (ac 7, 1, Sum.inr (Sum.inl f))) :: xk_wU ad ac g)) := by
  refine xt_ofH (by decide) (Nat.le_of_ble_eq_true rfl) ?_
  intro p e s m args below meth c A Q H locs ls C0 htab hX hN hret hP hD hS hl
  obtain ⟨hx, hb, hml, hts, hown, hK, hA⟩ := C0
  have hl : lv_has ls 5 [(0, .ref (ad 0)), (1, .int k0), (2, .int k1), (3, .ref o)] := hl
  refine lv_aload_n (pc := 0) hx hb dzL_event_0 rfl (lv_at hl 3 rfl) ?_
  refine lv_iconst (v := 0) (pc := 1) hx hb dzL_event_1 (by decide) ?_
  refine lv_aload_n (pc := 2) hx hb dzL_event_2 rfl (lv_at hl 0 rfl) ?_
  refine lv_iload_n (pc := 3) hx hb dzL_event_3 rfl (lv_at hl 1 rfl) ?_
  refine lv_iload_n (pc := 4) hx hb dzL_event_4 rfl (lv_at hl 2 rfl) ?_
  have hP9 : va_P G xk_cls ([(o, Sum.inl (ac 7, 1, Sum.inr (Sum.inl f)))] ++ xk_wU ad ac g) H := hP
  have hD9 : va_D A ([(o, Sum.inl (ac 7, 1, Sum.inr (Sum.inl f)))] ++ xk_wU ad ac g) := hD
  have hF := xk_freeAll (xw_DR hD9) hS hA
  refine xt_lands (h := 17) (E := "java/lang/IllegalArgumentException") (own := RzL) (ws := ((o, Sum.inl (ac 7, 1, Sum.inr (Sum.inl f))) :: xk_wU ad ac g)) (xt_runV (As := [.int k0, .int k1]) (rest := [.int 0, .ref o]) (pc := 5) hx hb hml hts hown hK (xw_PR hP9) (xw_DR hD9) hX hS hF hM vfzL_59 0 rfl rfl hrm hR rfl hl.1 rfl (Nat.le_of_ble_eq_true rfl) ⟨(Nat.le_of_ble_eq_true rfl), (Nat.le_of_ble_eq_true rfl)⟩ dzL_event_5) hts hown hN (hX.2.2.2.1 _ (by decide)) htab ["java/util/NoSuchElementException", "java/lang/IllegalArgumentException"] ⟨Nat.zero_le _, by decide, by decide, xk_m565, Or.inr ⟨by decide, ⟨Nat.zero_le _, by decide, by decide, xk_m566, Or.inl ⟨rfl, rfl⟩⟩⟩⟩ hS hF (fun H1 hk h9 => (xw_putR hP9 hD9 rfl hk h9).1) (fun q H locs hP hS => ?_)
  refine lv_astore (lv' := [(4, .ref q), (0, .ref (ad 0)), (1, .int k0), (2, .int k1), (3, .ref o)]) (pc := 17) hx hb dzL_event_17 hl (by decide) rfl (fun ls hl => ?_)
  refine lv_iconst (v := 2) (pc := 19) hx hb dzL_event_19 (by decide) ?_
  exact hret 2 () H locs 20 1 6 ls (by decide) (by decide) hP hS rfl dzL_event_20

