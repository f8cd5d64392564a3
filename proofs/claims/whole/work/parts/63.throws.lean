set_option maxHeartbeats 4000000 in
set_option maxRecDepth 100000 in
theorem xzU_findTrack_bad_n (l : Launch) (hst : l.stackTraces = false) (G : va_G) (ac : Nat → ClassId) (ad : Nat → Nat) (g0 : xk_St) (k0 : Int32) (h01 : k0 < 0) : xt_C l yzU_findTrack czU_findTrack 2 (some (.object "CrossingUnit$Track")) xk_WS xt_r0 G xk_cls (xk_tys ac) RzU xk_tx xk_ex [.ref (ad 0), .int k0] (xk_wU ad ac g0) "java/util/NoSuchElementException" := by
  refine xt_of (by decide) (Nat.le_of_ble_eq_true rfl) ?_
  intro p e s m args below meth c A Q H locs ls C0 hlocks hout hX hend hP hD hS hl
  obtain ⟨hx, hb, hml, hts, hown, hK, hA⟩ := C0
  have hl : lv_has ls 2 [(0, .ref (ad 0)), (1, .int k0)] := hl
  refine lv_iload_n (pc := 0) hx hb dzU_findTrack_0 rfl (lv_at hl 1 rfl) ?_
  refine lv_if_lt (pc := 1) (tgt := 9) hx hb dzU_findTrack_1 (by decide) (fun _ => ?_) (fun hq9 => absurd h01 hq9)
  exact xt_throw (pc := 9) (ln := 3) (is := 266) (tx := "no such track") (rest := []) hx hb hst (by rw [hml]; exact hl.1.symm) hown hlocks hout hX hend hP hS (by decide +kernel) (by decide +kernel) (by decide +kernel) xbNS_0 xbNS_1 xbNS_2 xbNS_5 (hts _ xk_m311) (hts _ xk_m57) (xaNS hts) (by decide) (by decide) dzU_findTrack_9 dzU_findTrack_12 (Or.inr ⟨rfl, dzU_findTrack_13⟩) dzU_findTrack_16 dzU_findTrack_19 (Nat.le_of_ble_eq_true rfl) (Nat.le_of_ble_eq_true rfl) (Nat.le_of_ble_eq_true rfl) (Nat.le_of_ble_eq_true rfl)

set_option maxHeartbeats 4000000 in
set_option maxRecDepth 100000 in
theorem xzU_findTrack_bad_b (l : Launch) (hst : l.stackTraces = false) (G : va_G) (ac : Nat → ClassId) (ad : Nat → Nat) (g0 : xk_St) (k0 : Int32) (h01 : ¬ k0 < 0) (h02 : ¬ k0 < 2) : xt_C l yzU_findTrack czU_findTrack 2 (some (.object "CrossingUnit$Track")) xk_WS xt_r0 G xk_cls (xk_tys ac) RzU xk_tx xk_ex [.ref (ad 0), .int k0] (xk_wU ad ac g0) "java/util/NoSuchElementException" := by
  refine xt_of (by decide) (Nat.le_of_ble_eq_true rfl) ?_
  intro p e s m args below meth c A Q H locs ls C0 hlocks hout hX hend hP hD hS hl
  obtain ⟨hx, hb, hml, hts, hown, hK, hA⟩ := C0
  have hl : lv_has ls 2 [(0, .ref (ad 0)), (1, .int k0)] := hl
  refine lv_iload_n (pc := 0) hx hb dzU_findTrack_0 rfl (lv_at hl 1 rfl) ?_
  refine lv_if_lt (pc := 1) (tgt := 9) hx hb dzU_findTrack_1 (by decide) (fun hq9 => absurd hq9 h01) (fun _ => ?_)
  refine lv_iload_n (pc := 4) hx hb dzU_findTrack_4 rfl (lv_at hl 1 rfl) ?_
  refine lv_iconst (v := 2) (pc := 5) hx hb dzU_findTrack_5 (by decide) ?_
  refine lv_icmp_lt (pc := 6) (tgt := 20) hx hb dzU_findTrack_6 (by decide) (fun hq9 => absurd hq9 h02) (fun _ => ?_)
  exact xt_throw (pc := 9) (ln := 3) (is := 266) (tx := "no such track") (rest := []) hx hb hst (by rw [hml]; exact hl.1.symm) hown hlocks hout hX hend hP hS (by decide +kernel) (by decide +kernel) (by decide +kernel) xbNS_0 xbNS_1 xbNS_2 xbNS_5 (hts _ xk_m311) (hts _ xk_m57) (xaNS hts) (by decide) (by decide) dzU_findTrack_9 dzU_findTrack_12 (Or.inr ⟨rfl, dzU_findTrack_13⟩) dzU_findTrack_16 dzU_findTrack_19 (Nat.le_of_ble_eq_true rfl) (Nat.le_of_ble_eq_true rfl) (Nat.le_of_ble_eq_true rfl) (Nat.le_of_ble_eq_true rfl)

theorem xzU_findTrack_bad (l : Launch) (hst : l.stackTraces = false) (G : va_G) (ac : Nat → ClassId) (ad : Nat → Nat) (g0 : xk_St) (k0 : Int32) (hbt : k0 < 0 ∨ ¬ k0 < 2) : xt_C l yzU_findTrack czU_findTrack 2 (some (.object "CrossingUnit$Track")) xk_WS xt_r0 G xk_cls (xk_tys ac) RzU xk_tx xk_ex [.ref (ad 0), .int k0] (xk_wU ad ac g0) "java/util/NoSuchElementException" := by
  by_cases h01 : k0 < 0
  · exact xzU_findTrack_bad_n l hst G ac ad g0 k0  h01
  · exact xzU_findTrack_bad_b l hst G ac ad g0 k0  h01 (hbt.resolve_left h01)

set_option maxHeartbeats 4000000 in
set_option maxRecDepth 100000 in
theorem xzU_checkHead_bad_n (l : Launch) (hst : l.stackTraces = false) (G : va_G) (ac : Nat → ClassId) (ad : Nat → Nat) (g0 : xk_St) (k0 : Int32) (h01 : k0 < 0) : xt_C l yzU_checkHead czU_checkHead 1 none xk_WS xt_r0 G xk_cls (xk_tys ac) RzU xk_tx xk_ex [.int k0] (xk_wU ad ac g0) "java/util/NoSuchElementException" := by
  refine xt_of (by decide) (Nat.le_of_ble_eq_true rfl) ?_
  intro p e s m args below meth c A Q H locs ls C0 hlocks hout hX hend hP hD hS hl
  obtain ⟨hx, hb, hml, hts, hown, hK, hA⟩ := C0
  have hl : lv_has ls 1 [(0, .int k0)] := hl
  refine lv_iload_n (pc := 0) hx hb dzU_checkHead_0 rfl (lv_at hl 0 rfl) ?_
  refine lv_if_lt (pc := 1) (tgt := 9) hx hb dzU_checkHead_1 (by decide) (fun _ => ?_) (fun hq9 => absurd h01 hq9)
  exact xt_throw (pc := 9) (ln := 3) (is := 270) (tx := "no such head") (rest := []) hx hb hst (by rw [hml]; exact hl.1.symm) hown hlocks hout hX hend hP hS (by decide +kernel) (by decide +kernel) (by decide +kernel) xbNS_0 xbNS_1 xbNS_2 xbNS_5 (hts _ xk_m311) (hts _ xk_m57) (xaNS hts) (by decide) (by decide) dzU_checkHead_9 dzU_checkHead_12 (Or.inr ⟨rfl, dzU_checkHead_13⟩) dzU_checkHead_16 dzU_checkHead_19 (Nat.le_of_ble_eq_true rfl) (Nat.le_of_ble_eq_true rfl) (Nat.le_of_ble_eq_true rfl) (Nat.le_of_ble_eq_true rfl)

set_option maxHeartbeats 4000000 in
set_option maxRecDepth 100000 in
theorem xzU_checkHead_bad_b (l : Launch) (hst : l.stackTraces = false) (G : va_G) (ac : Nat → ClassId) (ad : Nat → Nat) (g0 : xk_St) (k0 : Int32) (h01 : ¬ k0 < 0) (h02 : ¬ k0 < 4) : xt_C l yzU_checkHead czU_checkHead 1 none xk_WS xt_r0 G xk_cls (xk_tys ac) RzU xk_tx xk_ex [.int k0] (xk_wU ad ac g0) "java/util/NoSuchElementException" := by
  refine xt_of (by decide) (Nat.le_of_ble_eq_true rfl) ?_
  intro p e s m args below meth c A Q H locs ls C0 hlocks hout hX hend hP hD hS hl
  obtain ⟨hx, hb, hml, hts, hown, hK, hA⟩ := C0
  have hl : lv_has ls 1 [(0, .int k0)] := hl
  refine lv_iload_n (pc := 0) hx hb dzU_checkHead_0 rfl (lv_at hl 0 rfl) ?_
  refine lv_if_lt (pc := 1) (tgt := 9) hx hb dzU_checkHead_1 (by decide) (fun hq9 => absurd hq9 h01) (fun _ => ?_)
  refine lv_iload_n (pc := 4) hx hb dzU_checkHead_4 rfl (lv_at hl 0 rfl) ?_
  refine lv_iconst (v := 4) (pc := 5) hx hb dzU_checkHead_5 (by decide) ?_
  refine lv_icmp_lt (pc := 6) (tgt := 20) hx hb dzU_checkHead_6 (by decide) (fun hq9 => absurd hq9 h02) (fun _ => ?_)
  exact xt_throw (pc := 9) (ln := 3) (is := 270) (tx := "no such head") (rest := []) hx hb hst (by rw [hml]; exact hl.1.symm) hown hlocks hout hX hend hP hS (by decide +kernel) (by decide +kernel) (by decide +kernel) xbNS_0 xbNS_1 xbNS_2 xbNS_5 (hts _ xk_m311) (hts _ xk_m57) (xaNS hts) (by decide) (by decide) dzU_checkHead_9 dzU_checkHead_12 (Or.inr ⟨rfl, dzU_checkHead_13⟩) dzU_checkHead_16 dzU_checkHead_19 (Nat.le_of_ble_eq_true rfl) (Nat.le_of_ble_eq_true rfl) (Nat.le_of_ble_eq_true rfl) (Nat.le_of_ble_eq_true rfl)

theorem xzU_checkHead_bad (l : Launch) (hst : l.stackTraces = false) (G : va_G) (ac : Nat → ClassId) (ad : Nat → Nat) (g0 : xk_St) (k0 : Int32) (hbh : k0 < 0 ∨ ¬ k0 < 4) : xt_C l yzU_checkHead czU_checkHead 1 none xk_WS xt_r0 G xk_cls (xk_tys ac) RzU xk_tx xk_ex [.int k0] (xk_wU ad ac g0) "java/util/NoSuchElementException" := by
  by_cases h01 : k0 < 0
  · exact xzU_checkHead_bad_n l hst G ac ad g0 k0  h01
  · exact xzU_checkHead_bad_b l hst G ac ad g0 k0  h01 (hbh.resolve_left h01)

set_option maxHeartbeats 4000000 in
set_option maxRecDepth 100000 in
theorem xzU_checkPerson_bad (l : Launch) (hst : l.stackTraces = false) (G : va_G) (ac : Nat → ClassId) (ad : Nat → Nat) (g0 : xk_St) (k0 : Int32) (hbw : ¬ 0 < k0) : xt_C l yzU_checkPerson czU_checkPerson 1 none xk_WS xt_r0 G xk_cls (xk_tys ac) RzU xk_tx xk_ex [.int k0] (xk_wU ad ac g0) "java/util/NoSuchElementException" := by
  refine xt_of (by decide) (Nat.le_of_ble_eq_true rfl) ?_
  intro p e s m args below meth c A Q H locs ls C0 hlocks hout hX hend hP hD hS hl
  obtain ⟨hx, hb, hml, hts, hown, hK, hA⟩ := C0
  have hl : lv_has ls 1 [(0, .int k0)] := hl
  refine lv_iload_n (pc := 0) hx hb dzU_checkPerson_0 rfl (lv_at hl 0 rfl) ?_
  refine lv_if_gt (pc := 1) (tgt := 15) hx hb dzU_checkPerson_1 (by decide) (fun hq9 => absurd hq9 hbw) (fun _ => ?_)
  exact xt_throw (pc := 4) (ln := 3) (is := 272) (tx := "persons are counted from 1") (rest := []) hx hb hst (by rw [hml]; exact hl.1.symm) hown hlocks hout hX hend hP hS (by decide +kernel) (by decide +kernel) (by decide +kernel) xbNS_0 xbNS_1 xbNS_2 xbNS_5 (hts _ xk_m311) (hts _ xk_m57) (xaNS hts) (by decide) (by decide) dzU_checkPerson_4 dzU_checkPerson_7 (Or.inr ⟨rfl, dzU_checkPerson_8⟩) dzU_checkPerson_11 dzU_checkPerson_14 (Nat.le_of_ble_eq_true rfl) (Nat.le_of_ble_eq_true rfl) (Nat.le_of_ble_eq_true rfl) (Nat.le_of_ble_eq_true rfl)

set_option maxHeartbeats 4000000 in
set_option maxRecDepth 100000 in
theorem xzU_findSection_bt (l : Launch) (hst : l.stackTraces = false) (G : va_G) (ac : Nat → ClassId) (ad : Nat → Nat) (g0 : xk_St) (k0 : Int32) (k1 : Int32) (hbt : k0 < 0 ∨ ¬ k0 < 2) : xt_C l yzU_findSection czU_findSection 4 (some (.object "CrossingUnit$Section")) xk_WS xt_r1 G xk_cls (xk_tys ac) RzU xk_tx xk_ex [.ref (ad 0), .int k0, .int k1] (xk_wU ad ac g0) "java/util/NoSuchElementException" := by
  refine xt_of (by decide) (Nat.le_of_ble_eq_true rfl) ?_
  intro p e s m args below meth c A Q H locs ls C0 hlocks hout hX hend hP hD hS hl
  obtain ⟨hx, hb, hml, hts, hown, hK, hA⟩ := C0
  have hl : lv_has ls 4 [(0, .ref (ad 0)), (1, .int k0), (2, .int k1)] := hl
  refine lv_aload_n (pc := 0) hx hb dzU_findSection_0 rfl (lv_at hl 0 rfl) ?_
  refine lv_iload_n (pc := 1) hx hb dzU_findSection_1 rfl (lv_at hl 1 rfl) ?_
  exact xt_pass (xt_runV (As := [.int k0]) (rest := []) (pc := 2) hx hb hml hts hown hK hP hD hX hS (xk_freeAll hD hS hA) (xzU_findTrack_bad l hst G ac ad g0 k0 hbt) vfzU_63 0 rfl rfl ⟨rfl, rfl⟩ ⟨Nat.le_of_ble_eq_true rfl, Nat.le_of_ble_eq_true rfl⟩ rfl hl.1 rfl (Nat.le_of_ble_eq_true rfl) ⟨Nat.le_of_ble_eq_true rfl, Nat.le_of_ble_eq_true rfl⟩ dzU_findSection_2) hlocks hout hend hS (xk_freeAll hD hS hA)

set_option maxHeartbeats 4000000 in
set_option maxRecDepth 100000 in
theorem xzU_findSection_bs0_n (l : Launch) (hst : l.stackTraces = false) (G : va_G) (ac : Nat → ClassId) (ad : Nat → Nat) (g0 : xk_St) (k1 : Int32) (h01 : k1 < 0) : xt_C l yzU_findSection czU_findSection 4 (some (.object "CrossingUnit$Section")) xk_WS xt_r1 G xk_cls (xk_tys ac) RzU xk_tx xk_ex [.ref (ad 0), .int 0, .int k1] (xk_wU ad ac g0) "java/util/NoSuchElementException" := by
  refine xt_of (by decide) (Nat.le_of_ble_eq_true rfl) ?_
  intro p e s m args below meth c A Q H locs ls C0 hlocks hout hX hend hP hD hS hl
  obtain ⟨hx, hb, hml, hts, hown, hK, hA⟩ := C0
  have hl : lv_has ls 4 [(0, .ref (ad 0)), (1, .int 0), (2, .int k1)] := hl
  refine lv_aload_n (pc := 0) hx hb dzU_findSection_0 rfl (lv_at hl 0 rfl) ?_
  refine lv_iload_n (pc := 1) hx hb dzU_findSection_1 rfl (lv_at hl 1 rfl) ?_
  refine xk_allVR (As := [.int 0]) (rest := []) (H0 := s.heap) (pc := 2) hx hb hml hts hown hK hA hP hD hS (kzU_findTrack_0 l G ac ad g0) vfzU_63 0 rfl rfl ⟨rfl, rfl⟩ ⟨Nat.le_of_ble_eq_true rfl, Nat.le_of_ble_eq_true rfl⟩ rfl hl.1 rfl (Nat.le_of_ble_eq_true rfl) ⟨Nat.zero_le _, Nat.zero_le _⟩ dzU_findSection_2 (fun H locs hP hD hS => ?_)
  have hP : va_P G xk_cls (xk_wU ad ac g0) H := hP
  have hD : va_D A (xk_wU ad ac g0) := hD
  refine lv_astore_n (lv' := [(3, .ref (ad 9)), (0, .ref (ad 0)), (1, .int 0), (2, .int k1)]) (pc := 5) hx hb dzU_findSection_5 rfl hl (by decide) rfl (fun ls hl => ?_)
  refine lv_iload_n (pc := 6) hx hb dzU_findSection_6 rfl (lv_at hl 3 rfl) ?_
  refine lv_if_lt (pc := 7) (tgt := 15) hx hb dzU_findSection_7 (by decide) (fun _ => ?_) (fun hq9 => absurd h01 hq9)
  exact xt_throw (pc := 15) (ln := 3) (is := 268) (tx := "no such section") (rest := []) hx hb hst (by rw [hml]; exact hl.1.symm) hown hlocks hout hX hend hP hS (by decide +kernel) (by decide +kernel) (by decide +kernel) xbNS_0 xbNS_1 xbNS_2 xbNS_5 (hts _ xk_m311) (hts _ xk_m57) (xaNS hts) (by decide) (by decide) dzU_findSection_15 dzU_findSection_18 (Or.inr ⟨rfl, dzU_findSection_19⟩) dzU_findSection_22 dzU_findSection_25 (Nat.le_of_ble_eq_true rfl) (Nat.le_of_ble_eq_true rfl) (Nat.le_of_ble_eq_true rfl) (Nat.le_of_ble_eq_true rfl)

set_option maxHeartbeats 4000000 in
set_option maxRecDepth 100000 in
theorem xzU_findSection_bs0_b (l : Launch) (hst : l.stackTraces = false) (G : va_G) (ac : Nat → ClassId) (ad : Nat → Nat) (g0 : xk_St) (k1 : Int32) (h01 : ¬ k1 < 0) (h02 : ¬ k1 < 3) : xt_C l yzU_findSection czU_findSection 4 (some (.object "CrossingUnit$Section")) xk_WS xt_r1 G xk_cls (xk_tys ac) RzU xk_tx xk_ex [.ref (ad 0), .int 0, .int k1] (xk_wU ad ac g0) "java/util/NoSuchElementException" := by
  refine xt_of (by decide) (Nat.le_of_ble_eq_true rfl) ?_
  intro p e s m args below meth c A Q H locs ls C0 hlocks hout hX hend hP hD hS hl
  obtain ⟨hx, hb, hml, hts, hown, hK, hA⟩ := C0
  have hl : lv_has ls 4 [(0, .ref (ad 0)), (1, .int 0), (2, .int k1)] := hl
  refine lv_aload_n (pc := 0) hx hb dzU_findSection_0 rfl (lv_at hl 0 rfl) ?_
  refine lv_iload_n (pc := 1) hx hb dzU_findSection_1 rfl (lv_at hl 1 rfl) ?_
  refine xk_allVR (As := [.int 0]) (rest := []) (H0 := s.heap) (pc := 2) hx hb hml hts hown hK hA hP hD hS (kzU_findTrack_0 l G ac ad g0) vfzU_63 0 rfl rfl ⟨rfl, rfl⟩ ⟨Nat.le_of_ble_eq_true rfl, Nat.le_of_ble_eq_true rfl⟩ rfl hl.1 rfl (Nat.le_of_ble_eq_true rfl) ⟨Nat.zero_le _, Nat.zero_le _⟩ dzU_findSection_2 (fun H locs hP hD hS => ?_)
  have hP : va_P G xk_cls (xk_wU ad ac g0) H := hP
  have hD : va_D A (xk_wU ad ac g0) := hD
  refine lv_astore_n (lv' := [(3, .ref (ad 9)), (0, .ref (ad 0)), (1, .int 0), (2, .int k1)]) (pc := 5) hx hb dzU_findSection_5 rfl hl (by decide) rfl (fun ls hl => ?_)
  refine lv_iload_n (pc := 6) hx hb dzU_findSection_6 rfl (lv_at hl 3 rfl) ?_
  refine lv_if_lt (pc := 7) (tgt := 15) hx hb dzU_findSection_7 (by decide) (fun hq9 => absurd hq9 h01) (fun _ => ?_)
  refine lv_iload_n (pc := 10) hx hb dzU_findSection_10 rfl (lv_at hl 3 rfl) ?_
  refine lv_iconst (v := 3) (pc := 11) hx hb dzU_findSection_11 (by decide) ?_
  refine lv_icmp_lt (pc := 12) (tgt := 26) hx hb dzU_findSection_12 (by decide) (fun hq9 => absurd hq9 h02) (fun _ => ?_)
  exact xt_throw (pc := 15) (ln := 3) (is := 268) (tx := "no such section") (rest := []) hx hb hst (by rw [hml]; exact hl.1.symm) hown hlocks hout hX hend hP hS (by decide +kernel) (by decide +kernel) (by decide +kernel) xbNS_0 xbNS_1 xbNS_2 xbNS_5 (hts _ xk_m311) (hts _ xk_m57) (xaNS hts) (by decide) (by decide) dzU_findSection_15 dzU_findSection_18 (Or.inr ⟨rfl, dzU_findSection_19⟩) dzU_findSection_22 dzU_findSection_25 (Nat.le_of_ble_eq_true rfl) (Nat.le_of_ble_eq_true rfl) (Nat.le_of_ble_eq_true rfl) (Nat.le_of_ble_eq_true rfl)

theorem xzU_findSection_bs0 (l : Launch) (hst : l.stackTraces = false) (G : va_G) (ac : Nat → ClassId) (ad : Nat → Nat) (g0 : xk_St) (k1 : Int32) (hbs : k1 < 0 ∨ ¬ k1 < 3) : xt_C l yzU_findSection czU_findSection 4 (some (.object "CrossingUnit$Section")) xk_WS xt_r1 G xk_cls (xk_tys ac) RzU xk_tx xk_ex [.ref (ad 0), .int 0, .int k1] (xk_wU ad ac g0) "java/util/NoSuchElementException" := by
  by_cases h01 : k1 < 0
  · exact xzU_findSection_bs0_n l hst G ac ad g0 k1  h01
  · exact xzU_findSection_bs0_b l hst G ac ad g0 k1  h01 (hbs.resolve_left h01)

set_option maxHeartbeats 4000000 in
set_option maxRecDepth 100000 in
theorem xzU_findSection_bs1_n (l : Launch) (hst : l.stackTraces = false) (G : va_G) (ac : Nat → ClassId) (ad : Nat → Nat) (g0 : xk_St) (k1 : Int32) (h01 : k1 < 0) : xt_C l yzU_findSection czU_findSection 4 (some (.object "CrossingUnit$Section")) xk_WS xt_r1 G xk_cls (xk_tys ac) RzU xk_tx xk_ex [.ref (ad 0), .int 1, .int k1] (xk_wU ad ac g0) "java/util/NoSuchElementException" := by
  refine xt_of (by decide) (Nat.le_of_ble_eq_true rfl) ?_
  intro p e s m args below meth c A Q H locs ls C0 hlocks hout hX hend hP hD hS hl
  obtain ⟨hx, hb, hml, hts, hown, hK, hA⟩ := C0
  have hl : lv_has ls 4 [(0, .ref (ad 0)), (1, .int 1), (2, .int k1)] := hl
  refine lv_aload_n (pc := 0) hx hb dzU_findSection_0 rfl (lv_at hl 0 rfl) ?_
  refine lv_iload_n (pc := 1) hx hb dzU_findSection_1 rfl (lv_at hl 1 rfl) ?_
  refine xk_allVR (As := [.int 1]) (rest := []) (H0 := s.heap) (pc := 2) hx hb hml hts hown hK hA hP hD hS (kzU_findTrack_1 l G ac ad g0) vfzU_63 0 rfl rfl ⟨rfl, rfl⟩ ⟨Nat.le_of_ble_eq_true rfl, Nat.le_of_ble_eq_true rfl⟩ rfl hl.1 rfl (Nat.le_of_ble_eq_true rfl) ⟨Nat.zero_le _, Nat.zero_le _⟩ dzU_findSection_2 (fun H locs hP hD hS => ?_)
  have hP : va_P G xk_cls (xk_wU ad ac g0) H := hP
  have hD : va_D A (xk_wU ad ac g0) := hD
  refine lv_astore_n (lv' := [(3, .ref (ad 10)), (0, .ref (ad 0)), (1, .int 1), (2, .int k1)]) (pc := 5) hx hb dzU_findSection_5 rfl hl (by decide) rfl (fun ls hl => ?_)
  refine lv_iload_n (pc := 6) hx hb dzU_findSection_6 rfl (lv_at hl 3 rfl) ?_
  refine lv_if_lt (pc := 7) (tgt := 15) hx hb dzU_findSection_7 (by decide) (fun _ => ?_) (fun hq9 => absurd h01 hq9)
  exact xt_throw (pc := 15) (ln := 3) (is := 268) (tx := "no such section") (rest := []) hx hb hst (by rw [hml]; exact hl.1.symm) hown hlocks hout hX hend hP hS (by decide +kernel) (by decide +kernel) (by decide +kernel) xbNS_0 xbNS_1 xbNS_2 xbNS_5 (hts _ xk_m311) (hts _ xk_m57) (xaNS hts) (by decide) (by decide) dzU_findSection_15 dzU_findSection_18 (Or.inr ⟨rfl, dzU_findSection_19⟩) dzU_findSection_22 dzU_findSection_25 (Nat.le_of_ble_eq_true rfl) (Nat.le_of_ble_eq_true rfl) (Nat.le_of_ble_eq_true rfl) (Nat.le_of_ble_eq_true rfl)

set_option maxHeartbeats 4000000 in
set_option maxRecDepth 100000 in
theorem xzU_findSection_bs1_b (l : Launch) (hst : l.stackTraces = false) (G : va_G) (ac : Nat → ClassId) (ad : Nat → Nat) (g0 : xk_St) (k1 : Int32) (h01 : ¬ k1 < 0) (h02 : ¬ k1 < 3) : xt_C l yzU_findSection czU_findSection 4 (some (.object "CrossingUnit$Section")) xk_WS xt_r1 G xk_cls (xk_tys ac) RzU xk_tx xk_ex [.ref (ad 0), .int 1, .int k1] (xk_wU ad ac g0) "java/util/NoSuchElementException" := by
  refine xt_of (by decide) (Nat.le_of_ble_eq_true rfl) ?_
  intro p e s m args below meth c A Q H locs ls C0 hlocks hout hX hend hP hD hS hl
  obtain ⟨hx, hb, hml, hts, hown, hK, hA⟩ := C0
  have hl : lv_has ls 4 [(0, .ref (ad 0)), (1, .int 1), (2, .int k1)] := hl
  refine lv_aload_n (pc := 0) hx hb dzU_findSection_0 rfl (lv_at hl 0 rfl) ?_
  refine lv_iload_n (pc := 1) hx hb dzU_findSection_1 rfl (lv_at hl 1 rfl) ?_
  refine xk_allVR (As := [.int 1]) (rest := []) (H0 := s.heap) (pc := 2) hx hb hml hts hown hK hA hP hD hS (kzU_findTrack_1 l G ac ad g0) vfzU_63 0 rfl rfl ⟨rfl, rfl⟩ ⟨Nat.le_of_ble_eq_true rfl, Nat.le_of_ble_eq_true rfl⟩ rfl hl.1 rfl (Nat.le_of_ble_eq_true rfl) ⟨Nat.zero_le _, Nat.zero_le _⟩ dzU_findSection_2 (fun H locs hP hD hS => ?_)
  have hP : va_P G xk_cls (xk_wU ad ac g0) H := hP
  have hD : va_D A (xk_wU ad ac g0) := hD
  refine lv_astore_n (lv' := [(3, .ref (ad 10)), (0, .ref (ad 0)), (1, .int 1), (2, .int k1)]) (pc := 5) hx hb dzU_findSection_5 rfl hl (by decide) rfl (fun ls hl => ?_)
  refine lv_iload_n (pc := 6) hx hb dzU_findSection_6 rfl (lv_at hl 3 rfl) ?_
  refine lv_if_lt (pc := 7) (tgt := 15) hx hb dzU_findSection_7 (by decide) (fun hq9 => absurd hq9 h01) (fun _ => ?_)
  refine lv_iload_n (pc := 10) hx hb dzU_findSection_10 rfl (lv_at hl 3 rfl) ?_
  refine lv_iconst (v := 3) (pc := 11) hx hb dzU_findSection_11 (by decide) ?_
  refine lv_icmp_lt (pc := 12) (tgt := 26) hx hb dzU_findSection_12 (by decide) (fun hq9 => absurd hq9 h02) (fun _ => ?_)
  exact xt_throw (pc := 15) (ln := 3) (is := 268) (tx := "no such section") (rest := []) hx hb hst (by rw [hml]; exact hl.1.symm) hown hlocks hout hX hend hP hS (by decide +kernel) (by decide +kernel) (by decide +kernel) xbNS_0 xbNS_1 xbNS_2 xbNS_5 (hts _ xk_m311) (hts _ xk_m57) (xaNS hts) (by decide) (by decide) dzU_findSection_15 dzU_findSection_18 (Or.inr ⟨rfl, dzU_findSection_19⟩) dzU_findSection_22 dzU_findSection_25 (Nat.le_of_ble_eq_true rfl) (Nat.le_of_ble_eq_true rfl) (Nat.le_of_ble_eq_true rfl) (Nat.le_of_ble_eq_true rfl)

theorem xzU_findSection_bs1 (l : Launch) (hst : l.stackTraces = false) (G : va_G) (ac : Nat → ClassId) (ad : Nat → Nat) (g0 : xk_St) (k1 : Int32) (hbs : k1 < 0 ∨ ¬ k1 < 3) : xt_C l yzU_findSection czU_findSection 4 (some (.object "CrossingUnit$Section")) xk_WS xt_r1 G xk_cls (xk_tys ac) RzU xk_tx xk_ex [.ref (ad 0), .int 1, .int k1] (xk_wU ad ac g0) "java/util/NoSuchElementException" := by
  by_cases h01 : k1 < 0
  · exact xzU_findSection_bs1_n l hst G ac ad g0 k1  h01
  · exact xzU_findSection_bs1_b l hst G ac ad g0 k1  h01 (hbs.resolve_left h01)

set_option maxHeartbeats 4000000 in
set_option maxRecDepth 100000 in
theorem xzU_pulse_bt (l : Launch) (hst : l.stackTraces = false) (G : va_G) (ac : Nat → ClassId) (ad : Nat → Nat) (g0 : xk_St) (k0 : Int32) (k1 : Int32) (k2 : Int32) (hbt : k0 < 0 ∨ ¬ k0 < 2) : xt_C l yzU_pulse czU_pulse 5 none xk_WS xt_r1 G xk_cls (xk_tys ac) RzU xk_tx xk_ex [.ref (ad 0), .int k0, .int k1, .int k2] (xk_wU ad ac g0) "java/util/NoSuchElementException" := by
  refine xt_of (by decide) (Nat.le_of_ble_eq_true rfl) ?_
  intro p e s m args below meth c A Q H locs ls C0 hlocks hout hX hend hP hD hS hl
  obtain ⟨hx, hb, hml, hts, hown, hK, hA⟩ := C0
  have hl : lv_has ls 5 [(0, .ref (ad 0)), (1, .int k0), (2, .int k1), (3, .int k2)] := hl
  refine lv_aload_n (pc := 0) hx hb dzU_pulse_0 rfl (lv_at hl 0 rfl) ?_
  refine lv_iload_n (pc := 1) hx hb dzU_pulse_1 rfl (lv_at hl 1 rfl) ?_
  exact xt_pass (xt_runV (As := [.int k0]) (rest := []) (pc := 2) hx hb hml hts hown hK hP hD hX hS (xk_freeAll hD hS hA) (xzU_findTrack_bad l hst G ac ad g0 k0 hbt) vfzU_63 0 rfl rfl ⟨rfl, rfl⟩ ⟨Nat.le_of_ble_eq_true rfl, Nat.le_of_ble_eq_true rfl⟩ rfl hl.1 rfl (Nat.le_of_ble_eq_true rfl) ⟨Nat.le_of_ble_eq_true rfl, Nat.le_of_ble_eq_true rfl⟩ dzU_pulse_2) hlocks hout hend hS (xk_freeAll hD hS hA)

set_option maxHeartbeats 4000000 in
set_option maxRecDepth 100000 in
theorem xzU_pulse_bh0 (l : Launch) (hst : l.stackTraces = false) (G : va_G) (ac : Nat → ClassId) (ad : Nat → Nat) (g0 : xk_St) (k1 : Int32) (k2 : Int32) (hbh : k1 < 0 ∨ ¬ k1 < 4) : xt_C l yzU_pulse czU_pulse 5 none xk_WS xt_r1 G xk_cls (xk_tys ac) RzU xk_tx xk_ex [.ref (ad 0), .int 0, .int k1, .int k2] (xk_wU ad ac g0) "java/util/NoSuchElementException" := by
  refine xt_of (by decide) (Nat.le_of_ble_eq_true rfl) ?_
  intro p e s m args below meth c A Q H locs ls C0 hlocks hout hX hend hP hD hS hl
  obtain ⟨hx, hb, hml, hts, hown, hK, hA⟩ := C0
  have hl : lv_has ls 5 [(0, .ref (ad 0)), (1, .int 0), (2, .int k1), (3, .int k2)] := hl
  refine lv_aload_n (pc := 0) hx hb dzU_pulse_0 rfl (lv_at hl 0 rfl) ?_
  refine lv_iload_n (pc := 1) hx hb dzU_pulse_1 rfl (lv_at hl 1 rfl) ?_
  refine xk_allVR (As := [.int 0]) (rest := []) (H0 := s.heap) (pc := 2) hx hb hml hts hown hK hA hP hD hS (kzU_findTrack_0 l G ac ad g0) vfzU_63 0 rfl rfl ⟨rfl, rfl⟩ ⟨Nat.le_of_ble_eq_true rfl, Nat.le_of_ble_eq_true rfl⟩ rfl hl.1 rfl (Nat.le_of_ble_eq_true rfl) ⟨Nat.zero_le _, Nat.zero_le _⟩ dzU_pulse_2 (fun H locs hP hD hS => ?_)
  have hP : va_P G xk_cls (xk_wU ad ac g0) H := hP
  have hD : va_D A (xk_wU ad ac g0) := hD
  refine lv_astore (lv' := [(4, .ref (ad 9)), (0, .ref (ad 0)), (1, .int 0), (2, .int k1), (3, .int k2)]) (pc := 5) hx hb dzU_pulse_5 hl (by decide) rfl (fun ls hl => ?_)
  refine lv_iload_n (pc := 7) hx hb dzU_pulse_7 rfl (lv_at hl 3 rfl) ?_
  exact xt_pass (xt_runS (As := [.int k1]) (rest := []) (pc := 8) hx hb hml hts hown hK hP hD hX hS (xk_freeAll hD hS hA) (xzU_checkHead_bad l hst G ac ad g0 k1 hbh) sfzU_67 ⟨rfl, rfl⟩ ⟨Nat.le_of_ble_eq_true rfl, Nat.le_of_ble_eq_true rfl⟩ rfl hl.1 rfl (Nat.le_of_ble_eq_true rfl) ⟨Nat.le_of_ble_eq_true rfl, Nat.le_of_ble_eq_true rfl⟩ dzU_pulse_8) hlocks hout hend hS (xk_freeAll hD hS hA)

set_option maxHeartbeats 4000000 in
set_option maxRecDepth 100000 in
theorem xzU_pulse_bh1 (l : Launch) (hst : l.stackTraces = false) (G : va_G) (ac : Nat → ClassId) (ad : Nat → Nat) (g0 : xk_St) (k1 : Int32) (k2 : Int32) (hbh : k1 < 0 ∨ ¬ k1 < 4) : xt_C l yzU_pulse czU_pulse 5 none xk_WS xt_r1 G xk_cls (xk_tys ac) RzU xk_tx xk_ex [.ref (ad 0), .int 1, .int k1, .int k2] (xk_wU ad ac g0) "java/util/NoSuchElementException" := by
  refine xt_of (by decide) (Nat.le_of_ble_eq_true rfl) ?_
  intro p e s m args below meth c A Q H locs ls C0 hlocks hout hX hend hP hD hS hl
  obtain ⟨hx, hb, hml, hts, hown, hK, hA⟩ := C0
  have hl : lv_has ls 5 [(0, .ref (ad 0)), (1, .int 1), (2, .int k1), (3, .int k2)] := hl
  refine lv_aload_n (pc := 0) hx hb dzU_pulse_0 rfl (lv_at hl 0 rfl) ?_
  refine lv_iload_n (pc := 1) hx hb dzU_pulse_1 rfl (lv_at hl 1 rfl) ?_
  refine xk_allVR (As := [.int 1]) (rest := []) (H0 := s.heap) (pc := 2) hx hb hml hts hown hK hA hP hD hS (kzU_findTrack_1 l G ac ad g0) vfzU_63 0 rfl rfl ⟨rfl, rfl⟩ ⟨Nat.le_of_ble_eq_true rfl, Nat.le_of_ble_eq_true rfl⟩ rfl hl.1 rfl (Nat.le_of_ble_eq_true rfl) ⟨Nat.zero_le _, Nat.zero_le _⟩ dzU_pulse_2 (fun H locs hP hD hS => ?_)
  have hP : va_P G xk_cls (xk_wU ad ac g0) H := hP
  have hD : va_D A (xk_wU ad ac g0) := hD
  refine lv_astore (lv' := [(4, .ref (ad 10)), (0, .ref (ad 0)), (1, .int 1), (2, .int k1), (3, .int k2)]) (pc := 5) hx hb dzU_pulse_5 hl (by decide) rfl (fun ls hl => ?_)
  refine lv_iload_n (pc := 7) hx hb dzU_pulse_7 rfl (lv_at hl 3 rfl) ?_
  exact xt_pass (xt_runS (As := [.int k1]) (rest := []) (pc := 8) hx hb hml hts hown hK hP hD hX hS (xk_freeAll hD hS hA) (xzU_checkHead_bad l hst G ac ad g0 k1 hbh) sfzU_67 ⟨rfl, rfl⟩ ⟨Nat.le_of_ble_eq_true rfl, Nat.le_of_ble_eq_true rfl⟩ rfl hl.1 rfl (Nat.le_of_ble_eq_true rfl) ⟨Nat.le_of_ble_eq_true rfl, Nat.le_of_ble_eq_true rfl⟩ dzU_pulse_8) hlocks hout hend hS (xk_freeAll hD hS hA)

set_option maxHeartbeats 4000000 in
set_option maxRecDepth 100000 in
theorem xzU_pulse_bd00 (l : Launch) (hst : l.stackTraces = false) (G : va_G) (ac : Nat → ClassId) (ad : Nat → Nat) (g0 : xk_St) (k2 : Int32) (h1 : ¬ k2 = 1) (h2 : ¬ k2 = (-1)) : xt_C l yzU_pulse czU_pulse 5 none xk_WS xt_r1 G xk_cls (xk_tys ac) RzU xk_tx xk_ex [.ref (ad 0), .int 0, .int 0, .int k2] (xk_wU ad ac g0) "java/lang/IllegalArgumentException" := by
  refine xt_of (by decide) (Nat.le_of_ble_eq_true rfl) ?_
  intro p e s m args below meth c A Q H locs ls C0 hlocks hout hX hend hP hD hS hl
  obtain ⟨hx, hb, hml, hts, hown, hK, hA⟩ := C0
  have hl : lv_has ls 5 [(0, .ref (ad 0)), (1, .int 0), (2, .int 0), (3, .int k2)] := hl
  refine lv_aload_n (pc := 0) hx hb dzU_pulse_0 rfl (lv_at hl 0 rfl) ?_
  refine lv_iload_n (pc := 1) hx hb dzU_pulse_1 rfl (lv_at hl 1 rfl) ?_
  refine xk_allVR (As := [.int 0]) (rest := []) (H0 := s.heap) (pc := 2) hx hb hml hts hown hK hA hP hD hS (kzU_findTrack_0 l G ac ad g0) vfzU_63 0 rfl rfl ⟨rfl, rfl⟩ ⟨Nat.le_of_ble_eq_true rfl, Nat.le_of_ble_eq_true rfl⟩ rfl hl.1 rfl (Nat.le_of_ble_eq_true rfl) ⟨Nat.zero_le _, Nat.zero_le _⟩ dzU_pulse_2 (fun H locs hP hD hS => ?_)
  have hP : va_P G xk_cls (xk_wU ad ac g0) H := hP
  have hD : va_D A (xk_wU ad ac g0) := hD
  refine lv_astore (lv' := [(4, .ref (ad 9)), (0, .ref (ad 0)), (1, .int 0), (2, .int 0), (3, .int k2)]) (pc := 5) hx hb dzU_pulse_5 hl (by decide) rfl (fun ls hl => ?_)
  refine lv_iload_n (pc := 7) hx hb dzU_pulse_7 rfl (lv_at hl 3 rfl) ?_
  refine xk_callSV (As := [.int 0]) (rest := []) (H0 := s.heap) (pc := 8) hx hb hml hts hown hK hA hP hD hS (kzU_checkHead_0 l G ac) sfzU_67 [] (by decide) rfl (fun _ => rfl) ⟨rfl, rfl⟩ ⟨Nat.le_of_ble_eq_true rfl, Nat.le_of_ble_eq_true rfl⟩ rfl hl.1 rfl (Nat.le_of_ble_eq_true rfl) ⟨Nat.zero_le _, Nat.zero_le _⟩ dzU_pulse_8 (fun u9 H locs e9 hP hD hS => ?_)
  have hP : va_P G xk_cls (xk_wU ad ac g0) H := hP
  have hD : va_D A (xk_wU ad ac g0) := hD
  refine lv_iload_n (pc := 11) hx hb dzU_pulse_11 rfl (lv_at hl 4 rfl) ?_
  refine lv_iconst (v := 1) (pc := 12) hx hb dzU_pulse_12 (by decide) ?_
  refine lv_icmp_eq (pc := 13) (tgt := 31) hx hb dzU_pulse_13 (by decide) (fun hq9 => absurd hq9 h1) (fun _ => ?_)
  refine lv_iload_n (pc := 16) hx hb dzU_pulse_16 rfl (lv_at hl 4 rfl) ?_
  refine lv_iconst (v := (-1)) (pc := 17) hx hb dzU_pulse_17 (by decide) ?_
  refine lv_icmp_eq (pc := 18) (tgt := 31) hx hb dzU_pulse_18 (by decide) (fun hq9 => absurd hq9 h2) (fun _ => ?_)
  exact xt_throw (pc := 21) (ln := 2) (is := 72) (tx := "a direction is 1 or -1") (rest := []) hx hb hst (by rw [hml]; exact hl.1.symm) hown hlocks hout hX hend hP hS (by decide +kernel) (by decide +kernel) (by decide +kernel) xbIA_0 xbIA_1 xbIA_2 xbIA_5 (hts _ xk_m317) (hts _ xk_m58) (xaIA hts) (by decide) (by decide) dzU_pulse_21 dzU_pulse_24 (Or.inl ⟨rfl, dzU_pulse_25⟩) dzU_pulse_27 dzU_pulse_30 (Nat.le_of_ble_eq_true rfl) (Nat.le_of_ble_eq_true rfl) (Nat.le_of_ble_eq_true rfl) (Nat.le_of_ble_eq_true rfl)

set_option maxHeartbeats 4000000 in
set_option maxRecDepth 100000 in
theorem xzU_pulse_bk00_n (l : Launch) (hst : l.stackTraces = false) (G : va_G) (ac : Nat → ClassId) (ad : Nat → Nat) (g0 : xk_St) (k2 : Int32) (hkp : ¬ ((g0 15) 0) = 0) (h01 : k2 = 1) : xt_C l yzU_pulse czU_pulse 5 none xk_WS xt_r1 G xk_cls (xk_tys ac) RzU xk_tx xk_ex [.ref (ad 0), .int 0, .int 0, .int k2] (xk_wU ad ac g0) "java/lang/IllegalStateException" := by
  refine xt_of (by decide) (Nat.le_of_ble_eq_true rfl) ?_
  intro p e s m args below meth c A Q H locs ls C0 hlocks hout hX hend hP hD hS hl
  obtain ⟨hx, hb, hml, hts, hown, hK, hA⟩ := C0
  have hl : lv_has ls 5 [(0, .ref (ad 0)), (1, .int 0), (2, .int 0), (3, .int k2)] := hl
  refine lv_aload_n (pc := 0) hx hb dzU_pulse_0 rfl (lv_at hl 0 rfl) ?_
  refine lv_iload_n (pc := 1) hx hb dzU_pulse_1 rfl (lv_at hl 1 rfl) ?_
  refine xk_allVR (As := [.int 0]) (rest := []) (H0 := s.heap) (pc := 2) hx hb hml hts hown hK hA hP hD hS (kzU_findTrack_0 l G ac ad g0) vfzU_63 0 rfl rfl ⟨rfl, rfl⟩ ⟨Nat.le_of_ble_eq_true rfl, Nat.le_of_ble_eq_true rfl⟩ rfl hl.1 rfl (Nat.le_of_ble_eq_true rfl) ⟨Nat.zero_le _, Nat.zero_le _⟩ dzU_pulse_2 (fun H locs hP hD hS => ?_)
  have hP : va_P G xk_cls (xk_wU ad ac g0) H := hP
  have hD : va_D A (xk_wU ad ac g0) := hD
  refine lv_astore (lv' := [(4, .ref (ad 9)), (0, .ref (ad 0)), (1, .int 0), (2, .int 0), (3, .int k2)]) (pc := 5) hx hb dzU_pulse_5 hl (by decide) rfl (fun ls hl => ?_)
  refine lv_iload_n (pc := 7) hx hb dzU_pulse_7 rfl (lv_at hl 3 rfl) ?_
  refine xk_callSV (As := [.int 0]) (rest := []) (H0 := s.heap) (pc := 8) hx hb hml hts hown hK hA hP hD hS (kzU_checkHead_0 l G ac) sfzU_67 [] (by decide) rfl (fun _ => rfl) ⟨rfl, rfl⟩ ⟨Nat.le_of_ble_eq_true rfl, Nat.le_of_ble_eq_true rfl⟩ rfl hl.1 rfl (Nat.le_of_ble_eq_true rfl) ⟨Nat.zero_le _, Nat.zero_le _⟩ dzU_pulse_8 (fun u9 H locs e9 hP hD hS => ?_)
  have hP : va_P G xk_cls (xk_wU ad ac g0) H := hP
  have hD : va_D A (xk_wU ad ac g0) := hD
  refine lv_iload_n (pc := 11) hx hb dzU_pulse_11 rfl (lv_at hl 4 rfl) ?_
  refine lv_iconst (v := 1) (pc := 12) hx hb dzU_pulse_12 (by decide) ?_
  refine lv_icmp_eq (pc := 13) (tgt := 31) hx hb dzU_pulse_13 (by decide) (fun _ => ?_) (fun hq9 => absurd h01 hq9)
  refine lv_aload (pc := 31) hx hb dzU_pulse_31 (lv_at hl 0 rfl) ?_
  refine xk_get (pc := 33) hx hb hts hown hK hP ffzU_77 9 rfl rfl dzU_pulse_33 ?_
  refine lv_iload_n (pc := 36) hx hb dzU_pulse_36 rfl (lv_at hl 3 rfl) ?_
  refine xk_iald (q0 := 15) (t0 := 0) (j := 0) (pc := 37) hx hb hK hP rfl rfl (pk_in 0 4 (by decide)) (pk_cl 0) dzU_pulse_37 ?_
  refine lv_if_eq (pc := 38) (tgt := 51) hx hb dzU_pulse_38 (by decide) (fun hq9 => absurd hq9 hkp) (fun _ => ?_)
  exact xt_throw (pc := 41) (ln := 2) (is := 83) (tx := "the head has a pulse that is kept") (rest := []) hx hb hst (by rw [hml]; exact hl.1.symm) hown hlocks hout hX hend hP hS (by decide +kernel) (by decide +kernel) (by decide +kernel) xbIS_0 xbIS_1 xbIS_2 xbIS_5 (hts _ xk_m318) (hts _ xk_m59) (xaIS hts) (by decide) (by decide) dzU_pulse_41 dzU_pulse_44 (Or.inl ⟨rfl, dzU_pulse_45⟩) dzU_pulse_47 dzU_pulse_50 (Nat.le_of_ble_eq_true rfl) (Nat.le_of_ble_eq_true rfl) (Nat.le_of_ble_eq_true rfl) (Nat.le_of_ble_eq_true rfl)

set_option maxHeartbeats 4000000 in
set_option maxRecDepth 100000 in
theorem xzU_pulse_bk00_b (l : Launch) (hst : l.stackTraces = false) (G : va_G) (ac : Nat → ClassId) (ad : Nat → Nat) (g0 : xk_St) (k2 : Int32) (hkp : ¬ ((g0 15) 0) = 0) (h01 : ¬ k2 = 1) (h02 : k2 = (-1)) : xt_C l yzU_pulse czU_pulse 5 none xk_WS xt_r1 G xk_cls (xk_tys ac) RzU xk_tx xk_ex [.ref (ad 0), .int 0, .int 0, .int k2] (xk_wU ad ac g0) "java/lang/IllegalStateException" := by
  refine xt_of (by decide) (Nat.le_of_ble_eq_true rfl) ?_
  intro p e s m args below meth c A Q H locs ls C0 hlocks hout hX hend hP hD hS hl
  obtain ⟨hx, hb, hml, hts, hown, hK, hA⟩ := C0
  have hl : lv_has ls 5 [(0, .ref (ad 0)), (1, .int 0), (2, .int 0), (3, .int k2)] := hl
  refine lv_aload_n (pc := 0) hx hb dzU_pulse_0 rfl (lv_at hl 0 rfl) ?_
  refine lv_iload_n (pc := 1) hx hb dzU_pulse_1 rfl (lv_at hl 1 rfl) ?_
  refine xk_allVR (As := [.int 0]) (rest := []) (H0 := s.heap) (pc := 2) hx hb hml hts hown hK hA hP hD hS (kzU_findTrack_0 l G ac ad g0) vfzU_63 0 rfl rfl ⟨rfl, rfl⟩ ⟨Nat.le_of_ble_eq_true rfl, Nat.le_of_ble_eq_true rfl⟩ rfl hl.1 rfl (Nat.le_of_ble_eq_true rfl) ⟨Nat.zero_le _, Nat.zero_le _⟩ dzU_pulse_2 (fun H locs hP hD hS => ?_)
  have hP : va_P G xk_cls (xk_wU ad ac g0) H := hP
  have hD : va_D A (xk_wU ad ac g0) := hD
  refine lv_astore (lv' := [(4, .ref (ad 9)), (0, .ref (ad 0)), (1, .int 0), (2, .int 0), (3, .int k2)]) (pc := 5) hx hb dzU_pulse_5 hl (by decide) rfl (fun ls hl => ?_)
  refine lv_iload_n (pc := 7) hx hb dzU_pulse_7 rfl (lv_at hl 3 rfl) ?_
  refine xk_callSV (As := [.int 0]) (rest := []) (H0 := s.heap) (pc := 8) hx hb hml hts hown hK hA hP hD hS (kzU_checkHead_0 l G ac) sfzU_67 [] (by decide) rfl (fun _ => rfl) ⟨rfl, rfl⟩ ⟨Nat.le_of_ble_eq_true rfl, Nat.le_of_ble_eq_true rfl⟩ rfl hl.1 rfl (Nat.le_of_ble_eq_true rfl) ⟨Nat.zero_le _, Nat.zero_le _⟩ dzU_pulse_8 (fun u9 H locs e9 hP hD hS => ?_)
  have hP : va_P G xk_cls (xk_wU ad ac g0) H := hP
  have hD : va_D A (xk_wU ad ac g0) := hD
  refine lv_iload_n (pc := 11) hx hb dzU_pulse_11 rfl (lv_at hl 4 rfl) ?_
  refine lv_iconst (v := 1) (pc := 12) hx hb dzU_pulse_12 (by decide) ?_
  refine lv_icmp_eq (pc := 13) (tgt := 31) hx hb dzU_pulse_13 (by decide) (fun hq9 => absurd hq9 h01) (fun _ => ?_)
  refine lv_iload_n (pc := 16) hx hb dzU_pulse_16 rfl (lv_at hl 4 rfl) ?_
  refine lv_iconst (v := (-1)) (pc := 17) hx hb dzU_pulse_17 (by decide) ?_
  refine lv_icmp_eq (pc := 18) (tgt := 31) hx hb dzU_pulse_18 (by decide) (fun _ => ?_) (fun hq9 => absurd h02 hq9)
  refine lv_aload (pc := 31) hx hb dzU_pulse_31 (lv_at hl 0 rfl) ?_
  refine xk_get (pc := 33) hx hb hts hown hK hP ffzU_77 9 rfl rfl dzU_pulse_33 ?_
  refine lv_iload_n (pc := 36) hx hb dzU_pulse_36 rfl (lv_at hl 3 rfl) ?_
  refine xk_iald (q0 := 15) (t0 := 0) (j := 0) (pc := 37) hx hb hK hP rfl rfl (pk_in 0 4 (by decide)) (pk_cl 0) dzU_pulse_37 ?_
  refine lv_if_eq (pc := 38) (tgt := 51) hx hb dzU_pulse_38 (by decide) (fun hq9 => absurd hq9 hkp) (fun _ => ?_)
  exact xt_throw (pc := 41) (ln := 2) (is := 83) (tx := "the head has a pulse that is kept") (rest := []) hx hb hst (by rw [hml]; exact hl.1.symm) hown hlocks hout hX hend hP hS (by decide +kernel) (by decide +kernel) (by decide +kernel) xbIS_0 xbIS_1 xbIS_2 xbIS_5 (hts _ xk_m318) (hts _ xk_m59) (xaIS hts) (by decide) (by decide) dzU_pulse_41 dzU_pulse_44 (Or.inl ⟨rfl, dzU_pulse_45⟩) dzU_pulse_47 dzU_pulse_50 (Nat.le_of_ble_eq_true rfl) (Nat.le_of_ble_eq_true rfl) (Nat.le_of_ble_eq_true rfl) (Nat.le_of_ble_eq_true rfl)

theorem xzU_pulse_bk00 (l : Launch) (hst : l.stackTraces = false) (G : va_G) (ac : Nat → ClassId) (ad : Nat → Nat) (g0 : xk_St) (k2 : Int32) (hkp : ¬ ((g0 15) 0) = 0) (hkd : k2 = 1 ∨ k2 = (-1)) : xt_C l yzU_pulse czU_pulse 5 none xk_WS xt_r1 G xk_cls (xk_tys ac) RzU xk_tx xk_ex [.ref (ad 0), .int 0, .int 0, .int k2] (xk_wU ad ac g0) "java/lang/IllegalStateException" := by
  by_cases h01 : k2 = 1
  · exact xzU_pulse_bk00_n l hst G ac ad g0 k2 hkp h01
  · exact xzU_pulse_bk00_b l hst G ac ad g0 k2 hkp h01 (hkd.resolve_left h01)

set_option maxHeartbeats 4000000 in
set_option maxRecDepth 100000 in
theorem xzU_pulse_bd01 (l : Launch) (hst : l.stackTraces = false) (G : va_G) (ac : Nat → ClassId) (ad : Nat → Nat) (g0 : xk_St) (k2 : Int32) (h1 : ¬ k2 = 1) (h2 : ¬ k2 = (-1)) : xt_C l yzU_pulse czU_pulse 5 none xk_WS xt_r1 G xk_cls (xk_tys ac) RzU xk_tx xk_ex [.ref (ad 0), .int 0, .int 1, .int k2] (xk_wU ad ac g0) "java/lang/IllegalArgumentException" := by
  refine xt_of (by decide) (Nat.le_of_ble_eq_true rfl) ?_
  intro p e s m args below meth c A Q H locs ls C0 hlocks hout hX hend hP hD hS hl
  obtain ⟨hx, hb, hml, hts, hown, hK, hA⟩ := C0
  have hl : lv_has ls 5 [(0, .ref (ad 0)), (1, .int 0), (2, .int 1), (3, .int k2)] := hl
  refine lv_aload_n (pc := 0) hx hb dzU_pulse_0 rfl (lv_at hl 0 rfl) ?_
  refine lv_iload_n (pc := 1) hx hb dzU_pulse_1 rfl (lv_at hl 1 rfl) ?_
  refine xk_allVR (As := [.int 0]) (rest := []) (H0 := s.heap) (pc := 2) hx hb hml hts hown hK hA hP hD hS (kzU_findTrack_0 l G ac ad g0) vfzU_63 0 rfl rfl ⟨rfl, rfl⟩ ⟨Nat.le_of_ble_eq_true rfl, Nat.le_of_ble_eq_true rfl⟩ rfl hl.1 rfl (Nat.le_of_ble_eq_true rfl) ⟨Nat.zero_le _, Nat.zero_le _⟩ dzU_pulse_2 (fun H locs hP hD hS => ?_)
  have hP : va_P G xk_cls (xk_wU ad ac g0) H := hP
  have hD : va_D A (xk_wU ad ac g0) := hD
  refine lv_astore (lv' := [(4, .ref (ad 9)), (0, .ref (ad 0)), (1, .int 0), (2, .int 1), (3, .int k2)]) (pc := 5) hx hb dzU_pulse_5 hl (by decide) rfl (fun ls hl => ?_)
  refine lv_iload_n (pc := 7) hx hb dzU_pulse_7 rfl (lv_at hl 3 rfl) ?_
  refine xk_callSV (As := [.int 1]) (rest := []) (H0 := s.heap) (pc := 8) hx hb hml hts hown hK hA hP hD hS (kzU_checkHead_1 l G ac) sfzU_67 [] (by decide) rfl (fun _ => rfl) ⟨rfl, rfl⟩ ⟨Nat.le_of_ble_eq_true rfl, Nat.le_of_ble_eq_true rfl⟩ rfl hl.1 rfl (Nat.le_of_ble_eq_true rfl) ⟨Nat.zero_le _, Nat.zero_le _⟩ dzU_pulse_8 (fun u9 H locs e9 hP hD hS => ?_)
  have hP : va_P G xk_cls (xk_wU ad ac g0) H := hP
  have hD : va_D A (xk_wU ad ac g0) := hD
  refine lv_iload_n (pc := 11) hx hb dzU_pulse_11 rfl (lv_at hl 4 rfl) ?_
  refine lv_iconst (v := 1) (pc := 12) hx hb dzU_pulse_12 (by decide) ?_
  refine lv_icmp_eq (pc := 13) (tgt := 31) hx hb dzU_pulse_13 (by decide) (fun hq9 => absurd hq9 h1) (fun _ => ?_)
  refine lv_iload_n (pc := 16) hx hb dzU_pulse_16 rfl (lv_at hl 4 rfl) ?_
  refine lv_iconst (v := (-1)) (pc := 17) hx hb dzU_pulse_17 (by decide) ?_
  refine lv_icmp_eq (pc := 18) (tgt := 31) hx hb dzU_pulse_18 (by decide) (fun hq9 => absurd hq9 h2) (fun _ => ?_)
  exact xt_throw (pc := 21) (ln := 2) (is := 72) (tx := "a direction is 1 or -1") (rest := []) hx hb hst (by rw [hml]; exact hl.1.symm) hown hlocks hout hX hend hP hS (by decide +kernel) (by decide +kernel) (by decide +kernel) xbIA_0 xbIA_1 xbIA_2 xbIA_5 (hts _ xk_m317) (hts _ xk_m58) (xaIA hts) (by decide) (by decide) dzU_pulse_21 dzU_pulse_24 (Or.inl ⟨rfl, dzU_pulse_25⟩) dzU_pulse_27 dzU_pulse_30 (Nat.le_of_ble_eq_true rfl) (Nat.le_of_ble_eq_true rfl) (Nat.le_of_ble_eq_true rfl) (Nat.le_of_ble_eq_true rfl)

set_option maxHeartbeats 4000000 in
set_option maxRecDepth 100000 in
theorem xzU_pulse_bk01_n (l : Launch) (hst : l.stackTraces = false) (G : va_G) (ac : Nat → ClassId) (ad : Nat → Nat) (g0 : xk_St) (k2 : Int32) (hkp : ¬ ((g0 15) 1) = 0) (h01 : k2 = 1) : xt_C l yzU_pulse czU_pulse 5 none xk_WS xt_r1 G xk_cls (xk_tys ac) RzU xk_tx xk_ex [.ref (ad 0), .int 0, .int 1, .int k2] (xk_wU ad ac g0) "java/lang/IllegalStateException" := by
  refine xt_of (by decide) (Nat.le_of_ble_eq_true rfl) ?_
  intro p e s m args below meth c A Q H locs ls C0 hlocks hout hX hend hP hD hS hl
  obtain ⟨hx, hb, hml, hts, hown, hK, hA⟩ := C0
  have hl : lv_has ls 5 [(0, .ref (ad 0)), (1, .int 0), (2, .int 1), (3, .int k2)] := hl
  refine lv_aload_n (pc := 0) hx hb dzU_pulse_0 rfl (lv_at hl 0 rfl) ?_
  refine lv_iload_n (pc := 1) hx hb dzU_pulse_1 rfl (lv_at hl 1 rfl) ?_
  refine xk_allVR (As := [.int 0]) (rest := []) (H0 := s.heap) (pc := 2) hx hb hml hts hown hK hA hP hD hS (kzU_findTrack_0 l G ac ad g0) vfzU_63 0 rfl rfl ⟨rfl, rfl⟩ ⟨Nat.le_of_ble_eq_true rfl, Nat.le_of_ble_eq_true rfl⟩ rfl hl.1 rfl (Nat.le_of_ble_eq_true rfl) ⟨Nat.zero_le _, Nat.zero_le _⟩ dzU_pulse_2 (fun H locs hP hD hS => ?_)
  have hP : va_P G xk_cls (xk_wU ad ac g0) H := hP
  have hD : va_D A (xk_wU ad ac g0) := hD
  refine lv_astore (lv' := [(4, .ref (ad 9)), (0, .ref (ad 0)), (1, .int 0), (2, .int 1), (3, .int k2)]) (pc := 5) hx hb dzU_pulse_5 hl (by decide) rfl (fun ls hl => ?_)
  refine lv_iload_n (pc := 7) hx hb dzU_pulse_7 rfl (lv_at hl 3 rfl) ?_
  refine xk_callSV (As := [.int 1]) (rest := []) (H0 := s.heap) (pc := 8) hx hb hml hts hown hK hA hP hD hS (kzU_checkHead_1 l G ac) sfzU_67 [] (by decide) rfl (fun _ => rfl) ⟨rfl, rfl⟩ ⟨Nat.le_of_ble_eq_true rfl, Nat.le_of_ble_eq_true rfl⟩ rfl hl.1 rfl (Nat.le_of_ble_eq_true rfl) ⟨Nat.zero_le _, Nat.zero_le _⟩ dzU_pulse_8 (fun u9 H locs e9 hP hD hS => ?_)
  have hP : va_P G xk_cls (xk_wU ad ac g0) H := hP
  have hD : va_D A (xk_wU ad ac g0) := hD
  refine lv_iload_n (pc := 11) hx hb dzU_pulse_11 rfl (lv_at hl 4 rfl) ?_
  refine lv_iconst (v := 1) (pc := 12) hx hb dzU_pulse_12 (by decide) ?_
  refine lv_icmp_eq (pc := 13) (tgt := 31) hx hb dzU_pulse_13 (by decide) (fun _ => ?_) (fun hq9 => absurd h01 hq9)
  refine lv_aload (pc := 31) hx hb dzU_pulse_31 (lv_at hl 0 rfl) ?_
  refine xk_get (pc := 33) hx hb hts hown hK hP ffzU_77 9 rfl rfl dzU_pulse_33 ?_
  refine lv_iload_n (pc := 36) hx hb dzU_pulse_36 rfl (lv_at hl 3 rfl) ?_
  refine xk_iald (q0 := 15) (t0 := 0) (j := 1) (pc := 37) hx hb hK hP rfl rfl (pk_in 1 4 (by decide)) (pk_cl 1) dzU_pulse_37 ?_
  refine lv_if_eq (pc := 38) (tgt := 51) hx hb dzU_pulse_38 (by decide) (fun hq9 => absurd hq9 hkp) (fun _ => ?_)
  exact xt_throw (pc := 41) (ln := 2) (is := 83) (tx := "the head has a pulse that is kept") (rest := []) hx hb hst (by rw [hml]; exact hl.1.symm) hown hlocks hout hX hend hP hS (by decide +kernel) (by decide +kernel) (by decide +kernel) xbIS_0 xbIS_1 xbIS_2 xbIS_5 (hts _ xk_m318) (hts _ xk_m59) (xaIS hts) (by decide) (by decide) dzU_pulse_41 dzU_pulse_44 (Or.inl ⟨rfl, dzU_pulse_45⟩) dzU_pulse_47 dzU_pulse_50 (Nat.le_of_ble_eq_true rfl) (Nat.le_of_ble_eq_true rfl) (Nat.le_of_ble_eq_true rfl) (Nat.le_of_ble_eq_true rfl)

set_option maxHeartbeats 4000000 in
set_option maxRecDepth 100000 in
theorem xzU_pulse_bk01_b (l : Launch) (hst : l.stackTraces = false) (G : va_G) (ac : Nat → ClassId) (ad : Nat → Nat) (g0 : xk_St) (k2 : Int32) (hkp : ¬ ((g0 15) 1) = 0) (h01 : ¬ k2 = 1) (h02 : k2 = (-1)) : xt_C l yzU_pulse czU_pulse 5 none xk_WS xt_r1 G xk_cls (xk_tys ac) RzU xk_tx xk_ex [.ref (ad 0), .int 0, .int 1, .int k2] (xk_wU ad ac g0) "java/lang/IllegalStateException" := by
  refine xt_of (by decide) (Nat.le_of_ble_eq_true rfl) ?_
  intro p e s m args below meth c A Q H locs ls C0 hlocks hout hX hend hP hD hS hl
  obtain ⟨hx, hb, hml, hts, hown, hK, hA⟩ := C0
  have hl : lv_has ls 5 [(0, .ref (ad 0)), (1, .int 0), (2, .int 1), (3, .int k2)] := hl
  refine lv_aload_n (pc := 0) hx hb dzU_pulse_0 rfl (lv_at hl 0 rfl) ?_
  refine lv_iload_n (pc := 1) hx hb dzU_pulse_1 rfl (lv_at hl 1 rfl) ?_
  refine xk_allVR (As := [.int 0]) (rest := []) (H0 := s.heap) (pc := 2) hx hb hml hts hown hK hA hP hD hS (kzU_findTrack_0 l G ac ad g0) vfzU_63 0 rfl rfl ⟨rfl, rfl⟩ ⟨Nat.le_of_ble_eq_true rfl, Nat.le_of_ble_eq_true rfl⟩ rfl hl.1 rfl (Nat.le_of_ble_eq_true rfl) ⟨Nat.zero_le _, Nat.zero_le _⟩ dzU_pulse_2 (fun H locs hP hD hS => ?_)
  have hP : va_P G xk_cls (xk_wU ad ac g0) H := hP
  have hD : va_D A (xk_wU ad ac g0) := hD
  refine lv_astore (lv' := [(4, .ref (ad 9)), (0, .ref (ad 0)), (1, .int 0), (2, .int 1), (3, .int k2)]) (pc := 5) hx hb dzU_pulse_5 hl (by decide) rfl (fun ls hl => ?_)
  refine lv_iload_n (pc := 7) hx hb dzU_pulse_7 rfl (lv_at hl 3 rfl) ?_
  refine xk_callSV (As := [.int 1]) (rest := []) (H0 := s.heap) (pc := 8) hx hb hml hts hown hK hA hP hD hS (kzU_checkHead_1 l G ac) sfzU_67 [] (by decide) rfl (fun _ => rfl) ⟨rfl, rfl⟩ ⟨Nat.le_of_ble_eq_true rfl, Nat.le_of_ble_eq_true rfl⟩ rfl hl.1 rfl (Nat.le_of_ble_eq_true rfl) ⟨Nat.zero_le _, Nat.zero_le _⟩ dzU_pulse_8 (fun u9 H locs e9 hP hD hS => ?_)
  have hP : va_P G xk_cls (xk_wU ad ac g0) H := hP
  have hD : va_D A (xk_wU ad ac g0) := hD
  refine lv_iload_n (pc := 11) hx hb dzU_pulse_11 rfl (lv_at hl 4 rfl) ?_
  refine lv_iconst (v := 1) (pc := 12) hx hb dzU_pulse_12 (by decide) ?_
  refine lv_icmp_eq (pc := 13) (tgt := 31) hx hb dzU_pulse_13 (by decide) (fun hq9 => absurd hq9 h01) (fun _ => ?_)
  refine lv_iload_n (pc := 16) hx hb dzU_pulse_16 rfl (lv_at hl 4 rfl) ?_
  refine lv_iconst (v := (-1)) (pc := 17) hx hb dzU_pulse_17 (by decide) ?_
  refine lv_icmp_eq (pc := 18) (tgt := 31) hx hb dzU_pulse_18 (by decide) (fun _ => ?_) (fun hq9 => absurd h02 hq9)
  refine lv_aload (pc := 31) hx hb dzU_pulse_31 (lv_at hl 0 rfl) ?_
  refine xk_get (pc := 33) hx hb hts hown hK hP ffzU_77 9 rfl rfl dzU_pulse_33 ?_
  refine lv_iload_n (pc := 36) hx hb dzU_pulse_36 rfl (lv_at hl 3 rfl) ?_
  refine xk_iald (q0 := 15) (t0 := 0) (j := 1) (pc := 37) hx hb hK hP rfl rfl (pk_in 1 4 (by decide)) (pk_cl 1) dzU_pulse_37 ?_
  refine lv_if_eq (pc := 38) (tgt := 51) hx hb dzU_pulse_38 (by decide) (fun hq9 => absurd hq9 hkp) (fun _ => ?_)
  exact xt_throw (pc := 41) (ln := 2) (is := 83) (tx := "the head has a pulse that is kept") (rest := []) hx hb hst (by rw [hml]; exact hl.1.symm) hown hlocks hout hX hend hP hS (by decide +kernel) (by decide +kernel) (by decide +kernel) xbIS_0 xbIS_1 xbIS_2 xbIS_5 (hts _ xk_m318) (hts _ xk_m59) (xaIS hts) (by decide) (by decide) dzU_pulse_41 dzU_pulse_44 (Or.inl ⟨rfl, dzU_pulse_45⟩) dzU_pulse_47 dzU_pulse_50 (Nat.le_of_ble_eq_true rfl) (Nat.le_of_ble_eq_true rfl) (Nat.le_of_ble_eq_true rfl) (Nat.le_of_ble_eq_true rfl)

theorem xzU_pulse_bk01 (l : Launch) (hst : l.stackTraces = false) (G : va_G) (ac : Nat → ClassId) (ad : Nat → Nat) (g0 : xk_St) (k2 : Int32) (hkp : ¬ ((g0 15) 1) = 0) (hkd : k2 = 1 ∨ k2 = (-1)) : xt_C l yzU_pulse czU_pulse 5 none xk_WS xt_r1 G xk_cls (xk_tys ac) RzU xk_tx xk_ex [.ref (ad 0), .int 0, .int 1, .int k2] (xk_wU ad ac g0) "java/lang/IllegalStateException" := by
  by_cases h01 : k2 = 1
  · exact xzU_pulse_bk01_n l hst G ac ad g0 k2 hkp h01
  · exact xzU_pulse_bk01_b l hst G ac ad g0 k2 hkp h01 (hkd.resolve_left h01)

set_option maxHeartbeats 4000000 in
set_option maxRecDepth 100000 in
theorem xzU_pulse_bd02 (l : Launch) (hst : l.stackTraces = false) (G : va_G) (ac : Nat → ClassId) (ad : Nat → Nat) (g0 : xk_St) (k2 : Int32) (h1 : ¬ k2 = 1) (h2 : ¬ k2 = (-1)) : xt_C l yzU_pulse czU_pulse 5 none xk_WS xt_r1 G xk_cls (xk_tys ac) RzU xk_tx xk_ex [.ref (ad 0), .int 0, .int 2, .int k2] (xk_wU ad ac g0) "java/lang/IllegalArgumentException" := by
  refine xt_of (by decide) (Nat.le_of_ble_eq_true rfl) ?_
  intro p e s m args below meth c A Q H locs ls C0 hlocks hout hX hend hP hD hS hl
  obtain ⟨hx, hb, hml, hts, hown, hK, hA⟩ := C0
  have hl : lv_has ls 5 [(0, .ref (ad 0)), (1, .int 0), (2, .int 2), (3, .int k2)] := hl
  refine lv_aload_n (pc := 0) hx hb dzU_pulse_0 rfl (lv_at hl 0 rfl) ?_
  refine lv_iload_n (pc := 1) hx hb dzU_pulse_1 rfl (lv_at hl 1 rfl) ?_
  refine xk_allVR (As := [.int 0]) (rest := []) (H0 := s.heap) (pc := 2) hx hb hml hts hown hK hA hP hD hS (kzU_findTrack_0 l G ac ad g0) vfzU_63 0 rfl rfl ⟨rfl, rfl⟩ ⟨Nat.le_of_ble_eq_true rfl, Nat.le_of_ble_eq_true rfl⟩ rfl hl.1 rfl (Nat.le_of_ble_eq_true rfl) ⟨Nat.zero_le _, Nat.zero_le _⟩ dzU_pulse_2 (fun H locs hP hD hS => ?_)
  have hP : va_P G xk_cls (xk_wU ad ac g0) H := hP
  have hD : va_D A (xk_wU ad ac g0) := hD
  refine lv_astore (lv' := [(4, .ref (ad 9)), (0, .ref (ad 0)), (1, .int 0), (2, .int 2), (3, .int k2)]) (pc := 5) hx hb dzU_pulse_5 hl (by decide) rfl (fun ls hl => ?_)
  refine lv_iload_n (pc := 7) hx hb dzU_pulse_7 rfl (lv_at hl 3 rfl) ?_
  refine xk_callSV (As := [.int 2]) (rest := []) (H0 := s.heap) (pc := 8) hx hb hml hts hown hK hA hP hD hS (kzU_checkHead_2 l G ac) sfzU_67 [] (by decide) rfl (fun _ => rfl) ⟨rfl, rfl⟩ ⟨Nat.le_of_ble_eq_true rfl, Nat.le_of_ble_eq_true rfl⟩ rfl hl.1 rfl (Nat.le_of_ble_eq_true rfl) ⟨Nat.zero_le _, Nat.zero_le _⟩ dzU_pulse_8 (fun u9 H locs e9 hP hD hS => ?_)
  have hP : va_P G xk_cls (xk_wU ad ac g0) H := hP
  have hD : va_D A (xk_wU ad ac g0) := hD
  refine lv_iload_n (pc := 11) hx hb dzU_pulse_11 rfl (lv_at hl 4 rfl) ?_
  refine lv_iconst (v := 1) (pc := 12) hx hb dzU_pulse_12 (by decide) ?_
  refine lv_icmp_eq (pc := 13) (tgt := 31) hx hb dzU_pulse_13 (by decide) (fun hq9 => absurd hq9 h1) (fun _ => ?_)
  refine lv_iload_n (pc := 16) hx hb dzU_pulse_16 rfl (lv_at hl 4 rfl) ?_
  refine lv_iconst (v := (-1)) (pc := 17) hx hb dzU_pulse_17 (by decide) ?_
  refine lv_icmp_eq (pc := 18) (tgt := 31) hx hb dzU_pulse_18 (by decide) (fun hq9 => absurd hq9 h2) (fun _ => ?_)
  exact xt_throw (pc := 21) (ln := 2) (is := 72) (tx := "a direction is 1 or -1") (rest := []) hx hb hst (by rw [hml]; exact hl.1.symm) hown hlocks hout hX hend hP hS (by decide +kernel) (by decide +kernel) (by decide +kernel) xbIA_0 xbIA_1 xbIA_2 xbIA_5 (hts _ xk_m317) (hts _ xk_m58) (xaIA hts) (by decide) (by decide) dzU_pulse_21 dzU_pulse_24 (Or.inl ⟨rfl, dzU_pulse_25⟩) dzU_pulse_27 dzU_pulse_30 (Nat.le_of_ble_eq_true rfl) (Nat.le_of_ble_eq_true rfl) (Nat.le_of_ble_eq_true rfl) (Nat.le_of_ble_eq_true rfl)

set_option maxHeartbeats 4000000 in
set_option maxRecDepth 100000 in
theorem xzU_pulse_bk02_n (l : Launch) (hst : l.stackTraces = false) (G : va_G) (ac : Nat → ClassId) (ad : Nat → Nat) (g0 : xk_St) (k2 : Int32) (hkp : ¬ ((g0 15) 2) = 0) (h01 : k2 = 1) : xt_C l yzU_pulse czU_pulse 5 none xk_WS xt_r1 G xk_cls (xk_tys ac) RzU xk_tx xk_ex [.ref (ad 0), .int 0, .int 2, .int k2] (xk_wU ad ac g0) "java/lang/IllegalStateException" := by
  refine xt_of (by decide) (Nat.le_of_ble_eq_true rfl) ?_
  intro p e s m args below meth c A Q H locs ls C0 hlocks hout hX hend hP hD hS hl
  obtain ⟨hx, hb, hml, hts, hown, hK, hA⟩ := C0
  have hl : lv_has ls 5 [(0, .ref (ad 0)), (1, .int 0), (2, .int 2), (3, .int k2)] := hl
  refine lv_aload_n (pc := 0) hx hb dzU_pulse_0 rfl (lv_at hl 0 rfl) ?_
  refine lv_iload_n (pc := 1) hx hb dzU_pulse_1 rfl (lv_at hl 1 rfl) ?_
  refine xk_allVR (As := [.int 0]) (rest := []) (H0 := s.heap) (pc := 2) hx hb hml hts hown hK hA hP hD hS (kzU_findTrack_0 l G ac ad g0) vfzU_63 0 rfl rfl ⟨rfl, rfl⟩ ⟨Nat.le_of_ble_eq_true rfl, Nat.le_of_ble_eq_true rfl⟩ rfl hl.1 rfl (Nat.le_of_ble_eq_true rfl) ⟨Nat.zero_le _, Nat.zero_le _⟩ dzU_pulse_2 (fun H locs hP hD hS => ?_)
  have hP : va_P G xk_cls (xk_wU ad ac g0) H := hP
  have hD : va_D A (xk_wU ad ac g0) := hD
  refine lv_astore (lv' := [(4, .ref (ad 9)), (0, .ref (ad 0)), (1, .int 0), (2, .int 2), (3, .int k2)]) (pc := 5) hx hb dzU_pulse_5 hl (by decide) rfl (fun ls hl => ?_)
  refine lv_iload_n (pc := 7) hx hb dzU_pulse_7 rfl (lv_at hl 3 rfl) ?_
  refine xk_callSV (As := [.int 2]) (rest := []) (H0 := s.heap) (pc := 8) hx hb hml hts hown hK hA hP hD hS (kzU_checkHead_2 l G ac) sfzU_67 [] (by decide) rfl (fun _ => rfl) ⟨rfl, rfl⟩ ⟨Nat.le_of_ble_eq_true rfl, Nat.le_of_ble_eq_true rfl⟩ rfl hl.1 rfl (Nat.le_of_ble_eq_true rfl) ⟨Nat.zero_le _, Nat.zero_le _⟩ dzU_pulse_8 (fun u9 H locs e9 hP hD hS => ?_)
  have hP : va_P G xk_cls (xk_wU ad ac g0) H := hP
  have hD : va_D A (xk_wU ad ac g0) := hD
  refine lv_iload_n (pc := 11) hx hb dzU_pulse_11 rfl (lv_at hl 4 rfl) ?_
  refine lv_iconst (v := 1) (pc := 12) hx hb dzU_pulse_12 (by decide) ?_
  refine lv_icmp_eq (pc := 13) (tgt := 31) hx hb dzU_pulse_13 (by decide) (fun _ => ?_) (fun hq9 => absurd h01 hq9)
  refine lv_aload (pc := 31) hx hb dzU_pulse_31 (lv_at hl 0 rfl) ?_
  refine xk_get (pc := 33) hx hb hts hown hK hP ffzU_77 9 rfl rfl dzU_pulse_33 ?_
  refine lv_iload_n (pc := 36) hx hb dzU_pulse_36 rfl (lv_at hl 3 rfl) ?_
  refine xk_iald (q0 := 15) (t0 := 0) (j := 2) (pc := 37) hx hb hK hP rfl rfl (pk_in 2 4 (by decide)) (pk_cl 2) dzU_pulse_37 ?_
  refine lv_if_eq (pc := 38) (tgt := 51) hx hb dzU_pulse_38 (by decide) (fun hq9 => absurd hq9 hkp) (fun _ => ?_)
  exact xt_throw (pc := 41) (ln := 2) (is := 83) (tx := "the head has a pulse that is kept") (rest := []) hx hb hst (by rw [hml]; exact hl.1.symm) hown hlocks hout hX hend hP hS (by decide +kernel) (by decide +kernel) (by decide +kernel) xbIS_0 xbIS_1 xbIS_2 xbIS_5 (hts _ xk_m318) (hts _ xk_m59) (xaIS hts) (by decide) (by decide) dzU_pulse_41 dzU_pulse_44 (Or.inl ⟨rfl, dzU_pulse_45⟩) dzU_pulse_47 dzU_pulse_50 (Nat.le_of_ble_eq_true rfl) (Nat.le_of_ble_eq_true rfl) (Nat.le_of_ble_eq_true rfl) (Nat.le_of_ble_eq_true rfl)

set_option maxHeartbeats 4000000 in
set_option maxRecDepth 100000 in
theorem xzU_pulse_bk02_b (l : Launch) (hst : l.stackTraces = false) (G : va_G) (ac : Nat → ClassId) (ad : Nat → Nat) (g0 : xk_St) (k2 : Int32) (hkp : ¬ ((g0 15) 2) = 0) (h01 : ¬ k2 = 1) (h02 : k2 = (-1)) : xt_C l yzU_pulse czU_pulse 5 none xk_WS xt_r1 G xk_cls (xk_tys ac) RzU xk_tx xk_ex [.ref (ad 0), .int 0, .int 2, .int k2] (xk_wU ad ac g0) "java/lang/IllegalStateException" := by
  refine xt_of (by decide) (Nat.le_of_ble_eq_true rfl) ?_
  intro p e s m args below meth c A Q H locs ls C0 hlocks hout hX hend hP hD hS hl
  obtain ⟨hx, hb, hml, hts, hown, hK, hA⟩ := C0
  have hl : lv_has ls 5 [(0, .ref (ad 0)), (1, .int 0), (2, .int 2), (3, .int k2)] := hl
  refine lv_aload_n (pc := 0) hx hb dzU_pulse_0 rfl (lv_at hl 0 rfl) ?_
  refine lv_iload_n (pc := 1) hx hb dzU_pulse_1 rfl (lv_at hl 1 rfl) ?_
  refine xk_allVR (As := [.int 0]) (rest := []) (H0 := s.heap) (pc := 2) hx hb hml hts hown hK hA hP hD hS (kzU_findTrack_0 l G ac ad g0) vfzU_63 0 rfl rfl ⟨rfl, rfl⟩ ⟨Nat.le_of_ble_eq_true rfl, Nat.le_of_ble_eq_true rfl⟩ rfl hl.1 rfl (Nat.le_of_ble_eq_true rfl) ⟨Nat.zero_le _, Nat.zero_le _⟩ dzU_pulse_2 (fun H locs hP hD hS => ?_)
  have hP : va_P G xk_cls (xk_wU ad ac g0) H := hP
  have hD : va_D A (xk_wU ad ac g0) := hD
  refine lv_astore (lv' := [(4, .ref (ad 9)), (0, .ref (ad 0)), (1, .int 0), (2, .int 2), (3, .int k2)]) (pc := 5) hx hb dzU_pulse_5 hl (by decide) rfl (fun ls hl => ?_)
  refine lv_iload_n (pc := 7) hx hb dzU_pulse_7 rfl (lv_at hl 3 rfl) ?_
  refine xk_callSV (As := [.int 2]) (rest := []) (H0 := s.heap) (pc := 8) hx hb hml hts hown hK hA hP hD hS (kzU_checkHead_2 l G ac) sfzU_67 [] (by decide) rfl (fun _ => rfl) ⟨rfl, rfl⟩ ⟨Nat.le_of_ble_eq_true rfl, Nat.le_of_ble_eq_true rfl⟩ rfl hl.1 rfl (Nat.le_of_ble_eq_true rfl) ⟨Nat.zero_le _, Nat.zero_le _⟩ dzU_pulse_8 (fun u9 H locs e9 hP hD hS => ?_)
  have hP : va_P G xk_cls (xk_wU ad ac g0) H := hP
  have hD : va_D A (xk_wU ad ac g0) := hD
  refine lv_iload_n (pc := 11) hx hb dzU_pulse_11 rfl (lv_at hl 4 rfl) ?_
  refine lv_iconst (v := 1) (pc := 12) hx hb dzU_pulse_12 (by decide) ?_
  refine lv_icmp_eq (pc := 13) (tgt := 31) hx hb dzU_pulse_13 (by decide) (fun hq9 => absurd hq9 h01) (fun _ => ?_)
  refine lv_iload_n (pc := 16) hx hb dzU_pulse_16 rfl (lv_at hl 4 rfl) ?_
  refine lv_iconst (v := (-1)) (pc := 17) hx hb dzU_pulse_17 (by decide) ?_
  refine lv_icmp_eq (pc := 18) (tgt := 31) hx hb dzU_pulse_18 (by decide) (fun _ => ?_) (fun hq9 => absurd h02 hq9)
  refine lv_aload (pc := 31) hx hb dzU_pulse_31 (lv_at hl 0 rfl) ?_
  refine xk_get (pc := 33) hx hb hts hown hK hP ffzU_77 9 rfl rfl dzU_pulse_33 ?_
  refine lv_iload_n (pc := 36) hx hb dzU_pulse_36 rfl (lv_at hl 3 rfl) ?_
  refine xk_iald (q0 := 15) (t0 := 0) (j := 2) (pc := 37) hx hb hK hP rfl rfl (pk_in 2 4 (by decide)) (pk_cl 2) dzU_pulse_37 ?_
  refine lv_if_eq (pc := 38) (tgt := 51) hx hb dzU_pulse_38 (by decide) (fun hq9 => absurd hq9 hkp) (fun _ => ?_)
  exact xt_throw (pc := 41) (ln := 2) (is := 83) (tx := "the head has a pulse that is kept") (rest := []) hx hb hst (by rw [hml]; exact hl.1.symm) hown hlocks hout hX hend hP hS (by decide +kernel) (by decide +kernel) (by decide +kernel) xbIS_0 xbIS_1 xbIS_2 xbIS_5 (hts _ xk_m318) (hts _ xk_m59) (xaIS hts) (by decide) (by decide) dzU_pulse_41 dzU_pulse_44 (Or.inl ⟨rfl, dzU_pulse_45⟩) dzU_pulse_47 dzU_pulse_50 (Nat.le_of_ble_eq_true rfl) (Nat.le_of_ble_eq_true rfl) (Nat.le_of_ble_eq_true rfl) (Nat.le_of_ble_eq_true rfl)

theorem xzU_pulse_bk02 (l : Launch) (hst : l.stackTraces = false) (G : va_G) (ac : Nat → ClassId) (ad : Nat → Nat) (g0 : xk_St) (k2 : Int32) (hkp : ¬ ((g0 15) 2) = 0) (hkd : k2 = 1 ∨ k2 = (-1)) : xt_C l yzU_pulse czU_pulse 5 none xk_WS xt_r1 G xk_cls (xk_tys ac) RzU xk_tx xk_ex [.ref (ad 0), .int 0, .int 2, .int k2] (xk_wU ad ac g0) "java/lang/IllegalStateException" := by
  by_cases h01 : k2 = 1
  · exact xzU_pulse_bk02_n l hst G ac ad g0 k2 hkp h01
  · exact xzU_pulse_bk02_b l hst G ac ad g0 k2 hkp h01 (hkd.resolve_left h01)

set_option maxHeartbeats 4000000 in
set_option maxRecDepth 100000 in
theorem xzU_pulse_bd03 (l : Launch) (hst : l.stackTraces = false) (G : va_G) (ac : Nat → ClassId) (ad : Nat → Nat) (g0 : xk_St) (k2 : Int32) (h1 : ¬ k2 = 1) (h2 : ¬ k2 = (-1)) : xt_C l yzU_pulse czU_pulse 5 none xk_WS xt_r1 G xk_cls (xk_tys ac) RzU xk_tx xk_ex [.ref (ad 0), .int 0, .int 3, .int k2] (xk_wU ad ac g0) "java/lang/IllegalArgumentException" := by
  refine xt_of (by decide) (Nat.le_of_ble_eq_true rfl) ?_
  intro p e s m args below meth c A Q H locs ls C0 hlocks hout hX hend hP hD hS hl
  obtain ⟨hx, hb, hml, hts, hown, hK, hA⟩ := C0
  have hl : lv_has ls 5 [(0, .ref (ad 0)), (1, .int 0), (2, .int 3), (3, .int k2)] := hl
  refine lv_aload_n (pc := 0) hx hb dzU_pulse_0 rfl (lv_at hl 0 rfl) ?_
  refine lv_iload_n (pc := 1) hx hb dzU_pulse_1 rfl (lv_at hl 1 rfl) ?_
  refine xk_allVR (As := [.int 0]) (rest := []) (H0 := s.heap) (pc := 2) hx hb hml hts hown hK hA hP hD hS (kzU_findTrack_0 l G ac ad g0) vfzU_63 0 rfl rfl ⟨rfl, rfl⟩ ⟨Nat.le_of_ble_eq_true rfl, Nat.le_of_ble_eq_true rfl⟩ rfl hl.1 rfl (Nat.le_of_ble_eq_true rfl) ⟨Nat.zero_le _, Nat.zero_le _⟩ dzU_pulse_2 (fun H locs hP hD hS => ?_)
  have hP : va_P G xk_cls (xk_wU ad ac g0) H := hP
  have hD : va_D A (xk_wU ad ac g0) := hD
  refine lv_astore (lv' := [(4, .ref (ad 9)), (0, .ref (ad 0)), (1, .int 0), (2, .int 3), (3, .int k2)]) (pc := 5) hx hb dzU_pulse_5 hl (by decide) rfl (fun ls hl => ?_)
  refine lv_iload_n (pc := 7) hx hb dzU_pulse_7 rfl (lv_at hl 3 rfl) ?_
  refine xk_callSV (As := [.int 3]) (rest := []) (H0 := s.heap) (pc := 8) hx hb hml hts hown hK hA hP hD hS (kzU_checkHead_3 l G ac) sfzU_67 [] (by decide) rfl (fun _ => rfl) ⟨rfl, rfl⟩ ⟨Nat.le_of_ble_eq_true rfl, Nat.le_of_ble_eq_true rfl⟩ rfl hl.1 rfl (Nat.le_of_ble_eq_true rfl) ⟨Nat.zero_le _, Nat.zero_le _⟩ dzU_pulse_8 (fun u9 H locs e9 hP hD hS => ?_)
  have hP : va_P G xk_cls (xk_wU ad ac g0) H := hP
  have hD : va_D A (xk_wU ad ac g0) := hD
  refine lv_iload_n (pc := 11) hx hb dzU_pulse_11 rfl (lv_at hl 4 rfl) ?_
  refine lv_iconst (v := 1) (pc := 12) hx hb dzU_pulse_12 (by decide) ?_
  refine lv_icmp_eq (pc := 13) (tgt := 31) hx hb dzU_pulse_13 (by decide) (fun hq9 => absurd hq9 h1) (fun _ => ?_)
  refine lv_iload_n (pc := 16) hx hb dzU_pulse_16 rfl (lv_at hl 4 rfl) ?_
  refine lv_iconst (v := (-1)) (pc := 17) hx hb dzU_pulse_17 (by decide) ?_
  refine lv_icmp_eq (pc := 18) (tgt := 31) hx hb dzU_pulse_18 (by decide) (fun hq9 => absurd hq9 h2) (fun _ => ?_)
  exact xt_throw (pc := 21) (ln := 2) (is := 72) (tx := "a direction is 1 or -1") (rest := []) hx hb hst (by rw [hml]; exact hl.1.symm) hown hlocks hout hX hend hP hS (by decide +kernel) (by decide +kernel) (by decide +kernel) xbIA_0 xbIA_1 xbIA_2 xbIA_5 (hts _ xk_m317) (hts _ xk_m58) (xaIA hts) (by decide) (by decide) dzU_pulse_21 dzU_pulse_24 (Or.inl ⟨rfl, dzU_pulse_25⟩) dzU_pulse_27 dzU_pulse_30 (Nat.le_of_ble_eq_true rfl) (Nat.le_of_ble_eq_true rfl) (Nat.le_of_ble_eq_true rfl) (Nat.le_of_ble_eq_true rfl)

set_option maxHeartbeats 4000000 in
set_option maxRecDepth 100000 in
theorem xzU_pulse_bk03_n (l : Launch) (hst : l.stackTraces = false) (G : va_G) (ac : Nat → ClassId) (ad : Nat → Nat) (g0 : xk_St) (k2 : Int32) (hkp : ¬ ((g0 15) 3) = 0) (h01 : k2 = 1) : xt_C l yzU_pulse czU_pulse 5 none xk_WS xt_r1 G xk_cls (xk_tys ac) RzU xk_tx xk_ex [.ref (ad 0), .int 0, .int 3, .int k2] (xk_wU ad ac g0) "java/lang/IllegalStateException" := by
  refine xt_of (by decide) (Nat.le_of_ble_eq_true rfl) ?_
  intro p e s m args below meth c A Q H locs ls C0 hlocks hout hX hend hP hD hS hl
  obtain ⟨hx, hb, hml, hts, hown, hK, hA⟩ := C0
  have hl : lv_has ls 5 [(0, .ref (ad 0)), (1, .int 0), (2, .int 3), (3, .int k2)] := hl
  refine lv_aload_n (pc := 0) hx hb dzU_pulse_0 rfl (lv_at hl 0 rfl) ?_
  refine lv_iload_n (pc := 1) hx hb dzU_pulse_1 rfl (lv_at hl 1 rfl) ?_
  refine xk_allVR (As := [.int 0]) (rest := []) (H0 := s.heap) (pc := 2) hx hb hml hts hown hK hA hP hD hS (kzU_findTrack_0 l G ac ad g0) vfzU_63 0 rfl rfl ⟨rfl, rfl⟩ ⟨Nat.le_of_ble_eq_true rfl, Nat.le_of_ble_eq_true rfl⟩ rfl hl.1 rfl (Nat.le_of_ble_eq_true rfl) ⟨Nat.zero_le _, Nat.zero_le _⟩ dzU_pulse_2 (fun H locs hP hD hS => ?_)
  have hP : va_P G xk_cls (xk_wU ad ac g0) H := hP
  have hD : va_D A (xk_wU ad ac g0) := hD
  refine lv_astore (lv' := [(4, .ref (ad 9)), (0, .ref (ad 0)), (1, .int 0), (2, .int 3), (3, .int k2)]) (pc := 5) hx hb dzU_pulse_5 hl (by decide) rfl (fun ls hl => ?_)
  refine lv_iload_n (pc := 7) hx hb dzU_pulse_7 rfl (lv_at hl 3 rfl) ?_
  refine xk_callSV (As := [.int 3]) (rest := []) (H0 := s.heap) (pc := 8) hx hb hml hts hown hK hA hP hD hS (kzU_checkHead_3 l G ac) sfzU_67 [] (by decide) rfl (fun _ => rfl) ⟨rfl, rfl⟩ ⟨Nat.le_of_ble_eq_true rfl, Nat.le_of_ble_eq_true rfl⟩ rfl hl.1 rfl (Nat.le_of_ble_eq_true rfl) ⟨Nat.zero_le _, Nat.zero_le _⟩ dzU_pulse_8 (fun u9 H locs e9 hP hD hS => ?_)
  have hP : va_P G xk_cls (xk_wU ad ac g0) H := hP
  have hD : va_D A (xk_wU ad ac g0) := hD
  refine lv_iload_n (pc := 11) hx hb dzU_pulse_11 rfl (lv_at hl 4 rfl) ?_
  refine lv_iconst (v := 1) (pc := 12) hx hb dzU_pulse_12 (by decide) ?_
  refine lv_icmp_eq (pc := 13) (tgt := 31) hx hb dzU_pulse_13 (by decide) (fun _ => ?_) (fun hq9 => absurd h01 hq9)
  refine lv_aload (pc := 31) hx hb dzU_pulse_31 (lv_at hl 0 rfl) ?_
  refine xk_get (pc := 33) hx hb hts hown hK hP ffzU_77 9 rfl rfl dzU_pulse_33 ?_
  refine lv_iload_n (pc := 36) hx hb dzU_pulse_36 rfl (lv_at hl 3 rfl) ?_
  refine xk_iald (q0 := 15) (t0 := 0) (j := 3) (pc := 37) hx hb hK hP rfl rfl (pk_in 3 4 (by decide)) (pk_cl 3) dzU_pulse_37 ?_
  refine lv_if_eq (pc := 38) (tgt := 51) hx hb dzU_pulse_38 (by decide) (fun hq9 => absurd hq9 hkp) (fun _ => ?_)
  exact xt_throw (pc := 41) (ln := 2) (is := 83) (tx := "the head has a pulse that is kept") (rest := []) hx hb hst (by rw [hml]; exact hl.1.symm) hown hlocks hout hX hend hP hS (by decide +kernel) (by decide +kernel) (by decide +kernel) xbIS_0 xbIS_1 xbIS_2 xbIS_5 (hts _ xk_m318) (hts _ xk_m59) (xaIS hts) (by decide) (by decide) dzU_pulse_41 dzU_pulse_44 (Or.inl ⟨rfl, dzU_pulse_45⟩) dzU_pulse_47 dzU_pulse_50 (Nat.le_of_ble_eq_true rfl) (Nat.le_of_ble_eq_true rfl) (Nat.le_of_ble_eq_true rfl) (Nat.le_of_ble_eq_true rfl)

set_option maxHeartbeats 4000000 in
set_option maxRecDepth 100000 in
theorem xzU_pulse_bk03_b (l : Launch) (hst : l.stackTraces = false) (G : va_G) (ac : Nat → ClassId) (ad : Nat → Nat) (g0 : xk_St) (k2 : Int32) (hkp : ¬ ((g0 15) 3) = 0) (h01 : ¬ k2 = 1) (h02 : k2 = (-1)) : xt_C l yzU_pulse czU_pulse 5 none xk_WS xt_r1 G xk_cls (xk_tys ac) RzU xk_tx xk_ex [.ref (ad 0), .int 0, .int 3, .int k2] (xk_wU ad ac g0) "java/lang/IllegalStateException" := by
  refine xt_of (by decide) (Nat.le_of_ble_eq_true rfl) ?_
  intro p e s m args below meth c A Q H locs ls C0 hlocks hout hX hend hP hD hS hl
  obtain ⟨hx, hb, hml, hts, hown, hK, hA⟩ := C0
  have hl : lv_has ls 5 [(0, .ref (ad 0)), (1, .int 0), (2, .int 3), (3, .int k2)] := hl
  refine lv_aload_n (pc := 0) hx hb dzU_pulse_0 rfl (lv_at hl 0 rfl) ?_
  refine lv_iload_n (pc := 1) hx hb dzU_pulse_1 rfl (lv_at hl 1 rfl) ?_
  refine xk_allVR (As := [.int 0]) (rest := []) (H0 := s.heap) (pc := 2) hx hb hml hts hown hK hA hP hD hS (kzU_findTrack_0 l G ac ad g0) vfzU_63 0 rfl rfl ⟨rfl, rfl⟩ ⟨Nat.le_of_ble_eq_true rfl, Nat.le_of_ble_eq_true rfl⟩ rfl hl.1 rfl (Nat.le_of_ble_eq_true rfl) ⟨Nat.zero_le _, Nat.zero_le _⟩ dzU_pulse_2 (fun H locs hP hD hS => ?_)
  have hP : va_P G xk_cls (xk_wU ad ac g0) H := hP
  have hD : va_D A (xk_wU ad ac g0) := hD
  refine lv_astore (lv' := [(4, .ref (ad 9)), (0, .ref (ad 0)), (1, .int 0), (2, .int 3), (3, .int k2)]) (pc := 5) hx hb dzU_pulse_5 hl (by decide) rfl (fun ls hl => ?_)
  refine lv_iload_n (pc := 7) hx hb dzU_pulse_7 rfl (lv_at hl 3 rfl) ?_
  refine xk_callSV (As := [.int 3]) (rest := []) (H0 := s.heap) (pc := 8) hx hb hml hts hown hK hA hP hD hS (kzU_checkHead_3 l G ac) sfzU_67 [] (by decide) rfl (fun _ => rfl) ⟨rfl, rfl⟩ ⟨Nat.le_of_ble_eq_true rfl, Nat.le_of_ble_eq_true rfl⟩ rfl hl.1 rfl (Nat.le_of_ble_eq_true rfl) ⟨Nat.zero_le _, Nat.zero_le _⟩ dzU_pulse_8 (fun u9 H locs e9 hP hD hS => ?_)
  have hP : va_P G xk_cls (xk_wU ad ac g0) H := hP
  have hD : va_D A (xk_wU ad ac g0) := hD
  refine lv_iload_n (pc := 11) hx hb dzU_pulse_11 rfl (lv_at hl 4 rfl) ?_
  refine lv_iconst (v := 1) (pc := 12) hx hb dzU_pulse_12 (by decide) ?_
  refine lv_icmp_eq (pc := 13) (tgt := 31) hx hb dzU_pulse_13 (by decide) (fun hq9 => absurd hq9 h01) (fun _ => ?_)
  refine lv_iload_n (pc := 16) hx hb dzU_pulse_16 rfl (lv_at hl 4 rfl) ?_
  refine lv_iconst (v := (-1)) (pc := 17) hx hb dzU_pulse_17 (by decide) ?_
  refine lv_icmp_eq (pc := 18) (tgt := 31) hx hb dzU_pulse_18 (by decide) (fun _ => ?_) (fun hq9 => absurd h02 hq9)
  refine lv_aload (pc := 31) hx hb dzU_pulse_31 (lv_at hl 0 rfl) ?_
  refine xk_get (pc := 33) hx hb hts hown hK hP ffzU_77 9 rfl rfl dzU_pulse_33 ?_
  refine lv_iload_n (pc := 36) hx hb dzU_pulse_36 rfl (lv_at hl 3 rfl) ?_
  refine xk_iald (q0 := 15) (t0 := 0) (j := 3) (pc := 37) hx hb hK hP rfl rfl (pk_in 3 4 (by decide)) (pk_cl 3) dzU_pulse_37 ?_
  refine lv_if_eq (pc := 38) (tgt := 51) hx hb dzU_pulse_38 (by decide) (fun hq9 => absurd hq9 hkp) (fun _ => ?_)
  exact xt_throw (pc := 41) (ln := 2) (is := 83) (tx := "the head has a pulse that is kept") (rest := []) hx hb hst (by rw [hml]; exact hl.1.symm) hown hlocks hout hX hend hP hS (by decide +kernel) (by decide +kernel) (by decide +kernel) xbIS_0 xbIS_1 xbIS_2 xbIS_5 (hts _ xk_m318) (hts _ xk_m59) (xaIS hts) (by decide) (by decide) dzU_pulse_41 dzU_pulse_44 (Or.inl ⟨rfl, dzU_pulse_45⟩) dzU_pulse_47 dzU_pulse_50 (Nat.le_of_ble_eq_true rfl) (Nat.le_of_ble_eq_true rfl) (Nat.le_of_ble_eq_true rfl) (Nat.le_of_ble_eq_true rfl)

theorem xzU_pulse_bk03 (l : Launch) (hst : l.stackTraces = false) (G : va_G) (ac : Nat → ClassId) (ad : Nat → Nat) (g0 : xk_St) (k2 : Int32) (hkp : ¬ ((g0 15) 3) = 0) (hkd : k2 = 1 ∨ k2 = (-1)) : xt_C l yzU_pulse czU_pulse 5 none xk_WS xt_r1 G xk_cls (xk_tys ac) RzU xk_tx xk_ex [.ref (ad 0), .int 0, .int 3, .int k2] (xk_wU ad ac g0) "java/lang/IllegalStateException" := by
  by_cases h01 : k2 = 1
  · exact xzU_pulse_bk03_n l hst G ac ad g0 k2 hkp h01
  · exact xzU_pulse_bk03_b l hst G ac ad g0 k2 hkp h01 (hkd.resolve_left h01)

set_option maxHeartbeats 4000000 in
set_option maxRecDepth 100000 in
theorem xzU_pulse_bd10 (l : Launch) (hst : l.stackTraces = false) (G : va_G) (ac : Nat → ClassId) (ad : Nat → Nat) (g0 : xk_St) (k2 : Int32) (h1 : ¬ k2 = 1) (h2 : ¬ k2 = (-1)) : xt_C l yzU_pulse czU_pulse 5 none xk_WS xt_r1 G xk_cls (xk_tys ac) RzU xk_tx xk_ex [.ref (ad 0), .int 1, .int 0, .int k2] (xk_wU ad ac g0) "java/lang/IllegalArgumentException" := by
  refine xt_of (by decide) (Nat.le_of_ble_eq_true rfl) ?_
  intro p e s m args below meth c A Q H locs ls C0 hlocks hout hX hend hP hD hS hl
  obtain ⟨hx, hb, hml, hts, hown, hK, hA⟩ := C0
  have hl : lv_has ls 5 [(0, .ref (ad 0)), (1, .int 1), (2, .int 0), (3, .int k2)] := hl
  refine lv_aload_n (pc := 0) hx hb dzU_pulse_0 rfl (lv_at hl 0 rfl) ?_
  refine lv_iload_n (pc := 1) hx hb dzU_pulse_1 rfl (lv_at hl 1 rfl) ?_
  refine xk_allVR (As := [.int 1]) (rest := []) (H0 := s.heap) (pc := 2) hx hb hml hts hown hK hA hP hD hS (kzU_findTrack_1 l G ac ad g0) vfzU_63 0 rfl rfl ⟨rfl, rfl⟩ ⟨Nat.le_of_ble_eq_true rfl, Nat.le_of_ble_eq_true rfl⟩ rfl hl.1 rfl (Nat.le_of_ble_eq_true rfl) ⟨Nat.zero_le _, Nat.zero_le _⟩ dzU_pulse_2 (fun H locs hP hD hS => ?_)
  have hP : va_P G xk_cls (xk_wU ad ac g0) H := hP
  have hD : va_D A (xk_wU ad ac g0) := hD
  refine lv_astore (lv' := [(4, .ref (ad 10)), (0, .ref (ad 0)), (1, .int 1), (2, .int 0), (3, .int k2)]) (pc := 5) hx hb dzU_pulse_5 hl (by decide) rfl (fun ls hl => ?_)
  refine lv_iload_n (pc := 7) hx hb dzU_pulse_7 rfl (lv_at hl 3 rfl) ?_
  refine xk_callSV (As := [.int 0]) (rest := []) (H0 := s.heap) (pc := 8) hx hb hml hts hown hK hA hP hD hS (kzU_checkHead_0 l G ac) sfzU_67 [] (by decide) rfl (fun _ => rfl) ⟨rfl, rfl⟩ ⟨Nat.le_of_ble_eq_true rfl, Nat.le_of_ble_eq_true rfl⟩ rfl hl.1 rfl (Nat.le_of_ble_eq_true rfl) ⟨Nat.zero_le _, Nat.zero_le _⟩ dzU_pulse_8 (fun u9 H locs e9 hP hD hS => ?_)
  have hP : va_P G xk_cls (xk_wU ad ac g0) H := hP
  have hD : va_D A (xk_wU ad ac g0) := hD
  refine lv_iload_n (pc := 11) hx hb dzU_pulse_11 rfl (lv_at hl 4 rfl) ?_
  refine lv_iconst (v := 1) (pc := 12) hx hb dzU_pulse_12 (by decide) ?_
  refine lv_icmp_eq (pc := 13) (tgt := 31) hx hb dzU_pulse_13 (by decide) (fun hq9 => absurd hq9 h1) (fun _ => ?_)
  refine lv_iload_n (pc := 16) hx hb dzU_pulse_16 rfl (lv_at hl 4 rfl) ?_
  refine lv_iconst (v := (-1)) (pc := 17) hx hb dzU_pulse_17 (by decide) ?_
  refine lv_icmp_eq (pc := 18) (tgt := 31) hx hb dzU_pulse_18 (by decide) (fun hq9 => absurd hq9 h2) (fun _ => ?_)
  exact xt_throw (pc := 21) (ln := 2) (is := 72) (tx := "a direction is 1 or -1") (rest := []) hx hb hst (by rw [hml]; exact hl.1.symm) hown hlocks hout hX hend hP hS (by decide +kernel) (by decide +kernel) (by decide +kernel) xbIA_0 xbIA_1 xbIA_2 xbIA_5 (hts _ xk_m317) (hts _ xk_m58) (xaIA hts) (by decide) (by decide) dzU_pulse_21 dzU_pulse_24 (Or.inl ⟨rfl, dzU_pulse_25⟩) dzU_pulse_27 dzU_pulse_30 (Nat.le_of_ble_eq_true rfl) (Nat.le_of_ble_eq_true rfl) (Nat.le_of_ble_eq_true rfl) (Nat.le_of_ble_eq_true rfl)

set_option maxHeartbeats 4000000 in
set_option maxRecDepth 100000 in
theorem xzU_pulse_bk10_n (l : Launch) (hst : l.stackTraces = false) (G : va_G) (ac : Nat → ClassId) (ad : Nat → Nat) (g0 : xk_St) (k2 : Int32) (hkp : ¬ ((g0 16) 0) = 0) (h01 : k2 = 1) : xt_C l yzU_pulse czU_pulse 5 none xk_WS xt_r1 G xk_cls (xk_tys ac) RzU xk_tx xk_ex [.ref (ad 0), .int 1, .int 0, .int k2] (xk_wU ad ac g0) "java/lang/IllegalStateException" := by
  refine xt_of (by decide) (Nat.le_of_ble_eq_true rfl) ?_
  intro p e s m args below meth c A Q H locs ls C0 hlocks hout hX hend hP hD hS hl
  obtain ⟨hx, hb, hml, hts, hown, hK, hA⟩ := C0
  have hl : lv_has ls 5 [(0, .ref (ad 0)), (1, .int 1), (2, .int 0), (3, .int k2)] := hl
  refine lv_aload_n (pc := 0) hx hb dzU_pulse_0 rfl (lv_at hl 0 rfl) ?_
  refine lv_iload_n (pc := 1) hx hb dzU_pulse_1 rfl (lv_at hl 1 rfl) ?_
  refine xk_allVR (As := [.int 1]) (rest := []) (H0 := s.heap) (pc := 2) hx hb hml hts hown hK hA hP hD hS (kzU_findTrack_1 l G ac ad g0) vfzU_63 0 rfl rfl ⟨rfl, rfl⟩ ⟨Nat.le_of_ble_eq_true rfl, Nat.le_of_ble_eq_true rfl⟩ rfl hl.1 rfl (Nat.le_of_ble_eq_true rfl) ⟨Nat.zero_le _, Nat.zero_le _⟩ dzU_pulse_2 (fun H locs hP hD hS => ?_)
  have hP : va_P G xk_cls (xk_wU ad ac g0) H := hP
  have hD : va_D A (xk_wU ad ac g0) := hD
  refine lv_astore (lv' := [(4, .ref (ad 10)), (0, .ref (ad 0)), (1, .int 1), (2, .int 0), (3, .int k2)]) (pc := 5) hx hb dzU_pulse_5 hl (by decide) rfl (fun ls hl => ?_)
  refine lv_iload_n (pc := 7) hx hb dzU_pulse_7 rfl (lv_at hl 3 rfl) ?_
  refine xk_callSV (As := [.int 0]) (rest := []) (H0 := s.heap) (pc := 8) hx hb hml hts hown hK hA hP hD hS (kzU_checkHead_0 l G ac) sfzU_67 [] (by decide) rfl (fun _ => rfl) ⟨rfl, rfl⟩ ⟨Nat.le_of_ble_eq_true rfl, Nat.le_of_ble_eq_true rfl⟩ rfl hl.1 rfl (Nat.le_of_ble_eq_true rfl) ⟨Nat.zero_le _, Nat.zero_le _⟩ dzU_pulse_8 (fun u9 H locs e9 hP hD hS => ?_)
  have hP : va_P G xk_cls (xk_wU ad ac g0) H := hP
  have hD : va_D A (xk_wU ad ac g0) := hD
  refine lv_iload_n (pc := 11) hx hb dzU_pulse_11 rfl (lv_at hl 4 rfl) ?_
  refine lv_iconst (v := 1) (pc := 12) hx hb dzU_pulse_12 (by decide) ?_
  refine lv_icmp_eq (pc := 13) (tgt := 31) hx hb dzU_pulse_13 (by decide) (fun _ => ?_) (fun hq9 => absurd h01 hq9)
  refine lv_aload (pc := 31) hx hb dzU_pulse_31 (lv_at hl 0 rfl) ?_
  refine xk_get (pc := 33) hx hb hts hown hK hP ffzU_77 10 rfl rfl dzU_pulse_33 ?_
  refine lv_iload_n (pc := 36) hx hb dzU_pulse_36 rfl (lv_at hl 3 rfl) ?_
  refine xk_iald (q0 := 16) (t0 := 0) (j := 0) (pc := 37) hx hb hK hP rfl rfl (pk_in 0 4 (by decide)) (pk_cl 0) dzU_pulse_37 ?_
  refine lv_if_eq (pc := 38) (tgt := 51) hx hb dzU_pulse_38 (by decide) (fun hq9 => absurd hq9 hkp) (fun _ => ?_)
  exact xt_throw (pc := 41) (ln := 2) (is := 83) (tx := "the head has a pulse that is kept") (rest := []) hx hb hst (by rw [hml]; exact hl.1.symm) hown hlocks hout hX hend hP hS (by decide +kernel) (by decide +kernel) (by decide +kernel) xbIS_0 xbIS_1 xbIS_2 xbIS_5 (hts _ xk_m318) (hts _ xk_m59) (xaIS hts) (by decide) (by decide) dzU_pulse_41 dzU_pulse_44 (Or.inl ⟨rfl, dzU_pulse_45⟩) dzU_pulse_47 dzU_pulse_50 (Nat.le_of_ble_eq_true rfl) (Nat.le_of_ble_eq_true rfl) (Nat.le_of_ble_eq_true rfl) (Nat.le_of_ble_eq_true rfl)

set_option maxHeartbeats 4000000 in
set_option maxRecDepth 100000 in
theorem xzU_pulse_bk10_b (l : Launch) (hst : l.stackTraces = false) (G : va_G) (ac : Nat → ClassId) (ad : Nat → Nat) (g0 : xk_St) (k2 : Int32) (hkp : ¬ ((g0 16) 0) = 0) (h01 : ¬ k2 = 1) (h02 : k2 = (-1)) : xt_C l yzU_pulse czU_pulse 5 none xk_WS xt_r1 G xk_cls (xk_tys ac) RzU xk_tx xk_ex [.ref (ad 0), .int 1, .int 0, .int k2] (xk_wU ad ac g0) "java/lang/IllegalStateException" := by
  refine xt_of (by decide) (Nat.le_of_ble_eq_true rfl) ?_
  intro p e s m args below meth c A Q H locs ls C0 hlocks hout hX hend hP hD hS hl
  obtain ⟨hx, hb, hml, hts, hown, hK, hA⟩ := C0
  have hl : lv_has ls 5 [(0, .ref (ad 0)), (1, .int 1), (2, .int 0), (3, .int k2)] := hl
  refine lv_aload_n (pc := 0) hx hb dzU_pulse_0 rfl (lv_at hl 0 rfl) ?_
  refine lv_iload_n (pc := 1) hx hb dzU_pulse_1 rfl (lv_at hl 1 rfl) ?_
  refine xk_allVR (As := [.int 1]) (rest := []) (H0 := s.heap) (pc := 2) hx hb hml hts hown hK hA hP hD hS (kzU_findTrack_1 l G ac ad g0) vfzU_63 0 rfl rfl ⟨rfl, rfl⟩ ⟨Nat.le_of_ble_eq_true rfl, Nat.le_of_ble_eq_true rfl⟩ rfl hl.1 rfl (Nat.le_of_ble_eq_true rfl) ⟨Nat.zero_le _, Nat.zero_le _⟩ dzU_pulse_2 (fun H locs hP hD hS => ?_)
  have hP : va_P G xk_cls (xk_wU ad ac g0) H := hP
  have hD : va_D A (xk_wU ad ac g0) := hD
  refine lv_astore (lv' := [(4, .ref (ad 10)), (0, .ref (ad 0)), (1, .int 1), (2, .int 0), (3, .int k2)]) (pc := 5) hx hb dzU_pulse_5 hl (by decide) rfl (fun ls hl => ?_)
  refine lv_iload_n (pc := 7) hx hb dzU_pulse_7 rfl (lv_at hl 3 rfl) ?_
  refine xk_callSV (As := [.int 0]) (rest := []) (H0 := s.heap) (pc := 8) hx hb hml hts hown hK hA hP hD hS (kzU_checkHead_0 l G ac) sfzU_67 [] (by decide) rfl (fun _ => rfl) ⟨rfl, rfl⟩ ⟨Nat.le_of_ble_eq_true rfl, Nat.le_of_ble_eq_true rfl⟩ rfl hl.1 rfl (Nat.le_of_ble_eq_true rfl) ⟨Nat.zero_le _, Nat.zero_le _⟩ dzU_pulse_8 (fun u9 H locs e9 hP hD hS => ?_)
  have hP : va_P G xk_cls (xk_wU ad ac g0) H := hP
  have hD : va_D A (xk_wU ad ac g0) := hD
  refine lv_iload_n (pc := 11) hx hb dzU_pulse_11 rfl (lv_at hl 4 rfl) ?_
  refine lv_iconst (v := 1) (pc := 12) hx hb dzU_pulse_12 (by decide) ?_
  refine lv_icmp_eq (pc := 13) (tgt := 31) hx hb dzU_pulse_13 (by decide) (fun hq9 => absurd hq9 h01) (fun _ => ?_)
  refine lv_iload_n (pc := 16) hx hb dzU_pulse_16 rfl (lv_at hl 4 rfl) ?_
  refine lv_iconst (v := (-1)) (pc := 17) hx hb dzU_pulse_17 (by decide) ?_
  refine lv_icmp_eq (pc := 18) (tgt := 31) hx hb dzU_pulse_18 (by decide) (fun _ => ?_) (fun hq9 => absurd h02 hq9)
  refine lv_aload (pc := 31) hx hb dzU_pulse_31 (lv_at hl 0 rfl) ?_
  refine xk_get (pc := 33) hx hb hts hown hK hP ffzU_77 10 rfl rfl dzU_pulse_33 ?_
  refine lv_iload_n (pc := 36) hx hb dzU_pulse_36 rfl (lv_at hl 3 rfl) ?_
  refine xk_iald (q0 := 16) (t0 := 0) (j := 0) (pc := 37) hx hb hK hP rfl rfl (pk_in 0 4 (by decide)) (pk_cl 0) dzU_pulse_37 ?_
  refine lv_if_eq (pc := 38) (tgt := 51) hx hb dzU_pulse_38 (by decide) (fun hq9 => absurd hq9 hkp) (fun _ => ?_)
  exact xt_throw (pc := 41) (ln := 2) (is := 83) (tx := "the head has a pulse that is kept") (rest := []) hx hb hst (by rw [hml]; exact hl.1.symm) hown hlocks hout hX hend hP hS (by decide +kernel) (by decide +kernel) (by decide +kernel) xbIS_0 xbIS_1 xbIS_2 xbIS_5 (hts _ xk_m318) (hts _ xk_m59) (xaIS hts) (by decide) (by decide) dzU_pulse_41 dzU_pulse_44 (Or.inl ⟨rfl, dzU_pulse_45⟩) dzU_pulse_47 dzU_pulse_50 (Nat.le_of_ble_eq_true rfl) (Nat.le_of_ble_eq_true rfl) (Nat.le_of_ble_eq_true rfl) (Nat.le_of_ble_eq_true rfl)

theorem xzU_pulse_bk10 (l : Launch) (hst : l.stackTraces = false) (G : va_G) (ac : Nat → ClassId) (ad : Nat → Nat) (g0 : xk_St) (k2 : Int32) (hkp : ¬ ((g0 16) 0) = 0) (hkd : k2 = 1 ∨ k2 = (-1)) : xt_C l yzU_pulse czU_pulse 5 none xk_WS xt_r1 G xk_cls (xk_tys ac) RzU xk_tx xk_ex [.ref (ad 0), .int 1, .int 0, .int k2] (xk_wU ad ac g0) "java/lang/IllegalStateException" := by
  by_cases h01 : k2 = 1
  · exact xzU_pulse_bk10_n l hst G ac ad g0 k2 hkp h01
  · exact xzU_pulse_bk10_b l hst G ac ad g0 k2 hkp h01 (hkd.resolve_left h01)

set_option maxHeartbeats 4000000 in
set_option maxRecDepth 100000 in
theorem xzU_pulse_bd11 (l : Launch) (hst : l.stackTraces = false) (G : va_G) (ac : Nat → ClassId) (ad : Nat → Nat) (g0 : xk_St) (k2 : Int32) (h1 : ¬ k2 = 1) (h2 : ¬ k2 = (-1)) : xt_C l yzU_pulse czU_pulse 5 none xk_WS xt_r1 G xk_cls (xk_tys ac) RzU xk_tx xk_ex [.ref (ad 0), .int 1, .int 1, .int k2] (xk_wU ad ac g0) "java/lang/IllegalArgumentException" := by
  refine xt_of (by decide) (Nat.le_of_ble_eq_true rfl) ?_
  intro p e s m args below meth c A Q H locs ls C0 hlocks hout hX hend hP hD hS hl
  obtain ⟨hx, hb, hml, hts, hown, hK, hA⟩ := C0
  have hl : lv_has ls 5 [(0, .ref (ad 0)), (1, .int 1), (2, .int 1), (3, .int k2)] := hl
  refine lv_aload_n (pc := 0) hx hb dzU_pulse_0 rfl (lv_at hl 0 rfl) ?_
  refine lv_iload_n (pc := 1) hx hb dzU_pulse_1 rfl (lv_at hl 1 rfl) ?_
  refine xk_allVR (As := [.int 1]) (rest := []) (H0 := s.heap) (pc := 2) hx hb hml hts hown hK hA hP hD hS (kzU_findTrack_1 l G ac ad g0) vfzU_63 0 rfl rfl ⟨rfl, rfl⟩ ⟨Nat.le_of_ble_eq_true rfl, Nat.le_of_ble_eq_true rfl⟩ rfl hl.1 rfl (Nat.le_of_ble_eq_true rfl) ⟨Nat.zero_le _, Nat.zero_le _⟩ dzU_pulse_2 (fun H locs hP hD hS => ?_)
  have hP : va_P G xk_cls (xk_wU ad ac g0) H := hP
  have hD : va_D A (xk_wU ad ac g0) := hD
  refine lv_astore (lv' := [(4, .ref (ad 10)), (0, .ref (ad 0)), (1, .int 1), (2, .int 1), (3, .int k2)]) (pc := 5) hx hb dzU_pulse_5 hl (by decide) rfl (fun ls hl => ?_)
  refine lv_iload_n (pc := 7) hx hb dzU_pulse_7 rfl (lv_at hl 3 rfl) ?_
  refine xk_callSV (As := [.int 1]) (rest := []) (H0 := s.heap) (pc := 8) hx hb hml hts hown hK hA hP hD hS (kzU_checkHead_1 l G ac) sfzU_67 [] (by decide) rfl (fun _ => rfl) ⟨rfl, rfl⟩ ⟨Nat.le_of_ble_eq_true rfl, Nat.le_of_ble_eq_true rfl⟩ rfl hl.1 rfl (Nat.le_of_ble_eq_true rfl) ⟨Nat.zero_le _, Nat.zero_le _⟩ dzU_pulse_8 (fun u9 H locs e9 hP hD hS => ?_)
  have hP : va_P G xk_cls (xk_wU ad ac g0) H := hP
  have hD : va_D A (xk_wU ad ac g0) := hD
  refine lv_iload_n (pc := 11) hx hb dzU_pulse_11 rfl (lv_at hl 4 rfl) ?_
  refine lv_iconst (v := 1) (pc := 12) hx hb dzU_pulse_12 (by decide) ?_
  refine lv_icmp_eq (pc := 13) (tgt := 31) hx hb dzU_pulse_13 (by decide) (fun hq9 => absurd hq9 h1) (fun _ => ?_)
  refine lv_iload_n (pc := 16) hx hb dzU_pulse_16 rfl (lv_at hl 4 rfl) ?_
  refine lv_iconst (v := (-1)) (pc := 17) hx hb dzU_pulse_17 (by decide) ?_
  refine lv_icmp_eq (pc := 18) (tgt := 31) hx hb dzU_pulse_18 (by decide) (fun hq9 => absurd hq9 h2) (fun _ => ?_)
  exact xt_throw (pc := 21) (ln := 2) (is := 72) (tx := "a direction is 1 or -1") (rest := []) hx hb hst (by rw [hml]; exact hl.1.symm) hown hlocks hout hX hend hP hS (by decide +kernel) (by decide +kernel) (by decide +kernel) xbIA_0 xbIA_1 xbIA_2 xbIA_5 (hts _ xk_m317) (hts _ xk_m58) (xaIA hts) (by decide) (by decide) dzU_pulse_21 dzU_pulse_24 (Or.inl ⟨rfl, dzU_pulse_25⟩) dzU_pulse_27 dzU_pulse_30 (Nat.le_of_ble_eq_true rfl) (Nat.le_of_ble_eq_true rfl) (Nat.le_of_ble_eq_true rfl) (Nat.le_of_ble_eq_true rfl)

set_option maxHeartbeats 4000000 in
set_option maxRecDepth 100000 in
theorem xzU_pulse_bk11_n (l : Launch) (hst : l.stackTraces = false) (G : va_G) (ac : Nat → ClassId) (ad : Nat → Nat) (g0 : xk_St) (k2 : Int32) (hkp : ¬ ((g0 16) 1) = 0) (h01 : k2 = 1) : xt_C l yzU_pulse czU_pulse 5 none xk_WS xt_r1 G xk_cls (xk_tys ac) RzU xk_tx xk_ex [.ref (ad 0), .int 1, .int 1, .int k2] (xk_wU ad ac g0) "java/lang/IllegalStateException" := by
  refine xt_of (by decide) (Nat.le_of_ble_eq_true rfl) ?_
  intro p e s m args below meth c A Q H locs ls C0 hlocks hout hX hend hP hD hS hl
  obtain ⟨hx, hb, hml, hts, hown, hK, hA⟩ := C0
  have hl : lv_has ls 5 [(0, .ref (ad 0)), (1, .int 1), (2, .int 1), (3, .int k2)] := hl
  refine lv_aload_n (pc := 0) hx hb dzU_pulse_0 rfl (lv_at hl 0 rfl) ?_
  refine lv_iload_n (pc := 1) hx hb dzU_pulse_1 rfl (lv_at hl 1 rfl) ?_
  refine xk_allVR (As := [.int 1]) (rest := []) (H0 := s.heap) (pc := 2) hx hb hml hts hown hK hA hP hD hS (kzU_findTrack_1 l G ac ad g0) vfzU_63 0 rfl rfl ⟨rfl, rfl⟩ ⟨Nat.le_of_ble_eq_true rfl, Nat.le_of_ble_eq_true rfl⟩ rfl hl.1 rfl (Nat.le_of_ble_eq_true rfl) ⟨Nat.zero_le _, Nat.zero_le _⟩ dzU_pulse_2 (fun H locs hP hD hS => ?_)
  have hP : va_P G xk_cls (xk_wU ad ac g0) H := hP
  have hD : va_D A (xk_wU ad ac g0) := hD
  refine lv_astore (lv' := [(4, .ref (ad 10)), (0, .ref (ad 0)), (1, .int 1), (2, .int 1), (3, .int k2)]) (pc := 5) hx hb dzU_pulse_5 hl (by decide) rfl (fun ls hl => ?_)
  refine lv_iload_n (pc := 7) hx hb dzU_pulse_7 rfl (lv_at hl 3 rfl) ?_
  refine xk_callSV (As := [.int 1]) (rest := []) (H0 := s.heap) (pc := 8) hx hb hml hts hown hK hA hP hD hS (kzU_checkHead_1 l G ac) sfzU_67 [] (by decide) rfl (fun _ => rfl) ⟨rfl, rfl⟩ ⟨Nat.le_of_ble_eq_true rfl, Nat.le_of_ble_eq_true rfl⟩ rfl hl.1 rfl (Nat.le_of_ble_eq_true rfl) ⟨Nat.zero_le _, Nat.zero_le _⟩ dzU_pulse_8 (fun u9 H locs e9 hP hD hS => ?_)
  have hP : va_P G xk_cls (xk_wU ad ac g0) H := hP
  have hD : va_D A (xk_wU ad ac g0) := hD
  refine lv_iload_n (pc := 11) hx hb dzU_pulse_11 rfl (lv_at hl 4 rfl) ?_
  refine lv_iconst (v := 1) (pc := 12) hx hb dzU_pulse_12 (by decide) ?_
  refine lv_icmp_eq (pc := 13) (tgt := 31) hx hb dzU_pulse_13 (by decide) (fun _ => ?_) (fun hq9 => absurd h01 hq9)
  refine lv_aload (pc := 31) hx hb dzU_pulse_31 (lv_at hl 0 rfl) ?_
  refine xk_get (pc := 33) hx hb hts hown hK hP ffzU_77 10 rfl rfl dzU_pulse_33 ?_
  refine lv_iload_n (pc := 36) hx hb dzU_pulse_36 rfl (lv_at hl 3 rfl) ?_
  refine xk_iald (q0 := 16) (t0 := 0) (j := 1) (pc := 37) hx hb hK hP rfl rfl (pk_in 1 4 (by decide)) (pk_cl 1) dzU_pulse_37 ?_
  refine lv_if_eq (pc := 38) (tgt := 51) hx hb dzU_pulse_38 (by decide) (fun hq9 => absurd hq9 hkp) (fun _ => ?_)
  exact xt_throw (pc := 41) (ln := 2) (is := 83) (tx := "the head has a pulse that is kept") (rest := []) hx hb hst (by rw [hml]; exact hl.1.symm) hown hlocks hout hX hend hP hS (by decide +kernel) (by decide +kernel) (by decide +kernel) xbIS_0 xbIS_1 xbIS_2 xbIS_5 (hts _ xk_m318) (hts _ xk_m59) (xaIS hts) (by decide) (by decide) dzU_pulse_41 dzU_pulse_44 (Or.inl ⟨rfl, dzU_pulse_45⟩) dzU_pulse_47 dzU_pulse_50 (Nat.le_of_ble_eq_true rfl) (Nat.le_of_ble_eq_true rfl) (Nat.le_of_ble_eq_true rfl) (Nat.le_of_ble_eq_true rfl)

set_option maxHeartbeats 4000000 in
set_option maxRecDepth 100000 in
theorem xzU_pulse_bk11_b (l : Launch) (hst : l.stackTraces = false) (G : va_G) (ac : Nat → ClassId) (ad : Nat → Nat) (g0 : xk_St) (k2 : Int32) (hkp : ¬ ((g0 16) 1) = 0) (h01 : ¬ k2 = 1) (h02 : k2 = (-1)) : xt_C l yzU_pulse czU_pulse 5 none xk_WS xt_r1 G xk_cls (xk_tys ac) RzU xk_tx xk_ex [.ref (ad 0), .int 1, .int 1, .int k2] (xk_wU ad ac g0) "java/lang/IllegalStateException" := by
  refine xt_of (by decide) (Nat.le_of_ble_eq_true rfl) ?_
  intro p e s m args below meth c A Q H locs ls C0 hlocks hout hX hend hP hD hS hl
  obtain ⟨hx, hb, hml, hts, hown, hK, hA⟩ := C0
  have hl : lv_has ls 5 [(0, .ref (ad 0)), (1, .int 1), (2, .int 1), (3, .int k2)] := hl
  refine lv_aload_n (pc := 0) hx hb dzU_pulse_0 rfl (lv_at hl 0 rfl) ?_
  refine lv_iload_n (pc := 1) hx hb dzU_pulse_1 rfl (lv_at hl 1 rfl) ?_
  refine xk_allVR (As := [.int 1]) (rest := []) (H0 := s.heap) (pc := 2) hx hb hml hts hown hK hA hP hD hS (kzU_findTrack_1 l G ac ad g0) vfzU_63 0 rfl rfl ⟨rfl, rfl⟩ ⟨Nat.le_of_ble_eq_true rfl, Nat.le_of_ble_eq_true rfl⟩ rfl hl.1 rfl (Nat.le_of_ble_eq_true rfl) ⟨Nat.zero_le _, Nat.zero_le _⟩ dzU_pulse_2 (fun H locs hP hD hS => ?_)
  have hP : va_P G xk_cls (xk_wU ad ac g0) H := hP
  have hD : va_D A (xk_wU ad ac g0) := hD
  refine lv_astore (lv' := [(4, .ref (ad 10)), (0, .ref (ad 0)), (1, .int 1), (2, .int 1), (3, .int k2)]) (pc := 5) hx hb dzU_pulse_5 hl (by decide) rfl (fun ls hl => ?_)
  refine lv_iload_n (pc := 7) hx hb dzU_pulse_7 rfl (lv_at hl 3 rfl) ?_
  refine xk_callSV (As := [.int 1]) (rest := []) (H0 := s.heap) (pc := 8) hx hb hml hts hown hK hA hP hD hS (kzU_checkHead_1 l G ac) sfzU_67 [] (by decide) rfl (fun _ => rfl) ⟨rfl, rfl⟩ ⟨Nat.le_of_ble_eq_true rfl, Nat.le_of_ble_eq_true rfl⟩ rfl hl.1 rfl (Nat.le_of_ble_eq_true rfl) ⟨Nat.zero_le _, Nat.zero_le _⟩ dzU_pulse_8 (fun u9 H locs e9 hP hD hS => ?_)
  have hP : va_P G xk_cls (xk_wU ad ac g0) H := hP
  have hD : va_D A (xk_wU ad ac g0) := hD
  refine lv_iload_n (pc := 11) hx hb dzU_pulse_11 rfl (lv_at hl 4 rfl) ?_
  refine lv_iconst (v := 1) (pc := 12) hx hb dzU_pulse_12 (by decide) ?_
  refine lv_icmp_eq (pc := 13) (tgt := 31) hx hb dzU_pulse_13 (by decide) (fun hq9 => absurd hq9 h01) (fun _ => ?_)
  refine lv_iload_n (pc := 16) hx hb dzU_pulse_16 rfl (lv_at hl 4 rfl) ?_
  refine lv_iconst (v := (-1)) (pc := 17) hx hb dzU_pulse_17 (by decide) ?_
  refine lv_icmp_eq (pc := 18) (tgt := 31) hx hb dzU_pulse_18 (by decide) (fun _ => ?_) (fun hq9 => absurd h02 hq9)
  refine lv_aload (pc := 31) hx hb dzU_pulse_31 (lv_at hl 0 rfl) ?_
  refine xk_get (pc := 33) hx hb hts hown hK hP ffzU_77 10 rfl rfl dzU_pulse_33 ?_
  refine lv_iload_n (pc := 36) hx hb dzU_pulse_36 rfl (lv_at hl 3 rfl) ?_
  refine xk_iald (q0 := 16) (t0 := 0) (j := 1) (pc := 37) hx hb hK hP rfl rfl (pk_in 1 4 (by decide)) (pk_cl 1) dzU_pulse_37 ?_
  refine lv_if_eq (pc := 38) (tgt := 51) hx hb dzU_pulse_38 (by decide) (fun hq9 => absurd hq9 hkp) (fun _ => ?_)
  exact xt_throw (pc := 41) (ln := 2) (is := 83) (tx := "the head has a pulse that is kept") (rest := []) hx hb hst (by rw [hml]; exact hl.1.symm) hown hlocks hout hX hend hP hS (by decide +kernel) (by decide +kernel) (by decide +kernel) xbIS_0 xbIS_1 xbIS_2 xbIS_5 (hts _ xk_m318) (hts _ xk_m59) (xaIS hts) (by decide) (by decide) dzU_pulse_41 dzU_pulse_44 (Or.inl ⟨rfl, dzU_pulse_45⟩) dzU_pulse_47 dzU_pulse_50 (Nat.le_of_ble_eq_true rfl) (Nat.le_of_ble_eq_true rfl) (Nat.le_of_ble_eq_true rfl) (Nat.le_of_ble_eq_true rfl)

theorem xzU_pulse_bk11 (l : Launch) (hst : l.stackTraces = false) (G : va_G) (ac : Nat → ClassId) (ad : Nat → Nat) (g0 : xk_St) (k2 : Int32) (hkp : ¬ ((g0 16) 1) = 0) (hkd : k2 = 1 ∨ k2 = (-1)) : xt_C l yzU_pulse czU_pulse 5 none xk_WS xt_r1 G xk_cls (xk_tys ac) RzU xk_tx xk_ex [.ref (ad 0), .int 1, .int 1, .int k2] (xk_wU ad ac g0) "java/lang/IllegalStateException" := by
  by_cases h01 : k2 = 1
  · exact xzU_pulse_bk11_n l hst G ac ad g0 k2 hkp h01
  · exact xzU_pulse_bk11_b l hst G ac ad g0 k2 hkp h01 (hkd.resolve_left h01)

set_option maxHeartbeats 4000000 in
set_option maxRecDepth 100000 in
theorem xzU_pulse_bd12 (l : Launch) (hst : l.stackTraces = false) (G : va_G) (ac : Nat → ClassId) (ad : Nat → Nat) (g0 : xk_St) (k2 : Int32) (h1 : ¬ k2 = 1) (h2 : ¬ k2 = (-1)) : xt_C l yzU_pulse czU_pulse 5 none xk_WS xt_r1 G xk_cls (xk_tys ac) RzU xk_tx xk_ex [.ref (ad 0), .int 1, .int 2, .int k2] (xk_wU ad ac g0) "java/lang/IllegalArgumentException" := by
  refine xt_of (by decide) (Nat.le_of_ble_eq_true rfl) ?_
  intro p e s m args below meth c A Q H locs ls C0 hlocks hout hX hend hP hD hS hl
  obtain ⟨hx, hb, hml, hts, hown, hK, hA⟩ := C0
  have hl : lv_has ls 5 [(0, .ref (ad 0)), (1, .int 1), (2, .int 2), (3, .int k2)] := hl
  refine lv_aload_n (pc := 0) hx hb dzU_pulse_0 rfl (lv_at hl 0 rfl) ?_
  refine lv_iload_n (pc := 1) hx hb dzU_pulse_1 rfl (lv_at hl 1 rfl) ?_
  refine xk_allVR (As := [.int 1]) (rest := []) (H0 := s.heap) (pc := 2) hx hb hml hts hown hK hA hP hD hS (kzU_findTrack_1 l G ac ad g0) vfzU_63 0 rfl rfl ⟨rfl, rfl⟩ ⟨Nat.le_of_ble_eq_true rfl, Nat.le_of_ble_eq_true rfl⟩ rfl hl.1 rfl (Nat.le_of_ble_eq_true rfl) ⟨Nat.zero_le _, Nat.zero_le _⟩ dzU_pulse_2 (fun H locs hP hD hS => ?_)
  have hP : va_P G xk_cls (xk_wU ad ac g0) H := hP
  have hD : va_D A (xk_wU ad ac g0) := hD
  refine lv_astore (lv' := [(4, .ref (ad 10)), (0, .ref (ad 0)), (1, .int 1), (2, .int 2), (3, .int k2)]) (pc := 5) hx hb dzU_pulse_5 hl (by decide) rfl (fun ls hl => ?_)
  refine lv_iload_n (pc := 7) hx hb dzU_pulse_7 rfl (lv_at hl 3 rfl) ?_
  refine xk_callSV (As := [.int 2]) (rest := []) (H0 := s.heap) (pc := 8) hx hb hml hts hown hK hA hP hD hS (kzU_checkHead_2 l G ac) sfzU_67 [] (by decide) rfl (fun _ => rfl) ⟨rfl, rfl⟩ ⟨Nat.le_of_ble_eq_true rfl, Nat.le_of_ble_eq_true rfl⟩ rfl hl.1 rfl (Nat.le_of_ble_eq_true rfl) ⟨Nat.zero_le _, Nat.zero_le _⟩ dzU_pulse_8 (fun u9 H locs e9 hP hD hS => ?_)
  have hP : va_P G xk_cls (xk_wU ad ac g0) H := hP
  have hD : va_D A (xk_wU ad ac g0) := hD
  refine lv_iload_n (pc := 11) hx hb dzU_pulse_11 rfl (lv_at hl 4 rfl) ?_
  refine lv_iconst (v := 1) (pc := 12) hx hb dzU_pulse_12 (by decide) ?_
  refine lv_icmp_eq (pc := 13) (tgt := 31) hx hb dzU_pulse_13 (by decide) (fun hq9 => absurd hq9 h1) (fun _ => ?_)
  refine lv_iload_n (pc := 16) hx hb dzU_pulse_16 rfl (lv_at hl 4 rfl) ?_
  refine lv_iconst (v := (-1)) (pc := 17) hx hb dzU_pulse_17 (by decide) ?_
  refine lv_icmp_eq (pc := 18) (tgt := 31) hx hb dzU_pulse_18 (by decide) (fun hq9 => absurd hq9 h2) (fun _ => ?_)
  exact xt_throw (pc := 21) (ln := 2) (is := 72) (tx := "a direction is 1 or -1") (rest := []) hx hb hst (by rw [hml]; exact hl.1.symm) hown hlocks hout hX hend hP hS (by decide +kernel) (by decide +kernel) (by decide +kernel) xbIA_0 xbIA_1 xbIA_2 xbIA_5 (hts _ xk_m317) (hts _ xk_m58) (xaIA hts) (by decide) (by decide) dzU_pulse_21 dzU_pulse_24 (Or.inl ⟨rfl, dzU_pulse_25⟩) dzU_pulse_27 dzU_pulse_30 (Nat.le_of_ble_eq_true rfl) (Nat.le_of_ble_eq_true rfl) (Nat.le_of_ble_eq_true rfl) (Nat.le_of_ble_eq_true rfl)

set_option maxHeartbeats 4000000 in
set_option maxRecDepth 100000 in
theorem xzU_pulse_bk12_n (l : Launch) (hst : l.stackTraces = false) (G : va_G) (ac : Nat → ClassId) (ad : Nat → Nat) (g0 : xk_St) (k2 : Int32) (hkp : ¬ ((g0 16) 2) = 0) (h01 : k2 = 1) : xt_C l yzU_pulse czU_pulse 5 none xk_WS xt_r1 G xk_cls (xk_tys ac) RzU xk_tx xk_ex [.ref (ad 0), .int 1, .int 2, .int k2] (xk_wU ad ac g0) "java/lang/IllegalStateException" := by
  refine xt_of (by decide) (Nat.le_of_ble_eq_true rfl) ?_
  intro p e s m args below meth c A Q H locs ls C0 hlocks hout hX hend hP hD hS hl
  obtain ⟨hx, hb, hml, hts, hown, hK, hA⟩ := C0
  have hl : lv_has ls 5 [(0, .ref (ad 0)), (1, .int 1), (2, .int 2), (3, .int k2)] := hl
  refine lv_aload_n (pc := 0) hx hb dzU_pulse_0 rfl (lv_at hl 0 rfl) ?_
  refine lv_iload_n (pc := 1) hx hb dzU_pulse_1 rfl (lv_at hl 1 rfl) ?_
  refine xk_allVR (As := [.int 1]) (rest := []) (H0 := s.heap) (pc := 2) hx hb hml hts hown hK hA hP hD hS (kzU_findTrack_1 l G ac ad g0) vfzU_63 0 rfl rfl ⟨rfl, rfl⟩ ⟨Nat.le_of_ble_eq_true rfl, Nat.le_of_ble_eq_true rfl⟩ rfl hl.1 rfl (Nat.le_of_ble_eq_true rfl) ⟨Nat.zero_le _, Nat.zero_le _⟩ dzU_pulse_2 (fun H locs hP hD hS => ?_)
  have hP : va_P G xk_cls (xk_wU ad ac g0) H := hP
  have hD : va_D A (xk_wU ad ac g0) := hD
  refine lv_astore (lv' := [(4, .ref (ad 10)), (0, .ref (ad 0)), (1, .int 1), (2, .int 2), (3, .int k2)]) (pc := 5) hx hb dzU_pulse_5 hl (by decide) rfl (fun ls hl => ?_)
  refine lv_iload_n (pc := 7) hx hb dzU_pulse_7 rfl (lv_at hl 3 rfl) ?_
  refine xk_callSV (As := [.int 2]) (rest := []) (H0 := s.heap) (pc := 8) hx hb hml hts hown hK hA hP hD hS (kzU_checkHead_2 l G ac) sfzU_67 [] (by decide) rfl (fun _ => rfl) ⟨rfl, rfl⟩ ⟨Nat.le_of_ble_eq_true rfl, Nat.le_of_ble_eq_true rfl⟩ rfl hl.1 rfl (Nat.le_of_ble_eq_true rfl) ⟨Nat.zero_le _, Nat.zero_le _⟩ dzU_pulse_8 (fun u9 H locs e9 hP hD hS => ?_)
  have hP : va_P G xk_cls (xk_wU ad ac g0) H := hP
  have hD : va_D A (xk_wU ad ac g0) := hD
  refine lv_iload_n (pc := 11) hx hb dzU_pulse_11 rfl (lv_at hl 4 rfl) ?_
  refine lv_iconst (v := 1) (pc := 12) hx hb dzU_pulse_12 (by decide) ?_
  refine lv_icmp_eq (pc := 13) (tgt := 31) hx hb dzU_pulse_13 (by decide) (fun _ => ?_) (fun hq9 => absurd h01 hq9)
  refine lv_aload (pc := 31) hx hb dzU_pulse_31 (lv_at hl 0 rfl) ?_
  refine xk_get (pc := 33) hx hb hts hown hK hP ffzU_77 10 rfl rfl dzU_pulse_33 ?_
  refine lv_iload_n (pc := 36) hx hb dzU_pulse_36 rfl (lv_at hl 3 rfl) ?_
  refine xk_iald (q0 := 16) (t0 := 0) (j := 2) (pc := 37) hx hb hK hP rfl rfl (pk_in 2 4 (by decide)) (pk_cl 2) dzU_pulse_37 ?_
  refine lv_if_eq (pc := 38) (tgt := 51) hx hb dzU_pulse_38 (by decide) (fun hq9 => absurd hq9 hkp) (fun _ => ?_)
  exact xt_throw (pc := 41) (ln := 2) (is := 83) (tx := "the head has a pulse that is kept") (rest := []) hx hb hst (by rw [hml]; exact hl.1.symm) hown hlocks hout hX hend hP hS (by decide +kernel) (by decide +kernel) (by decide +kernel) xbIS_0 xbIS_1 xbIS_2 xbIS_5 (hts _ xk_m318) (hts _ xk_m59) (xaIS hts) (by decide) (by decide) dzU_pulse_41 dzU_pulse_44 (Or.inl ⟨rfl, dzU_pulse_45⟩) dzU_pulse_47 dzU_pulse_50 (Nat.le_of_ble_eq_true rfl) (Nat.le_of_ble_eq_true rfl) (Nat.le_of_ble_eq_true rfl) (Nat.le_of_ble_eq_true rfl)

set_option maxHeartbeats 4000000 in
set_option maxRecDepth 100000 in
theorem xzU_pulse_bk12_b (l : Launch) (hst : l.stackTraces = false) (G : va_G) (ac : Nat → ClassId) (ad : Nat → Nat) (g0 : xk_St) (k2 : Int32) (hkp : ¬ ((g0 16) 2) = 0) (h01 : ¬ k2 = 1) (h02 : k2 = (-1)) : xt_C l yzU_pulse czU_pulse 5 none xk_WS xt_r1 G xk_cls (xk_tys ac) RzU xk_tx xk_ex [.ref (ad 0), .int 1, .int 2, .int k2] (xk_wU ad ac g0) "java/lang/IllegalStateException" := by
  refine xt_of (by decide) (Nat.le_of_ble_eq_true rfl) ?_
  intro p e s m args below meth c A Q H locs ls C0 hlocks hout hX hend hP hD hS hl
  obtain ⟨hx, hb, hml, hts, hown, hK, hA⟩ := C0
  have hl : lv_has ls 5 [(0, .ref (ad 0)), (1, .int 1), (2, .int 2), (3, .int k2)] := hl
  refine lv_aload_n (pc := 0) hx hb dzU_pulse_0 rfl (lv_at hl 0 rfl) ?_
  refine lv_iload_n (pc := 1) hx hb dzU_pulse_1 rfl (lv_at hl 1 rfl) ?_
  refine xk_allVR (As := [.int 1]) (rest := []) (H0 := s.heap) (pc := 2) hx hb hml hts hown hK hA hP hD hS (kzU_findTrack_1 l G ac ad g0) vfzU_63 0 rfl rfl ⟨rfl, rfl⟩ ⟨Nat.le_of_ble_eq_true rfl, Nat.le_of_ble_eq_true rfl⟩ rfl hl.1 rfl (Nat.le_of_ble_eq_true rfl) ⟨Nat.zero_le _, Nat.zero_le _⟩ dzU_pulse_2 (fun H locs hP hD hS => ?_)
  have hP : va_P G xk_cls (xk_wU ad ac g0) H := hP
  have hD : va_D A (xk_wU ad ac g0) := hD
  refine lv_astore (lv' := [(4, .ref (ad 10)), (0, .ref (ad 0)), (1, .int 1), (2, .int 2), (3, .int k2)]) (pc := 5) hx hb dzU_pulse_5 hl (by decide) rfl (fun ls hl => ?_)
  refine lv_iload_n (pc := 7) hx hb dzU_pulse_7 rfl (lv_at hl 3 rfl) ?_
  refine xk_callSV (As := [.int 2]) (rest := []) (H0 := s.heap) (pc := 8) hx hb hml hts hown hK hA hP hD hS (kzU_checkHead_2 l G ac) sfzU_67 [] (by decide) rfl (fun _ => rfl) ⟨rfl, rfl⟩ ⟨Nat.le_of_ble_eq_true rfl, Nat.le_of_ble_eq_true rfl⟩ rfl hl.1 rfl (Nat.le_of_ble_eq_true rfl) ⟨Nat.zero_le _, Nat.zero_le _⟩ dzU_pulse_8 (fun u9 H locs e9 hP hD hS => ?_)
  have hP : va_P G xk_cls (xk_wU ad ac g0) H := hP
  have hD : va_D A (xk_wU ad ac g0) := hD
  refine lv_iload_n (pc := 11) hx hb dzU_pulse_11 rfl (lv_at hl 4 rfl) ?_
  refine lv_iconst (v := 1) (pc := 12) hx hb dzU_pulse_12 (by decide) ?_
  refine lv_icmp_eq (pc := 13) (tgt := 31) hx hb dzU_pulse_13 (by decide) (fun hq9 => absurd hq9 h01) (fun _ => ?_)
  refine lv_iload_n (pc := 16) hx hb dzU_pulse_16 rfl (lv_at hl 4 rfl) ?_
  refine lv_iconst (v := (-1)) (pc := 17) hx hb dzU_pulse_17 (by decide) ?_
  refine lv_icmp_eq (pc := 18) (tgt := 31) hx hb dzU_pulse_18 (by decide) (fun _ => ?_) (fun hq9 => absurd h02 hq9)
  refine lv_aload (pc := 31) hx hb dzU_pulse_31 (lv_at hl 0 rfl) ?_
  refine xk_get (pc := 33) hx hb hts hown hK hP ffzU_77 10 rfl rfl dzU_pulse_33 ?_
  refine lv_iload_n (pc := 36) hx hb dzU_pulse_36 rfl (lv_at hl 3 rfl) ?_
  refine xk_iald (q0 := 16) (t0 := 0) (j := 2) (pc := 37) hx hb hK hP rfl rfl (pk_in 2 4 (by decide)) (pk_cl 2) dzU_pulse_37 ?_
  refine lv_if_eq (pc := 38) (tgt := 51) hx hb dzU_pulse_38 (by decide) (fun hq9 => absurd hq9 hkp) (fun _ => ?_)
  exact xt_throw (pc := 41) (ln := 2) (is := 83) (tx := "the head has a pulse that is kept") (rest := []) hx hb hst (by rw [hml]; exact hl.1.symm) hown hlocks hout hX hend hP hS (by decide +kernel) (by decide +kernel) (by decide +kernel) xbIS_0 xbIS_1 xbIS_2 xbIS_5 (hts _ xk_m318) (hts _ xk_m59) (xaIS hts) (by decide) (by decide) dzU_pulse_41 dzU_pulse_44 (Or.inl ⟨rfl, dzU_pulse_45⟩) dzU_pulse_47 dzU_pulse_50 (Nat.le_of_ble_eq_true rfl) (Nat.le_of_ble_eq_true rfl) (Nat.le_of_ble_eq_true rfl) (Nat.le_of_ble_eq_true rfl)

theorem xzU_pulse_bk12 (l : Launch) (hst : l.stackTraces = false) (G : va_G) (ac : Nat → ClassId) (ad : Nat → Nat) (g0 : xk_St) (k2 : Int32) (hkp : ¬ ((g0 16) 2) = 0) (hkd : k2 = 1 ∨ k2 = (-1)) : xt_C l yzU_pulse czU_pulse 5 none xk_WS xt_r1 G xk_cls (xk_tys ac) RzU xk_tx xk_ex [.ref (ad 0), .int 1, .int 2, .int k2] (xk_wU ad ac g0) "java/lang/IllegalStateException" := by
  by_cases h01 : k2 = 1
  · exact xzU_pulse_bk12_n l hst G ac ad g0 k2 hkp h01
  · exact xzU_pulse_bk12_b l hst G ac ad g0 k2 hkp h01 (hkd.resolve_left h01)

set_option maxHeartbeats 4000000 in
set_option maxRecDepth 100000 in
theorem xzU_pulse_bd13 (l : Launch) (hst : l.stackTraces = false) (G : va_G) (ac : Nat → ClassId) (ad : Nat → Nat) (g0 : xk_St) (k2 : Int32) (h1 : ¬ k2 = 1) (h2 : ¬ k2 = (-1)) : xt_C l yzU_pulse czU_pulse 5 none xk_WS xt_r1 G xk_cls (xk_tys ac) RzU xk_tx xk_ex [.ref (ad 0), .int 1, .int 3, .int k2] (xk_wU ad ac g0) "java/lang/IllegalArgumentException" := by
  refine xt_of (by decide) (Nat.le_of_ble_eq_true rfl) ?_
  intro p e s m args below meth c A Q H locs ls C0 hlocks hout hX hend hP hD hS hl
  obtain ⟨hx, hb, hml, hts, hown, hK, hA⟩ := C0
  have hl : lv_has ls 5 [(0, .ref (ad 0)), (1, .int 1), (2, .int 3), (3, .int k2)] := hl
  refine lv_aload_n (pc := 0) hx hb dzU_pulse_0 rfl (lv_at hl 0 rfl) ?_
  refine lv_iload_n (pc := 1) hx hb dzU_pulse_1 rfl (lv_at hl 1 rfl) ?_
  refine xk_allVR (As := [.int 1]) (rest := []) (H0 := s.heap) (pc := 2) hx hb hml hts hown hK hA hP hD hS (kzU_findTrack_1 l G ac ad g0) vfzU_63 0 rfl rfl ⟨rfl, rfl⟩ ⟨Nat.le_of_ble_eq_true rfl, Nat.le_of_ble_eq_true rfl⟩ rfl hl.1 rfl (Nat.le_of_ble_eq_true rfl) ⟨Nat.zero_le _, Nat.zero_le _⟩ dzU_pulse_2 (fun H locs hP hD hS => ?_)
  have hP : va_P G xk_cls (xk_wU ad ac g0) H := hP
  have hD : va_D A (xk_wU ad ac g0) := hD
  refine lv_astore (lv' := [(4, .ref (ad 10)), (0, .ref (ad 0)), (1, .int 1), (2, .int 3), (3, .int k2)]) (pc := 5) hx hb dzU_pulse_5 hl (by decide) rfl (fun ls hl => ?_)
  refine lv_iload_n (pc := 7) hx hb dzU_pulse_7 rfl (lv_at hl 3 rfl) ?_
  refine xk_callSV (As := [.int 3]) (rest := []) (H0 := s.heap) (pc := 8) hx hb hml hts hown hK hA hP hD hS (kzU_checkHead_3 l G ac) sfzU_67 [] (by decide) rfl (fun _ => rfl) ⟨rfl, rfl⟩ ⟨Nat.le_of_ble_eq_true rfl, Nat.le_of_ble_eq_true rfl⟩ rfl hl.1 rfl (Nat.le_of_ble_eq_true rfl) ⟨Nat.zero_le _, Nat.zero_le _⟩ dzU_pulse_8 (fun u9 H locs e9 hP hD hS => ?_)
  have hP : va_P G xk_cls (xk_wU ad ac g0) H := hP
  have hD : va_D A (xk_wU ad ac g0) := hD
  refine lv_iload_n (pc := 11) hx hb dzU_pulse_11 rfl (lv_at hl 4 rfl) ?_
  refine lv_iconst (v := 1) (pc := 12) hx hb dzU_pulse_12 (by decide) ?_
  refine lv_icmp_eq (pc := 13) (tgt := 31) hx hb dzU_pulse_13 (by decide) (fun hq9 => absurd hq9 h1) (fun _ => ?_)
  refine lv_iload_n (pc := 16) hx hb dzU_pulse_16 rfl (lv_at hl 4 rfl) ?_
  refine lv_iconst (v := (-1)) (pc := 17) hx hb dzU_pulse_17 (by decide) ?_
  refine lv_icmp_eq (pc := 18) (tgt := 31) hx hb dzU_pulse_18 (by decide) (fun hq9 => absurd hq9 h2) (fun _ => ?_)
  exact xt_throw (pc := 21) (ln := 2) (is := 72) (tx := "a direction is 1 or -1") (rest := []) hx hb hst (by rw [hml]; exact hl.1.symm) hown hlocks hout hX hend hP hS (by decide +kernel) (by decide +kernel) (by decide +kernel) xbIA_0 xbIA_1 xbIA_2 xbIA_5 (hts _ xk_m317) (hts _ xk_m58) (xaIA hts) (by decide) (by decide) dzU_pulse_21 dzU_pulse_24 (Or.inl ⟨rfl, dzU_pulse_25⟩) dzU_pulse_27 dzU_pulse_30 (Nat.le_of_ble_eq_true rfl) (Nat.le_of_ble_eq_true rfl) (Nat.le_of_ble_eq_true rfl) (Nat.le_of_ble_eq_true rfl)

set_option maxHeartbeats 4000000 in
set_option maxRecDepth 100000 in
theorem xzU_pulse_bk13_n (l : Launch) (hst : l.stackTraces = false) (G : va_G) (ac : Nat → ClassId) (ad : Nat → Nat) (g0 : xk_St) (k2 : Int32) (hkp : ¬ ((g0 16) 3) = 0) (h01 : k2 = 1) : xt_C l yzU_pulse czU_pulse 5 none xk_WS xt_r1 G xk_cls (xk_tys ac) RzU xk_tx xk_ex [.ref (ad 0), .int 1, .int 3, .int k2] (xk_wU ad ac g0) "java/lang/IllegalStateException" := by
  refine xt_of (by decide) (Nat.le_of_ble_eq_true rfl) ?_
  intro p e s m args below meth c A Q H locs ls C0 hlocks hout hX hend hP hD hS hl
  obtain ⟨hx, hb, hml, hts, hown, hK, hA⟩ := C0
  have hl : lv_has ls 5 [(0, .ref (ad 0)), (1, .int 1), (2, .int 3), (3, .int k2)] := hl
  refine lv_aload_n (pc := 0) hx hb dzU_pulse_0 rfl (lv_at hl 0 rfl) ?_
  refine lv_iload_n (pc := 1) hx hb dzU_pulse_1 rfl (lv_at hl 1 rfl) ?_
  refine xk_allVR (As := [.int 1]) (rest := []) (H0 := s.heap) (pc := 2) hx hb hml hts hown hK hA hP hD hS (kzU_findTrack_1 l G ac ad g0) vfzU_63 0 rfl rfl ⟨rfl, rfl⟩ ⟨Nat.le_of_ble_eq_true rfl, Nat.le_of_ble_eq_true rfl⟩ rfl hl.1 rfl (Nat.le_of_ble_eq_true rfl) ⟨Nat.zero_le _, Nat.zero_le _⟩ dzU_pulse_2 (fun H locs hP hD hS => ?_)
  have hP : va_P G xk_cls (xk_wU ad ac g0) H := hP
  have hD : va_D A (xk_wU ad ac g0) := hD
  refine lv_astore (lv' := [(4, .ref (ad 10)), (0, .ref (ad 0)), (1, .int 1), (2, .int 3), (3, .int k2)]) (pc := 5) hx hb dzU_pulse_5 hl (by decide) rfl (fun ls hl => ?_)
  refine lv_iload_n (pc := 7) hx hb dzU_pulse_7 rfl (lv_at hl 3 rfl) ?_
  refine xk_callSV (As := [.int 3]) (rest := []) (H0 := s.heap) (pc := 8) hx hb hml hts hown hK hA hP hD hS (kzU_checkHead_3 l G ac) sfzU_67 [] (by decide) rfl (fun _ => rfl) ⟨rfl, rfl⟩ ⟨Nat.le_of_ble_eq_true rfl, Nat.le_of_ble_eq_true rfl⟩ rfl hl.1 rfl (Nat.le_of_ble_eq_true rfl) ⟨Nat.zero_le _, Nat.zero_le _⟩ dzU_pulse_8 (fun u9 H locs e9 hP hD hS => ?_)
  have hP : va_P G xk_cls (xk_wU ad ac g0) H := hP
  have hD : va_D A (xk_wU ad ac g0) := hD
  refine lv_iload_n (pc := 11) hx hb dzU_pulse_11 rfl (lv_at hl 4 rfl) ?_
  refine lv_iconst (v := 1) (pc := 12) hx hb dzU_pulse_12 (by decide) ?_
  refine lv_icmp_eq (pc := 13) (tgt := 31) hx hb dzU_pulse_13 (by decide) (fun _ => ?_) (fun hq9 => absurd h01 hq9)
  refine lv_aload (pc := 31) hx hb dzU_pulse_31 (lv_at hl 0 rfl) ?_
  refine xk_get (pc := 33) hx hb hts hown hK hP ffzU_77 10 rfl rfl dzU_pulse_33 ?_
  refine lv_iload_n (pc := 36) hx hb dzU_pulse_36 rfl (lv_at hl 3 rfl) ?_
  refine xk_iald (q0 := 16) (t0 := 0) (j := 3) (pc := 37) hx hb hK hP rfl rfl (pk_in 3 4 (by decide)) (pk_cl 3) dzU_pulse_37 ?_
  refine lv_if_eq (pc := 38) (tgt := 51) hx hb dzU_pulse_38 (by decide) (fun hq9 => absurd hq9 hkp) (fun _ => ?_)
  exact xt_throw (pc := 41) (ln := 2) (is := 83) (tx := "the head has a pulse that is kept") (rest := []) hx hb hst (by rw [hml]; exact hl.1.symm) hown hlocks hout hX hend hP hS (by decide +kernel) (by decide +kernel) (by decide +kernel) xbIS_0 xbIS_1 xbIS_2 xbIS_5 (hts _ xk_m318) (hts _ xk_m59) (xaIS hts) (by decide) (by decide) dzU_pulse_41 dzU_pulse_44 (Or.inl ⟨rfl, dzU_pulse_45⟩) dzU_pulse_47 dzU_pulse_50 (Nat.le_of_ble_eq_true rfl) (Nat.le_of_ble_eq_true rfl) (Nat.le_of_ble_eq_true rfl) (Nat.le_of_ble_eq_true rfl)

set_option maxHeartbeats 4000000 in
set_option maxRecDepth 100000 in
theorem xzU_pulse_bk13_b (l : Launch) (hst : l.stackTraces = false) (G : va_G) (ac : Nat → ClassId) (ad : Nat → Nat) (g0 : xk_St) (k2 : Int32) (hkp : ¬ ((g0 16) 3) = 0) (h01 : ¬ k2 = 1) (h02 : k2 = (-1)) : xt_C l yzU_pulse czU_pulse 5 none xk_WS xt_r1 G xk_cls (xk_tys ac) RzU xk_tx xk_ex [.ref (ad 0), .int 1, .int 3, .int k2] (xk_wU ad ac g0) "java/lang/IllegalStateException" := by
  refine xt_of (by decide) (Nat.le_of_ble_eq_true rfl) ?_
  intro p e s m args below meth c A Q H locs ls C0 hlocks hout hX hend hP hD hS hl
  obtain ⟨hx, hb, hml, hts, hown, hK, hA⟩ := C0
  have hl : lv_has ls 5 [(0, .ref (ad 0)), (1, .int 1), (2, .int 3), (3, .int k2)] := hl
  refine lv_aload_n (pc := 0) hx hb dzU_pulse_0 rfl (lv_at hl 0 rfl) ?_
  refine lv_iload_n (pc := 1) hx hb dzU_pulse_1 rfl (lv_at hl 1 rfl) ?_
  refine xk_allVR (As := [.int 1]) (rest := []) (H0 := s.heap) (pc := 2) hx hb hml hts hown hK hA hP hD hS (kzU_findTrack_1 l G ac ad g0) vfzU_63 0 rfl rfl ⟨rfl, rfl⟩ ⟨Nat.le_of_ble_eq_true rfl, Nat.le_of_ble_eq_true rfl⟩ rfl hl.1 rfl (Nat.le_of_ble_eq_true rfl) ⟨Nat.zero_le _, Nat.zero_le _⟩ dzU_pulse_2 (fun H locs hP hD hS => ?_)
  have hP : va_P G xk_cls (xk_wU ad ac g0) H := hP
  have hD : va_D A (xk_wU ad ac g0) := hD
  refine lv_astore (lv' := [(4, .ref (ad 10)), (0, .ref (ad 0)), (1, .int 1), (2, .int 3), (3, .int k2)]) (pc := 5) hx hb dzU_pulse_5 hl (by decide) rfl (fun ls hl => ?_)
  refine lv_iload_n (pc := 7) hx hb dzU_pulse_7 rfl (lv_at hl 3 rfl) ?_
  refine xk_callSV (As := [.int 3]) (rest := []) (H0 := s.heap) (pc := 8) hx hb hml hts hown hK hA hP hD hS (kzU_checkHead_3 l G ac) sfzU_67 [] (by decide) rfl (fun _ => rfl) ⟨rfl, rfl⟩ ⟨Nat.le_of_ble_eq_true rfl, Nat.le_of_ble_eq_true rfl⟩ rfl hl.1 rfl (Nat.le_of_ble_eq_true rfl) ⟨Nat.zero_le _, Nat.zero_le _⟩ dzU_pulse_8 (fun u9 H locs e9 hP hD hS => ?_)
  have hP : va_P G xk_cls (xk_wU ad ac g0) H := hP
  have hD : va_D A (xk_wU ad ac g0) := hD
  refine lv_iload_n (pc := 11) hx hb dzU_pulse_11 rfl (lv_at hl 4 rfl) ?_
  refine lv_iconst (v := 1) (pc := 12) hx hb dzU_pulse_12 (by decide) ?_
  refine lv_icmp_eq (pc := 13) (tgt := 31) hx hb dzU_pulse_13 (by decide) (fun hq9 => absurd hq9 h01) (fun _ => ?_)
  refine lv_iload_n (pc := 16) hx hb dzU_pulse_16 rfl (lv_at hl 4 rfl) ?_
  refine lv_iconst (v := (-1)) (pc := 17) hx hb dzU_pulse_17 (by decide) ?_
  refine lv_icmp_eq (pc := 18) (tgt := 31) hx hb dzU_pulse_18 (by decide) (fun _ => ?_) (fun hq9 => absurd h02 hq9)
  refine lv_aload (pc := 31) hx hb dzU_pulse_31 (lv_at hl 0 rfl) ?_
  refine xk_get (pc := 33) hx hb hts hown hK hP ffzU_77 10 rfl rfl dzU_pulse_33 ?_
  refine lv_iload_n (pc := 36) hx hb dzU_pulse_36 rfl (lv_at hl 3 rfl) ?_
  refine xk_iald (q0 := 16) (t0 := 0) (j := 3) (pc := 37) hx hb hK hP rfl rfl (pk_in 3 4 (by decide)) (pk_cl 3) dzU_pulse_37 ?_
  refine lv_if_eq (pc := 38) (tgt := 51) hx hb dzU_pulse_38 (by decide) (fun hq9 => absurd hq9 hkp) (fun _ => ?_)
  exact xt_throw (pc := 41) (ln := 2) (is := 83) (tx := "the head has a pulse that is kept") (rest := []) hx hb hst (by rw [hml]; exact hl.1.symm) hown hlocks hout hX hend hP hS (by decide +kernel) (by decide +kernel) (by decide +kernel) xbIS_0 xbIS_1 xbIS_2 xbIS_5 (hts _ xk_m318) (hts _ xk_m59) (xaIS hts) (by decide) (by decide) dzU_pulse_41 dzU_pulse_44 (Or.inl ⟨rfl, dzU_pulse_45⟩) dzU_pulse_47 dzU_pulse_50 (Nat.le_of_ble_eq_true rfl) (Nat.le_of_ble_eq_true rfl) (Nat.le_of_ble_eq_true rfl) (Nat.le_of_ble_eq_true rfl)

theorem xzU_pulse_bk13 (l : Launch) (hst : l.stackTraces = false) (G : va_G) (ac : Nat → ClassId) (ad : Nat → Nat) (g0 : xk_St) (k2 : Int32) (hkp : ¬ ((g0 16) 3) = 0) (hkd : k2 = 1 ∨ k2 = (-1)) : xt_C l yzU_pulse czU_pulse 5 none xk_WS xt_r1 G xk_cls (xk_tys ac) RzU xk_tx xk_ex [.ref (ad 0), .int 1, .int 3, .int k2] (xk_wU ad ac g0) "java/lang/IllegalStateException" := by
  by_cases h01 : k2 = 1
  · exact xzU_pulse_bk13_n l hst G ac ad g0 k2 hkp h01
  · exact xzU_pulse_bk13_b l hst G ac ad g0 k2 hkp h01 (hkd.resolve_left h01)

set_option maxHeartbeats 4000000 in
set_option maxRecDepth 100000 in
theorem xzU_health_bt (l : Launch) (hst : l.stackTraces = false) (G : va_G) (ac : Nat → ClassId) (ad : Nat → Nat) (g0 : xk_St) (k0 : Int32) (k1 : Int32) (k2 : Int32) (hbt : k0 < 0 ∨ ¬ k0 < 2) : xt_C l yzU_health czU_health 6 (some .boolean) xk_WS xt_r1 G xk_cls (xk_tys ac) RzU xk_tx xk_ex [.ref (ad 0), .int k0, .int k1, .int k2] (xk_wU ad ac g0) "java/util/NoSuchElementException" := by
  refine xt_of (by decide) (Nat.le_of_ble_eq_true rfl) ?_
  intro p e s m args below meth c A Q H locs ls C0 hlocks hout hX hend hP hD hS hl
  obtain ⟨hx, hb, hml, hts, hown, hK, hA⟩ := C0
  have hl : lv_has ls 6 [(0, .ref (ad 0)), (1, .int k0), (2, .int k1), (3, .int k2)] := hl
  refine lv_aload_n (pc := 0) hx hb dzU_health_0 rfl (lv_at hl 0 rfl) ?_
  refine lv_iload_n (pc := 1) hx hb dzU_health_1 rfl (lv_at hl 1 rfl) ?_
  exact xt_pass (xt_runV (As := [.int k0]) (rest := []) (pc := 2) hx hb hml hts hown hK hP hD hX hS (xk_freeAll hD hS hA) (xzU_findTrack_bad l hst G ac ad g0 k0 hbt) vfzU_63 0 rfl rfl ⟨rfl, rfl⟩ ⟨Nat.le_of_ble_eq_true rfl, Nat.le_of_ble_eq_true rfl⟩ rfl hl.1 rfl (Nat.le_of_ble_eq_true rfl) ⟨Nat.le_of_ble_eq_true rfl, Nat.le_of_ble_eq_true rfl⟩ dzU_health_2) hlocks hout hend hS (xk_freeAll hD hS hA)

set_option maxHeartbeats 4000000 in
set_option maxRecDepth 100000 in
theorem xzU_health_bh0 (l : Launch) (hst : l.stackTraces = false) (G : va_G) (ac : Nat → ClassId) (ad : Nat → Nat) (g0 : xk_St) (k1 : Int32) (k2 : Int32) (hbh : k1 < 0 ∨ ¬ k1 < 4) : xt_C l yzU_health czU_health 6 (some .boolean) xk_WS xt_r1 G xk_cls (xk_tys ac) RzU xk_tx xk_ex [.ref (ad 0), .int 0, .int k1, .int k2] (xk_wU ad ac g0) "java/util/NoSuchElementException" := by
  refine xt_of (by decide) (Nat.le_of_ble_eq_true rfl) ?_
  intro p e s m args below meth c A Q H locs ls C0 hlocks hout hX hend hP hD hS hl
  obtain ⟨hx, hb, hml, hts, hown, hK, hA⟩ := C0
  have hl : lv_has ls 6 [(0, .ref (ad 0)), (1, .int 0), (2, .int k1), (3, .int k2)] := hl
  refine lv_aload_n (pc := 0) hx hb dzU_health_0 rfl (lv_at hl 0 rfl) ?_
  refine lv_iload_n (pc := 1) hx hb dzU_health_1 rfl (lv_at hl 1 rfl) ?_
  refine xk_allVR (As := [.int 0]) (rest := []) (H0 := s.heap) (pc := 2) hx hb hml hts hown hK hA hP hD hS (kzU_findTrack_0 l G ac ad g0) vfzU_63 0 rfl rfl ⟨rfl, rfl⟩ ⟨Nat.le_of_ble_eq_true rfl, Nat.le_of_ble_eq_true rfl⟩ rfl hl.1 rfl (Nat.le_of_ble_eq_true rfl) ⟨Nat.zero_le _, Nat.zero_le _⟩ dzU_health_2 (fun H locs hP hD hS => ?_)
  have hP : va_P G xk_cls (xk_wU ad ac g0) H := hP
  have hD : va_D A (xk_wU ad ac g0) := hD
  refine lv_astore (lv' := [(4, .ref (ad 9)), (0, .ref (ad 0)), (1, .int 0), (2, .int k1), (3, .int k2)]) (pc := 5) hx hb dzU_health_5 hl (by decide) rfl (fun ls hl => ?_)
  refine lv_iload_n (pc := 7) hx hb dzU_health_7 rfl (lv_at hl 3 rfl) ?_
  exact xt_pass (xt_runS (As := [.int k1]) (rest := []) (pc := 8) hx hb hml hts hown hK hP hD hX hS (xk_freeAll hD hS hA) (xzU_checkHead_bad l hst G ac ad g0 k1 hbh) sfzU_67 ⟨rfl, rfl⟩ ⟨Nat.le_of_ble_eq_true rfl, Nat.le_of_ble_eq_true rfl⟩ rfl hl.1 rfl (Nat.le_of_ble_eq_true rfl) ⟨Nat.le_of_ble_eq_true rfl, Nat.le_of_ble_eq_true rfl⟩ dzU_health_8) hlocks hout hend hS (xk_freeAll hD hS hA)

set_option maxHeartbeats 4000000 in
set_option maxRecDepth 100000 in
theorem xzU_health_bh1 (l : Launch) (hst : l.stackTraces = false) (G : va_G) (ac : Nat → ClassId) (ad : Nat → Nat) (g0 : xk_St) (k1 : Int32) (k2 : Int32) (hbh : k1 < 0 ∨ ¬ k1 < 4) : xt_C l yzU_health czU_health 6 (some .boolean) xk_WS xt_r1 G xk_cls (xk_tys ac) RzU xk_tx xk_ex [.ref (ad 0), .int 1, .int k1, .int k2] (xk_wU ad ac g0) "java/util/NoSuchElementException" := by
  refine xt_of (by decide) (Nat.le_of_ble_eq_true rfl) ?_
  intro p e s m args below meth c A Q H locs ls C0 hlocks hout hX hend hP hD hS hl
  obtain ⟨hx, hb, hml, hts, hown, hK, hA⟩ := C0
  have hl : lv_has ls 6 [(0, .ref (ad 0)), (1, .int 1), (2, .int k1), (3, .int k2)] := hl
  refine lv_aload_n (pc := 0) hx hb dzU_health_0 rfl (lv_at hl 0 rfl) ?_
  refine lv_iload_n (pc := 1) hx hb dzU_health_1 rfl (lv_at hl 1 rfl) ?_
  refine xk_allVR (As := [.int 1]) (rest := []) (H0 := s.heap) (pc := 2) hx hb hml hts hown hK hA hP hD hS (kzU_findTrack_1 l G ac ad g0) vfzU_63 0 rfl rfl ⟨rfl, rfl⟩ ⟨Nat.le_of_ble_eq_true rfl, Nat.le_of_ble_eq_true rfl⟩ rfl hl.1 rfl (Nat.le_of_ble_eq_true rfl) ⟨Nat.zero_le _, Nat.zero_le _⟩ dzU_health_2 (fun H locs hP hD hS => ?_)
  have hP : va_P G xk_cls (xk_wU ad ac g0) H := hP
  have hD : va_D A (xk_wU ad ac g0) := hD
  refine lv_astore (lv' := [(4, .ref (ad 10)), (0, .ref (ad 0)), (1, .int 1), (2, .int k1), (3, .int k2)]) (pc := 5) hx hb dzU_health_5 hl (by decide) rfl (fun ls hl => ?_)
  refine lv_iload_n (pc := 7) hx hb dzU_health_7 rfl (lv_at hl 3 rfl) ?_
  exact xt_pass (xt_runS (As := [.int k1]) (rest := []) (pc := 8) hx hb hml hts hown hK hP hD hX hS (xk_freeAll hD hS hA) (xzU_checkHead_bad l hst G ac ad g0 k1 hbh) sfzU_67 ⟨rfl, rfl⟩ ⟨Nat.le_of_ble_eq_true rfl, Nat.le_of_ble_eq_true rfl⟩ rfl hl.1 rfl (Nat.le_of_ble_eq_true rfl) ⟨Nat.le_of_ble_eq_true rfl, Nat.le_of_ble_eq_true rfl⟩ dzU_health_8) hlocks hout hend hS (xk_freeAll hD hS hA)

set_option maxHeartbeats 4000000 in
set_option maxRecDepth 100000 in
theorem xzU_ticks_bad_n (l : Launch) (hst : l.stackTraces = false) (G : va_G) (ac : Nat → ClassId) (ad : Nat → Nat) (g0 : xk_St) (k0 : Int32) (h01 : k0 < 0) : xt_C l yzU_ticks czU_ticks 3 (some .int) xk_WS xt_r0 G xk_cls (xk_tys ac) RzU xk_tx xk_ex [.ref (ad 0), .int k0] (xk_wU ad ac g0) "java/lang/IllegalArgumentException" := by
  refine xt_of (by decide) (Nat.le_of_ble_eq_true rfl) ?_
  intro p e s m args below meth c A Q H locs ls C0 hlocks hout hX hend hP hD hS hl
  obtain ⟨hx, hb, hml, hts, hown, hK, hA⟩ := C0
  have hl : lv_has ls 3 [(0, .ref (ad 0)), (1, .int k0)] := hl
  refine lv_iload_n (pc := 0) hx hb dzU_ticks_0 rfl (lv_at hl 1 rfl) ?_
  refine lv_if_lt (pc := 1) (tgt := 11) hx hb dzU_ticks_1 (by decide) (fun _ => ?_) (fun hq9 => absurd h01 hq9)
  exact xt_throw (pc := 11) (ln := 2) (is := 132) (tx := "0 to 1000 ticks") (rest := []) hx hb hst (by rw [hml]; exact hl.1.symm) hown hlocks hout hX hend hP hS (by decide +kernel) (by decide +kernel) (by decide +kernel) xbIA_0 xbIA_1 xbIA_2 xbIA_5 (hts _ xk_m317) (hts _ xk_m58) (xaIA hts) (by decide) (by decide) dzU_ticks_11 dzU_ticks_14 (Or.inl ⟨rfl, dzU_ticks_15⟩) dzU_ticks_17 dzU_ticks_20 (Nat.le_of_ble_eq_true rfl) (Nat.le_of_ble_eq_true rfl) (Nat.le_of_ble_eq_true rfl) (Nat.le_of_ble_eq_true rfl)

set_option maxHeartbeats 4000000 in
set_option maxRecDepth 100000 in
theorem xzU_ticks_bad_b (l : Launch) (hst : l.stackTraces = false) (G : va_G) (ac : Nat → ClassId) (ad : Nat → Nat) (g0 : xk_St) (k0 : Int32) (h01 : ¬ k0 < 0) (h02 : ¬ k0 ≤ 1000) : xt_C l yzU_ticks czU_ticks 3 (some .int) xk_WS xt_r0 G xk_cls (xk_tys ac) RzU xk_tx xk_ex [.ref (ad 0), .int k0] (xk_wU ad ac g0) "java/lang/IllegalArgumentException" := by
  refine xt_of (by decide) (Nat.le_of_ble_eq_true rfl) ?_
  intro p e s m args below meth c A Q H locs ls C0 hlocks hout hX hend hP hD hS hl
  obtain ⟨hx, hb, hml, hts, hown, hK, hA⟩ := C0
  have hl : lv_has ls 3 [(0, .ref (ad 0)), (1, .int k0)] := hl
  refine lv_iload_n (pc := 0) hx hb dzU_ticks_0 rfl (lv_at hl 1 rfl) ?_
  refine lv_if_lt (pc := 1) (tgt := 11) hx hb dzU_ticks_1 (by decide) (fun hq9 => absurd hq9 h01) (fun _ => ?_)
  refine lv_iload_n (pc := 4) hx hb dzU_ticks_4 rfl (lv_at hl 1 rfl) ?_
  refine lv_sipush (v := 1000) (pc := 5) hx hb dzU_ticks_5 (by decide) ?_
  refine lv_icmp_le (pc := 8) (tgt := 21) hx hb dzU_ticks_8 (by decide) (fun hq9 => absurd hq9 h02) (fun _ => ?_)
  exact xt_throw (pc := 11) (ln := 2) (is := 132) (tx := "0 to 1000 ticks") (rest := []) hx hb hst (by rw [hml]; exact hl.1.symm) hown hlocks hout hX hend hP hS (by decide +kernel) (by decide +kernel) (by decide +kernel) xbIA_0 xbIA_1 xbIA_2 xbIA_5 (hts _ xk_m317) (hts _ xk_m58) (xaIA hts) (by decide) (by decide) dzU_ticks_11 dzU_ticks_14 (Or.inl ⟨rfl, dzU_ticks_15⟩) dzU_ticks_17 dzU_ticks_20 (Nat.le_of_ble_eq_true rfl) (Nat.le_of_ble_eq_true rfl) (Nat.le_of_ble_eq_true rfl) (Nat.le_of_ble_eq_true rfl)

theorem xzU_ticks_bad (l : Launch) (hst : l.stackTraces = false) (G : va_G) (ac : Nat → ClassId) (ad : Nat → Nat) (g0 : xk_St) (k0 : Int32) (hbn : k0 < 0 ∨ ¬ k0 ≤ 1000) : xt_C l yzU_ticks czU_ticks 3 (some .int) xk_WS xt_r0 G xk_cls (xk_tys ac) RzU xk_tx xk_ex [.ref (ad 0), .int k0] (xk_wU ad ac g0) "java/lang/IllegalArgumentException" := by
  by_cases h01 : k0 < 0
  · exact xzU_ticks_bad_n l hst G ac ad g0 k0  h01
  · exact xzU_ticks_bad_b l hst G ac ad g0 k0  h01 (hbn.resolve_left h01)

set_option maxHeartbeats 4000000 in
set_option maxRecDepth 100000 in
theorem xzU_barrier_bb_n (l : Launch) (hst : l.stackTraces = false) (G : va_G) (ac : Nat → ClassId) (ad : Nat → Nat) (g0 : xk_St) (k0 : Int32) (k1 : Int32) (h01 : k0 < 0) : xt_C l yzU_barrier czU_barrier 4 (some .int) xk_WS xt_r0 G xk_cls (xk_tys ac) RzU xk_tx xk_ex [.ref (ad 0), .int k0, .int k1] (xk_wU ad ac g0) "java/util/NoSuchElementException" := by
  refine xt_of (by decide) (Nat.le_of_ble_eq_true rfl) ?_
  intro p e s m args below meth c A Q H locs ls C0 hlocks hout hX hend hP hD hS hl
  obtain ⟨hx, hb, hml, hts, hown, hK, hA⟩ := C0
  have hl : lv_has ls 4 [(0, .ref (ad 0)), (1, .int k0), (2, .int k1)] := hl
  refine lv_iload_n (pc := 0) hx hb dzU_barrier_0 rfl (lv_at hl 1 rfl) ?_
  refine lv_if_lt (pc := 1) (tgt := 9) hx hb dzU_barrier_1 (by decide) (fun _ => ?_) (fun hq9 => absurd h01 hq9)
  exact xt_throw (pc := 9) (ln := 2) (is := 139) (tx := "no such barrier") (rest := []) hx hb hst (by rw [hml]; exact hl.1.symm) hown hlocks hout hX hend hP hS (by decide +kernel) (by decide +kernel) (by decide +kernel) xbNS_0 xbNS_1 xbNS_2 xbNS_5 (hts _ xk_m311) (hts _ xk_m57) (xaNS hts) (by decide) (by decide) dzU_barrier_9 dzU_barrier_12 (Or.inl ⟨rfl, dzU_barrier_13⟩) dzU_barrier_15 dzU_barrier_18 (Nat.le_of_ble_eq_true rfl) (Nat.le_of_ble_eq_true rfl) (Nat.le_of_ble_eq_true rfl) (Nat.le_of_ble_eq_true rfl)

set_option maxHeartbeats 4000000 in
set_option maxRecDepth 100000 in
theorem xzU_barrier_bb_b (l : Launch) (hst : l.stackTraces = false) (G : va_G) (ac : Nat → ClassId) (ad : Nat → Nat) (g0 : xk_St) (k0 : Int32) (k1 : Int32) (h01 : ¬ k0 < 0) (h02 : ¬ k0 < 2) : xt_C l yzU_barrier czU_barrier 4 (some .int) xk_WS xt_r0 G xk_cls (xk_tys ac) RzU xk_tx xk_ex [.ref (ad 0), .int k0, .int k1] (xk_wU ad ac g0) "java/util/NoSuchElementException" := by
  refine xt_of (by decide) (Nat.le_of_ble_eq_true rfl) ?_
  intro p e s m args below meth c A Q H locs ls C0 hlocks hout hX hend hP hD hS hl
  obtain ⟨hx, hb, hml, hts, hown, hK, hA⟩ := C0
  have hl : lv_has ls 4 [(0, .ref (ad 0)), (1, .int k0), (2, .int k1)] := hl
  refine lv_iload_n (pc := 0) hx hb dzU_barrier_0 rfl (lv_at hl 1 rfl) ?_
  refine lv_if_lt (pc := 1) (tgt := 9) hx hb dzU_barrier_1 (by decide) (fun hq9 => absurd hq9 h01) (fun _ => ?_)
  refine lv_iload_n (pc := 4) hx hb dzU_barrier_4 rfl (lv_at hl 1 rfl) ?_
  refine lv_iconst (v := 2) (pc := 5) hx hb dzU_barrier_5 (by decide) ?_
  refine lv_icmp_lt (pc := 6) (tgt := 19) hx hb dzU_barrier_6 (by decide) (fun hq9 => absurd hq9 h02) (fun _ => ?_)
  exact xt_throw (pc := 9) (ln := 2) (is := 139) (tx := "no such barrier") (rest := []) hx hb hst (by rw [hml]; exact hl.1.symm) hown hlocks hout hX hend hP hS (by decide +kernel) (by decide +kernel) (by decide +kernel) xbNS_0 xbNS_1 xbNS_2 xbNS_5 (hts _ xk_m311) (hts _ xk_m57) (xaNS hts) (by decide) (by decide) dzU_barrier_9 dzU_barrier_12 (Or.inl ⟨rfl, dzU_barrier_13⟩) dzU_barrier_15 dzU_barrier_18 (Nat.le_of_ble_eq_true rfl) (Nat.le_of_ble_eq_true rfl) (Nat.le_of_ble_eq_true rfl) (Nat.le_of_ble_eq_true rfl)

theorem xzU_barrier_bb (l : Launch) (hst : l.stackTraces = false) (G : va_G) (ac : Nat → ClassId) (ad : Nat → Nat) (g0 : xk_St) (k0 : Int32) (k1 : Int32) (hbb : k0 < 0 ∨ ¬ k0 < 2) : xt_C l yzU_barrier czU_barrier 4 (some .int) xk_WS xt_r0 G xk_cls (xk_tys ac) RzU xk_tx xk_ex [.ref (ad 0), .int k0, .int k1] (xk_wU ad ac g0) "java/util/NoSuchElementException" := by
  by_cases h01 : k0 < 0
  · exact xzU_barrier_bb_n l hst G ac ad g0 k0 k1  h01
  · exact xzU_barrier_bb_b l hst G ac ad g0 k0 k1  h01 (hbb.resolve_left h01)

set_option maxHeartbeats 4000000 in
set_option maxRecDepth 100000 in
theorem xzU_barrier_bp0_n (l : Launch) (hst : l.stackTraces = false) (G : va_G) (ac : Nat → ClassId) (ad : Nat → Nat) (g0 : xk_St) (k1 : Int32) (h01 : k1 < 0) : xt_C l yzU_barrier czU_barrier 4 (some .int) xk_WS xt_r0 G xk_cls (xk_tys ac) RzU xk_tx xk_ex [.ref (ad 0), .int 0, .int k1] (xk_wU ad ac g0) "java/lang/IllegalArgumentException" := by
  refine xt_of (by decide) (Nat.le_of_ble_eq_true rfl) ?_
  intro p e s m args below meth c A Q H locs ls C0 hlocks hout hX hend hP hD hS hl
  obtain ⟨hx, hb, hml, hts, hown, hK, hA⟩ := C0
  have hl : lv_has ls 4 [(0, .ref (ad 0)), (1, .int 0), (2, .int k1)] := hl
  refine lv_iload_n (pc := 0) hx hb dzU_barrier_0 rfl (lv_at hl 1 rfl) ?_
  refine lv_if_lt (pc := 1) (tgt := 9) hx hb dzU_barrier_1 (by decide) (fun hq9 => absurd hq9 (by decide)) (fun _ => ?_)
  refine lv_iload_n (pc := 4) hx hb dzU_barrier_4 rfl (lv_at hl 1 rfl) ?_
  refine lv_iconst (v := 2) (pc := 5) hx hb dzU_barrier_5 (by decide) ?_
  refine lv_icmp_lt (pc := 6) (tgt := 19) hx hb dzU_barrier_6 (by decide) (fun _ => ?_) (fun hq9 => absurd (by decide) hq9)
  refine lv_iload_n (pc := 19) hx hb dzU_barrier_19 rfl (lv_at hl 2 rfl) ?_
  refine lv_if_lt (pc := 20) (tgt := 29) hx hb dzU_barrier_20 (by decide) (fun _ => ?_) (fun hq9 => absurd h01 hq9)
  exact xt_throw (pc := 29) (ln := 2) (is := 142) (tx := "a position is 0 to 100") (rest := []) hx hb hst (by rw [hml]; exact hl.1.symm) hown hlocks hout hX hend hP hS (by decide +kernel) (by decide +kernel) (by decide +kernel) xbIA_0 xbIA_1 xbIA_2 xbIA_5 (hts _ xk_m317) (hts _ xk_m58) (xaIA hts) (by decide) (by decide) dzU_barrier_29 dzU_barrier_32 (Or.inl ⟨rfl, dzU_barrier_33⟩) dzU_barrier_35 dzU_barrier_38 (Nat.le_of_ble_eq_true rfl) (Nat.le_of_ble_eq_true rfl) (Nat.le_of_ble_eq_true rfl) (Nat.le_of_ble_eq_true rfl)

set_option maxHeartbeats 4000000 in
set_option maxRecDepth 100000 in
theorem xzU_barrier_bp0_b (l : Launch) (hst : l.stackTraces = false) (G : va_G) (ac : Nat → ClassId) (ad : Nat → Nat) (g0 : xk_St) (k1 : Int32) (h01 : ¬ k1 < 0) (h02 : ¬ k1 ≤ 100) : xt_C l yzU_barrier czU_barrier 4 (some .int) xk_WS xt_r0 G xk_cls (xk_tys ac) RzU xk_tx xk_ex [.ref (ad 0), .int 0, .int k1] (xk_wU ad ac g0) "java/lang/IllegalArgumentException" := by
  refine xt_of (by decide) (Nat.le_of_ble_eq_true rfl) ?_
  intro p e s m args below meth c A Q H locs ls C0 hlocks hout hX hend hP hD hS hl
  obtain ⟨hx, hb, hml, hts, hown, hK, hA⟩ := C0
  have hl : lv_has ls 4 [(0, .ref (ad 0)), (1, .int 0), (2, .int k1)] := hl
  refine lv_iload_n (pc := 0) hx hb dzU_barrier_0 rfl (lv_at hl 1 rfl) ?_
  refine lv_if_lt (pc := 1) (tgt := 9) hx hb dzU_barrier_1 (by decide) (fun hq9 => absurd hq9 (by decide)) (fun _ => ?_)
  refine lv_iload_n (pc := 4) hx hb dzU_barrier_4 rfl (lv_at hl 1 rfl) ?_
  refine lv_iconst (v := 2) (pc := 5) hx hb dzU_barrier_5 (by decide) ?_
  refine lv_icmp_lt (pc := 6) (tgt := 19) hx hb dzU_barrier_6 (by decide) (fun _ => ?_) (fun hq9 => absurd (by decide) hq9)
  refine lv_iload_n (pc := 19) hx hb dzU_barrier_19 rfl (lv_at hl 2 rfl) ?_
  refine lv_if_lt (pc := 20) (tgt := 29) hx hb dzU_barrier_20 (by decide) (fun hq9 => absurd hq9 h01) (fun _ => ?_)
  refine lv_iload_n (pc := 23) hx hb dzU_barrier_23 rfl (lv_at hl 2 rfl) ?_
  refine lv_bipush (v := 100) (pc := 24) hx hb dzU_barrier_24 (by decide) ?_
  refine lv_icmp_le (pc := 26) (tgt := 39) hx hb dzU_barrier_26 (by decide) (fun hq9 => absurd hq9 h02) (fun _ => ?_)
  exact xt_throw (pc := 29) (ln := 2) (is := 142) (tx := "a position is 0 to 100") (rest := []) hx hb hst (by rw [hml]; exact hl.1.symm) hown hlocks hout hX hend hP hS (by decide +kernel) (by decide +kernel) (by decide +kernel) xbIA_0 xbIA_1 xbIA_2 xbIA_5 (hts _ xk_m317) (hts _ xk_m58) (xaIA hts) (by decide) (by decide) dzU_barrier_29 dzU_barrier_32 (Or.inl ⟨rfl, dzU_barrier_33⟩) dzU_barrier_35 dzU_barrier_38 (Nat.le_of_ble_eq_true rfl) (Nat.le_of_ble_eq_true rfl) (Nat.le_of_ble_eq_true rfl) (Nat.le_of_ble_eq_true rfl)

theorem xzU_barrier_bp0 (l : Launch) (hst : l.stackTraces = false) (G : va_G) (ac : Nat → ClassId) (ad : Nat → Nat) (g0 : xk_St) (k1 : Int32) (hbp : k1 < 0 ∨ ¬ k1 ≤ 100) : xt_C l yzU_barrier czU_barrier 4 (some .int) xk_WS xt_r0 G xk_cls (xk_tys ac) RzU xk_tx xk_ex [.ref (ad 0), .int 0, .int k1] (xk_wU ad ac g0) "java/lang/IllegalArgumentException" := by
  by_cases h01 : k1 < 0
  · exact xzU_barrier_bp0_n l hst G ac ad g0 k1  h01
  · exact xzU_barrier_bp0_b l hst G ac ad g0 k1  h01 (hbp.resolve_left h01)

set_option maxHeartbeats 4000000 in
set_option maxRecDepth 100000 in
theorem xzU_barrier_bp1_n (l : Launch) (hst : l.stackTraces = false) (G : va_G) (ac : Nat → ClassId) (ad : Nat → Nat) (g0 : xk_St) (k1 : Int32) (h01 : k1 < 0) : xt_C l yzU_barrier czU_barrier 4 (some .int) xk_WS xt_r0 G xk_cls (xk_tys ac) RzU xk_tx xk_ex [.ref (ad 0), .int 1, .int k1] (xk_wU ad ac g0) "java/lang/IllegalArgumentException" := by
  refine xt_of (by decide) (Nat.le_of_ble_eq_true rfl) ?_
  intro p e s m args below meth c A Q H locs ls C0 hlocks hout hX hend hP hD hS hl
  obtain ⟨hx, hb, hml, hts, hown, hK, hA⟩ := C0
  have hl : lv_has ls 4 [(0, .ref (ad 0)), (1, .int 1), (2, .int k1)] := hl
  refine lv_iload_n (pc := 0) hx hb dzU_barrier_0 rfl (lv_at hl 1 rfl) ?_
  refine lv_if_lt (pc := 1) (tgt := 9) hx hb dzU_barrier_1 (by decide) (fun hq9 => absurd hq9 (by decide)) (fun _ => ?_)
  refine lv_iload_n (pc := 4) hx hb dzU_barrier_4 rfl (lv_at hl 1 rfl) ?_
  refine lv_iconst (v := 2) (pc := 5) hx hb dzU_barrier_5 (by decide) ?_
  refine lv_icmp_lt (pc := 6) (tgt := 19) hx hb dzU_barrier_6 (by decide) (fun _ => ?_) (fun hq9 => absurd (by decide) hq9)
  refine lv_iload_n (pc := 19) hx hb dzU_barrier_19 rfl (lv_at hl 2 rfl) ?_
  refine lv_if_lt (pc := 20) (tgt := 29) hx hb dzU_barrier_20 (by decide) (fun _ => ?_) (fun hq9 => absurd h01 hq9)
  exact xt_throw (pc := 29) (ln := 2) (is := 142) (tx := "a position is 0 to 100") (rest := []) hx hb hst (by rw [hml]; exact hl.1.symm) hown hlocks hout hX hend hP hS (by decide +kernel) (by decide +kernel) (by decide +kernel) xbIA_0 xbIA_1 xbIA_2 xbIA_5 (hts _ xk_m317) (hts _ xk_m58) (xaIA hts) (by decide) (by decide) dzU_barrier_29 dzU_barrier_32 (Or.inl ⟨rfl, dzU_barrier_33⟩) dzU_barrier_35 dzU_barrier_38 (Nat.le_of_ble_eq_true rfl) (Nat.le_of_ble_eq_true rfl) (Nat.le_of_ble_eq_true rfl) (Nat.le_of_ble_eq_true rfl)

set_option maxHeartbeats 4000000 in
set_option maxRecDepth 100000 in
theorem xzU_barrier_bp1_b (l : Launch) (hst : l.stackTraces = false) (G : va_G) (ac : Nat → ClassId) (ad : Nat → Nat) (g0 : xk_St) (k1 : Int32) (h01 : ¬ k1 < 0) (h02 : ¬ k1 ≤ 100) : xt_C l yzU_barrier czU_barrier 4 (some .int) xk_WS xt_r0 G xk_cls (xk_tys ac) RzU xk_tx xk_ex [.ref (ad 0), .int 1, .int k1] (xk_wU ad ac g0) "java/lang/IllegalArgumentException" := by
  refine xt_of (by decide) (Nat.le_of_ble_eq_true rfl) ?_
  intro p e s m args below meth c A Q H locs ls C0 hlocks hout hX hend hP hD hS hl
  obtain ⟨hx, hb, hml, hts, hown, hK, hA⟩ := C0
  have hl : lv_has ls 4 [(0, .ref (ad 0)), (1, .int 1), (2, .int k1)] := hl
  refine lv_iload_n (pc := 0) hx hb dzU_barrier_0 rfl (lv_at hl 1 rfl) ?_
  refine lv_if_lt (pc := 1) (tgt := 9) hx hb dzU_barrier_1 (by decide) (fun hq9 => absurd hq9 (by decide)) (fun _ => ?_)
  refine lv_iload_n (pc := 4) hx hb dzU_barrier_4 rfl (lv_at hl 1 rfl) ?_
  refine lv_iconst (v := 2) (pc := 5) hx hb dzU_barrier_5 (by decide) ?_
  refine lv_icmp_lt (pc := 6) (tgt := 19) hx hb dzU_barrier_6 (by decide) (fun _ => ?_) (fun hq9 => absurd (by decide) hq9)
  refine lv_iload_n (pc := 19) hx hb dzU_barrier_19 rfl (lv_at hl 2 rfl) ?_
  refine lv_if_lt (pc := 20) (tgt := 29) hx hb dzU_barrier_20 (by decide) (fun hq9 => absurd hq9 h01) (fun _ => ?_)
  refine lv_iload_n (pc := 23) hx hb dzU_barrier_23 rfl (lv_at hl 2 rfl) ?_
  refine lv_bipush (v := 100) (pc := 24) hx hb dzU_barrier_24 (by decide) ?_
  refine lv_icmp_le (pc := 26) (tgt := 39) hx hb dzU_barrier_26 (by decide) (fun hq9 => absurd hq9 h02) (fun _ => ?_)
  exact xt_throw (pc := 29) (ln := 2) (is := 142) (tx := "a position is 0 to 100") (rest := []) hx hb hst (by rw [hml]; exact hl.1.symm) hown hlocks hout hX hend hP hS (by decide +kernel) (by decide +kernel) (by decide +kernel) xbIA_0 xbIA_1 xbIA_2 xbIA_5 (hts _ xk_m317) (hts _ xk_m58) (xaIA hts) (by decide) (by decide) dzU_barrier_29 dzU_barrier_32 (Or.inl ⟨rfl, dzU_barrier_33⟩) dzU_barrier_35 dzU_barrier_38 (Nat.le_of_ble_eq_true rfl) (Nat.le_of_ble_eq_true rfl) (Nat.le_of_ble_eq_true rfl) (Nat.le_of_ble_eq_true rfl)

theorem xzU_barrier_bp1 (l : Launch) (hst : l.stackTraces = false) (G : va_G) (ac : Nat → ClassId) (ad : Nat → Nat) (g0 : xk_St) (k1 : Int32) (hbp : k1 < 0 ∨ ¬ k1 ≤ 100) : xt_C l yzU_barrier czU_barrier 4 (some .int) xk_WS xt_r0 G xk_cls (xk_tys ac) RzU xk_tx xk_ex [.ref (ad 0), .int 1, .int k1] (xk_wU ad ac g0) "java/lang/IllegalArgumentException" := by
  by_cases h01 : k1 < 0
  · exact xzU_barrier_bp1_n l hst G ac ad g0 k1  h01
  · exact xzU_barrier_bp1_b l hst G ac ad g0 k1  h01 (hbp.resolve_left h01)

set_option maxHeartbeats 4000000 in
set_option maxRecDepth 100000 in
theorem xzU_current_bad_n (l : Launch) (hst : l.stackTraces = false) (G : va_G) (ac : Nat → ClassId) (ad : Nat → Nat) (g0 : xk_St) (k0 : Int32) (k1 : Int32) (h01 : k0 < 0) : xt_C l yzU_current czU_current 4 (some .boolean) xk_WS xt_r0 G xk_cls (xk_tys ac) RzU xk_tx xk_ex [.ref (ad 0), .int k0, .int k1] (xk_wU ad ac g0) "java/util/NoSuchElementException" := by
  refine xt_of (by decide) (Nat.le_of_ble_eq_true rfl) ?_
  intro p e s m args below meth c A Q H locs ls C0 hlocks hout hX hend hP hD hS hl
  obtain ⟨hx, hb, hml, hts, hown, hK, hA⟩ := C0
  have hl : lv_has ls 4 [(0, .ref (ad 0)), (1, .int k0), (2, .int k1)] := hl
  refine lv_iload_n (pc := 0) hx hb dzU_current_0 rfl (lv_at hl 1 rfl) ?_
  refine lv_if_lt (pc := 1) (tgt := 9) hx hb dzU_current_1 (by decide) (fun _ => ?_) (fun hq9 => absurd h01 hq9)
  exact xt_throw (pc := 9) (ln := 2) (is := 147) (tx := "no such lamp") (rest := []) hx hb hst (by rw [hml]; exact hl.1.symm) hown hlocks hout hX hend hP hS (by decide +kernel) (by decide +kernel) (by decide +kernel) xbNS_0 xbNS_1 xbNS_2 xbNS_5 (hts _ xk_m311) (hts _ xk_m57) (xaNS hts) (by decide) (by decide) dzU_current_9 dzU_current_12 (Or.inl ⟨rfl, dzU_current_13⟩) dzU_current_15 dzU_current_18 (Nat.le_of_ble_eq_true rfl) (Nat.le_of_ble_eq_true rfl) (Nat.le_of_ble_eq_true rfl) (Nat.le_of_ble_eq_true rfl)

set_option maxHeartbeats 4000000 in
set_option maxRecDepth 100000 in
theorem xzU_current_bad_b (l : Launch) (hst : l.stackTraces = false) (G : va_G) (ac : Nat → ClassId) (ad : Nat → Nat) (g0 : xk_St) (k0 : Int32) (k1 : Int32) (h01 : ¬ k0 < 0) (h02 : ¬ k0 < 3) : xt_C l yzU_current czU_current 4 (some .boolean) xk_WS xt_r0 G xk_cls (xk_tys ac) RzU xk_tx xk_ex [.ref (ad 0), .int k0, .int k1] (xk_wU ad ac g0) "java/util/NoSuchElementException" := by
  refine xt_of (by decide) (Nat.le_of_ble_eq_true rfl) ?_
  intro p e s m args below meth c A Q H locs ls C0 hlocks hout hX hend hP hD hS hl
  obtain ⟨hx, hb, hml, hts, hown, hK, hA⟩ := C0
  have hl : lv_has ls 4 [(0, .ref (ad 0)), (1, .int k0), (2, .int k1)] := hl
  refine lv_iload_n (pc := 0) hx hb dzU_current_0 rfl (lv_at hl 1 rfl) ?_
  refine lv_if_lt (pc := 1) (tgt := 9) hx hb dzU_current_1 (by decide) (fun hq9 => absurd hq9 h01) (fun _ => ?_)
  refine lv_iload_n (pc := 4) hx hb dzU_current_4 rfl (lv_at hl 1 rfl) ?_
  refine lv_iconst (v := 3) (pc := 5) hx hb dzU_current_5 (by decide) ?_
  refine lv_icmp_lt (pc := 6) (tgt := 19) hx hb dzU_current_6 (by decide) (fun hq9 => absurd hq9 h02) (fun _ => ?_)
  exact xt_throw (pc := 9) (ln := 2) (is := 147) (tx := "no such lamp") (rest := []) hx hb hst (by rw [hml]; exact hl.1.symm) hown hlocks hout hX hend hP hS (by decide +kernel) (by decide +kernel) (by decide +kernel) xbNS_0 xbNS_1 xbNS_2 xbNS_5 (hts _ xk_m311) (hts _ xk_m57) (xaNS hts) (by decide) (by decide) dzU_current_9 dzU_current_12 (Or.inl ⟨rfl, dzU_current_13⟩) dzU_current_15 dzU_current_18 (Nat.le_of_ble_eq_true rfl) (Nat.le_of_ble_eq_true rfl) (Nat.le_of_ble_eq_true rfl) (Nat.le_of_ble_eq_true rfl)

theorem xzU_current_bad (l : Launch) (hst : l.stackTraces = false) (G : va_G) (ac : Nat → ClassId) (ad : Nat → Nat) (g0 : xk_St) (k0 : Int32) (k1 : Int32) (hbl : k0 < 0 ∨ ¬ k0 < 3) : xt_C l yzU_current czU_current 4 (some .boolean) xk_WS xt_r0 G xk_cls (xk_tys ac) RzU xk_tx xk_ex [.ref (ad 0), .int k0, .int k1] (xk_wU ad ac g0) "java/util/NoSuchElementException" := by
  by_cases h01 : k0 < 0
  · exact xzU_current_bad_n l hst G ac ad g0 k0 k1  h01
  · exact xzU_current_bad_b l hst G ac ad g0 k0 k1  h01 (hbl.resolve_left h01)

set_option maxHeartbeats 4000000 in
set_option maxRecDepth 100000 in
theorem xzU_order_bt (l : Launch) (hst : l.stackTraces = false) (G : va_G) (ac : Nat → ClassId) (ad : Nat → Nat) (g0 : xk_St) (k0 : Int32) (hbt : k0 < 0 ∨ ¬ k0 < 2) : xt_C l yzU_order czU_order 3 (some .int) xk_WS xt_r1 G xk_cls (xk_tys ac) RzU xk_tx xk_ex [.ref (ad 0), .int k0] (xk_wU ad ac g0) "java/util/NoSuchElementException" := by
  refine xt_of (by decide) (Nat.le_of_ble_eq_true rfl) ?_
  intro p e s m args below meth c A Q H locs ls C0 hlocks hout hX hend hP hD hS hl
  obtain ⟨hx, hb, hml, hts, hown, hK, hA⟩ := C0
  have hl : lv_has ls 3 [(0, .ref (ad 0)), (1, .int k0)] := hl
  refine lv_aload_n (pc := 0) hx hb dzU_order_0 rfl (lv_at hl 0 rfl) ?_
  refine lv_iload_n (pc := 1) hx hb dzU_order_1 rfl (lv_at hl 1 rfl) ?_
  exact xt_pass (xt_runV (As := [.int k0]) (rest := []) (pc := 2) hx hb hml hts hown hK hP hD hX hS (xk_freeAll hD hS hA) (xzU_findTrack_bad l hst G ac ad g0 k0 hbt) vfzU_63 0 rfl rfl ⟨rfl, rfl⟩ ⟨Nat.le_of_ble_eq_true rfl, Nat.le_of_ble_eq_true rfl⟩ rfl hl.1 rfl (Nat.le_of_ble_eq_true rfl) ⟨Nat.le_of_ble_eq_true rfl, Nat.le_of_ble_eq_true rfl⟩ dzU_order_2) hlocks hout hend hS (xk_freeAll hD hS hA)

set_option maxHeartbeats 4000000 in
set_option maxRecDepth 100000 in
theorem xzU_cancel_bt (l : Launch) (hst : l.stackTraces = false) (G : va_G) (ac : Nat → ClassId) (ad : Nat → Nat) (g0 : xk_St) (k0 : Int32) (hbt : k0 < 0 ∨ ¬ k0 < 2) : xt_C l yzU_cancel czU_cancel 4 (some .boolean) xk_WS xt_r1 G xk_cls (xk_tys ac) RzU xk_tx xk_ex [.ref (ad 0), .int k0] (xk_wU ad ac g0) "java/util/NoSuchElementException" := by
  refine xt_of (by decide) (Nat.le_of_ble_eq_true rfl) ?_
  intro p e s m args below meth c A Q H locs ls C0 hlocks hout hX hend hP hD hS hl
  obtain ⟨hx, hb, hml, hts, hown, hK, hA⟩ := C0
  have hl : lv_has ls 4 [(0, .ref (ad 0)), (1, .int k0)] := hl
  refine lv_aload_n (pc := 0) hx hb dzU_cancel_0 rfl (lv_at hl 0 rfl) ?_
  refine lv_iload_n (pc := 1) hx hb dzU_cancel_1 rfl (lv_at hl 1 rfl) ?_
  exact xt_pass (xt_runV (As := [.int k0]) (rest := []) (pc := 2) hx hb hml hts hown hK hP hD hX hS (xk_freeAll hD hS hA) (xzU_findTrack_bad l hst G ac ad g0 k0 hbt) vfzU_63 0 rfl rfl ⟨rfl, rfl⟩ ⟨Nat.le_of_ble_eq_true rfl, Nat.le_of_ble_eq_true rfl⟩ rfl hl.1 rfl (Nat.le_of_ble_eq_true rfl) ⟨Nat.le_of_ble_eq_true rfl, Nat.le_of_ble_eq_true rfl⟩ dzU_cancel_2) hlocks hout hend hS (xk_freeAll hD hS hA)

set_option maxHeartbeats 4000000 in
set_option maxRecDepth 100000 in
theorem xzU_earliest_bt (l : Launch) (hst : l.stackTraces = false) (G : va_G) (ac : Nat → ClassId) (ad : Nat → Nat) (g0 : xk_St) (k0 : Int32) (hbt : k0 < 0 ∨ ¬ k0 < 2) : xt_C l yzU_earliest czU_earliest 5 (some .int) xk_WS xt_r1 G xk_cls (xk_tys ac) RzU xk_tx xk_ex [.ref (ad 0), .int k0] (xk_wU ad ac g0) "java/util/NoSuchElementException" := by
  refine xt_of (by decide) (Nat.le_of_ble_eq_true rfl) ?_
  intro p e s m args below meth c A Q H locs ls C0 hlocks hout hX hend hP hD hS hl
  obtain ⟨hx, hb, hml, hts, hown, hK, hA⟩ := C0
  have hl : lv_has ls 5 [(0, .ref (ad 0)), (1, .int k0)] := hl
  refine lv_aload_n (pc := 0) hx hb dzU_earliest_0 rfl (lv_at hl 0 rfl) ?_
  refine lv_iload_n (pc := 1) hx hb dzU_earliest_1 rfl (lv_at hl 1 rfl) ?_
  exact xt_pass (xt_runV (As := [.int k0]) (rest := []) (pc := 2) hx hb hml hts hown hK hP hD hX hS (xk_freeAll hD hS hA) (xzU_findTrack_bad l hst G ac ad g0 k0 hbt) vfzU_63 0 rfl rfl ⟨rfl, rfl⟩ ⟨Nat.le_of_ble_eq_true rfl, Nat.le_of_ble_eq_true rfl⟩ rfl hl.1 rfl (Nat.le_of_ble_eq_true rfl) ⟨Nat.le_of_ble_eq_true rfl, Nat.le_of_ble_eq_true rfl⟩ dzU_earliest_2) hlocks hout hend hS (xk_freeAll hD hS hA)

set_option maxHeartbeats 4000000 in
set_option maxRecDepth 100000 in
theorem xzU_ask_bt (l : Launch) (hst : l.stackTraces = false) (G : va_G) (ac : Nat → ClassId) (ad : Nat → Nat) (g0 : xk_St) (k0 : Int32) (k1 : Int32) (k2 : Int32) (hbt : k0 < 0 ∨ ¬ k0 < 2) : xt_C l yzU_ask czU_ask 5 none xk_WS xt_r2 G xk_cls (xk_tys ac) RzU xk_tx xk_ex [.ref (ad 0), .int k0, .int k1, .int k2] (xk_wU ad ac g0) "java/util/NoSuchElementException" := by
  refine xt_of (by decide) (Nat.le_of_ble_eq_true rfl) ?_
  intro p e s m args below meth c A Q H locs ls C0 hlocks hout hX hend hP hD hS hl
  obtain ⟨hx, hb, hml, hts, hown, hK, hA⟩ := C0
  have hl : lv_has ls 5 [(0, .ref (ad 0)), (1, .int k0), (2, .int k1), (3, .int k2)] := hl
  refine lv_aload_n (pc := 0) hx hb dzU_ask_0 rfl (lv_at hl 0 rfl) ?_
  refine lv_iload_n (pc := 1) hx hb dzU_ask_1 rfl (lv_at hl 1 rfl) ?_
  refine lv_iload_n (pc := 2) hx hb dzU_ask_2 rfl (lv_at hl 2 rfl) ?_
  exact xt_pass (xt_runV (As := [.int k0, .int k1]) (rest := []) (pc := 3) hx hb hml hts hown hK hP hD hX hS (xk_freeAll hD hS hA) (xzU_findSection_bt l hst G ac ad g0 k0 k1 hbt) vfzU_174 0 rfl rfl ⟨rfl, rfl⟩ ⟨Nat.le_of_ble_eq_true rfl, Nat.le_of_ble_eq_true rfl⟩ rfl hl.1 rfl (Nat.le_of_ble_eq_true rfl) ⟨Nat.le_of_ble_eq_true rfl, Nat.le_of_ble_eq_true rfl⟩ dzU_ask_3) hlocks hout hend hS (xk_freeAll hD hS hA)

set_option maxHeartbeats 4000000 in
set_option maxRecDepth 100000 in
theorem xzU_ask_bs0 (l : Launch) (hst : l.stackTraces = false) (G : va_G) (ac : Nat → ClassId) (ad : Nat → Nat) (g0 : xk_St) (k1 : Int32) (k2 : Int32) (hbs : k1 < 0 ∨ ¬ k1 < 3) : xt_C l yzU_ask czU_ask 5 none xk_WS xt_r2 G xk_cls (xk_tys ac) RzU xk_tx xk_ex [.ref (ad 0), .int 0, .int k1, .int k2] (xk_wU ad ac g0) "java/util/NoSuchElementException" := by
  refine xt_of (by decide) (Nat.le_of_ble_eq_true rfl) ?_
  intro p e s m args below meth c A Q H locs ls C0 hlocks hout hX hend hP hD hS hl
  obtain ⟨hx, hb, hml, hts, hown, hK, hA⟩ := C0
  have hl : lv_has ls 5 [(0, .ref (ad 0)), (1, .int 0), (2, .int k1), (3, .int k2)] := hl
  refine lv_aload_n (pc := 0) hx hb dzU_ask_0 rfl (lv_at hl 0 rfl) ?_
  refine lv_iload_n (pc := 1) hx hb dzU_ask_1 rfl (lv_at hl 1 rfl) ?_
  refine lv_iload_n (pc := 2) hx hb dzU_ask_2 rfl (lv_at hl 2 rfl) ?_
  exact xt_pass (xt_runV (As := [.int 0, .int k1]) (rest := []) (pc := 3) hx hb hml hts hown hK hP hD hX hS (xk_freeAll hD hS hA) (xzU_findSection_bs0 l hst G ac ad g0 k1 hbs) vfzU_174 0 rfl rfl ⟨rfl, rfl⟩ ⟨Nat.le_of_ble_eq_true rfl, Nat.le_of_ble_eq_true rfl⟩ rfl hl.1 rfl (Nat.le_of_ble_eq_true rfl) ⟨Nat.le_of_ble_eq_true rfl, Nat.le_of_ble_eq_true rfl⟩ dzU_ask_3) hlocks hout hend hS (xk_freeAll hD hS hA)

set_option maxHeartbeats 4000000 in
set_option maxRecDepth 100000 in
theorem xzU_ask_bw00 (l : Launch) (hst : l.stackTraces = false) (G : va_G) (ac : Nat → ClassId) (ad : Nat → Nat) (g0 : xk_St) (k2 : Int32) (hbw : ¬ 0 < k2) : xt_C l yzU_ask czU_ask 5 none xk_WS xt_r2 G xk_cls (xk_tys ac) RzU xk_tx xk_ex [.ref (ad 0), .int 0, .int 0, .int k2] (xk_wU ad ac g0) "java/util/NoSuchElementException" := by
  refine xt_of (by decide) (Nat.le_of_ble_eq_true rfl) ?_
  intro p e s m args below meth c A Q H locs ls C0 hlocks hout hX hend hP hD hS hl
  obtain ⟨hx, hb, hml, hts, hown, hK, hA⟩ := C0
  have hl : lv_has ls 5 [(0, .ref (ad 0)), (1, .int 0), (2, .int 0), (3, .int k2)] := hl
  refine lv_aload_n (pc := 0) hx hb dzU_ask_0 rfl (lv_at hl 0 rfl) ?_
  refine lv_iload_n (pc := 1) hx hb dzU_ask_1 rfl (lv_at hl 1 rfl) ?_
  refine lv_iload_n (pc := 2) hx hb dzU_ask_2 rfl (lv_at hl 2 rfl) ?_
  refine xk_allVR (As := [.int 0, .int 0]) (rest := []) (H0 := s.heap) (pc := 3) hx hb hml hts hown hK hA hP hD hS (kzU_findSection_0_0 l G ac ad g0) vfzU_174 0 rfl rfl ⟨rfl, rfl⟩ ⟨Nat.le_of_ble_eq_true rfl, Nat.le_of_ble_eq_true rfl⟩ rfl hl.1 rfl (Nat.le_of_ble_eq_true rfl) ⟨Nat.zero_le _, Nat.zero_le _⟩ dzU_ask_3 (fun H locs hP hD hS => ?_)
  have hP : va_P G xk_cls (xk_wU ad ac g0) H := hP
  have hD : va_D A (xk_wU ad ac g0) := hD
  refine lv_astore (lv' := [(4, .ref (ad 19)), (0, .ref (ad 0)), (1, .int 0), (2, .int 0), (3, .int k2)]) (pc := 6) hx hb dzU_ask_6 hl (by decide) rfl (fun ls hl => ?_)
  refine lv_iload_n (pc := 8) hx hb dzU_ask_8 rfl (lv_at hl 4 rfl) ?_
  exact xt_pass (xt_runS (As := [.int k2]) (rest := []) (pc := 9) hx hb hml hts hown hK hP hD hX hS (xk_freeAll hD hS hA) (xzU_checkPerson_bad l hst G ac ad g0 k2 hbw) sfzU_178 ⟨rfl, rfl⟩ ⟨Nat.le_of_ble_eq_true rfl, Nat.le_of_ble_eq_true rfl⟩ rfl hl.1 rfl (Nat.le_of_ble_eq_true rfl) ⟨Nat.le_of_ble_eq_true rfl, Nat.le_of_ble_eq_true rfl⟩ dzU_ask_9) hlocks hout hend hS (xk_freeAll hD hS hA)

set_option maxHeartbeats 4000000 in
set_option maxRecDepth 100000 in
theorem xzU_ask_bw01 (l : Launch) (hst : l.stackTraces = false) (G : va_G) (ac : Nat → ClassId) (ad : Nat → Nat) (g0 : xk_St) (k2 : Int32) (hbw : ¬ 0 < k2) : xt_C l yzU_ask czU_ask 5 none xk_WS xt_r2 G xk_cls (xk_tys ac) RzU xk_tx xk_ex [.ref (ad 0), .int 0, .int 1, .int k2] (xk_wU ad ac g0) "java/util/NoSuchElementException" := by
  refine xt_of (by decide) (Nat.le_of_ble_eq_true rfl) ?_
  intro p e s m args below meth c A Q H locs ls C0 hlocks hout hX hend hP hD hS hl
  obtain ⟨hx, hb, hml, hts, hown, hK, hA⟩ := C0
  have hl : lv_has ls 5 [(0, .ref (ad 0)), (1, .int 0), (2, .int 1), (3, .int k2)] := hl
  refine lv_aload_n (pc := 0) hx hb dzU_ask_0 rfl (lv_at hl 0 rfl) ?_
  refine lv_iload_n (pc := 1) hx hb dzU_ask_1 rfl (lv_at hl 1 rfl) ?_
  refine lv_iload_n (pc := 2) hx hb dzU_ask_2 rfl (lv_at hl 2 rfl) ?_
  refine xk_allVR (As := [.int 0, .int 1]) (rest := []) (H0 := s.heap) (pc := 3) hx hb hml hts hown hK hA hP hD hS (kzU_findSection_0_1 l G ac ad g0) vfzU_174 0 rfl rfl ⟨rfl, rfl⟩ ⟨Nat.le_of_ble_eq_true rfl, Nat.le_of_ble_eq_true rfl⟩ rfl hl.1 rfl (Nat.le_of_ble_eq_true rfl) ⟨Nat.zero_le _, Nat.zero_le _⟩ dzU_ask_3 (fun H locs hP hD hS => ?_)
  have hP : va_P G xk_cls (xk_wU ad ac g0) H := hP
  have hD : va_D A (xk_wU ad ac g0) := hD
  refine lv_astore (lv' := [(4, .ref (ad 20)), (0, .ref (ad 0)), (1, .int 0), (2, .int 1), (3, .int k2)]) (pc := 6) hx hb dzU_ask_6 hl (by decide) rfl (fun ls hl => ?_)
  refine lv_iload_n (pc := 8) hx hb dzU_ask_8 rfl (lv_at hl 4 rfl) ?_
  exact xt_pass (xt_runS (As := [.int k2]) (rest := []) (pc := 9) hx hb hml hts hown hK hP hD hX hS (xk_freeAll hD hS hA) (xzU_checkPerson_bad l hst G ac ad g0 k2 hbw) sfzU_178 ⟨rfl, rfl⟩ ⟨Nat.le_of_ble_eq_true rfl, Nat.le_of_ble_eq_true rfl⟩ rfl hl.1 rfl (Nat.le_of_ble_eq_true rfl) ⟨Nat.le_of_ble_eq_true rfl, Nat.le_of_ble_eq_true rfl⟩ dzU_ask_9) hlocks hout hend hS (xk_freeAll hD hS hA)

set_option maxHeartbeats 4000000 in
set_option maxRecDepth 100000 in
theorem xzU_ask_bw02 (l : Launch) (hst : l.stackTraces = false) (G : va_G) (ac : Nat → ClassId) (ad : Nat → Nat) (g0 : xk_St) (k2 : Int32) (hbw : ¬ 0 < k2) : xt_C l yzU_ask czU_ask 5 none xk_WS xt_r2 G xk_cls (xk_tys ac) RzU xk_tx xk_ex [.ref (ad 0), .int 0, .int 2, .int k2] (xk_wU ad ac g0) "java/util/NoSuchElementException" := by
  refine xt_of (by decide) (Nat.le_of_ble_eq_true rfl) ?_
  intro p e s m args below meth c A Q H locs ls C0 hlocks hout hX hend hP hD hS hl
  obtain ⟨hx, hb, hml, hts, hown, hK, hA⟩ := C0
  have hl : lv_has ls 5 [(0, .ref (ad 0)), (1, .int 0), (2, .int 2), (3, .int k2)] := hl
  refine lv_aload_n (pc := 0) hx hb dzU_ask_0 rfl (lv_at hl 0 rfl) ?_
  refine lv_iload_n (pc := 1) hx hb dzU_ask_1 rfl (lv_at hl 1 rfl) ?_
  refine lv_iload_n (pc := 2) hx hb dzU_ask_2 rfl (lv_at hl 2 rfl) ?_
  refine xk_allVR (As := [.int 0, .int 2]) (rest := []) (H0 := s.heap) (pc := 3) hx hb hml hts hown hK hA hP hD hS (kzU_findSection_0_2 l G ac ad g0) vfzU_174 0 rfl rfl ⟨rfl, rfl⟩ ⟨Nat.le_of_ble_eq_true rfl, Nat.le_of_ble_eq_true rfl⟩ rfl hl.1 rfl (Nat.le_of_ble_eq_true rfl) ⟨Nat.zero_le _, Nat.zero_le _⟩ dzU_ask_3 (fun H locs hP hD hS => ?_)
  have hP : va_P G xk_cls (xk_wU ad ac g0) H := hP
  have hD : va_D A (xk_wU ad ac g0) := hD
  refine lv_astore (lv' := [(4, .ref (ad 21)), (0, .ref (ad 0)), (1, .int 0), (2, .int 2), (3, .int k2)]) (pc := 6) hx hb dzU_ask_6 hl (by decide) rfl (fun ls hl => ?_)
  refine lv_iload_n (pc := 8) hx hb dzU_ask_8 rfl (lv_at hl 4 rfl) ?_
  exact xt_pass (xt_runS (As := [.int k2]) (rest := []) (pc := 9) hx hb hml hts hown hK hP hD hX hS (xk_freeAll hD hS hA) (xzU_checkPerson_bad l hst G ac ad g0 k2 hbw) sfzU_178 ⟨rfl, rfl⟩ ⟨Nat.le_of_ble_eq_true rfl, Nat.le_of_ble_eq_true rfl⟩ rfl hl.1 rfl (Nat.le_of_ble_eq_true rfl) ⟨Nat.le_of_ble_eq_true rfl, Nat.le_of_ble_eq_true rfl⟩ dzU_ask_9) hlocks hout hend hS (xk_freeAll hD hS hA)

set_option maxHeartbeats 4000000 in
set_option maxRecDepth 100000 in
theorem xzU_ask_bs1 (l : Launch) (hst : l.stackTraces = false) (G : va_G) (ac : Nat → ClassId) (ad : Nat → Nat) (g0 : xk_St) (k1 : Int32) (k2 : Int32) (hbs : k1 < 0 ∨ ¬ k1 < 3) : xt_C l yzU_ask czU_ask 5 none xk_WS xt_r2 G xk_cls (xk_tys ac) RzU xk_tx xk_ex [.ref (ad 0), .int 1, .int k1, .int k2] (xk_wU ad ac g0) "java/util/NoSuchElementException" := by
  refine xt_of (by decide) (Nat.le_of_ble_eq_true rfl) ?_
  intro p e s m args below meth c A Q H locs ls C0 hlocks hout hX hend hP hD hS hl
  obtain ⟨hx, hb, hml, hts, hown, hK, hA⟩ := C0
  have hl : lv_has ls 5 [(0, .ref (ad 0)), (1, .int 1), (2, .int k1), (3, .int k2)] := hl
  refine lv_aload_n (pc := 0) hx hb dzU_ask_0 rfl (lv_at hl 0 rfl) ?_
  refine lv_iload_n (pc := 1) hx hb dzU_ask_1 rfl (lv_at hl 1 rfl) ?_
  refine lv_iload_n (pc := 2) hx hb dzU_ask_2 rfl (lv_at hl 2 rfl) ?_
  exact xt_pass (xt_runV (As := [.int 1, .int k1]) (rest := []) (pc := 3) hx hb hml hts hown hK hP hD hX hS (xk_freeAll hD hS hA) (xzU_findSection_bs1 l hst G ac ad g0 k1 hbs) vfzU_174 0 rfl rfl ⟨rfl, rfl⟩ ⟨Nat.le_of_ble_eq_true rfl, Nat.le_of_ble_eq_true rfl⟩ rfl hl.1 rfl (Nat.le_of_ble_eq_true rfl) ⟨Nat.le_of_ble_eq_true rfl, Nat.le_of_ble_eq_true rfl⟩ dzU_ask_3) hlocks hout hend hS (xk_freeAll hD hS hA)

set_option maxHeartbeats 4000000 in
set_option maxRecDepth 100000 in
theorem xzU_ask_bw10 (l : Launch) (hst : l.stackTraces = false) (G : va_G) (ac : Nat → ClassId) (ad : Nat → Nat) (g0 : xk_St) (k2 : Int32) (hbw : ¬ 0 < k2) : xt_C l yzU_ask czU_ask 5 none xk_WS xt_r2 G xk_cls (xk_tys ac) RzU xk_tx xk_ex [.ref (ad 0), .int 1, .int 0, .int k2] (xk_wU ad ac g0) "java/util/NoSuchElementException" := by
  refine xt_of (by decide) (Nat.le_of_ble_eq_true rfl) ?_
  intro p e s m args below meth c A Q H locs ls C0 hlocks hout hX hend hP hD hS hl
  obtain ⟨hx, hb, hml, hts, hown, hK, hA⟩ := C0
  have hl : lv_has ls 5 [(0, .ref (ad 0)), (1, .int 1), (2, .int 0), (3, .int k2)] := hl
  refine lv_aload_n (pc := 0) hx hb dzU_ask_0 rfl (lv_at hl 0 rfl) ?_
  refine lv_iload_n (pc := 1) hx hb dzU_ask_1 rfl (lv_at hl 1 rfl) ?_
  refine lv_iload_n (pc := 2) hx hb dzU_ask_2 rfl (lv_at hl 2 rfl) ?_
  refine xk_allVR (As := [.int 1, .int 0]) (rest := []) (H0 := s.heap) (pc := 3) hx hb hml hts hown hK hA hP hD hS (kzU_findSection_1_0 l G ac ad g0) vfzU_174 0 rfl rfl ⟨rfl, rfl⟩ ⟨Nat.le_of_ble_eq_true rfl, Nat.le_of_ble_eq_true rfl⟩ rfl hl.1 rfl (Nat.le_of_ble_eq_true rfl) ⟨Nat.zero_le _, Nat.zero_le _⟩ dzU_ask_3 (fun H locs hP hD hS => ?_)
  have hP : va_P G xk_cls (xk_wU ad ac g0) H := hP
  have hD : va_D A (xk_wU ad ac g0) := hD
  refine lv_astore (lv' := [(4, .ref (ad 22)), (0, .ref (ad 0)), (1, .int 1), (2, .int 0), (3, .int k2)]) (pc := 6) hx hb dzU_ask_6 hl (by decide) rfl (fun ls hl => ?_)
  refine lv_iload_n (pc := 8) hx hb dzU_ask_8 rfl (lv_at hl 4 rfl) ?_
  exact xt_pass (xt_runS (As := [.int k2]) (rest := []) (pc := 9) hx hb hml hts hown hK hP hD hX hS (xk_freeAll hD hS hA) (xzU_checkPerson_bad l hst G ac ad g0 k2 hbw) sfzU_178 ⟨rfl, rfl⟩ ⟨Nat.le_of_ble_eq_true rfl, Nat.le_of_ble_eq_true rfl⟩ rfl hl.1 rfl (Nat.le_of_ble_eq_true rfl) ⟨Nat.le_of_ble_eq_true rfl, Nat.le_of_ble_eq_true rfl⟩ dzU_ask_9) hlocks hout hend hS (xk_freeAll hD hS hA)

set_option maxHeartbeats 4000000 in
set_option maxRecDepth 100000 in
theorem xzU_ask_bw11 (l : Launch) (hst : l.stackTraces = false) (G : va_G) (ac : Nat → ClassId) (ad : Nat → Nat) (g0 : xk_St) (k2 : Int32) (hbw : ¬ 0 < k2) : xt_C l yzU_ask czU_ask 5 none xk_WS xt_r2 G xk_cls (xk_tys ac) RzU xk_tx xk_ex [.ref (ad 0), .int 1, .int 1, .int k2] (xk_wU ad ac g0) "java/util/NoSuchElementException" := by
  refine xt_of (by decide) (Nat.le_of_ble_eq_true rfl) ?_
  intro p e s m args below meth c A Q H locs ls C0 hlocks hout hX hend hP hD hS hl
  obtain ⟨hx, hb, hml, hts, hown, hK, hA⟩ := C0
  have hl : lv_has ls 5 [(0, .ref (ad 0)), (1, .int 1), (2, .int 1), (3, .int k2)] := hl
  refine lv_aload_n (pc := 0) hx hb dzU_ask_0 rfl (lv_at hl 0 rfl) ?_
  refine lv_iload_n (pc := 1) hx hb dzU_ask_1 rfl (lv_at hl 1 rfl) ?_
  refine lv_iload_n (pc := 2) hx hb dzU_ask_2 rfl (lv_at hl 2 rfl) ?_
  refine xk_allVR (As := [.int 1, .int 1]) (rest := []) (H0 := s.heap) (pc := 3) hx hb hml hts hown hK hA hP hD hS (kzU_findSection_1_1 l G ac ad g0) vfzU_174 0 rfl rfl ⟨rfl, rfl⟩ ⟨Nat.le_of_ble_eq_true rfl, Nat.le_of_ble_eq_true rfl⟩ rfl hl.1 rfl (Nat.le_of_ble_eq_true rfl) ⟨Nat.zero_le _, Nat.zero_le _⟩ dzU_ask_3 (fun H locs hP hD hS => ?_)
  have hP : va_P G xk_cls (xk_wU ad ac g0) H := hP
  have hD : va_D A (xk_wU ad ac g0) := hD
  refine lv_astore (lv' := [(4, .ref (ad 23)), (0, .ref (ad 0)), (1, .int 1), (2, .int 1), (3, .int k2)]) (pc := 6) hx hb dzU_ask_6 hl (by decide) rfl (fun ls hl => ?_)
  refine lv_iload_n (pc := 8) hx hb dzU_ask_8 rfl (lv_at hl 4 rfl) ?_
  exact xt_pass (xt_runS (As := [.int k2]) (rest := []) (pc := 9) hx hb hml hts hown hK hP hD hX hS (xk_freeAll hD hS hA) (xzU_checkPerson_bad l hst G ac ad g0 k2 hbw) sfzU_178 ⟨rfl, rfl⟩ ⟨Nat.le_of_ble_eq_true rfl, Nat.le_of_ble_eq_true rfl⟩ rfl hl.1 rfl (Nat.le_of_ble_eq_true rfl) ⟨Nat.le_of_ble_eq_true rfl, Nat.le_of_ble_eq_true rfl⟩ dzU_ask_9) hlocks hout hend hS (xk_freeAll hD hS hA)

set_option maxHeartbeats 4000000 in
set_option maxRecDepth 100000 in
theorem xzU_ask_bw12 (l : Launch) (hst : l.stackTraces = false) (G : va_G) (ac : Nat → ClassId) (ad : Nat → Nat) (g0 : xk_St) (k2 : Int32) (hbw : ¬ 0 < k2) : xt_C l yzU_ask czU_ask 5 none xk_WS xt_r2 G xk_cls (xk_tys ac) RzU xk_tx xk_ex [.ref (ad 0), .int 1, .int 2, .int k2] (xk_wU ad ac g0) "java/util/NoSuchElementException" := by
  refine xt_of (by decide) (Nat.le_of_ble_eq_true rfl) ?_
  intro p e s m args below meth c A Q H locs ls C0 hlocks hout hX hend hP hD hS hl
  obtain ⟨hx, hb, hml, hts, hown, hK, hA⟩ := C0
  have hl : lv_has ls 5 [(0, .ref (ad 0)), (1, .int 1), (2, .int 2), (3, .int k2)] := hl
  refine lv_aload_n (pc := 0) hx hb dzU_ask_0 rfl (lv_at hl 0 rfl) ?_
  refine lv_iload_n (pc := 1) hx hb dzU_ask_1 rfl (lv_at hl 1 rfl) ?_
  refine lv_iload_n (pc := 2) hx hb dzU_ask_2 rfl (lv_at hl 2 rfl) ?_
  refine xk_allVR (As := [.int 1, .int 2]) (rest := []) (H0 := s.heap) (pc := 3) hx hb hml hts hown hK hA hP hD hS (kzU_findSection_1_2 l G ac ad g0) vfzU_174 0 rfl rfl ⟨rfl, rfl⟩ ⟨Nat.le_of_ble_eq_true rfl, Nat.le_of_ble_eq_true rfl⟩ rfl hl.1 rfl (Nat.le_of_ble_eq_true rfl) ⟨Nat.zero_le _, Nat.zero_le _⟩ dzU_ask_3 (fun H locs hP hD hS => ?_)
  have hP : va_P G xk_cls (xk_wU ad ac g0) H := hP
  have hD : va_D A (xk_wU ad ac g0) := hD
  refine lv_astore (lv' := [(4, .ref (ad 24)), (0, .ref (ad 0)), (1, .int 1), (2, .int 2), (3, .int k2)]) (pc := 6) hx hb dzU_ask_6 hl (by decide) rfl (fun ls hl => ?_)
  refine lv_iload_n (pc := 8) hx hb dzU_ask_8 rfl (lv_at hl 4 rfl) ?_
  exact xt_pass (xt_runS (As := [.int k2]) (rest := []) (pc := 9) hx hb hml hts hown hK hP hD hX hS (xk_freeAll hD hS hA) (xzU_checkPerson_bad l hst G ac ad g0 k2 hbw) sfzU_178 ⟨rfl, rfl⟩ ⟨Nat.le_of_ble_eq_true rfl, Nat.le_of_ble_eq_true rfl⟩ rfl hl.1 rfl (Nat.le_of_ble_eq_true rfl) ⟨Nat.le_of_ble_eq_true rfl, Nat.le_of_ble_eq_true rfl⟩ dzU_ask_9) hlocks hout hend hS (xk_freeAll hD hS hA)

set_option maxHeartbeats 4000000 in
set_option maxRecDepth 100000 in
theorem xzU_confirm_bt (l : Launch) (hst : l.stackTraces = false) (G : va_G) (ac : Nat → ClassId) (ad : Nat → Nat) (g0 : xk_St) (k0 : Int32) (k1 : Int32) (k2 : Int32) (hbt : k0 < 0 ∨ ¬ k0 < 2) : xt_C l yzU_confirm czU_confirm 5 (some .boolean) xk_WS xt_r2 G xk_cls (xk_tys ac) RzU xk_tx xk_ex [.ref (ad 0), .int k0, .int k1, .int k2] (xk_wU ad ac g0) "java/util/NoSuchElementException" := by
  refine xt_of (by decide) (Nat.le_of_ble_eq_true rfl) ?_
  intro p e s m args below meth c A Q H locs ls C0 hlocks hout hX hend hP hD hS hl
  obtain ⟨hx, hb, hml, hts, hown, hK, hA⟩ := C0
  have hl : lv_has ls 5 [(0, .ref (ad 0)), (1, .int k0), (2, .int k1), (3, .int k2)] := hl
  refine lv_aload_n (pc := 0) hx hb dzU_confirm_0 rfl (lv_at hl 0 rfl) ?_
  refine lv_iload_n (pc := 1) hx hb dzU_confirm_1 rfl (lv_at hl 1 rfl) ?_
  refine lv_iload_n (pc := 2) hx hb dzU_confirm_2 rfl (lv_at hl 2 rfl) ?_
  exact xt_pass (xt_runV (As := [.int k0, .int k1]) (rest := []) (pc := 3) hx hb hml hts hown hK hP hD hX hS (xk_freeAll hD hS hA) (xzU_findSection_bt l hst G ac ad g0 k0 k1 hbt) vfzU_174 0 rfl rfl ⟨rfl, rfl⟩ ⟨Nat.le_of_ble_eq_true rfl, Nat.le_of_ble_eq_true rfl⟩ rfl hl.1 rfl (Nat.le_of_ble_eq_true rfl) ⟨Nat.le_of_ble_eq_true rfl, Nat.le_of_ble_eq_true rfl⟩ dzU_confirm_3) hlocks hout hend hS (xk_freeAll hD hS hA)

set_option maxHeartbeats 4000000 in
set_option maxRecDepth 100000 in
theorem xzU_confirm_bs0 (l : Launch) (hst : l.stackTraces = false) (G : va_G) (ac : Nat → ClassId) (ad : Nat → Nat) (g0 : xk_St) (k1 : Int32) (k2 : Int32) (hbs : k1 < 0 ∨ ¬ k1 < 3) : xt_C l yzU_confirm czU_confirm 5 (some .boolean) xk_WS xt_r2 G xk_cls (xk_tys ac) RzU xk_tx xk_ex [.ref (ad 0), .int 0, .int k1, .int k2] (xk_wU ad ac g0) "java/util/NoSuchElementException" := by
  refine xt_of (by decide) (Nat.le_of_ble_eq_true rfl) ?_
  intro p e s m args below meth c A Q H locs ls C0 hlocks hout hX hend hP hD hS hl
  obtain ⟨hx, hb, hml, hts, hown, hK, hA⟩ := C0
  have hl : lv_has ls 5 [(0, .ref (ad 0)), (1, .int 0), (2, .int k1), (3, .int k2)] := hl
  refine lv_aload_n (pc := 0) hx hb dzU_confirm_0 rfl (lv_at hl 0 rfl) ?_
  refine lv_iload_n (pc := 1) hx hb dzU_confirm_1 rfl (lv_at hl 1 rfl) ?_
  refine lv_iload_n (pc := 2) hx hb dzU_confirm_2 rfl (lv_at hl 2 rfl) ?_
  exact xt_pass (xt_runV (As := [.int 0, .int k1]) (rest := []) (pc := 3) hx hb hml hts hown hK hP hD hX hS (xk_freeAll hD hS hA) (xzU_findSection_bs0 l hst G ac ad g0 k1 hbs) vfzU_174 0 rfl rfl ⟨rfl, rfl⟩ ⟨Nat.le_of_ble_eq_true rfl, Nat.le_of_ble_eq_true rfl⟩ rfl hl.1 rfl (Nat.le_of_ble_eq_true rfl) ⟨Nat.le_of_ble_eq_true rfl, Nat.le_of_ble_eq_true rfl⟩ dzU_confirm_3) hlocks hout hend hS (xk_freeAll hD hS hA)

set_option maxHeartbeats 4000000 in
set_option maxRecDepth 100000 in
theorem xzU_confirm_bw00 (l : Launch) (hst : l.stackTraces = false) (G : va_G) (ac : Nat → ClassId) (ad : Nat → Nat) (g0 : xk_St) (k2 : Int32) (hbw : ¬ 0 < k2) : xt_C l yzU_confirm czU_confirm 5 (some .boolean) xk_WS xt_r2 G xk_cls (xk_tys ac) RzU xk_tx xk_ex [.ref (ad 0), .int 0, .int 0, .int k2] (xk_wU ad ac g0) "java/util/NoSuchElementException" := by
  refine xt_of (by decide) (Nat.le_of_ble_eq_true rfl) ?_
  intro p e s m args below meth c A Q H locs ls C0 hlocks hout hX hend hP hD hS hl
  obtain ⟨hx, hb, hml, hts, hown, hK, hA⟩ := C0
  have hl : lv_has ls 5 [(0, .ref (ad 0)), (1, .int 0), (2, .int 0), (3, .int k2)] := hl
  refine lv_aload_n (pc := 0) hx hb dzU_confirm_0 rfl (lv_at hl 0 rfl) ?_
  refine lv_iload_n (pc := 1) hx hb dzU_confirm_1 rfl (lv_at hl 1 rfl) ?_
  refine lv_iload_n (pc := 2) hx hb dzU_confirm_2 rfl (lv_at hl 2 rfl) ?_
  refine xk_allVR (As := [.int 0, .int 0]) (rest := []) (H0 := s.heap) (pc := 3) hx hb hml hts hown hK hA hP hD hS (kzU_findSection_0_0 l G ac ad g0) vfzU_174 0 rfl rfl ⟨rfl, rfl⟩ ⟨Nat.le_of_ble_eq_true rfl, Nat.le_of_ble_eq_true rfl⟩ rfl hl.1 rfl (Nat.le_of_ble_eq_true rfl) ⟨Nat.zero_le _, Nat.zero_le _⟩ dzU_confirm_3 (fun H locs hP hD hS => ?_)
  have hP : va_P G xk_cls (xk_wU ad ac g0) H := hP
  have hD : va_D A (xk_wU ad ac g0) := hD
  refine lv_astore (lv' := [(4, .ref (ad 19)), (0, .ref (ad 0)), (1, .int 0), (2, .int 0), (3, .int k2)]) (pc := 6) hx hb dzU_confirm_6 hl (by decide) rfl (fun ls hl => ?_)
  refine lv_iload_n (pc := 8) hx hb dzU_confirm_8 rfl (lv_at hl 4 rfl) ?_
  exact xt_pass (xt_runS (As := [.int k2]) (rest := []) (pc := 9) hx hb hml hts hown hK hP hD hX hS (xk_freeAll hD hS hA) (xzU_checkPerson_bad l hst G ac ad g0 k2 hbw) sfzU_178 ⟨rfl, rfl⟩ ⟨Nat.le_of_ble_eq_true rfl, Nat.le_of_ble_eq_true rfl⟩ rfl hl.1 rfl (Nat.le_of_ble_eq_true rfl) ⟨Nat.le_of_ble_eq_true rfl, Nat.le_of_ble_eq_true rfl⟩ dzU_confirm_9) hlocks hout hend hS (xk_freeAll hD hS hA)

set_option maxHeartbeats 4000000 in
set_option maxRecDepth 100000 in
theorem xzU_confirm_bw01 (l : Launch) (hst : l.stackTraces = false) (G : va_G) (ac : Nat → ClassId) (ad : Nat → Nat) (g0 : xk_St) (k2 : Int32) (hbw : ¬ 0 < k2) : xt_C l yzU_confirm czU_confirm 5 (some .boolean) xk_WS xt_r2 G xk_cls (xk_tys ac) RzU xk_tx xk_ex [.ref (ad 0), .int 0, .int 1, .int k2] (xk_wU ad ac g0) "java/util/NoSuchElementException" := by
  refine xt_of (by decide) (Nat.le_of_ble_eq_true rfl) ?_
  intro p e s m args below meth c A Q H locs ls C0 hlocks hout hX hend hP hD hS hl
  obtain ⟨hx, hb, hml, hts, hown, hK, hA⟩ := C0
  have hl : lv_has ls 5 [(0, .ref (ad 0)), (1, .int 0), (2, .int 1), (3, .int k2)] := hl
  refine lv_aload_n (pc := 0) hx hb dzU_confirm_0 rfl (lv_at hl 0 rfl) ?_
  refine lv_iload_n (pc := 1) hx hb dzU_confirm_1 rfl (lv_at hl 1 rfl) ?_
  refine lv_iload_n (pc := 2) hx hb dzU_confirm_2 rfl (lv_at hl 2 rfl) ?_
  refine xk_allVR (As := [.int 0, .int 1]) (rest := []) (H0 := s.heap) (pc := 3) hx hb hml hts hown hK hA hP hD hS (kzU_findSection_0_1 l G ac ad g0) vfzU_174 0 rfl rfl ⟨rfl, rfl⟩ ⟨Nat.le_of_ble_eq_true rfl, Nat.le_of_ble_eq_true rfl⟩ rfl hl.1 rfl (Nat.le_of_ble_eq_true rfl) ⟨Nat.zero_le _, Nat.zero_le _⟩ dzU_confirm_3 (fun H locs hP hD hS => ?_)
  have hP : va_P G xk_cls (xk_wU ad ac g0) H := hP
  have hD : va_D A (xk_wU ad ac g0) := hD
  refine lv_astore (lv' := [(4, .ref (ad 20)), (0, .ref (ad 0)), (1, .int 0), (2, .int 1), (3, .int k2)]) (pc := 6) hx hb dzU_confirm_6 hl (by decide) rfl (fun ls hl => ?_)
  refine lv_iload_n (pc := 8) hx hb dzU_confirm_8 rfl (lv_at hl 4 rfl) ?_
  exact xt_pass (xt_runS (As := [.int k2]) (rest := []) (pc := 9) hx hb hml hts hown hK hP hD hX hS (xk_freeAll hD hS hA) (xzU_checkPerson_bad l hst G ac ad g0 k2 hbw) sfzU_178 ⟨rfl, rfl⟩ ⟨Nat.le_of_ble_eq_true rfl, Nat.le_of_ble_eq_true rfl⟩ rfl hl.1 rfl (Nat.le_of_ble_eq_true rfl) ⟨Nat.le_of_ble_eq_true rfl, Nat.le_of_ble_eq_true rfl⟩ dzU_confirm_9) hlocks hout hend hS (xk_freeAll hD hS hA)

set_option maxHeartbeats 4000000 in
set_option maxRecDepth 100000 in
theorem xzU_confirm_bw02 (l : Launch) (hst : l.stackTraces = false) (G : va_G) (ac : Nat → ClassId) (ad : Nat → Nat) (g0 : xk_St) (k2 : Int32) (hbw : ¬ 0 < k2) : xt_C l yzU_confirm czU_confirm 5 (some .boolean) xk_WS xt_r2 G xk_cls (xk_tys ac) RzU xk_tx xk_ex [.ref (ad 0), .int 0, .int 2, .int k2] (xk_wU ad ac g0) "java/util/NoSuchElementException" := by
  refine xt_of (by decide) (Nat.le_of_ble_eq_true rfl) ?_
  intro p e s m args below meth c A Q H locs ls C0 hlocks hout hX hend hP hD hS hl
  obtain ⟨hx, hb, hml, hts, hown, hK, hA⟩ := C0
  have hl : lv_has ls 5 [(0, .ref (ad 0)), (1, .int 0), (2, .int 2), (3, .int k2)] := hl
  refine lv_aload_n (pc := 0) hx hb dzU_confirm_0 rfl (lv_at hl 0 rfl) ?_
  refine lv_iload_n (pc := 1) hx hb dzU_confirm_1 rfl (lv_at hl 1 rfl) ?_
  refine lv_iload_n (pc := 2) hx hb dzU_confirm_2 rfl (lv_at hl 2 rfl) ?_
  refine xk_allVR (As := [.int 0, .int 2]) (rest := []) (H0 := s.heap) (pc := 3) hx hb hml hts hown hK hA hP hD hS (kzU_findSection_0_2 l G ac ad g0) vfzU_174 0 rfl rfl ⟨rfl, rfl⟩ ⟨Nat.le_of_ble_eq_true rfl, Nat.le_of_ble_eq_true rfl⟩ rfl hl.1 rfl (Nat.le_of_ble_eq_true rfl) ⟨Nat.zero_le _, Nat.zero_le _⟩ dzU_confirm_3 (fun H locs hP hD hS => ?_)
  have hP : va_P G xk_cls (xk_wU ad ac g0) H := hP
  have hD : va_D A (xk_wU ad ac g0) := hD
  refine lv_astore (lv' := [(4, .ref (ad 21)), (0, .ref (ad 0)), (1, .int 0), (2, .int 2), (3, .int k2)]) (pc := 6) hx hb dzU_confirm_6 hl (by decide) rfl (fun ls hl => ?_)
  refine lv_iload_n (pc := 8) hx hb dzU_confirm_8 rfl (lv_at hl 4 rfl) ?_
  exact xt_pass (xt_runS (As := [.int k2]) (rest := []) (pc := 9) hx hb hml hts hown hK hP hD hX hS (xk_freeAll hD hS hA) (xzU_checkPerson_bad l hst G ac ad g0 k2 hbw) sfzU_178 ⟨rfl, rfl⟩ ⟨Nat.le_of_ble_eq_true rfl, Nat.le_of_ble_eq_true rfl⟩ rfl hl.1 rfl (Nat.le_of_ble_eq_true rfl) ⟨Nat.le_of_ble_eq_true rfl, Nat.le_of_ble_eq_true rfl⟩ dzU_confirm_9) hlocks hout hend hS (xk_freeAll hD hS hA)

set_option maxHeartbeats 4000000 in
set_option maxRecDepth 100000 in
theorem xzU_confirm_bs1 (l : Launch) (hst : l.stackTraces = false) (G : va_G) (ac : Nat → ClassId) (ad : Nat → Nat) (g0 : xk_St) (k1 : Int32) (k2 : Int32) (hbs : k1 < 0 ∨ ¬ k1 < 3) : xt_C l yzU_confirm czU_confirm 5 (some .boolean) xk_WS xt_r2 G xk_cls (xk_tys ac) RzU xk_tx xk_ex [.ref (ad 0), .int 1, .int k1, .int k2] (xk_wU ad ac g0) "java/util/NoSuchElementException" := by
  refine xt_of (by decide) (Nat.le_of_ble_eq_true rfl) ?_
  intro p e s m args below meth c A Q H locs ls C0 hlocks hout hX hend hP hD hS hl
  obtain ⟨hx, hb, hml, hts, hown, hK, hA⟩ := C0
  have hl : lv_has ls 5 [(0, .ref (ad 0)), (1, .int 1), (2, .int k1), (3, .int k2)] := hl
  refine lv_aload_n (pc := 0) hx hb dzU_confirm_0 rfl (lv_at hl 0 rfl) ?_
  refine lv_iload_n (pc := 1) hx hb dzU_confirm_1 rfl (lv_at hl 1 rfl) ?_
  refine lv_iload_n (pc := 2) hx hb dzU_confirm_2 rfl (lv_at hl 2 rfl) ?_
  exact xt_pass (xt_runV (As := [.int 1, .int k1]) (rest := []) (pc := 3) hx hb hml hts hown hK hP hD hX hS (xk_freeAll hD hS hA) (xzU_findSection_bs1 l hst G ac ad g0 k1 hbs) vfzU_174 0 rfl rfl ⟨rfl, rfl⟩ ⟨Nat.le_of_ble_eq_true rfl, Nat.le_of_ble_eq_true rfl⟩ rfl hl.1 rfl (Nat.le_of_ble_eq_true rfl) ⟨Nat.le_of_ble_eq_true rfl, Nat.le_of_ble_eq_true rfl⟩ dzU_confirm_3) hlocks hout hend hS (xk_freeAll hD hS hA)

set_option maxHeartbeats 4000000 in
set_option maxRecDepth 100000 in
theorem xzU_confirm_bw10 (l : Launch) (hst : l.stackTraces = false) (G : va_G) (ac : Nat → ClassId) (ad : Nat → Nat) (g0 : xk_St) (k2 : Int32) (hbw : ¬ 0 < k2) : xt_C l yzU_confirm czU_confirm 5 (some .boolean) xk_WS xt_r2 G xk_cls (xk_tys ac) RzU xk_tx xk_ex [.ref (ad 0), .int 1, .int 0, .int k2] (xk_wU ad ac g0) "java/util/NoSuchElementException" := by
  refine xt_of (by decide) (Nat.le_of_ble_eq_true rfl) ?_
  intro p e s m args below meth c A Q H locs ls C0 hlocks hout hX hend hP hD hS hl
  obtain ⟨hx, hb, hml, hts, hown, hK, hA⟩ := C0
  have hl : lv_has ls 5 [(0, .ref (ad 0)), (1, .int 1), (2, .int 0), (3, .int k2)] := hl
  refine lv_aload_n (pc := 0) hx hb dzU_confirm_0 rfl (lv_at hl 0 rfl) ?_
  refine lv_iload_n (pc := 1) hx hb dzU_confirm_1 rfl (lv_at hl 1 rfl) ?_
  refine lv_iload_n (pc := 2) hx hb dzU_confirm_2 rfl (lv_at hl 2 rfl) ?_
  refine xk_allVR (As := [.int 1, .int 0]) (rest := []) (H0 := s.heap) (pc := 3) hx hb hml hts hown hK hA hP hD hS (kzU_findSection_1_0 l G ac ad g0) vfzU_174 0 rfl rfl ⟨rfl, rfl⟩ ⟨Nat.le_of_ble_eq_true rfl, Nat.le_of_ble_eq_true rfl⟩ rfl hl.1 rfl (Nat.le_of_ble_eq_true rfl) ⟨Nat.zero_le _, Nat.zero_le _⟩ dzU_confirm_3 (fun H locs hP hD hS => ?_)
  have hP : va_P G xk_cls (xk_wU ad ac g0) H := hP
  have hD : va_D A (xk_wU ad ac g0) := hD
  refine lv_astore (lv' := [(4, .ref (ad 22)), (0, .ref (ad 0)), (1, .int 1), (2, .int 0), (3, .int k2)]) (pc := 6) hx hb dzU_confirm_6 hl (by decide) rfl (fun ls hl => ?_)
  refine lv_iload_n (pc := 8) hx hb dzU_confirm_8 rfl (lv_at hl 4 rfl) ?_
  exact xt_pass (xt_runS (As := [.int k2]) (rest := []) (pc := 9) hx hb hml hts hown hK hP hD hX hS (xk_freeAll hD hS hA) (xzU_checkPerson_bad l hst G ac ad g0 k2 hbw) sfzU_178 ⟨rfl, rfl⟩ ⟨Nat.le_of_ble_eq_true rfl, Nat.le_of_ble_eq_true rfl⟩ rfl hl.1 rfl (Nat.le_of_ble_eq_true rfl) ⟨Nat.le_of_ble_eq_true rfl, Nat.le_of_ble_eq_true rfl⟩ dzU_confirm_9) hlocks hout hend hS (xk_freeAll hD hS hA)

set_option maxHeartbeats 4000000 in
set_option maxRecDepth 100000 in
theorem xzU_confirm_bw11 (l : Launch) (hst : l.stackTraces = false) (G : va_G) (ac : Nat → ClassId) (ad : Nat → Nat) (g0 : xk_St) (k2 : Int32) (hbw : ¬ 0 < k2) : xt_C l yzU_confirm czU_confirm 5 (some .boolean) xk_WS xt_r2 G xk_cls (xk_tys ac) RzU xk_tx xk_ex [.ref (ad 0), .int 1, .int 1, .int k2] (xk_wU ad ac g0) "java/util/NoSuchElementException" := by
  refine xt_of (by decide) (Nat.le_of_ble_eq_true rfl) ?_
  intro p e s m args below meth c A Q H locs ls C0 hlocks hout hX hend hP hD hS hl
  obtain ⟨hx, hb, hml, hts, hown, hK, hA⟩ := C0
  have hl : lv_has ls 5 [(0, .ref (ad 0)), (1, .int 1), (2, .int 1), (3, .int k2)] := hl
  refine lv_aload_n (pc := 0) hx hb dzU_confirm_0 rfl (lv_at hl 0 rfl) ?_
  refine lv_iload_n (pc := 1) hx hb dzU_confirm_1 rfl (lv_at hl 1 rfl) ?_
  refine lv_iload_n (pc := 2) hx hb dzU_confirm_2 rfl (lv_at hl 2 rfl) ?_
  refine xk_allVR (As := [.int 1, .int 1]) (rest := []) (H0 := s.heap) (pc := 3) hx hb hml hts hown hK hA hP hD hS (kzU_findSection_1_1 l G ac ad g0) vfzU_174 0 rfl rfl ⟨rfl, rfl⟩ ⟨Nat.le_of_ble_eq_true rfl, Nat.le_of_ble_eq_true rfl⟩ rfl hl.1 rfl (Nat.le_of_ble_eq_true rfl) ⟨Nat.zero_le _, Nat.zero_le _⟩ dzU_confirm_3 (fun H locs hP hD hS => ?_)
  have hP : va_P G xk_cls (xk_wU ad ac g0) H := hP
  have hD : va_D A (xk_wU ad ac g0) := hD
  refine lv_astore (lv' := [(4, .ref (ad 23)), (0, .ref (ad 0)), (1, .int 1), (2, .int 1), (3, .int k2)]) (pc := 6) hx hb dzU_confirm_6 hl (by decide) rfl (fun ls hl => ?_)
  refine lv_iload_n (pc := 8) hx hb dzU_confirm_8 rfl (lv_at hl 4 rfl) ?_
  exact xt_pass (xt_runS (As := [.int k2]) (rest := []) (pc := 9) hx hb hml hts hown hK hP hD hX hS (xk_freeAll hD hS hA) (xzU_checkPerson_bad l hst G ac ad g0 k2 hbw) sfzU_178 ⟨rfl, rfl⟩ ⟨Nat.le_of_ble_eq_true rfl, Nat.le_of_ble_eq_true rfl⟩ rfl hl.1 rfl (Nat.le_of_ble_eq_true rfl) ⟨Nat.le_of_ble_eq_true rfl, Nat.le_of_ble_eq_true rfl⟩ dzU_confirm_9) hlocks hout hend hS (xk_freeAll hD hS hA)

set_option maxHeartbeats 4000000 in
set_option maxRecDepth 100000 in
theorem xzU_confirm_bw12 (l : Launch) (hst : l.stackTraces = false) (G : va_G) (ac : Nat → ClassId) (ad : Nat → Nat) (g0 : xk_St) (k2 : Int32) (hbw : ¬ 0 < k2) : xt_C l yzU_confirm czU_confirm 5 (some .boolean) xk_WS xt_r2 G xk_cls (xk_tys ac) RzU xk_tx xk_ex [.ref (ad 0), .int 1, .int 2, .int k2] (xk_wU ad ac g0) "java/util/NoSuchElementException" := by
  refine xt_of (by decide) (Nat.le_of_ble_eq_true rfl) ?_
  intro p e s m args below meth c A Q H locs ls C0 hlocks hout hX hend hP hD hS hl
  obtain ⟨hx, hb, hml, hts, hown, hK, hA⟩ := C0
  have hl : lv_has ls 5 [(0, .ref (ad 0)), (1, .int 1), (2, .int 2), (3, .int k2)] := hl
  refine lv_aload_n (pc := 0) hx hb dzU_confirm_0 rfl (lv_at hl 0 rfl) ?_
  refine lv_iload_n (pc := 1) hx hb dzU_confirm_1 rfl (lv_at hl 1 rfl) ?_
  refine lv_iload_n (pc := 2) hx hb dzU_confirm_2 rfl (lv_at hl 2 rfl) ?_
  refine xk_allVR (As := [.int 1, .int 2]) (rest := []) (H0 := s.heap) (pc := 3) hx hb hml hts hown hK hA hP hD hS (kzU_findSection_1_2 l G ac ad g0) vfzU_174 0 rfl rfl ⟨rfl, rfl⟩ ⟨Nat.le_of_ble_eq_true rfl, Nat.le_of_ble_eq_true rfl⟩ rfl hl.1 rfl (Nat.le_of_ble_eq_true rfl) ⟨Nat.zero_le _, Nat.zero_le _⟩ dzU_confirm_3 (fun H locs hP hD hS => ?_)
  have hP : va_P G xk_cls (xk_wU ad ac g0) H := hP
  have hD : va_D A (xk_wU ad ac g0) := hD
  refine lv_astore (lv' := [(4, .ref (ad 24)), (0, .ref (ad 0)), (1, .int 1), (2, .int 2), (3, .int k2)]) (pc := 6) hx hb dzU_confirm_6 hl (by decide) rfl (fun ls hl => ?_)
  refine lv_iload_n (pc := 8) hx hb dzU_confirm_8 rfl (lv_at hl 4 rfl) ?_
  exact xt_pass (xt_runS (As := [.int k2]) (rest := []) (pc := 9) hx hb hml hts hown hK hP hD hX hS (xk_freeAll hD hS hA) (xzU_checkPerson_bad l hst G ac ad g0 k2 hbw) sfzU_178 ⟨rfl, rfl⟩ ⟨Nat.le_of_ble_eq_true rfl, Nat.le_of_ble_eq_true rfl⟩ rfl hl.1 rfl (Nat.le_of_ble_eq_true rfl) ⟨Nat.le_of_ble_eq_true rfl, Nat.le_of_ble_eq_true rfl⟩ dzU_confirm_9) hlocks hout hend hS (xk_freeAll hD hS hA)

set_option maxHeartbeats 4000000 in
set_option maxRecDepth 100000 in
theorem xzU_ask_nd00 (l : Launch) (hst : l.stackTraces = false) (G : va_G) (ac : Nat → ClassId) (ad : Nat → Nat) (g0 : xk_St) (k2 : Int32) (hw : 0 < k2) (hd3 : (g0 19 3) = 0) : xt_C l yzU_ask czU_ask 5 none xk_WS xt_r2 G xk_cls (xk_tys ac) RzU xk_tx xk_ex [.ref (ad 0), .int 0, .int 0, .int k2] (xk_wU ad ac g0) "java/lang/IllegalStateException" := by
  refine xt_of (by decide) (Nat.le_of_ble_eq_true rfl) ?_
  intro p e s m args below meth c A Q H locs ls C0 hlocks hout hX hend hP hD hS hl
  obtain ⟨hx, hb, hml, hts, hown, hK, hA⟩ := C0
  have hl : lv_has ls 5 [(0, .ref (ad 0)), (1, .int 0), (2, .int 0), (3, .int k2)] := hl
  refine lv_aload_n (pc := 0) hx hb dzU_ask_0 rfl (lv_at hl 0 rfl) ?_
  refine lv_iload_n (pc := 1) hx hb dzU_ask_1 rfl (lv_at hl 1 rfl) ?_
  refine lv_iload_n (pc := 2) hx hb dzU_ask_2 rfl (lv_at hl 2 rfl) ?_
  refine xk_allVR (As := [.int 0, .int 0]) (rest := []) (H0 := s.heap) (pc := 3) hx hb hml hts hown hK hA hP hD hS (kzU_findSection_0_0 l G ac ad g0) vfzU_174 0 rfl rfl ⟨rfl, rfl⟩ ⟨Nat.le_of_ble_eq_true rfl, Nat.le_of_ble_eq_true rfl⟩ rfl hl.1 rfl (Nat.le_of_ble_eq_true rfl) ⟨Nat.zero_le _, Nat.zero_le _⟩ dzU_ask_3 (fun H locs hP hD hS => ?_)
  have hP : va_P G xk_cls (xk_wU ad ac g0) H := hP
  have hD : va_D A (xk_wU ad ac g0) := hD
  refine lv_astore (lv' := [(4, .ref (ad 19)), (0, .ref (ad 0)), (1, .int 0), (2, .int 0), (3, .int k2)]) (pc := 6) hx hb dzU_ask_6 hl (by decide) rfl (fun ls hl => ?_)
  refine lv_iload_n (pc := 8) hx hb dzU_ask_8 rfl (lv_at hl 4 rfl) ?_
  refine xk_callSV (As := [.int k2]) (rest := []) (H0 := s.heap) (pc := 9) hx hb hml hts hown hK hA hP hD hS (kzU_checkPerson l G ac k2 hw) sfzU_178 [] (by decide) rfl (fun _ => rfl) ⟨rfl, rfl⟩ ⟨Nat.le_of_ble_eq_true rfl, Nat.le_of_ble_eq_true rfl⟩ rfl hl.1 rfl (Nat.le_of_ble_eq_true rfl) ⟨Nat.zero_le _, Nat.zero_le _⟩ dzU_ask_9 (fun u9 H locs e9 hP hD hS => ?_)
  have hP : va_P G xk_cls (xk_wU ad ac g0) H := hP
  have hD : va_D A (xk_wU ad ac g0) := hD
  refine lv_aload (pc := 12) hx hb dzU_ask_12 (lv_at hl 0 rfl) ?_
  refine xk_get (pc := 14) hx hb hts hown hK hP ffzU_181 19 rfl rfl dzU_ask_14 ?_
  refine lv_if_ne (pc := 17) (tgt := 30) hx hb dzU_ask_17 (by decide) (fun hq9 => absurd hd3 hq9) (fun _ => ?_)
  exact xt_throw (pc := 20) (ln := 2) (is := 184) (tx := "the section is not disturbed") (rest := []) hx hb hst (by rw [hml]; exact hl.1.symm) hown hlocks hout hX hend hP hS (by decide +kernel) (by decide +kernel) (by decide +kernel) xbIS_0 xbIS_1 xbIS_2 xbIS_5 (hts _ xk_m318) (hts _ xk_m59) (xaIS hts) (by decide) (by decide) dzU_ask_20 dzU_ask_23 (Or.inl ⟨rfl, dzU_ask_24⟩) dzU_ask_26 dzU_ask_29 (Nat.le_of_ble_eq_true rfl) (Nat.le_of_ble_eq_true rfl) (Nat.le_of_ble_eq_true rfl) (Nat.le_of_ble_eq_true rfl)

set_option maxHeartbeats 4000000 in
set_option maxRecDepth 100000 in
theorem xzU_confirm_na00_n (l : Launch) (hst : l.stackTraces = false) (G : va_G) (ac : Nat → ClassId) (ad : Nat → Nat) (g0 : xk_St) (k2 : Int32) (hw : 0 < k2) (h01 : (g0 19 4) = 0) : xt_C l yzU_confirm czU_confirm 5 (some .boolean) xk_WS xt_r2 G xk_cls (xk_tys ac) RzU xk_tx xk_ex [.ref (ad 0), .int 0, .int 0, .int k2] (xk_wU ad ac g0) "java/lang/IllegalStateException" := by
  refine xt_of (by decide) (Nat.le_of_ble_eq_true rfl) ?_
  intro p e s m args below meth c A Q H locs ls C0 hlocks hout hX hend hP hD hS hl
  obtain ⟨hx, hb, hml, hts, hown, hK, hA⟩ := C0
  have hl : lv_has ls 5 [(0, .ref (ad 0)), (1, .int 0), (2, .int 0), (3, .int k2)] := hl
  refine lv_aload_n (pc := 0) hx hb dzU_confirm_0 rfl (lv_at hl 0 rfl) ?_
  refine lv_iload_n (pc := 1) hx hb dzU_confirm_1 rfl (lv_at hl 1 rfl) ?_
  refine lv_iload_n (pc := 2) hx hb dzU_confirm_2 rfl (lv_at hl 2 rfl) ?_
  refine xk_allVR (As := [.int 0, .int 0]) (rest := []) (H0 := s.heap) (pc := 3) hx hb hml hts hown hK hA hP hD hS (kzU_findSection_0_0 l G ac ad g0) vfzU_174 0 rfl rfl ⟨rfl, rfl⟩ ⟨Nat.le_of_ble_eq_true rfl, Nat.le_of_ble_eq_true rfl⟩ rfl hl.1 rfl (Nat.le_of_ble_eq_true rfl) ⟨Nat.zero_le _, Nat.zero_le _⟩ dzU_confirm_3 (fun H locs hP hD hS => ?_)
  have hP : va_P G xk_cls (xk_wU ad ac g0) H := hP
  have hD : va_D A (xk_wU ad ac g0) := hD
  refine lv_astore (lv' := [(4, .ref (ad 19)), (0, .ref (ad 0)), (1, .int 0), (2, .int 0), (3, .int k2)]) (pc := 6) hx hb dzU_confirm_6 hl (by decide) rfl (fun ls hl => ?_)
  refine lv_iload_n (pc := 8) hx hb dzU_confirm_8 rfl (lv_at hl 4 rfl) ?_
  refine xk_callSV (As := [.int k2]) (rest := []) (H0 := s.heap) (pc := 9) hx hb hml hts hown hK hA hP hD hS (kzU_checkPerson l G ac k2 hw) sfzU_178 [] (by decide) rfl (fun _ => rfl) ⟨rfl, rfl⟩ ⟨Nat.le_of_ble_eq_true rfl, Nat.le_of_ble_eq_true rfl⟩ rfl hl.1 rfl (Nat.le_of_ble_eq_true rfl) ⟨Nat.zero_le _, Nat.zero_le _⟩ dzU_confirm_9 (fun u9 H locs e9 hP hD hS => ?_)
  have hP : va_P G xk_cls (xk_wU ad ac g0) H := hP
  have hD : va_D A (xk_wU ad ac g0) := hD
  refine lv_aload (pc := 12) hx hb dzU_confirm_12 (lv_at hl 0 rfl) ?_
  refine xk_get (pc := 14) hx hb hts hown hK hP ffzU_189 19 rfl rfl dzU_confirm_14 ?_
  refine lv_if_eq (pc := 17) (tgt := 29) hx hb dzU_confirm_17 (by decide) (fun _ => ?_) (fun hq9 => absurd h01 hq9)
  exact xt_throw (pc := 29) (ln := 2) (is := 192) (tx := "someone else has to have asked") (rest := []) hx hb hst (by rw [hml]; exact hl.1.symm) hown hlocks hout hX hend hP hS (by decide +kernel) (by decide +kernel) (by decide +kernel) xbIS_0 xbIS_1 xbIS_2 xbIS_5 (hts _ xk_m318) (hts _ xk_m59) (xaIS hts) (by decide) (by decide) dzU_confirm_29 dzU_confirm_32 (Or.inl ⟨rfl, dzU_confirm_33⟩) dzU_confirm_35 dzU_confirm_38 (Nat.le_of_ble_eq_true rfl) (Nat.le_of_ble_eq_true rfl) (Nat.le_of_ble_eq_true rfl) (Nat.le_of_ble_eq_true rfl)

set_option maxHeartbeats 4000000 in
set_option maxRecDepth 100000 in
theorem xzU_confirm_na00_b (l : Launch) (hst : l.stackTraces = false) (G : va_G) (ac : Nat → ClassId) (ad : Nat → Nat) (g0 : xk_St) (k2 : Int32) (hw : 0 < k2) (h01 : ¬ (g0 19 4) = 0) (h02 : (g0 19 4) = k2) : xt_C l yzU_confirm czU_confirm 5 (some .boolean) xk_WS xt_r2 G xk_cls (xk_tys ac) RzU xk_tx xk_ex [.ref (ad 0), .int 0, .int 0, .int k2] (xk_wU ad ac g0) "java/lang/IllegalStateException" := by
  refine xt_of (by decide) (Nat.le_of_ble_eq_true rfl) ?_
  intro p e s m args below meth c A Q H locs ls C0 hlocks hout hX hend hP hD hS hl
  obtain ⟨hx, hb, hml, hts, hown, hK, hA⟩ := C0
  have hl : lv_has ls 5 [(0, .ref (ad 0)), (1, .int 0), (2, .int 0), (3, .int k2)] := hl
  refine lv_aload_n (pc := 0) hx hb dzU_confirm_0 rfl (lv_at hl 0 rfl) ?_
  refine lv_iload_n (pc := 1) hx hb dzU_confirm_1 rfl (lv_at hl 1 rfl) ?_
  refine lv_iload_n (pc := 2) hx hb dzU_confirm_2 rfl (lv_at hl 2 rfl) ?_
  refine xk_allVR (As := [.int 0, .int 0]) (rest := []) (H0 := s.heap) (pc := 3) hx hb hml hts hown hK hA hP hD hS (kzU_findSection_0_0 l G ac ad g0) vfzU_174 0 rfl rfl ⟨rfl, rfl⟩ ⟨Nat.le_of_ble_eq_true rfl, Nat.le_of_ble_eq_true rfl⟩ rfl hl.1 rfl (Nat.le_of_ble_eq_true rfl) ⟨Nat.zero_le _, Nat.zero_le _⟩ dzU_confirm_3 (fun H locs hP hD hS => ?_)
  have hP : va_P G xk_cls (xk_wU ad ac g0) H := hP
  have hD : va_D A (xk_wU ad ac g0) := hD
  refine lv_astore (lv' := [(4, .ref (ad 19)), (0, .ref (ad 0)), (1, .int 0), (2, .int 0), (3, .int k2)]) (pc := 6) hx hb dzU_confirm_6 hl (by decide) rfl (fun ls hl => ?_)
  refine lv_iload_n (pc := 8) hx hb dzU_confirm_8 rfl (lv_at hl 4 rfl) ?_
  refine xk_callSV (As := [.int k2]) (rest := []) (H0 := s.heap) (pc := 9) hx hb hml hts hown hK hA hP hD hS (kzU_checkPerson l G ac k2 hw) sfzU_178 [] (by decide) rfl (fun _ => rfl) ⟨rfl, rfl⟩ ⟨Nat.le_of_ble_eq_true rfl, Nat.le_of_ble_eq_true rfl⟩ rfl hl.1 rfl (Nat.le_of_ble_eq_true rfl) ⟨Nat.zero_le _, Nat.zero_le _⟩ dzU_confirm_9 (fun u9 H locs e9 hP hD hS => ?_)
  have hP : va_P G xk_cls (xk_wU ad ac g0) H := hP
  have hD : va_D A (xk_wU ad ac g0) := hD
  refine lv_aload (pc := 12) hx hb dzU_confirm_12 (lv_at hl 0 rfl) ?_
  refine xk_get (pc := 14) hx hb hts hown hK hP ffzU_189 19 rfl rfl dzU_confirm_14 ?_
  refine lv_if_eq (pc := 17) (tgt := 29) hx hb dzU_confirm_17 (by decide) (fun hq9 => absurd hq9 h01) (fun _ => ?_)
  refine lv_aload (pc := 20) hx hb dzU_confirm_20 (lv_at hl 0 rfl) ?_
  refine xk_get (pc := 22) hx hb hts hown hK hP ffzU_189 19 rfl rfl dzU_confirm_22 ?_
  refine lv_iload_n (pc := 25) hx hb dzU_confirm_25 rfl (lv_at hl 4 rfl) ?_
  refine lv_icmp_ne (pc := 26) (tgt := 39) hx hb dzU_confirm_26 (by decide) (fun hq9 => absurd h02 hq9) (fun _ => ?_)
  exact xt_throw (pc := 29) (ln := 2) (is := 192) (tx := "someone else has to have asked") (rest := []) hx hb hst (by rw [hml]; exact hl.1.symm) hown hlocks hout hX hend hP hS (by decide +kernel) (by decide +kernel) (by decide +kernel) xbIS_0 xbIS_1 xbIS_2 xbIS_5 (hts _ xk_m318) (hts _ xk_m59) (xaIS hts) (by decide) (by decide) dzU_confirm_29 dzU_confirm_32 (Or.inl ⟨rfl, dzU_confirm_33⟩) dzU_confirm_35 dzU_confirm_38 (Nat.le_of_ble_eq_true rfl) (Nat.le_of_ble_eq_true rfl) (Nat.le_of_ble_eq_true rfl) (Nat.le_of_ble_eq_true rfl)

theorem xzU_confirm_na00 (l : Launch) (hst : l.stackTraces = false) (G : va_G) (ac : Nat → ClassId) (ad : Nat → Nat) (g0 : xk_St) (k2 : Int32) (hw : 0 < k2) (hna : (g0 19 4) = 0 ∨ (g0 19 4) = k2) : xt_C l yzU_confirm czU_confirm 5 (some .boolean) xk_WS xt_r2 G xk_cls (xk_tys ac) RzU xk_tx xk_ex [.ref (ad 0), .int 0, .int 0, .int k2] (xk_wU ad ac g0) "java/lang/IllegalStateException" := by
  by_cases h01 : (g0 19 4) = 0
  · exact xzU_confirm_na00_n l hst G ac ad g0 k2 hw h01
  · exact xzU_confirm_na00_b l hst G ac ad g0 k2 hw h01 (hna.resolve_left h01)

set_option maxHeartbeats 4000000 in
set_option maxRecDepth 100000 in
theorem xzU_ask_nd01 (l : Launch) (hst : l.stackTraces = false) (G : va_G) (ac : Nat → ClassId) (ad : Nat → Nat) (g0 : xk_St) (k2 : Int32) (hw : 0 < k2) (hd3 : (g0 20 3) = 0) : xt_C l yzU_ask czU_ask 5 none xk_WS xt_r2 G xk_cls (xk_tys ac) RzU xk_tx xk_ex [.ref (ad 0), .int 0, .int 1, .int k2] (xk_wU ad ac g0) "java/lang/IllegalStateException" := by
  refine xt_of (by decide) (Nat.le_of_ble_eq_true rfl) ?_
  intro p e s m args below meth c A Q H locs ls C0 hlocks hout hX hend hP hD hS hl
  obtain ⟨hx, hb, hml, hts, hown, hK, hA⟩ := C0
  have hl : lv_has ls 5 [(0, .ref (ad 0)), (1, .int 0), (2, .int 1), (3, .int k2)] := hl
  refine lv_aload_n (pc := 0) hx hb dzU_ask_0 rfl (lv_at hl 0 rfl) ?_
  refine lv_iload_n (pc := 1) hx hb dzU_ask_1 rfl (lv_at hl 1 rfl) ?_
  refine lv_iload_n (pc := 2) hx hb dzU_ask_2 rfl (lv_at hl 2 rfl) ?_
  refine xk_allVR (As := [.int 0, .int 1]) (rest := []) (H0 := s.heap) (pc := 3) hx hb hml hts hown hK hA hP hD hS (kzU_findSection_0_1 l G ac ad g0) vfzU_174 0 rfl rfl ⟨rfl, rfl⟩ ⟨Nat.le_of_ble_eq_true rfl, Nat.le_of_ble_eq_true rfl⟩ rfl hl.1 rfl (Nat.le_of_ble_eq_true rfl) ⟨Nat.zero_le _, Nat.zero_le _⟩ dzU_ask_3 (fun H locs hP hD hS => ?_)
  have hP : va_P G xk_cls (xk_wU ad ac g0) H := hP
  have hD : va_D A (xk_wU ad ac g0) := hD
  refine lv_astore (lv' := [(4, .ref (ad 20)), (0, .ref (ad 0)), (1, .int 0), (2, .int 1), (3, .int k2)]) (pc := 6) hx hb dzU_ask_6 hl (by decide) rfl (fun ls hl => ?_)
  refine lv_iload_n (pc := 8) hx hb dzU_ask_8 rfl (lv_at hl 4 rfl) ?_
  refine xk_callSV (As := [.int k2]) (rest := []) (H0 := s.heap) (pc := 9) hx hb hml hts hown hK hA hP hD hS (kzU_checkPerson l G ac k2 hw) sfzU_178 [] (by decide) rfl (fun _ => rfl) ⟨rfl, rfl⟩ ⟨Nat.le_of_ble_eq_true rfl, Nat.le_of_ble_eq_true rfl⟩ rfl hl.1 rfl (Nat.le_of_ble_eq_true rfl) ⟨Nat.zero_le _, Nat.zero_le _⟩ dzU_ask_9 (fun u9 H locs e9 hP hD hS => ?_)
  have hP : va_P G xk_cls (xk_wU ad ac g0) H := hP
  have hD : va_D A (xk_wU ad ac g0) := hD
  refine lv_aload (pc := 12) hx hb dzU_ask_12 (lv_at hl 0 rfl) ?_
  refine xk_get (pc := 14) hx hb hts hown hK hP ffzU_181 20 rfl rfl dzU_ask_14 ?_
  refine lv_if_ne (pc := 17) (tgt := 30) hx hb dzU_ask_17 (by decide) (fun hq9 => absurd hd3 hq9) (fun _ => ?_)
  exact xt_throw (pc := 20) (ln := 2) (is := 184) (tx := "the section is not disturbed") (rest := []) hx hb hst (by rw [hml]; exact hl.1.symm) hown hlocks hout hX hend hP hS (by decide +kernel) (by decide +kernel) (by decide +kernel) xbIS_0 xbIS_1 xbIS_2 xbIS_5 (hts _ xk_m318) (hts _ xk_m59) (xaIS hts) (by decide) (by decide) dzU_ask_20 dzU_ask_23 (Or.inl ⟨rfl, dzU_ask_24⟩) dzU_ask_26 dzU_ask_29 (Nat.le_of_ble_eq_true rfl) (Nat.le_of_ble_eq_true rfl) (Nat.le_of_ble_eq_true rfl) (Nat.le_of_ble_eq_true rfl)

set_option maxHeartbeats 4000000 in
set_option maxRecDepth 100000 in
theorem xzU_confirm_na01_n (l : Launch) (hst : l.stackTraces = false) (G : va_G) (ac : Nat → ClassId) (ad : Nat → Nat) (g0 : xk_St) (k2 : Int32) (hw : 0 < k2) (h01 : (g0 20 4) = 0) : xt_C l yzU_confirm czU_confirm 5 (some .boolean) xk_WS xt_r2 G xk_cls (xk_tys ac) RzU xk_tx xk_ex [.ref (ad 0), .int 0, .int 1, .int k2] (xk_wU ad ac g0) "java/lang/IllegalStateException" := by
  refine xt_of (by decide) (Nat.le_of_ble_eq_true rfl) ?_
  intro p e s m args below meth c A Q H locs ls C0 hlocks hout hX hend hP hD hS hl
  obtain ⟨hx, hb, hml, hts, hown, hK, hA⟩ := C0
  have hl : lv_has ls 5 [(0, .ref (ad 0)), (1, .int 0), (2, .int 1), (3, .int k2)] := hl
  refine lv_aload_n (pc := 0) hx hb dzU_confirm_0 rfl (lv_at hl 0 rfl) ?_
  refine lv_iload_n (pc := 1) hx hb dzU_confirm_1 rfl (lv_at hl 1 rfl) ?_
  refine lv_iload_n (pc := 2) hx hb dzU_confirm_2 rfl (lv_at hl 2 rfl) ?_
  refine xk_allVR (As := [.int 0, .int 1]) (rest := []) (H0 := s.heap) (pc := 3) hx hb hml hts hown hK hA hP hD hS (kzU_findSection_0_1 l G ac ad g0) vfzU_174 0 rfl rfl ⟨rfl, rfl⟩ ⟨Nat.le_of_ble_eq_true rfl, Nat.le_of_ble_eq_true rfl⟩ rfl hl.1 rfl (Nat.le_of_ble_eq_true rfl) ⟨Nat.zero_le _, Nat.zero_le _⟩ dzU_confirm_3 (fun H locs hP hD hS => ?_)
  have hP : va_P G xk_cls (xk_wU ad ac g0) H := hP
  have hD : va_D A (xk_wU ad ac g0) := hD
  refine lv_astore (lv' := [(4, .ref (ad 20)), (0, .ref (ad 0)), (1, .int 0), (2, .int 1), (3, .int k2)]) (pc := 6) hx hb dzU_confirm_6 hl (by decide) rfl (fun ls hl => ?_)
  refine lv_iload_n (pc := 8) hx hb dzU_confirm_8 rfl (lv_at hl 4 rfl) ?_
  refine xk_callSV (As := [.int k2]) (rest := []) (H0 := s.heap) (pc := 9) hx hb hml hts hown hK hA hP hD hS (kzU_checkPerson l G ac k2 hw) sfzU_178 [] (by decide) rfl (fun _ => rfl) ⟨rfl, rfl⟩ ⟨Nat.le_of_ble_eq_true rfl, Nat.le_of_ble_eq_true rfl⟩ rfl hl.1 rfl (Nat.le_of_ble_eq_true rfl) ⟨Nat.zero_le _, Nat.zero_le _⟩ dzU_confirm_9 (fun u9 H locs e9 hP hD hS => ?_)
  have hP : va_P G xk_cls (xk_wU ad ac g0) H := hP
  have hD : va_D A (xk_wU ad ac g0) := hD
  refine lv_aload (pc := 12) hx hb dzU_confirm_12 (lv_at hl 0 rfl) ?_
  refine xk_get (pc := 14) hx hb hts hown hK hP ffzU_189 20 rfl rfl dzU_confirm_14 ?_
  refine lv_if_eq (pc := 17) (tgt := 29) hx hb dzU_confirm_17 (by decide) (fun _ => ?_) (fun hq9 => absurd h01 hq9)
  exact xt_throw (pc := 29) (ln := 2) (is := 192) (tx := "someone else has to have asked") (rest := []) hx hb hst (by rw [hml]; exact hl.1.symm) hown hlocks hout hX hend hP hS (by decide +kernel) (by decide +kernel) (by decide +kernel) xbIS_0 xbIS_1 xbIS_2 xbIS_5 (hts _ xk_m318) (hts _ xk_m59) (xaIS hts) (by decide) (by decide) dzU_confirm_29 dzU_confirm_32 (Or.inl ⟨rfl, dzU_confirm_33⟩) dzU_confirm_35 dzU_confirm_38 (Nat.le_of_ble_eq_true rfl) (Nat.le_of_ble_eq_true rfl) (Nat.le_of_ble_eq_true rfl) (Nat.le_of_ble_eq_true rfl)

set_option maxHeartbeats 4000000 in
set_option maxRecDepth 100000 in
theorem xzU_confirm_na01_b (l : Launch) (hst : l.stackTraces = false) (G : va_G) (ac : Nat → ClassId) (ad : Nat → Nat) (g0 : xk_St) (k2 : Int32) (hw : 0 < k2) (h01 : ¬ (g0 20 4) = 0) (h02 : (g0 20 4) = k2) : xt_C l yzU_confirm czU_confirm 5 (some .boolean) xk_WS xt_r2 G xk_cls (xk_tys ac) RzU xk_tx xk_ex [.ref (ad 0), .int 0, .int 1, .int k2] (xk_wU ad ac g0) "java/lang/IllegalStateException" := by
  refine xt_of (by decide) (Nat.le_of_ble_eq_true rfl) ?_
  intro p e s m args below meth c A Q H locs ls C0 hlocks hout hX hend hP hD hS hl
  obtain ⟨hx, hb, hml, hts, hown, hK, hA⟩ := C0
  have hl : lv_has ls 5 [(0, .ref (ad 0)), (1, .int 0), (2, .int 1), (3, .int k2)] := hl
  refine lv_aload_n (pc := 0) hx hb dzU_confirm_0 rfl (lv_at hl 0 rfl) ?_
  refine lv_iload_n (pc := 1) hx hb dzU_confirm_1 rfl (lv_at hl 1 rfl) ?_
  refine lv_iload_n (pc := 2) hx hb dzU_confirm_2 rfl (lv_at hl 2 rfl) ?_
  refine xk_allVR (As := [.int 0, .int 1]) (rest := []) (H0 := s.heap) (pc := 3) hx hb hml hts hown hK hA hP hD hS (kzU_findSection_0_1 l G ac ad g0) vfzU_174 0 rfl rfl ⟨rfl, rfl⟩ ⟨Nat.le_of_ble_eq_true rfl, Nat.le_of_ble_eq_true rfl⟩ rfl hl.1 rfl (Nat.le_of_ble_eq_true rfl) ⟨Nat.zero_le _, Nat.zero_le _⟩ dzU_confirm_3 (fun H locs hP hD hS => ?_)
  have hP : va_P G xk_cls (xk_wU ad ac g0) H := hP
  have hD : va_D A (xk_wU ad ac g0) := hD
  refine lv_astore (lv' := [(4, .ref (ad 20)), (0, .ref (ad 0)), (1, .int 0), (2, .int 1), (3, .int k2)]) (pc := 6) hx hb dzU_confirm_6 hl (by decide) rfl (fun ls hl => ?_)
  refine lv_iload_n (pc := 8) hx hb dzU_confirm_8 rfl (lv_at hl 4 rfl) ?_
  refine xk_callSV (As := [.int k2]) (rest := []) (H0 := s.heap) (pc := 9) hx hb hml hts hown hK hA hP hD hS (kzU_checkPerson l G ac k2 hw) sfzU_178 [] (by decide) rfl (fun _ => rfl) ⟨rfl, rfl⟩ ⟨Nat.le_of_ble_eq_true rfl, Nat.le_of_ble_eq_true rfl⟩ rfl hl.1 rfl (Nat.le_of_ble_eq_true rfl) ⟨Nat.zero_le _, Nat.zero_le _⟩ dzU_confirm_9 (fun u9 H locs e9 hP hD hS => ?_)
  have hP : va_P G xk_cls (xk_wU ad ac g0) H := hP
  have hD : va_D A (xk_wU ad ac g0) := hD
  refine lv_aload (pc := 12) hx hb dzU_confirm_12 (lv_at hl 0 rfl) ?_
  refine xk_get (pc := 14) hx hb hts hown hK hP ffzU_189 20 rfl rfl dzU_confirm_14 ?_
  refine lv_if_eq (pc := 17) (tgt := 29) hx hb dzU_confirm_17 (by decide) (fun hq9 => absurd hq9 h01) (fun _ => ?_)
  refine lv_aload (pc := 20) hx hb dzU_confirm_20 (lv_at hl 0 rfl) ?_
  refine xk_get (pc := 22) hx hb hts hown hK hP ffzU_189 20 rfl rfl dzU_confirm_22 ?_
  refine lv_iload_n (pc := 25) hx hb dzU_confirm_25 rfl (lv_at hl 4 rfl) ?_
  refine lv_icmp_ne (pc := 26) (tgt := 39) hx hb dzU_confirm_26 (by decide) (fun hq9 => absurd h02 hq9) (fun _ => ?_)
  exact xt_throw (pc := 29) (ln := 2) (is := 192) (tx := "someone else has to have asked") (rest := []) hx hb hst (by rw [hml]; exact hl.1.symm) hown hlocks hout hX hend hP hS (by decide +kernel) (by decide +kernel) (by decide +kernel) xbIS_0 xbIS_1 xbIS_2 xbIS_5 (hts _ xk_m318) (hts _ xk_m59) (xaIS hts) (by decide) (by decide) dzU_confirm_29 dzU_confirm_32 (Or.inl ⟨rfl, dzU_confirm_33⟩) dzU_confirm_35 dzU_confirm_38 (Nat.le_of_ble_eq_true rfl) (Nat.le_of_ble_eq_true rfl) (Nat.le_of_ble_eq_true rfl) (Nat.le_of_ble_eq_true rfl)

theorem xzU_confirm_na01 (l : Launch) (hst : l.stackTraces = false) (G : va_G) (ac : Nat → ClassId) (ad : Nat → Nat) (g0 : xk_St) (k2 : Int32) (hw : 0 < k2) (hna : (g0 20 4) = 0 ∨ (g0 20 4) = k2) : xt_C l yzU_confirm czU_confirm 5 (some .boolean) xk_WS xt_r2 G xk_cls (xk_tys ac) RzU xk_tx xk_ex [.ref (ad 0), .int 0, .int 1, .int k2] (xk_wU ad ac g0) "java/lang/IllegalStateException" := by
  by_cases h01 : (g0 20 4) = 0
  · exact xzU_confirm_na01_n l hst G ac ad g0 k2 hw h01
  · exact xzU_confirm_na01_b l hst G ac ad g0 k2 hw h01 (hna.resolve_left h01)

set_option maxHeartbeats 4000000 in
set_option maxRecDepth 100000 in
theorem xzU_ask_nd02 (l : Launch) (hst : l.stackTraces = false) (G : va_G) (ac : Nat → ClassId) (ad : Nat → Nat) (g0 : xk_St) (k2 : Int32) (hw : 0 < k2) (hd3 : (g0 21 3) = 0) : xt_C l yzU_ask czU_ask 5 none xk_WS xt_r2 G xk_cls (xk_tys ac) RzU xk_tx xk_ex [.ref (ad 0), .int 0, .int 2, .int k2] (xk_wU ad ac g0) "java/lang/IllegalStateException" := by
  refine xt_of (by decide) (Nat.le_of_ble_eq_true rfl) ?_
  intro p e s m args below meth c A Q H locs ls C0 hlocks hout hX hend hP hD hS hl
  obtain ⟨hx, hb, hml, hts, hown, hK, hA⟩ := C0
  have hl : lv_has ls 5 [(0, .ref (ad 0)), (1, .int 0), (2, .int 2), (3, .int k2)] := hl
  refine lv_aload_n (pc := 0) hx hb dzU_ask_0 rfl (lv_at hl 0 rfl) ?_
  refine lv_iload_n (pc := 1) hx hb dzU_ask_1 rfl (lv_at hl 1 rfl) ?_
  refine lv_iload_n (pc := 2) hx hb dzU_ask_2 rfl (lv_at hl 2 rfl) ?_
  refine xk_allVR (As := [.int 0, .int 2]) (rest := []) (H0 := s.heap) (pc := 3) hx hb hml hts hown hK hA hP hD hS (kzU_findSection_0_2 l G ac ad g0) vfzU_174 0 rfl rfl ⟨rfl, rfl⟩ ⟨Nat.le_of_ble_eq_true rfl, Nat.le_of_ble_eq_true rfl⟩ rfl hl.1 rfl (Nat.le_of_ble_eq_true rfl) ⟨Nat.zero_le _, Nat.zero_le _⟩ dzU_ask_3 (fun H locs hP hD hS => ?_)
  have hP : va_P G xk_cls (xk_wU ad ac g0) H := hP
  have hD : va_D A (xk_wU ad ac g0) := hD
  refine lv_astore (lv' := [(4, .ref (ad 21)), (0, .ref (ad 0)), (1, .int 0), (2, .int 2), (3, .int k2)]) (pc := 6) hx hb dzU_ask_6 hl (by decide) rfl (fun ls hl => ?_)
  refine lv_iload_n (pc := 8) hx hb dzU_ask_8 rfl (lv_at hl 4 rfl) ?_
  refine xk_callSV (As := [.int k2]) (rest := []) (H0 := s.heap) (pc := 9) hx hb hml hts hown hK hA hP hD hS (kzU_checkPerson l G ac k2 hw) sfzU_178 [] (by decide) rfl (fun _ => rfl) ⟨rfl, rfl⟩ ⟨Nat.le_of_ble_eq_true rfl, Nat.le_of_ble_eq_true rfl⟩ rfl hl.1 rfl (Nat.le_of_ble_eq_true rfl) ⟨Nat.zero_le _, Nat.zero_le _⟩ dzU_ask_9 (fun u9 H locs e9 hP hD hS => ?_)
  have hP : va_P G xk_cls (xk_wU ad ac g0) H := hP
  have hD : va_D A (xk_wU ad ac g0) := hD
  refine lv_aload (pc := 12) hx hb dzU_ask_12 (lv_at hl 0 rfl) ?_
  refine xk_get (pc := 14) hx hb hts hown hK hP ffzU_181 21 rfl rfl dzU_ask_14 ?_
  refine lv_if_ne (pc := 17) (tgt := 30) hx hb dzU_ask_17 (by decide) (fun hq9 => absurd hd3 hq9) (fun _ => ?_)
  exact xt_throw (pc := 20) (ln := 2) (is := 184) (tx := "the section is not disturbed") (rest := []) hx hb hst (by rw [hml]; exact hl.1.symm) hown hlocks hout hX hend hP hS (by decide +kernel) (by decide +kernel) (by decide +kernel) xbIS_0 xbIS_1 xbIS_2 xbIS_5 (hts _ xk_m318) (hts _ xk_m59) (xaIS hts) (by decide) (by decide) dzU_ask_20 dzU_ask_23 (Or.inl ⟨rfl, dzU_ask_24⟩) dzU_ask_26 dzU_ask_29 (Nat.le_of_ble_eq_true rfl) (Nat.le_of_ble_eq_true rfl) (Nat.le_of_ble_eq_true rfl) (Nat.le_of_ble_eq_true rfl)

set_option maxHeartbeats 4000000 in
set_option maxRecDepth 100000 in
theorem xzU_confirm_na02_n (l : Launch) (hst : l.stackTraces = false) (G : va_G) (ac : Nat → ClassId) (ad : Nat → Nat) (g0 : xk_St) (k2 : Int32) (hw : 0 < k2) (h01 : (g0 21 4) = 0) : xt_C l yzU_confirm czU_confirm 5 (some .boolean) xk_WS xt_r2 G xk_cls (xk_tys ac) RzU xk_tx xk_ex [.ref (ad 0), .int 0, .int 2, .int k2] (xk_wU ad ac g0) "java/lang/IllegalStateException" := by
  refine xt_of (by decide) (Nat.le_of_ble_eq_true rfl) ?_
  intro p e s m args below meth c A Q H locs ls C0 hlocks hout hX hend hP hD hS hl
  obtain ⟨hx, hb, hml, hts, hown, hK, hA⟩ := C0
  have hl : lv_has ls 5 [(0, .ref (ad 0)), (1, .int 0), (2, .int 2), (3, .int k2)] := hl
  refine lv_aload_n (pc := 0) hx hb dzU_confirm_0 rfl (lv_at hl 0 rfl) ?_
  refine lv_iload_n (pc := 1) hx hb dzU_confirm_1 rfl (lv_at hl 1 rfl) ?_
  refine lv_iload_n (pc := 2) hx hb dzU_confirm_2 rfl (lv_at hl 2 rfl) ?_
  refine xk_allVR (As := [.int 0, .int 2]) (rest := []) (H0 := s.heap) (pc := 3) hx hb hml hts hown hK hA hP hD hS (kzU_findSection_0_2 l G ac ad g0) vfzU_174 0 rfl rfl ⟨rfl, rfl⟩ ⟨Nat.le_of_ble_eq_true rfl, Nat.le_of_ble_eq_true rfl⟩ rfl hl.1 rfl (Nat.le_of_ble_eq_true rfl) ⟨Nat.zero_le _, Nat.zero_le _⟩ dzU_confirm_3 (fun H locs hP hD hS => ?_)
  have hP : va_P G xk_cls (xk_wU ad ac g0) H := hP
  have hD : va_D A (xk_wU ad ac g0) := hD
  refine lv_astore (lv' := [(4, .ref (ad 21)), (0, .ref (ad 0)), (1, .int 0), (2, .int 2), (3, .int k2)]) (pc := 6) hx hb dzU_confirm_6 hl (by decide) rfl (fun ls hl => ?_)
  refine lv_iload_n (pc := 8) hx hb dzU_confirm_8 rfl (lv_at hl 4 rfl) ?_
  refine xk_callSV (As := [.int k2]) (rest := []) (H0 := s.heap) (pc := 9) hx hb hml hts hown hK hA hP hD hS (kzU_checkPerson l G ac k2 hw) sfzU_178 [] (by decide) rfl (fun _ => rfl) ⟨rfl, rfl⟩ ⟨Nat.le_of_ble_eq_true rfl, Nat.le_of_ble_eq_true rfl⟩ rfl hl.1 rfl (Nat.le_of_ble_eq_true rfl) ⟨Nat.zero_le _, Nat.zero_le _⟩ dzU_confirm_9 (fun u9 H locs e9 hP hD hS => ?_)
  have hP : va_P G xk_cls (xk_wU ad ac g0) H := hP
  have hD : va_D A (xk_wU ad ac g0) := hD
  refine lv_aload (pc := 12) hx hb dzU_confirm_12 (lv_at hl 0 rfl) ?_
  refine xk_get (pc := 14) hx hb hts hown hK hP ffzU_189 21 rfl rfl dzU_confirm_14 ?_
  refine lv_if_eq (pc := 17) (tgt := 29) hx hb dzU_confirm_17 (by decide) (fun _ => ?_) (fun hq9 => absurd h01 hq9)
  exact xt_throw (pc := 29) (ln := 2) (is := 192) (tx := "someone else has to have asked") (rest := []) hx hb hst (by rw [hml]; exact hl.1.symm) hown hlocks hout hX hend hP hS (by decide +kernel) (by decide +kernel) (by decide +kernel) xbIS_0 xbIS_1 xbIS_2 xbIS_5 (hts _ xk_m318) (hts _ xk_m59) (xaIS hts) (by decide) (by decide) dzU_confirm_29 dzU_confirm_32 (Or.inl ⟨rfl, dzU_confirm_33⟩) dzU_confirm_35 dzU_confirm_38 (Nat.le_of_ble_eq_true rfl) (Nat.le_of_ble_eq_true rfl) (Nat.le_of_ble_eq_true rfl) (Nat.le_of_ble_eq_true rfl)

set_option maxHeartbeats 4000000 in
set_option maxRecDepth 100000 in
theorem xzU_confirm_na02_b (l : Launch) (hst : l.stackTraces = false) (G : va_G) (ac : Nat → ClassId) (ad : Nat → Nat) (g0 : xk_St) (k2 : Int32) (hw : 0 < k2) (h01 : ¬ (g0 21 4) = 0) (h02 : (g0 21 4) = k2) : xt_C l yzU_confirm czU_confirm 5 (some .boolean) xk_WS xt_r2 G xk_cls (xk_tys ac) RzU xk_tx xk_ex [.ref (ad 0), .int 0, .int 2, .int k2] (xk_wU ad ac g0) "java/lang/IllegalStateException" := by
  refine xt_of (by decide) (Nat.le_of_ble_eq_true rfl) ?_
  intro p e s m args below meth c A Q H locs ls C0 hlocks hout hX hend hP hD hS hl
  obtain ⟨hx, hb, hml, hts, hown, hK, hA⟩ := C0
  have hl : lv_has ls 5 [(0, .ref (ad 0)), (1, .int 0), (2, .int 2), (3, .int k2)] := hl
  refine lv_aload_n (pc := 0) hx hb dzU_confirm_0 rfl (lv_at hl 0 rfl) ?_
  refine lv_iload_n (pc := 1) hx hb dzU_confirm_1 rfl (lv_at hl 1 rfl) ?_
  refine lv_iload_n (pc := 2) hx hb dzU_confirm_2 rfl (lv_at hl 2 rfl) ?_
  refine xk_allVR (As := [.int 0, .int 2]) (rest := []) (H0 := s.heap) (pc := 3) hx hb hml hts hown hK hA hP hD hS (kzU_findSection_0_2 l G ac ad g0) vfzU_174 0 rfl rfl ⟨rfl, rfl⟩ ⟨Nat.le_of_ble_eq_true rfl, Nat.le_of_ble_eq_true rfl⟩ rfl hl.1 rfl (Nat.le_of_ble_eq_true rfl) ⟨Nat.zero_le _, Nat.zero_le _⟩ dzU_confirm_3 (fun H locs hP hD hS => ?_)
  have hP : va_P G xk_cls (xk_wU ad ac g0) H := hP
  have hD : va_D A (xk_wU ad ac g0) := hD
  refine lv_astore (lv' := [(4, .ref (ad 21)), (0, .ref (ad 0)), (1, .int 0), (2, .int 2), (3, .int k2)]) (pc := 6) hx hb dzU_confirm_6 hl (by decide) rfl (fun ls hl => ?_)
  refine lv_iload_n (pc := 8) hx hb dzU_confirm_8 rfl (lv_at hl 4 rfl) ?_
  refine xk_callSV (As := [.int k2]) (rest := []) (H0 := s.heap) (pc := 9) hx hb hml hts hown hK hA hP hD hS (kzU_checkPerson l G ac k2 hw) sfzU_178 [] (by decide) rfl (fun _ => rfl) ⟨rfl, rfl⟩ ⟨Nat.le_of_ble_eq_true rfl, Nat.le_of_ble_eq_true rfl⟩ rfl hl.1 rfl (Nat.le_of_ble_eq_true rfl) ⟨Nat.zero_le _, Nat.zero_le _⟩ dzU_confirm_9 (fun u9 H locs e9 hP hD hS => ?_)
  have hP : va_P G xk_cls (xk_wU ad ac g0) H := hP
  have hD : va_D A (xk_wU ad ac g0) := hD
  refine lv_aload (pc := 12) hx hb dzU_confirm_12 (lv_at hl 0 rfl) ?_
  refine xk_get (pc := 14) hx hb hts hown hK hP ffzU_189 21 rfl rfl dzU_confirm_14 ?_
  refine lv_if_eq (pc := 17) (tgt := 29) hx hb dzU_confirm_17 (by decide) (fun hq9 => absurd hq9 h01) (fun _ => ?_)
  refine lv_aload (pc := 20) hx hb dzU_confirm_20 (lv_at hl 0 rfl) ?_
  refine xk_get (pc := 22) hx hb hts hown hK hP ffzU_189 21 rfl rfl dzU_confirm_22 ?_
  refine lv_iload_n (pc := 25) hx hb dzU_confirm_25 rfl (lv_at hl 4 rfl) ?_
  refine lv_icmp_ne (pc := 26) (tgt := 39) hx hb dzU_confirm_26 (by decide) (fun hq9 => absurd h02 hq9) (fun _ => ?_)
  exact xt_throw (pc := 29) (ln := 2) (is := 192) (tx := "someone else has to have asked") (rest := []) hx hb hst (by rw [hml]; exact hl.1.symm) hown hlocks hout hX hend hP hS (by decide +kernel) (by decide +kernel) (by decide +kernel) xbIS_0 xbIS_1 xbIS_2 xbIS_5 (hts _ xk_m318) (hts _ xk_m59) (xaIS hts) (by decide) (by decide) dzU_confirm_29 dzU_confirm_32 (Or.inl ⟨rfl, dzU_confirm_33⟩) dzU_confirm_35 dzU_confirm_38 (Nat.le_of_ble_eq_true rfl) (Nat.le_of_ble_eq_true rfl) (Nat.le_of_ble_eq_true rfl) (Nat.le_of_ble_eq_true rfl)

theorem xzU_confirm_na02 (l : Launch) (hst : l.stackTraces = false) (G : va_G) (ac : Nat → ClassId) (ad : Nat → Nat) (g0 : xk_St) (k2 : Int32) (hw : 0 < k2) (hna : (g0 21 4) = 0 ∨ (g0 21 4) = k2) : xt_C l yzU_confirm czU_confirm 5 (some .boolean) xk_WS xt_r2 G xk_cls (xk_tys ac) RzU xk_tx xk_ex [.ref (ad 0), .int 0, .int 2, .int k2] (xk_wU ad ac g0) "java/lang/IllegalStateException" := by
  by_cases h01 : (g0 21 4) = 0
  · exact xzU_confirm_na02_n l hst G ac ad g0 k2 hw h01
  · exact xzU_confirm_na02_b l hst G ac ad g0 k2 hw h01 (hna.resolve_left h01)

set_option maxHeartbeats 4000000 in
set_option maxRecDepth 100000 in
theorem xzU_ask_nd10 (l : Launch) (hst : l.stackTraces = false) (G : va_G) (ac : Nat → ClassId) (ad : Nat → Nat) (g0 : xk_St) (k2 : Int32) (hw : 0 < k2) (hd3 : (g0 22 3) = 0) : xt_C l yzU_ask czU_ask 5 none xk_WS xt_r2 G xk_cls (xk_tys ac) RzU xk_tx xk_ex [.ref (ad 0), .int 1, .int 0, .int k2] (xk_wU ad ac g0) "java/lang/IllegalStateException" := by
  refine xt_of (by decide) (Nat.le_of_ble_eq_true rfl) ?_
  intro p e s m args below meth c A Q H locs ls C0 hlocks hout hX hend hP hD hS hl
  obtain ⟨hx, hb, hml, hts, hown, hK, hA⟩ := C0
  have hl : lv_has ls 5 [(0, .ref (ad 0)), (1, .int 1), (2, .int 0), (3, .int k2)] := hl
  refine lv_aload_n (pc := 0) hx hb dzU_ask_0 rfl (lv_at hl 0 rfl) ?_
  refine lv_iload_n (pc := 1) hx hb dzU_ask_1 rfl (lv_at hl 1 rfl) ?_
  refine lv_iload_n (pc := 2) hx hb dzU_ask_2 rfl (lv_at hl 2 rfl) ?_
  refine xk_allVR (As := [.int 1, .int 0]) (rest := []) (H0 := s.heap) (pc := 3) hx hb hml hts hown hK hA hP hD hS (kzU_findSection_1_0 l G ac ad g0) vfzU_174 0 rfl rfl ⟨rfl, rfl⟩ ⟨Nat.le_of_ble_eq_true rfl, Nat.le_of_ble_eq_true rfl⟩ rfl hl.1 rfl (Nat.le_of_ble_eq_true rfl) ⟨Nat.zero_le _, Nat.zero_le _⟩ dzU_ask_3 (fun H locs hP hD hS => ?_)
  have hP : va_P G xk_cls (xk_wU ad ac g0) H := hP
  have hD : va_D A (xk_wU ad ac g0) := hD
  refine lv_astore (lv' := [(4, .ref (ad 22)), (0, .ref (ad 0)), (1, .int 1), (2, .int 0), (3, .int k2)]) (pc := 6) hx hb dzU_ask_6 hl (by decide) rfl (fun ls hl => ?_)
  refine lv_iload_n (pc := 8) hx hb dzU_ask_8 rfl (lv_at hl 4 rfl) ?_
  refine xk_callSV (As := [.int k2]) (rest := []) (H0 := s.heap) (pc := 9) hx hb hml hts hown hK hA hP hD hS (kzU_checkPerson l G ac k2 hw) sfzU_178 [] (by decide) rfl (fun _ => rfl) ⟨rfl, rfl⟩ ⟨Nat.le_of_ble_eq_true rfl, Nat.le_of_ble_eq_true rfl⟩ rfl hl.1 rfl (Nat.le_of_ble_eq_true rfl) ⟨Nat.zero_le _, Nat.zero_le _⟩ dzU_ask_9 (fun u9 H locs e9 hP hD hS => ?_)
  have hP : va_P G xk_cls (xk_wU ad ac g0) H := hP
  have hD : va_D A (xk_wU ad ac g0) := hD
  refine lv_aload (pc := 12) hx hb dzU_ask_12 (lv_at hl 0 rfl) ?_
  refine xk_get (pc := 14) hx hb hts hown hK hP ffzU_181 22 rfl rfl dzU_ask_14 ?_
  refine lv_if_ne (pc := 17) (tgt := 30) hx hb dzU_ask_17 (by decide) (fun hq9 => absurd hd3 hq9) (fun _ => ?_)
  exact xt_throw (pc := 20) (ln := 2) (is := 184) (tx := "the section is not disturbed") (rest := []) hx hb hst (by rw [hml]; exact hl.1.symm) hown hlocks hout hX hend hP hS (by decide +kernel) (by decide +kernel) (by decide +kernel) xbIS_0 xbIS_1 xbIS_2 xbIS_5 (hts _ xk_m318) (hts _ xk_m59) (xaIS hts) (by decide) (by decide) dzU_ask_20 dzU_ask_23 (Or.inl ⟨rfl, dzU_ask_24⟩) dzU_ask_26 dzU_ask_29 (Nat.le_of_ble_eq_true rfl) (Nat.le_of_ble_eq_true rfl) (Nat.le_of_ble_eq_true rfl) (Nat.le_of_ble_eq_true rfl)

set_option maxHeartbeats 4000000 in
set_option maxRecDepth 100000 in
theorem xzU_confirm_na10_n (l : Launch) (hst : l.stackTraces = false) (G : va_G) (ac : Nat → ClassId) (ad : Nat → Nat) (g0 : xk_St) (k2 : Int32) (hw : 0 < k2) (h01 : (g0 22 4) = 0) : xt_C l yzU_confirm czU_confirm 5 (some .boolean) xk_WS xt_r2 G xk_cls (xk_tys ac) RzU xk_tx xk_ex [.ref (ad 0), .int 1, .int 0, .int k2] (xk_wU ad ac g0) "java/lang/IllegalStateException" := by
  refine xt_of (by decide) (Nat.le_of_ble_eq_true rfl) ?_
  intro p e s m args below meth c A Q H locs ls C0 hlocks hout hX hend hP hD hS hl
  obtain ⟨hx, hb, hml, hts, hown, hK, hA⟩ := C0
  have hl : lv_has ls 5 [(0, .ref (ad 0)), (1, .int 1), (2, .int 0), (3, .int k2)] := hl
  refine lv_aload_n (pc := 0) hx hb dzU_confirm_0 rfl (lv_at hl 0 rfl) ?_
  refine lv_iload_n (pc := 1) hx hb dzU_confirm_1 rfl (lv_at hl 1 rfl) ?_
  refine lv_iload_n (pc := 2) hx hb dzU_confirm_2 rfl (lv_at hl 2 rfl) ?_
  refine xk_allVR (As := [.int 1, .int 0]) (rest := []) (H0 := s.heap) (pc := 3) hx hb hml hts hown hK hA hP hD hS (kzU_findSection_1_0 l G ac ad g0) vfzU_174 0 rfl rfl ⟨rfl, rfl⟩ ⟨Nat.le_of_ble_eq_true rfl, Nat.le_of_ble_eq_true rfl⟩ rfl hl.1 rfl (Nat.le_of_ble_eq_true rfl) ⟨Nat.zero_le _, Nat.zero_le _⟩ dzU_confirm_3 (fun H locs hP hD hS => ?_)
  have hP : va_P G xk_cls (xk_wU ad ac g0) H := hP
  have hD : va_D A (xk_wU ad ac g0) := hD
  refine lv_astore (lv' := [(4, .ref (ad 22)), (0, .ref (ad 0)), (1, .int 1), (2, .int 0), (3, .int k2)]) (pc := 6) hx hb dzU_confirm_6 hl (by decide) rfl (fun ls hl => ?_)
  refine lv_iload_n (pc := 8) hx hb dzU_confirm_8 rfl (lv_at hl 4 rfl) ?_
  refine xk_callSV (As := [.int k2]) (rest := []) (H0 := s.heap) (pc := 9) hx hb hml hts hown hK hA hP hD hS (kzU_checkPerson l G ac k2 hw) sfzU_178 [] (by decide) rfl (fun _ => rfl) ⟨rfl, rfl⟩ ⟨Nat.le_of_ble_eq_true rfl, Nat.le_of_ble_eq_true rfl⟩ rfl hl.1 rfl (Nat.le_of_ble_eq_true rfl) ⟨Nat.zero_le _, Nat.zero_le _⟩ dzU_confirm_9 (fun u9 H locs e9 hP hD hS => ?_)
  have hP : va_P G xk_cls (xk_wU ad ac g0) H := hP
  have hD : va_D A (xk_wU ad ac g0) := hD
  refine lv_aload (pc := 12) hx hb dzU_confirm_12 (lv_at hl 0 rfl) ?_
  refine xk_get (pc := 14) hx hb hts hown hK hP ffzU_189 22 rfl rfl dzU_confirm_14 ?_
  refine lv_if_eq (pc := 17) (tgt := 29) hx hb dzU_confirm_17 (by decide) (fun _ => ?_) (fun hq9 => absurd h01 hq9)
  exact xt_throw (pc := 29) (ln := 2) (is := 192) (tx := "someone else has to have asked") (rest := []) hx hb hst (by rw [hml]; exact hl.1.symm) hown hlocks hout hX hend hP hS (by decide +kernel) (by decide +kernel) (by decide +kernel) xbIS_0 xbIS_1 xbIS_2 xbIS_5 (hts _ xk_m318) (hts _ xk_m59) (xaIS hts) (by decide) (by decide) dzU_confirm_29 dzU_confirm_32 (Or.inl ⟨rfl, dzU_confirm_33⟩) dzU_confirm_35 dzU_confirm_38 (Nat.le_of_ble_eq_true rfl) (Nat.le_of_ble_eq_true rfl) (Nat.le_of_ble_eq_true rfl) (Nat.le_of_ble_eq_true rfl)

set_option maxHeartbeats 4000000 in
set_option maxRecDepth 100000 in
theorem xzU_confirm_na10_b (l : Launch) (hst : l.stackTraces = false) (G : va_G) (ac : Nat → ClassId) (ad : Nat → Nat) (g0 : xk_St) (k2 : Int32) (hw : 0 < k2) (h01 : ¬ (g0 22 4) = 0) (h02 : (g0 22 4) = k2) : xt_C l yzU_confirm czU_confirm 5 (some .boolean) xk_WS xt_r2 G xk_cls (xk_tys ac) RzU xk_tx xk_ex [.ref (ad 0), .int 1, .int 0, .int k2] (xk_wU ad ac g0) "java/lang/IllegalStateException" := by
  refine xt_of (by decide) (Nat.le_of_ble_eq_true rfl) ?_
  intro p e s m args below meth c A Q H locs ls C0 hlocks hout hX hend hP hD hS hl
  obtain ⟨hx, hb, hml, hts, hown, hK, hA⟩ := C0
  have hl : lv_has ls 5 [(0, .ref (ad 0)), (1, .int 1), (2, .int 0), (3, .int k2)] := hl
  refine lv_aload_n (pc := 0) hx hb dzU_confirm_0 rfl (lv_at hl 0 rfl) ?_
  refine lv_iload_n (pc := 1) hx hb dzU_confirm_1 rfl (lv_at hl 1 rfl) ?_
  refine lv_iload_n (pc := 2) hx hb dzU_confirm_2 rfl (lv_at hl 2 rfl) ?_
  refine xk_allVR (As := [.int 1, .int 0]) (rest := []) (H0 := s.heap) (pc := 3) hx hb hml hts hown hK hA hP hD hS (kzU_findSection_1_0 l G ac ad g0) vfzU_174 0 rfl rfl ⟨rfl, rfl⟩ ⟨Nat.le_of_ble_eq_true rfl, Nat.le_of_ble_eq_true rfl⟩ rfl hl.1 rfl (Nat.le_of_ble_eq_true rfl) ⟨Nat.zero_le _, Nat.zero_le _⟩ dzU_confirm_3 (fun H locs hP hD hS => ?_)
  have hP : va_P G xk_cls (xk_wU ad ac g0) H := hP
  have hD : va_D A (xk_wU ad ac g0) := hD
  refine lv_astore (lv' := [(4, .ref (ad 22)), (0, .ref (ad 0)), (1, .int 1), (2, .int 0), (3, .int k2)]) (pc := 6) hx hb dzU_confirm_6 hl (by decide) rfl (fun ls hl => ?_)
  refine lv_iload_n (pc := 8) hx hb dzU_confirm_8 rfl (lv_at hl 4 rfl) ?_
  refine xk_callSV (As := [.int k2]) (rest := []) (H0 := s.heap) (pc := 9) hx hb hml hts hown hK hA hP hD hS (kzU_checkPerson l G ac k2 hw) sfzU_178 [] (by decide) rfl (fun _ => rfl) ⟨rfl, rfl⟩ ⟨Nat.le_of_ble_eq_true rfl, Nat.le_of_ble_eq_true rfl⟩ rfl hl.1 rfl (Nat.le_of_ble_eq_true rfl) ⟨Nat.zero_le _, Nat.zero_le _⟩ dzU_confirm_9 (fun u9 H locs e9 hP hD hS => ?_)
  have hP : va_P G xk_cls (xk_wU ad ac g0) H := hP
  have hD : va_D A (xk_wU ad ac g0) := hD
  refine lv_aload (pc := 12) hx hb dzU_confirm_12 (lv_at hl 0 rfl) ?_
  refine xk_get (pc := 14) hx hb hts hown hK hP ffzU_189 22 rfl rfl dzU_confirm_14 ?_
  refine lv_if_eq (pc := 17) (tgt := 29) hx hb dzU_confirm_17 (by decide) (fun hq9 => absurd hq9 h01) (fun _ => ?_)
  refine lv_aload (pc := 20) hx hb dzU_confirm_20 (lv_at hl 0 rfl) ?_
  refine xk_get (pc := 22) hx hb hts hown hK hP ffzU_189 22 rfl rfl dzU_confirm_22 ?_
  refine lv_iload_n (pc := 25) hx hb dzU_confirm_25 rfl (lv_at hl 4 rfl) ?_
  refine lv_icmp_ne (pc := 26) (tgt := 39) hx hb dzU_confirm_26 (by decide) (fun hq9 => absurd h02 hq9) (fun _ => ?_)
  exact xt_throw (pc := 29) (ln := 2) (is := 192) (tx := "someone else has to have asked") (rest := []) hx hb hst (by rw [hml]; exact hl.1.symm) hown hlocks hout hX hend hP hS (by decide +kernel) (by decide +kernel) (by decide +kernel) xbIS_0 xbIS_1 xbIS_2 xbIS_5 (hts _ xk_m318) (hts _ xk_m59) (xaIS hts) (by decide) (by decide) dzU_confirm_29 dzU_confirm_32 (Or.inl ⟨rfl, dzU_confirm_33⟩) dzU_confirm_35 dzU_confirm_38 (Nat.le_of_ble_eq_true rfl) (Nat.le_of_ble_eq_true rfl) (Nat.le_of_ble_eq_true rfl) (Nat.le_of_ble_eq_true rfl)

theorem xzU_confirm_na10 (l : Launch) (hst : l.stackTraces = false) (G : va_G) (ac : Nat → ClassId) (ad : Nat → Nat) (g0 : xk_St) (k2 : Int32) (hw : 0 < k2) (hna : (g0 22 4) = 0 ∨ (g0 22 4) = k2) : xt_C l yzU_confirm czU_confirm 5 (some .boolean) xk_WS xt_r2 G xk_cls (xk_tys ac) RzU xk_tx xk_ex [.ref (ad 0), .int 1, .int 0, .int k2] (xk_wU ad ac g0) "java/lang/IllegalStateException" := by
  by_cases h01 : (g0 22 4) = 0
  · exact xzU_confirm_na10_n l hst G ac ad g0 k2 hw h01
  · exact xzU_confirm_na10_b l hst G ac ad g0 k2 hw h01 (hna.resolve_left h01)

set_option maxHeartbeats 4000000 in
set_option maxRecDepth 100000 in
theorem xzU_ask_nd11 (l : Launch) (hst : l.stackTraces = false) (G : va_G) (ac : Nat → ClassId) (ad : Nat → Nat) (g0 : xk_St) (k2 : Int32) (hw : 0 < k2) (hd3 : (g0 23 3) = 0) : xt_C l yzU_ask czU_ask 5 none xk_WS xt_r2 G xk_cls (xk_tys ac) RzU xk_tx xk_ex [.ref (ad 0), .int 1, .int 1, .int k2] (xk_wU ad ac g0) "java/lang/IllegalStateException" := by
  refine xt_of (by decide) (Nat.le_of_ble_eq_true rfl) ?_
  intro p e s m args below meth c A Q H locs ls C0 hlocks hout hX hend hP hD hS hl
  obtain ⟨hx, hb, hml, hts, hown, hK, hA⟩ := C0
  have hl : lv_has ls 5 [(0, .ref (ad 0)), (1, .int 1), (2, .int 1), (3, .int k2)] := hl
  refine lv_aload_n (pc := 0) hx hb dzU_ask_0 rfl (lv_at hl 0 rfl) ?_
  refine lv_iload_n (pc := 1) hx hb dzU_ask_1 rfl (lv_at hl 1 rfl) ?_
  refine lv_iload_n (pc := 2) hx hb dzU_ask_2 rfl (lv_at hl 2 rfl) ?_
  refine xk_allVR (As := [.int 1, .int 1]) (rest := []) (H0 := s.heap) (pc := 3) hx hb hml hts hown hK hA hP hD hS (kzU_findSection_1_1 l G ac ad g0) vfzU_174 0 rfl rfl ⟨rfl, rfl⟩ ⟨Nat.le_of_ble_eq_true rfl, Nat.le_of_ble_eq_true rfl⟩ rfl hl.1 rfl (Nat.le_of_ble_eq_true rfl) ⟨Nat.zero_le _, Nat.zero_le _⟩ dzU_ask_3 (fun H locs hP hD hS => ?_)
  have hP : va_P G xk_cls (xk_wU ad ac g0) H := hP
  have hD : va_D A (xk_wU ad ac g0) := hD
  refine lv_astore (lv' := [(4, .ref (ad 23)), (0, .ref (ad 0)), (1, .int 1), (2, .int 1), (3, .int k2)]) (pc := 6) hx hb dzU_ask_6 hl (by decide) rfl (fun ls hl => ?_)
  refine lv_iload_n (pc := 8) hx hb dzU_ask_8 rfl (lv_at hl 4 rfl) ?_
  refine xk_callSV (As := [.int k2]) (rest := []) (H0 := s.heap) (pc := 9) hx hb hml hts hown hK hA hP hD hS (kzU_checkPerson l G ac k2 hw) sfzU_178 [] (by decide) rfl (fun _ => rfl) ⟨rfl, rfl⟩ ⟨Nat.le_of_ble_eq_true rfl, Nat.le_of_ble_eq_true rfl⟩ rfl hl.1 rfl (Nat.le_of_ble_eq_true rfl) ⟨Nat.zero_le _, Nat.zero_le _⟩ dzU_ask_9 (fun u9 H locs e9 hP hD hS => ?_)
  have hP : va_P G xk_cls (xk_wU ad ac g0) H := hP
  have hD : va_D A (xk_wU ad ac g0) := hD
  refine lv_aload (pc := 12) hx hb dzU_ask_12 (lv_at hl 0 rfl) ?_
  refine xk_get (pc := 14) hx hb hts hown hK hP ffzU_181 23 rfl rfl dzU_ask_14 ?_
  refine lv_if_ne (pc := 17) (tgt := 30) hx hb dzU_ask_17 (by decide) (fun hq9 => absurd hd3 hq9) (fun _ => ?_)
  exact xt_throw (pc := 20) (ln := 2) (is := 184) (tx := "the section is not disturbed") (rest := []) hx hb hst (by rw [hml]; exact hl.1.symm) hown hlocks hout hX hend hP hS (by decide +kernel) (by decide +kernel) (by decide +kernel) xbIS_0 xbIS_1 xbIS_2 xbIS_5 (hts _ xk_m318) (hts _ xk_m59) (xaIS hts) (by decide) (by decide) dzU_ask_20 dzU_ask_23 (Or.inl ⟨rfl, dzU_ask_24⟩) dzU_ask_26 dzU_ask_29 (Nat.le_of_ble_eq_true rfl) (Nat.le_of_ble_eq_true rfl) (Nat.le_of_ble_eq_true rfl) (Nat.le_of_ble_eq_true rfl)

set_option maxHeartbeats 4000000 in
set_option maxRecDepth 100000 in
theorem xzU_confirm_na11_n (l : Launch) (hst : l.stackTraces = false) (G : va_G) (ac : Nat → ClassId) (ad : Nat → Nat) (g0 : xk_St) (k2 : Int32) (hw : 0 < k2) (h01 : (g0 23 4) = 0) : xt_C l yzU_confirm czU_confirm 5 (some .boolean) xk_WS xt_r2 G xk_cls (xk_tys ac) RzU xk_tx xk_ex [.ref (ad 0), .int 1, .int 1, .int k2] (xk_wU ad ac g0) "java/lang/IllegalStateException" := by
  refine xt_of (by decide) (Nat.le_of_ble_eq_true rfl) ?_
  intro p e s m args below meth c A Q H locs ls C0 hlocks hout hX hend hP hD hS hl
  obtain ⟨hx, hb, hml, hts, hown, hK, hA⟩ := C0
  have hl : lv_has ls 5 [(0, .ref (ad 0)), (1, .int 1), (2, .int 1), (3, .int k2)] := hl
  refine lv_aload_n (pc := 0) hx hb dzU_confirm_0 rfl (lv_at hl 0 rfl) ?_
  refine lv_iload_n (pc := 1) hx hb dzU_confirm_1 rfl (lv_at hl 1 rfl) ?_
  refine lv_iload_n (pc := 2) hx hb dzU_confirm_2 rfl (lv_at hl 2 rfl) ?_
  refine xk_allVR (As := [.int 1, .int 1]) (rest := []) (H0 := s.heap) (pc := 3) hx hb hml hts hown hK hA hP hD hS (kzU_findSection_1_1 l G ac ad g0) vfzU_174 0 rfl rfl ⟨rfl, rfl⟩ ⟨Nat.le_of_ble_eq_true rfl, Nat.le_of_ble_eq_true rfl⟩ rfl hl.1 rfl (Nat.le_of_ble_eq_true rfl) ⟨Nat.zero_le _, Nat.zero_le _⟩ dzU_confirm_3 (fun H locs hP hD hS => ?_)
  have hP : va_P G xk_cls (xk_wU ad ac g0) H := hP
  have hD : va_D A (xk_wU ad ac g0) := hD
  refine lv_astore (lv' := [(4, .ref (ad 23)), (0, .ref (ad 0)), (1, .int 1), (2, .int 1), (3, .int k2)]) (pc := 6) hx hb dzU_confirm_6 hl (by decide) rfl (fun ls hl => ?_)
  refine lv_iload_n (pc := 8) hx hb dzU_confirm_8 rfl (lv_at hl 4 rfl) ?_
  refine xk_callSV (As := [.int k2]) (rest := []) (H0 := s.heap) (pc := 9) hx hb hml hts hown hK hA hP hD hS (kzU_checkPerson l G ac k2 hw) sfzU_178 [] (by decide) rfl (fun _ => rfl) ⟨rfl, rfl⟩ ⟨Nat.le_of_ble_eq_true rfl, Nat.le_of_ble_eq_true rfl⟩ rfl hl.1 rfl (Nat.le_of_ble_eq_true rfl) ⟨Nat.zero_le _, Nat.zero_le _⟩ dzU_confirm_9 (fun u9 H locs e9 hP hD hS => ?_)
  have hP : va_P G xk_cls (xk_wU ad ac g0) H := hP
  have hD : va_D A (xk_wU ad ac g0) := hD
  refine lv_aload (pc := 12) hx hb dzU_confirm_12 (lv_at hl 0 rfl) ?_
  refine xk_get (pc := 14) hx hb hts hown hK hP ffzU_189 23 rfl rfl dzU_confirm_14 ?_
  refine lv_if_eq (pc := 17) (tgt := 29) hx hb dzU_confirm_17 (by decide) (fun _ => ?_) (fun hq9 => absurd h01 hq9)
  exact xt_throw (pc := 29) (ln := 2) (is := 192) (tx := "someone else has to have asked") (rest := []) hx hb hst (by rw [hml]; exact hl.1.symm) hown hlocks hout hX hend hP hS (by decide +kernel) (by decide +kernel) (by decide +kernel) xbIS_0 xbIS_1 xbIS_2 xbIS_5 (hts _ xk_m318) (hts _ xk_m59) (xaIS hts) (by decide) (by decide) dzU_confirm_29 dzU_confirm_32 (Or.inl ⟨rfl, dzU_confirm_33⟩) dzU_confirm_35 dzU_confirm_38 (Nat.le_of_ble_eq_true rfl) (Nat.le_of_ble_eq_true rfl) (Nat.le_of_ble_eq_true rfl) (Nat.le_of_ble_eq_true rfl)

set_option maxHeartbeats 4000000 in
set_option maxRecDepth 100000 in
theorem xzU_confirm_na11_b (l : Launch) (hst : l.stackTraces = false) (G : va_G) (ac : Nat → ClassId) (ad : Nat → Nat) (g0 : xk_St) (k2 : Int32) (hw : 0 < k2) (h01 : ¬ (g0 23 4) = 0) (h02 : (g0 23 4) = k2) : xt_C l yzU_confirm czU_confirm 5 (some .boolean) xk_WS xt_r2 G xk_cls (xk_tys ac) RzU xk_tx xk_ex [.ref (ad 0), .int 1, .int 1, .int k2] (xk_wU ad ac g0) "java/lang/IllegalStateException" := by
  refine xt_of (by decide) (Nat.le_of_ble_eq_true rfl) ?_
  intro p e s m args below meth c A Q H locs ls C0 hlocks hout hX hend hP hD hS hl
  obtain ⟨hx, hb, hml, hts, hown, hK, hA⟩ := C0
  have hl : lv_has ls 5 [(0, .ref (ad 0)), (1, .int 1), (2, .int 1), (3, .int k2)] := hl
  refine lv_aload_n (pc := 0) hx hb dzU_confirm_0 rfl (lv_at hl 0 rfl) ?_
  refine lv_iload_n (pc := 1) hx hb dzU_confirm_1 rfl (lv_at hl 1 rfl) ?_
  refine lv_iload_n (pc := 2) hx hb dzU_confirm_2 rfl (lv_at hl 2 rfl) ?_
  refine xk_allVR (As := [.int 1, .int 1]) (rest := []) (H0 := s.heap) (pc := 3) hx hb hml hts hown hK hA hP hD hS (kzU_findSection_1_1 l G ac ad g0) vfzU_174 0 rfl rfl ⟨rfl, rfl⟩ ⟨Nat.le_of_ble_eq_true rfl, Nat.le_of_ble_eq_true rfl⟩ rfl hl.1 rfl (Nat.le_of_ble_eq_true rfl) ⟨Nat.zero_le _, Nat.zero_le _⟩ dzU_confirm_3 (fun H locs hP hD hS => ?_)
  have hP : va_P G xk_cls (xk_wU ad ac g0) H := hP
  have hD : va_D A (xk_wU ad ac g0) := hD
  refine lv_astore (lv' := [(4, .ref (ad 23)), (0, .ref (ad 0)), (1, .int 1), (2, .int 1), (3, .int k2)]) (pc := 6) hx hb dzU_confirm_6 hl (by decide) rfl (fun ls hl => ?_)
  refine lv_iload_n (pc := 8) hx hb dzU_confirm_8 rfl (lv_at hl 4 rfl) ?_
  refine xk_callSV (As := [.int k2]) (rest := []) (H0 := s.heap) (pc := 9) hx hb hml hts hown hK hA hP hD hS (kzU_checkPerson l G ac k2 hw) sfzU_178 [] (by decide) rfl (fun _ => rfl) ⟨rfl, rfl⟩ ⟨Nat.le_of_ble_eq_true rfl, Nat.le_of_ble_eq_true rfl⟩ rfl hl.1 rfl (Nat.le_of_ble_eq_true rfl) ⟨Nat.zero_le _, Nat.zero_le _⟩ dzU_confirm_9 (fun u9 H locs e9 hP hD hS => ?_)
  have hP : va_P G xk_cls (xk_wU ad ac g0) H := hP
  have hD : va_D A (xk_wU ad ac g0) := hD
  refine lv_aload (pc := 12) hx hb dzU_confirm_12 (lv_at hl 0 rfl) ?_
  refine xk_get (pc := 14) hx hb hts hown hK hP ffzU_189 23 rfl rfl dzU_confirm_14 ?_
  refine lv_if_eq (pc := 17) (tgt := 29) hx hb dzU_confirm_17 (by decide) (fun hq9 => absurd hq9 h01) (fun _ => ?_)
  refine lv_aload (pc := 20) hx hb dzU_confirm_20 (lv_at hl 0 rfl) ?_
  refine xk_get (pc := 22) hx hb hts hown hK hP ffzU_189 23 rfl rfl dzU_confirm_22 ?_
  refine lv_iload_n (pc := 25) hx hb dzU_confirm_25 rfl (lv_at hl 4 rfl) ?_
  refine lv_icmp_ne (pc := 26) (tgt := 39) hx hb dzU_confirm_26 (by decide) (fun hq9 => absurd h02 hq9) (fun _ => ?_)
  exact xt_throw (pc := 29) (ln := 2) (is := 192) (tx := "someone else has to have asked") (rest := []) hx hb hst (by rw [hml]; exact hl.1.symm) hown hlocks hout hX hend hP hS (by decide +kernel) (by decide +kernel) (by decide +kernel) xbIS_0 xbIS_1 xbIS_2 xbIS_5 (hts _ xk_m318) (hts _ xk_m59) (xaIS hts) (by decide) (by decide) dzU_confirm_29 dzU_confirm_32 (Or.inl ⟨rfl, dzU_confirm_33⟩) dzU_confirm_35 dzU_confirm_38 (Nat.le_of_ble_eq_true rfl) (Nat.le_of_ble_eq_true rfl) (Nat.le_of_ble_eq_true rfl) (Nat.le_of_ble_eq_true rfl)

theorem xzU_confirm_na11 (l : Launch) (hst : l.stackTraces = false) (G : va_G) (ac : Nat → ClassId) (ad : Nat → Nat) (g0 : xk_St) (k2 : Int32) (hw : 0 < k2) (hna : (g0 23 4) = 0 ∨ (g0 23 4) = k2) : xt_C l yzU_confirm czU_confirm 5 (some .boolean) xk_WS xt_r2 G xk_cls (xk_tys ac) RzU xk_tx xk_ex [.ref (ad 0), .int 1, .int 1, .int k2] (xk_wU ad ac g0) "java/lang/IllegalStateException" := by
  by_cases h01 : (g0 23 4) = 0
  · exact xzU_confirm_na11_n l hst G ac ad g0 k2 hw h01
  · exact xzU_confirm_na11_b l hst G ac ad g0 k2 hw h01 (hna.resolve_left h01)

set_option maxHeartbeats 4000000 in
set_option maxRecDepth 100000 in
theorem xzU_ask_nd12 (l : Launch) (hst : l.stackTraces = false) (G : va_G) (ac : Nat → ClassId) (ad : Nat → Nat) (g0 : xk_St) (k2 : Int32) (hw : 0 < k2) (hd3 : (g0 24 3) = 0) : xt_C l yzU_ask czU_ask 5 none xk_WS xt_r2 G xk_cls (xk_tys ac) RzU xk_tx xk_ex [.ref (ad 0), .int 1, .int 2, .int k2] (xk_wU ad ac g0) "java/lang/IllegalStateException" := by
  refine xt_of (by decide) (Nat.le_of_ble_eq_true rfl) ?_
  intro p e s m args below meth c A Q H locs ls C0 hlocks hout hX hend hP hD hS hl
  obtain ⟨hx, hb, hml, hts, hown, hK, hA⟩ := C0
  have hl : lv_has ls 5 [(0, .ref (ad 0)), (1, .int 1), (2, .int 2), (3, .int k2)] := hl
  refine lv_aload_n (pc := 0) hx hb dzU_ask_0 rfl (lv_at hl 0 rfl) ?_
  refine lv_iload_n (pc := 1) hx hb dzU_ask_1 rfl (lv_at hl 1 rfl) ?_
  refine lv_iload_n (pc := 2) hx hb dzU_ask_2 rfl (lv_at hl 2 rfl) ?_
  refine xk_allVR (As := [.int 1, .int 2]) (rest := []) (H0 := s.heap) (pc := 3) hx hb hml hts hown hK hA hP hD hS (kzU_findSection_1_2 l G ac ad g0) vfzU_174 0 rfl rfl ⟨rfl, rfl⟩ ⟨Nat.le_of_ble_eq_true rfl, Nat.le_of_ble_eq_true rfl⟩ rfl hl.1 rfl (Nat.le_of_ble_eq_true rfl) ⟨Nat.zero_le _, Nat.zero_le _⟩ dzU_ask_3 (fun H locs hP hD hS => ?_)
  have hP : va_P G xk_cls (xk_wU ad ac g0) H := hP
  have hD : va_D A (xk_wU ad ac g0) := hD
  refine lv_astore (lv' := [(4, .ref (ad 24)), (0, .ref (ad 0)), (1, .int 1), (2, .int 2), (3, .int k2)]) (pc := 6) hx hb dzU_ask_6 hl (by decide) rfl (fun ls hl => ?_)
  refine lv_iload_n (pc := 8) hx hb dzU_ask_8 rfl (lv_at hl 4 rfl) ?_
  refine xk_callSV (As := [.int k2]) (rest := []) (H0 := s.heap) (pc := 9) hx hb hml hts hown hK hA hP hD hS (kzU_checkPerson l G ac k2 hw) sfzU_178 [] (by decide) rfl (fun _ => rfl) ⟨rfl, rfl⟩ ⟨Nat.le_of_ble_eq_true rfl, Nat.le_of_ble_eq_true rfl⟩ rfl hl.1 rfl (Nat.le_of_ble_eq_true rfl) ⟨Nat.zero_le _, Nat.zero_le _⟩ dzU_ask_9 (fun u9 H locs e9 hP hD hS => ?_)
  have hP : va_P G xk_cls (xk_wU ad ac g0) H := hP
  have hD : va_D A (xk_wU ad ac g0) := hD
  refine lv_aload (pc := 12) hx hb dzU_ask_12 (lv_at hl 0 rfl) ?_
  refine xk_get (pc := 14) hx hb hts hown hK hP ffzU_181 24 rfl rfl dzU_ask_14 ?_
  refine lv_if_ne (pc := 17) (tgt := 30) hx hb dzU_ask_17 (by decide) (fun hq9 => absurd hd3 hq9) (fun _ => ?_)
  exact xt_throw (pc := 20) (ln := 2) (is := 184) (tx := "the section is not disturbed") (rest := []) hx hb hst (by rw [hml]; exact hl.1.symm) hown hlocks hout hX hend hP hS (by decide +kernel) (by decide +kernel) (by decide +kernel) xbIS_0 xbIS_1 xbIS_2 xbIS_5 (hts _ xk_m318) (hts _ xk_m59) (xaIS hts) (by decide) (by decide) dzU_ask_20 dzU_ask_23 (Or.inl ⟨rfl, dzU_ask_24⟩) dzU_ask_26 dzU_ask_29 (Nat.le_of_ble_eq_true rfl) (Nat.le_of_ble_eq_true rfl) (Nat.le_of_ble_eq_true rfl) (Nat.le_of_ble_eq_true rfl)

set_option maxHeartbeats 4000000 in
set_option maxRecDepth 100000 in
theorem xzU_confirm_na12_n (l : Launch) (hst : l.stackTraces = false) (G : va_G) (ac : Nat → ClassId) (ad : Nat → Nat) (g0 : xk_St) (k2 : Int32) (hw : 0 < k2) (h01 : (g0 24 4) = 0) : xt_C l yzU_confirm czU_confirm 5 (some .boolean) xk_WS xt_r2 G xk_cls (xk_tys ac) RzU xk_tx xk_ex [.ref (ad 0), .int 1, .int 2, .int k2] (xk_wU ad ac g0) "java/lang/IllegalStateException" := by
  refine xt_of (by decide) (Nat.le_of_ble_eq_true rfl) ?_
  intro p e s m args below meth c A Q H locs ls C0 hlocks hout hX hend hP hD hS hl
  obtain ⟨hx, hb, hml, hts, hown, hK, hA⟩ := C0
  have hl : lv_has ls 5 [(0, .ref (ad 0)), (1, .int 1), (2, .int 2), (3, .int k2)] := hl
  refine lv_aload_n (pc := 0) hx hb dzU_confirm_0 rfl (lv_at hl 0 rfl) ?_
  refine lv_iload_n (pc := 1) hx hb dzU_confirm_1 rfl (lv_at hl 1 rfl) ?_
  refine lv_iload_n (pc := 2) hx hb dzU_confirm_2 rfl (lv_at hl 2 rfl) ?_
  refine xk_allVR (As := [.int 1, .int 2]) (rest := []) (H0 := s.heap) (pc := 3) hx hb hml hts hown hK hA hP hD hS (kzU_findSection_1_2 l G ac ad g0) vfzU_174 0 rfl rfl ⟨rfl, rfl⟩ ⟨Nat.le_of_ble_eq_true rfl, Nat.le_of_ble_eq_true rfl⟩ rfl hl.1 rfl (Nat.le_of_ble_eq_true rfl) ⟨Nat.zero_le _, Nat.zero_le _⟩ dzU_confirm_3 (fun H locs hP hD hS => ?_)
  have hP : va_P G xk_cls (xk_wU ad ac g0) H := hP
  have hD : va_D A (xk_wU ad ac g0) := hD
  refine lv_astore (lv' := [(4, .ref (ad 24)), (0, .ref (ad 0)), (1, .int 1), (2, .int 2), (3, .int k2)]) (pc := 6) hx hb dzU_confirm_6 hl (by decide) rfl (fun ls hl => ?_)
  refine lv_iload_n (pc := 8) hx hb dzU_confirm_8 rfl (lv_at hl 4 rfl) ?_
  refine xk_callSV (As := [.int k2]) (rest := []) (H0 := s.heap) (pc := 9) hx hb hml hts hown hK hA hP hD hS (kzU_checkPerson l G ac k2 hw) sfzU_178 [] (by decide) rfl (fun _ => rfl) ⟨rfl, rfl⟩ ⟨Nat.le_of_ble_eq_true rfl, Nat.le_of_ble_eq_true rfl⟩ rfl hl.1 rfl (Nat.le_of_ble_eq_true rfl) ⟨Nat.zero_le _, Nat.zero_le _⟩ dzU_confirm_9 (fun u9 H locs e9 hP hD hS => ?_)
  have hP : va_P G xk_cls (xk_wU ad ac g0) H := hP
  have hD : va_D A (xk_wU ad ac g0) := hD
  refine lv_aload (pc := 12) hx hb dzU_confirm_12 (lv_at hl 0 rfl) ?_
  refine xk_get (pc := 14) hx hb hts hown hK hP ffzU_189 24 rfl rfl dzU_confirm_14 ?_
  refine lv_if_eq (pc := 17) (tgt := 29) hx hb dzU_confirm_17 (by decide) (fun _ => ?_) (fun hq9 => absurd h01 hq9)
  exact xt_throw (pc := 29) (ln := 2) (is := 192) (tx := "someone else has to have asked") (rest := []) hx hb hst (by rw [hml]; exact hl.1.symm) hown hlocks hout hX hend hP hS (by decide +kernel) (by decide +kernel) (by decide +kernel) xbIS_0 xbIS_1 xbIS_2 xbIS_5 (hts _ xk_m318) (hts _ xk_m59) (xaIS hts) (by decide) (by decide) dzU_confirm_29 dzU_confirm_32 (Or.inl ⟨rfl, dzU_confirm_33⟩) dzU_confirm_35 dzU_confirm_38 (Nat.le_of_ble_eq_true rfl) (Nat.le_of_ble_eq_true rfl) (Nat.le_of_ble_eq_true rfl) (Nat.le_of_ble_eq_true rfl)

set_option maxHeartbeats 4000000 in
set_option maxRecDepth 100000 in
theorem xzU_confirm_na12_b (l : Launch) (hst : l.stackTraces = false) (G : va_G) (ac : Nat → ClassId) (ad : Nat → Nat) (g0 : xk_St) (k2 : Int32) (hw : 0 < k2) (h01 : ¬ (g0 24 4) = 0) (h02 : (g0 24 4) = k2) : xt_C l yzU_confirm czU_confirm 5 (some .boolean) xk_WS xt_r2 G xk_cls (xk_tys ac) RzU xk_tx xk_ex [.ref (ad 0), .int 1, .int 2, .int k2] (xk_wU ad ac g0) "java/lang/IllegalStateException" := by
  refine xt_of (by decide) (Nat.le_of_ble_eq_true rfl) ?_
  intro p e s m args below meth c A Q H locs ls C0 hlocks hout hX hend hP hD hS hl
  obtain ⟨hx, hb, hml, hts, hown, hK, hA⟩ := C0
  have hl : lv_has ls 5 [(0, .ref (ad 0)), (1, .int 1), (2, .int 2), (3, .int k2)] := hl
  refine lv_aload_n (pc := 0) hx hb dzU_confirm_0 rfl (lv_at hl 0 rfl) ?_
  refine lv_iload_n (pc := 1) hx hb dzU_confirm_1 rfl (lv_at hl 1 rfl) ?_
  refine lv_iload_n (pc := 2) hx hb dzU_confirm_2 rfl (lv_at hl 2 rfl) ?_
  refine xk_allVR (As := [.int 1, .int 2]) (rest := []) (H0 := s.heap) (pc := 3) hx hb hml hts hown hK hA hP hD hS (kzU_findSection_1_2 l G ac ad g0) vfzU_174 0 rfl rfl ⟨rfl, rfl⟩ ⟨Nat.le_of_ble_eq_true rfl, Nat.le_of_ble_eq_true rfl⟩ rfl hl.1 rfl (Nat.le_of_ble_eq_true rfl) ⟨Nat.zero_le _, Nat.zero_le _⟩ dzU_confirm_3 (fun H locs hP hD hS => ?_)
  have hP : va_P G xk_cls (xk_wU ad ac g0) H := hP
  have hD : va_D A (xk_wU ad ac g0) := hD
  refine lv_astore (lv' := [(4, .ref (ad 24)), (0, .ref (ad 0)), (1, .int 1), (2, .int 2), (3, .int k2)]) (pc := 6) hx hb dzU_confirm_6 hl (by decide) rfl (fun ls hl => ?_)
  refine lv_iload_n (pc := 8) hx hb dzU_confirm_8 rfl (lv_at hl 4 rfl) ?_
  refine xk_callSV (As := [.int k2]) (rest := []) (H0 := s.heap) (pc := 9) hx hb hml hts hown hK hA hP hD hS (kzU_checkPerson l G ac k2 hw) sfzU_178 [] (by decide) rfl (fun _ => rfl) ⟨rfl, rfl⟩ ⟨Nat.le_of_ble_eq_true rfl, Nat.le_of_ble_eq_true rfl⟩ rfl hl.1 rfl (Nat.le_of_ble_eq_true rfl) ⟨Nat.zero_le _, Nat.zero_le _⟩ dzU_confirm_9 (fun u9 H locs e9 hP hD hS => ?_)
  have hP : va_P G xk_cls (xk_wU ad ac g0) H := hP
  have hD : va_D A (xk_wU ad ac g0) := hD
  refine lv_aload (pc := 12) hx hb dzU_confirm_12 (lv_at hl 0 rfl) ?_
  refine xk_get (pc := 14) hx hb hts hown hK hP ffzU_189 24 rfl rfl dzU_confirm_14 ?_
  refine lv_if_eq (pc := 17) (tgt := 29) hx hb dzU_confirm_17 (by decide) (fun hq9 => absurd hq9 h01) (fun _ => ?_)
  refine lv_aload (pc := 20) hx hb dzU_confirm_20 (lv_at hl 0 rfl) ?_
  refine xk_get (pc := 22) hx hb hts hown hK hP ffzU_189 24 rfl rfl dzU_confirm_22 ?_
  refine lv_iload_n (pc := 25) hx hb dzU_confirm_25 rfl (lv_at hl 4 rfl) ?_
  refine lv_icmp_ne (pc := 26) (tgt := 39) hx hb dzU_confirm_26 (by decide) (fun hq9 => absurd h02 hq9) (fun _ => ?_)
  exact xt_throw (pc := 29) (ln := 2) (is := 192) (tx := "someone else has to have asked") (rest := []) hx hb hst (by rw [hml]; exact hl.1.symm) hown hlocks hout hX hend hP hS (by decide +kernel) (by decide +kernel) (by decide +kernel) xbIS_0 xbIS_1 xbIS_2 xbIS_5 (hts _ xk_m318) (hts _ xk_m59) (xaIS hts) (by decide) (by decide) dzU_confirm_29 dzU_confirm_32 (Or.inl ⟨rfl, dzU_confirm_33⟩) dzU_confirm_35 dzU_confirm_38 (Nat.le_of_ble_eq_true rfl) (Nat.le_of_ble_eq_true rfl) (Nat.le_of_ble_eq_true rfl) (Nat.le_of_ble_eq_true rfl)

theorem xzU_confirm_na12 (l : Launch) (hst : l.stackTraces = false) (G : va_G) (ac : Nat → ClassId) (ad : Nat → Nat) (g0 : xk_St) (k2 : Int32) (hw : 0 < k2) (hna : (g0 24 4) = 0 ∨ (g0 24 4) = k2) : xt_C l yzU_confirm czU_confirm 5 (some .boolean) xk_WS xt_r2 G xk_cls (xk_tys ac) RzU xk_tx xk_ex [.ref (ad 0), .int 1, .int 2, .int k2] (xk_wU ad ac g0) "java/lang/IllegalStateException" := by
  by_cases h01 : (g0 24 4) = 0
  · exact xzU_confirm_na12_n l hst G ac ad g0 k2 hw h01
  · exact xzU_confirm_na12_b l hst G ac ad g0 k2 hw h01 (hna.resolve_left h01)

set_option maxHeartbeats 4000000 in
set_option maxRecDepth 100000 in
theorem xzU_section_bt (l : Launch) (hst : l.stackTraces = false) (G : va_G) (ac : Nat → ClassId) (ad : Nat → Nat) (g0 : xk_St) (k0 : Int32) (k1 : Int32) (k2 : Int32) (hbt : k0 < 0 ∨ ¬ k0 < 2) : xt_C l yzU_section czU_section 5 (some .int) xk_WS xt_r2 G xk_cls (xk_tys ac) RzU xk_tx xk_ex [.ref (ad 0), .int k0, .int k1, .int k2] (xk_wU ad ac g0) "java/util/NoSuchElementException" := by
  refine xt_of (by decide) (Nat.le_of_ble_eq_true rfl) ?_
  intro p e s m args below meth c A Q H locs ls C0 hlocks hout hX hend hP hD hS hl
  obtain ⟨hx, hb, hml, hts, hown, hK, hA⟩ := C0
  have hl : lv_has ls 5 [(0, .ref (ad 0)), (1, .int k0), (2, .int k1), (3, .int k2)] := hl
  refine lv_aload_n (pc := 0) hx hb dzU_section_0 rfl (lv_at hl 0 rfl) ?_
  refine lv_iload_n (pc := 1) hx hb dzU_section_1 rfl (lv_at hl 1 rfl) ?_
  refine lv_iload_n (pc := 2) hx hb dzU_section_2 rfl (lv_at hl 2 rfl) ?_
  exact xt_pass (xt_runV (As := [.int k0, .int k1]) (rest := []) (pc := 3) hx hb hml hts hown hK hP hD hX hS (xk_freeAll hD hS hA) (xzU_findSection_bt l hst G ac ad g0 k0 k1 hbt) vfzU_174 0 rfl rfl ⟨rfl, rfl⟩ ⟨Nat.le_of_ble_eq_true rfl, Nat.le_of_ble_eq_true rfl⟩ rfl hl.1 rfl (Nat.le_of_ble_eq_true rfl) ⟨Nat.le_of_ble_eq_true rfl, Nat.le_of_ble_eq_true rfl⟩ dzU_section_3) hlocks hout hend hS (xk_freeAll hD hS hA)

set_option maxHeartbeats 4000000 in
set_option maxRecDepth 100000 in
theorem xzU_section_bs0 (l : Launch) (hst : l.stackTraces = false) (G : va_G) (ac : Nat → ClassId) (ad : Nat → Nat) (g0 : xk_St) (k1 : Int32) (k2 : Int32) (hbs : k1 < 0 ∨ ¬ k1 < 3) : xt_C l yzU_section czU_section 5 (some .int) xk_WS xt_r2 G xk_cls (xk_tys ac) RzU xk_tx xk_ex [.ref (ad 0), .int 0, .int k1, .int k2] (xk_wU ad ac g0) "java/util/NoSuchElementException" := by
  refine xt_of (by decide) (Nat.le_of_ble_eq_true rfl) ?_
  intro p e s m args below meth c A Q H locs ls C0 hlocks hout hX hend hP hD hS hl
  obtain ⟨hx, hb, hml, hts, hown, hK, hA⟩ := C0
  have hl : lv_has ls 5 [(0, .ref (ad 0)), (1, .int 0), (2, .int k1), (3, .int k2)] := hl
  refine lv_aload_n (pc := 0) hx hb dzU_section_0 rfl (lv_at hl 0 rfl) ?_
  refine lv_iload_n (pc := 1) hx hb dzU_section_1 rfl (lv_at hl 1 rfl) ?_
  refine lv_iload_n (pc := 2) hx hb dzU_section_2 rfl (lv_at hl 2 rfl) ?_
  exact xt_pass (xt_runV (As := [.int 0, .int k1]) (rest := []) (pc := 3) hx hb hml hts hown hK hP hD hX hS (xk_freeAll hD hS hA) (xzU_findSection_bs0 l hst G ac ad g0 k1 hbs) vfzU_174 0 rfl rfl ⟨rfl, rfl⟩ ⟨Nat.le_of_ble_eq_true rfl, Nat.le_of_ble_eq_true rfl⟩ rfl hl.1 rfl (Nat.le_of_ble_eq_true rfl) ⟨Nat.le_of_ble_eq_true rfl, Nat.le_of_ble_eq_true rfl⟩ dzU_section_3) hlocks hout hend hS (xk_freeAll hD hS hA)

set_option maxHeartbeats 4000000 in
set_option maxRecDepth 100000 in
theorem xzU_section_bq00 (l : Launch) (hst : l.stackTraces = false) (G : va_G) (ac : Nat → ClassId) (ad : Nat → Nat) (g0 : xk_St) (k2 : Int32) (hsw : k2 < 0 ∨ 3 < k2) : xt_C l yzU_section czU_section 5 (some .int) xk_WS xt_r2 G xk_cls (xk_tys ac) RzU xk_tx xk_ex [.ref (ad 0), .int 0, .int 0, .int k2] (xk_wU ad ac g0) "java/lang/IllegalArgumentException" := by
  refine xt_of (by decide) (Nat.le_of_ble_eq_true rfl) ?_
  intro p e s m args below meth c A Q H locs ls C0 hlocks hout hX hend hP hD hS hl
  obtain ⟨hx, hb, hml, hts, hown, hK, hA⟩ := C0
  have hl : lv_has ls 5 [(0, .ref (ad 0)), (1, .int 0), (2, .int 0), (3, .int k2)] := hl
  refine lv_aload_n (pc := 0) hx hb dzU_section_0 rfl (lv_at hl 0 rfl) ?_
  refine lv_iload_n (pc := 1) hx hb dzU_section_1 rfl (lv_at hl 1 rfl) ?_
  refine lv_iload_n (pc := 2) hx hb dzU_section_2 rfl (lv_at hl 2 rfl) ?_
  refine xk_allVR (As := [.int 0, .int 0]) (rest := []) (H0 := s.heap) (pc := 3) hx hb hml hts hown hK hA hP hD hS (kzU_findSection_0_0 l G ac ad g0) vfzU_174 0 rfl rfl ⟨rfl, rfl⟩ ⟨Nat.le_of_ble_eq_true rfl, Nat.le_of_ble_eq_true rfl⟩ rfl hl.1 rfl (Nat.le_of_ble_eq_true rfl) ⟨Nat.zero_le _, Nat.zero_le _⟩ dzU_section_3 (fun H locs hP hD hS => ?_)
  have hP : va_P G xk_cls (xk_wU ad ac g0) H := hP
  have hD : va_D A (xk_wU ad ac g0) := hD
  refine lv_astore (lv' := [(4, .ref (ad 19)), (0, .ref (ad 0)), (1, .int 0), (2, .int 0), (3, .int k2)]) (pc := 6) hx hb dzU_section_6 hl (by decide) rfl (fun ls hl => ?_)
  refine lv_iload_n (pc := 8) hx hb dzU_section_8 rfl (lv_at hl 4 rfl) ?_
  refine lv_tableOut (pc := 9) (tgt := 72) hx hb dzU_section_9 (xk_sw hsw (by decide)) (by decide) ?_
  exact xt_throw (pc := 72) (ln := 2) (is := 210) (tx := "of a section there is 0 to 3") (rest := []) hx hb hst (by rw [hml]; exact hl.1.symm) hown hlocks hout hX hend hP hS (by decide +kernel) (by decide +kernel) (by decide +kernel) xbIA_0 xbIA_1 xbIA_2 xbIA_5 (hts _ xk_m317) (hts _ xk_m58) (xaIA hts) (by decide) (by decide) dzU_section_72 dzU_section_75 (Or.inl ⟨rfl, dzU_section_76⟩) dzU_section_78 dzU_section_81 (Nat.le_of_ble_eq_true rfl) (Nat.le_of_ble_eq_true rfl) (Nat.le_of_ble_eq_true rfl) (Nat.le_of_ble_eq_true rfl)

set_option maxHeartbeats 4000000 in
set_option maxRecDepth 100000 in
theorem xzU_section_bq01 (l : Launch) (hst : l.stackTraces = false) (G : va_G) (ac : Nat → ClassId) (ad : Nat → Nat) (g0 : xk_St) (k2 : Int32) (hsw : k2 < 0 ∨ 3 < k2) : xt_C l yzU_section czU_section 5 (some .int) xk_WS xt_r2 G xk_cls (xk_tys ac) RzU xk_tx xk_ex [.ref (ad 0), .int 0, .int 1, .int k2] (xk_wU ad ac g0) "java/lang/IllegalArgumentException" := by
  refine xt_of (by decide) (Nat.le_of_ble_eq_true rfl) ?_
  intro p e s m args below meth c A Q H locs ls C0 hlocks hout hX hend hP hD hS hl
  obtain ⟨hx, hb, hml, hts, hown, hK, hA⟩ := C0
  have hl : lv_has ls 5 [(0, .ref (ad 0)), (1, .int 0), (2, .int 1), (3, .int k2)] := hl
  refine lv_aload_n (pc := 0) hx hb dzU_section_0 rfl (lv_at hl 0 rfl) ?_
  refine lv_iload_n (pc := 1) hx hb dzU_section_1 rfl (lv_at hl 1 rfl) ?_
  refine lv_iload_n (pc := 2) hx hb dzU_section_2 rfl (lv_at hl 2 rfl) ?_
  refine xk_allVR (As := [.int 0, .int 1]) (rest := []) (H0 := s.heap) (pc := 3) hx hb hml hts hown hK hA hP hD hS (kzU_findSection_0_1 l G ac ad g0) vfzU_174 0 rfl rfl ⟨rfl, rfl⟩ ⟨Nat.le_of_ble_eq_true rfl, Nat.le_of_ble_eq_true rfl⟩ rfl hl.1 rfl (Nat.le_of_ble_eq_true rfl) ⟨Nat.zero_le _, Nat.zero_le _⟩ dzU_section_3 (fun H locs hP hD hS => ?_)
  have hP : va_P G xk_cls (xk_wU ad ac g0) H := hP
  have hD : va_D A (xk_wU ad ac g0) := hD
  refine lv_astore (lv' := [(4, .ref (ad 20)), (0, .ref (ad 0)), (1, .int 0), (2, .int 1), (3, .int k2)]) (pc := 6) hx hb dzU_section_6 hl (by decide) rfl (fun ls hl => ?_)
  refine lv_iload_n (pc := 8) hx hb dzU_section_8 rfl (lv_at hl 4 rfl) ?_
  refine lv_tableOut (pc := 9) (tgt := 72) hx hb dzU_section_9 (xk_sw hsw (by decide)) (by decide) ?_
  exact xt_throw (pc := 72) (ln := 2) (is := 210) (tx := "of a section there is 0 to 3") (rest := []) hx hb hst (by rw [hml]; exact hl.1.symm) hown hlocks hout hX hend hP hS (by decide +kernel) (by decide +kernel) (by decide +kernel) xbIA_0 xbIA_1 xbIA_2 xbIA_5 (hts _ xk_m317) (hts _ xk_m58) (xaIA hts) (by decide) (by decide) dzU_section_72 dzU_section_75 (Or.inl ⟨rfl, dzU_section_76⟩) dzU_section_78 dzU_section_81 (Nat.le_of_ble_eq_true rfl) (Nat.le_of_ble_eq_true rfl) (Nat.le_of_ble_eq_true rfl) (Nat.le_of_ble_eq_true rfl)

set_option maxHeartbeats 4000000 in
set_option maxRecDepth 100000 in
theorem xzU_section_bq02 (l : Launch) (hst : l.stackTraces = false) (G : va_G) (ac : Nat → ClassId) (ad : Nat → Nat) (g0 : xk_St) (k2 : Int32) (hsw : k2 < 0 ∨ 3 < k2) : xt_C l yzU_section czU_section 5 (some .int) xk_WS xt_r2 G xk_cls (xk_tys ac) RzU xk_tx xk_ex [.ref (ad 0), .int 0, .int 2, .int k2] (xk_wU ad ac g0) "java/lang/IllegalArgumentException" := by
  refine xt_of (by decide) (Nat.le_of_ble_eq_true rfl) ?_
  intro p e s m args below meth c A Q H locs ls C0 hlocks hout hX hend hP hD hS hl
  obtain ⟨hx, hb, hml, hts, hown, hK, hA⟩ := C0
  have hl : lv_has ls 5 [(0, .ref (ad 0)), (1, .int 0), (2, .int 2), (3, .int k2)] := hl
  refine lv_aload_n (pc := 0) hx hb dzU_section_0 rfl (lv_at hl 0 rfl) ?_
  refine lv_iload_n (pc := 1) hx hb dzU_section_1 rfl (lv_at hl 1 rfl) ?_
  refine lv_iload_n (pc := 2) hx hb dzU_section_2 rfl (lv_at hl 2 rfl) ?_
  refine xk_allVR (As := [.int 0, .int 2]) (rest := []) (H0 := s.heap) (pc := 3) hx hb hml hts hown hK hA hP hD hS (kzU_findSection_0_2 l G ac ad g0) vfzU_174 0 rfl rfl ⟨rfl, rfl⟩ ⟨Nat.le_of_ble_eq_true rfl, Nat.le_of_ble_eq_true rfl⟩ rfl hl.1 rfl (Nat.le_of_ble_eq_true rfl) ⟨Nat.zero_le _, Nat.zero_le _⟩ dzU_section_3 (fun H locs hP hD hS => ?_)
  have hP : va_P G xk_cls (xk_wU ad ac g0) H := hP
  have hD : va_D A (xk_wU ad ac g0) := hD
  refine lv_astore (lv' := [(4, .ref (ad 21)), (0, .ref (ad 0)), (1, .int 0), (2, .int 2), (3, .int k2)]) (pc := 6) hx hb dzU_section_6 hl (by decide) rfl (fun ls hl => ?_)
  refine lv_iload_n (pc := 8) hx hb dzU_section_8 rfl (lv_at hl 4 rfl) ?_
  refine lv_tableOut (pc := 9) (tgt := 72) hx hb dzU_section_9 (xk_sw hsw (by decide)) (by decide) ?_
  exact xt_throw (pc := 72) (ln := 2) (is := 210) (tx := "of a section there is 0 to 3") (rest := []) hx hb hst (by rw [hml]; exact hl.1.symm) hown hlocks hout hX hend hP hS (by decide +kernel) (by decide +kernel) (by decide +kernel) xbIA_0 xbIA_1 xbIA_2 xbIA_5 (hts _ xk_m317) (hts _ xk_m58) (xaIA hts) (by decide) (by decide) dzU_section_72 dzU_section_75 (Or.inl ⟨rfl, dzU_section_76⟩) dzU_section_78 dzU_section_81 (Nat.le_of_ble_eq_true rfl) (Nat.le_of_ble_eq_true rfl) (Nat.le_of_ble_eq_true rfl) (Nat.le_of_ble_eq_true rfl)

set_option maxHeartbeats 4000000 in
set_option maxRecDepth 100000 in
theorem xzU_section_bs1 (l : Launch) (hst : l.stackTraces = false) (G : va_G) (ac : Nat → ClassId) (ad : Nat → Nat) (g0 : xk_St) (k1 : Int32) (k2 : Int32) (hbs : k1 < 0 ∨ ¬ k1 < 3) : xt_C l yzU_section czU_section 5 (some .int) xk_WS xt_r2 G xk_cls (xk_tys ac) RzU xk_tx xk_ex [.ref (ad 0), .int 1, .int k1, .int k2] (xk_wU ad ac g0) "java/util/NoSuchElementException" := by
  refine xt_of (by decide) (Nat.le_of_ble_eq_true rfl) ?_
  intro p e s m args below meth c A Q H locs ls C0 hlocks hout hX hend hP hD hS hl
  obtain ⟨hx, hb, hml, hts, hown, hK, hA⟩ := C0
  have hl : lv_has ls 5 [(0, .ref (ad 0)), (1, .int 1), (2, .int k1), (3, .int k2)] := hl
  refine lv_aload_n (pc := 0) hx hb dzU_section_0 rfl (lv_at hl 0 rfl) ?_
  refine lv_iload_n (pc := 1) hx hb dzU_section_1 rfl (lv_at hl 1 rfl) ?_
  refine lv_iload_n (pc := 2) hx hb dzU_section_2 rfl (lv_at hl 2 rfl) ?_
  exact xt_pass (xt_runV (As := [.int 1, .int k1]) (rest := []) (pc := 3) hx hb hml hts hown hK hP hD hX hS (xk_freeAll hD hS hA) (xzU_findSection_bs1 l hst G ac ad g0 k1 hbs) vfzU_174 0 rfl rfl ⟨rfl, rfl⟩ ⟨Nat.le_of_ble_eq_true rfl, Nat.le_of_ble_eq_true rfl⟩ rfl hl.1 rfl (Nat.le_of_ble_eq_true rfl) ⟨Nat.le_of_ble_eq_true rfl, Nat.le_of_ble_eq_true rfl⟩ dzU_section_3) hlocks hout hend hS (xk_freeAll hD hS hA)

set_option maxHeartbeats 4000000 in
set_option maxRecDepth 100000 in
theorem xzU_section_bq10 (l : Launch) (hst : l.stackTraces = false) (G : va_G) (ac : Nat → ClassId) (ad : Nat → Nat) (g0 : xk_St) (k2 : Int32) (hsw : k2 < 0 ∨ 3 < k2) : xt_C l yzU_section czU_section 5 (some .int) xk_WS xt_r2 G xk_cls (xk_tys ac) RzU xk_tx xk_ex [.ref (ad 0), .int 1, .int 0, .int k2] (xk_wU ad ac g0) "java/lang/IllegalArgumentException" := by
  refine xt_of (by decide) (Nat.le_of_ble_eq_true rfl) ?_
  intro p e s m args below meth c A Q H locs ls C0 hlocks hout hX hend hP hD hS hl
  obtain ⟨hx, hb, hml, hts, hown, hK, hA⟩ := C0
  have hl : lv_has ls 5 [(0, .ref (ad 0)), (1, .int 1), (2, .int 0), (3, .int k2)] := hl
  refine lv_aload_n (pc := 0) hx hb dzU_section_0 rfl (lv_at hl 0 rfl) ?_
  refine lv_iload_n (pc := 1) hx hb dzU_section_1 rfl (lv_at hl 1 rfl) ?_
  refine lv_iload_n (pc := 2) hx hb dzU_section_2 rfl (lv_at hl 2 rfl) ?_
  refine xk_allVR (As := [.int 1, .int 0]) (rest := []) (H0 := s.heap) (pc := 3) hx hb hml hts hown hK hA hP hD hS (kzU_findSection_1_0 l G ac ad g0) vfzU_174 0 rfl rfl ⟨rfl, rfl⟩ ⟨Nat.le_of_ble_eq_true rfl, Nat.le_of_ble_eq_true rfl⟩ rfl hl.1 rfl (Nat.le_of_ble_eq_true rfl) ⟨Nat.zero_le _, Nat.zero_le _⟩ dzU_section_3 (fun H locs hP hD hS => ?_)
  have hP : va_P G xk_cls (xk_wU ad ac g0) H := hP
  have hD : va_D A (xk_wU ad ac g0) := hD
  refine lv_astore (lv' := [(4, .ref (ad 22)), (0, .ref (ad 0)), (1, .int 1), (2, .int 0), (3, .int k2)]) (pc := 6) hx hb dzU_section_6 hl (by decide) rfl (fun ls hl => ?_)
  refine lv_iload_n (pc := 8) hx hb dzU_section_8 rfl (lv_at hl 4 rfl) ?_
  refine lv_tableOut (pc := 9) (tgt := 72) hx hb dzU_section_9 (xk_sw hsw (by decide)) (by decide) ?_
  exact xt_throw (pc := 72) (ln := 2) (is := 210) (tx := "of a section there is 0 to 3") (rest := []) hx hb hst (by rw [hml]; exact hl.1.symm) hown hlocks hout hX hend hP hS (by decide +kernel) (by decide +kernel) (by decide +kernel) xbIA_0 xbIA_1 xbIA_2 xbIA_5 (hts _ xk_m317) (hts _ xk_m58) (xaIA hts) (by decide) (by decide) dzU_section_72 dzU_section_75 (Or.inl ⟨rfl, dzU_section_76⟩) dzU_section_78 dzU_section_81 (Nat.le_of_ble_eq_true rfl) (Nat.le_of_ble_eq_true rfl) (Nat.le_of_ble_eq_true rfl) (Nat.le_of_ble_eq_true rfl)

set_option maxHeartbeats 4000000 in
set_option maxRecDepth 100000 in
theorem xzU_section_bq11 (l : Launch) (hst : l.stackTraces = false) (G : va_G) (ac : Nat → ClassId) (ad : Nat → Nat) (g0 : xk_St) (k2 : Int32) (hsw : k2 < 0 ∨ 3 < k2) : xt_C l yzU_section czU_section 5 (some .int) xk_WS xt_r2 G xk_cls (xk_tys ac) RzU xk_tx xk_ex [.ref (ad 0), .int 1, .int 1, .int k2] (xk_wU ad ac g0) "java/lang/IllegalArgumentException" := by
  refine xt_of (by decide) (Nat.le_of_ble_eq_true rfl) ?_
  intro p e s m args below meth c A Q H locs ls C0 hlocks hout hX hend hP hD hS hl
  obtain ⟨hx, hb, hml, hts, hown, hK, hA⟩ := C0
  have hl : lv_has ls 5 [(0, .ref (ad 0)), (1, .int 1), (2, .int 1), (3, .int k2)] := hl
  refine lv_aload_n (pc := 0) hx hb dzU_section_0 rfl (lv_at hl 0 rfl) ?_
  refine lv_iload_n (pc := 1) hx hb dzU_section_1 rfl (lv_at hl 1 rfl) ?_
  refine lv_iload_n (pc := 2) hx hb dzU_section_2 rfl (lv_at hl 2 rfl) ?_
  refine xk_allVR (As := [.int 1, .int 1]) (rest := []) (H0 := s.heap) (pc := 3) hx hb hml hts hown hK hA hP hD hS (kzU_findSection_1_1 l G ac ad g0) vfzU_174 0 rfl rfl ⟨rfl, rfl⟩ ⟨Nat.le_of_ble_eq_true rfl, Nat.le_of_ble_eq_true rfl⟩ rfl hl.1 rfl (Nat.le_of_ble_eq_true rfl) ⟨Nat.zero_le _, Nat.zero_le _⟩ dzU_section_3 (fun H locs hP hD hS => ?_)
  have hP : va_P G xk_cls (xk_wU ad ac g0) H := hP
  have hD : va_D A (xk_wU ad ac g0) := hD
  refine lv_astore (lv' := [(4, .ref (ad 23)), (0, .ref (ad 0)), (1, .int 1), (2, .int 1), (3, .int k2)]) (pc := 6) hx hb dzU_section_6 hl (by decide) rfl (fun ls hl => ?_)
  refine lv_iload_n (pc := 8) hx hb dzU_section_8 rfl (lv_at hl 4 rfl) ?_
  refine lv_tableOut (pc := 9) (tgt := 72) hx hb dzU_section_9 (xk_sw hsw (by decide)) (by decide) ?_
  exact xt_throw (pc := 72) (ln := 2) (is := 210) (tx := "of a section there is 0 to 3") (rest := []) hx hb hst (by rw [hml]; exact hl.1.symm) hown hlocks hout hX hend hP hS (by decide +kernel) (by decide +kernel) (by decide +kernel) xbIA_0 xbIA_1 xbIA_2 xbIA_5 (hts _ xk_m317) (hts _ xk_m58) (xaIA hts) (by decide) (by decide) dzU_section_72 dzU_section_75 (Or.inl ⟨rfl, dzU_section_76⟩) dzU_section_78 dzU_section_81 (Nat.le_of_ble_eq_true rfl) (Nat.le_of_ble_eq_true rfl) (Nat.le_of_ble_eq_true rfl) (Nat.le_of_ble_eq_true rfl)

set_option maxHeartbeats 4000000 in
set_option maxRecDepth 100000 in
theorem xzU_section_bq12 (l : Launch) (hst : l.stackTraces = false) (G : va_G) (ac : Nat → ClassId) (ad : Nat → Nat) (g0 : xk_St) (k2 : Int32) (hsw : k2 < 0 ∨ 3 < k2) : xt_C l yzU_section czU_section 5 (some .int) xk_WS xt_r2 G xk_cls (xk_tys ac) RzU xk_tx xk_ex [.ref (ad 0), .int 1, .int 2, .int k2] (xk_wU ad ac g0) "java/lang/IllegalArgumentException" := by
  refine xt_of (by decide) (Nat.le_of_ble_eq_true rfl) ?_
  intro p e s m args below meth c A Q H locs ls C0 hlocks hout hX hend hP hD hS hl
  obtain ⟨hx, hb, hml, hts, hown, hK, hA⟩ := C0
  have hl : lv_has ls 5 [(0, .ref (ad 0)), (1, .int 1), (2, .int 2), (3, .int k2)] := hl
  refine lv_aload_n (pc := 0) hx hb dzU_section_0 rfl (lv_at hl 0 rfl) ?_
  refine lv_iload_n (pc := 1) hx hb dzU_section_1 rfl (lv_at hl 1 rfl) ?_
  refine lv_iload_n (pc := 2) hx hb dzU_section_2 rfl (lv_at hl 2 rfl) ?_
  refine xk_allVR (As := [.int 1, .int 2]) (rest := []) (H0 := s.heap) (pc := 3) hx hb hml hts hown hK hA hP hD hS (kzU_findSection_1_2 l G ac ad g0) vfzU_174 0 rfl rfl ⟨rfl, rfl⟩ ⟨Nat.le_of_ble_eq_true rfl, Nat.le_of_ble_eq_true rfl⟩ rfl hl.1 rfl (Nat.le_of_ble_eq_true rfl) ⟨Nat.zero_le _, Nat.zero_le _⟩ dzU_section_3 (fun H locs hP hD hS => ?_)
  have hP : va_P G xk_cls (xk_wU ad ac g0) H := hP
  have hD : va_D A (xk_wU ad ac g0) := hD
  refine lv_astore (lv' := [(4, .ref (ad 24)), (0, .ref (ad 0)), (1, .int 1), (2, .int 2), (3, .int k2)]) (pc := 6) hx hb dzU_section_6 hl (by decide) rfl (fun ls hl => ?_)
  refine lv_iload_n (pc := 8) hx hb dzU_section_8 rfl (lv_at hl 4 rfl) ?_
  refine lv_tableOut (pc := 9) (tgt := 72) hx hb dzU_section_9 (xk_sw hsw (by decide)) (by decide) ?_
  exact xt_throw (pc := 72) (ln := 2) (is := 210) (tx := "of a section there is 0 to 3") (rest := []) hx hb hst (by rw [hml]; exact hl.1.symm) hown hlocks hout hX hend hP hS (by decide +kernel) (by decide +kernel) (by decide +kernel) xbIA_0 xbIA_1 xbIA_2 xbIA_5 (hts _ xk_m317) (hts _ xk_m58) (xaIA hts) (by decide) (by decide) dzU_section_72 dzU_section_75 (Or.inl ⟨rfl, dzU_section_76⟩) dzU_section_78 dzU_section_81 (Nat.le_of_ble_eq_true rfl) (Nat.le_of_ble_eq_true rfl) (Nat.le_of_ble_eq_true rfl) (Nat.le_of_ble_eq_true rfl)

set_option maxHeartbeats 4000000 in
set_option maxRecDepth 100000 in
theorem xzU_about_bad (l : Launch) (hst : l.stackTraces = false) (G : va_G) (ac : Nat → ClassId) (ad : Nat → Nat) (g0 : xk_St) (k0 : Int32) (hsw : k0 < 0 ∨ 10 < k0) : xt_C l yzU_about czU_about 2 (some .int) xk_WS xt_r0 G xk_cls (xk_tys ac) RzU xk_tx xk_ex [.ref (ad 0), .int k0] (xk_wU ad ac g0) "java/lang/IllegalArgumentException" := by
  refine xt_of (by decide) (Nat.le_of_ble_eq_true rfl) ?_
  intro p e s m args below meth c A Q H locs ls C0 hlocks hout hX hend hP hD hS hl
  obtain ⟨hx, hb, hml, hts, hown, hK, hA⟩ := C0
  have hl : lv_has ls 2 [(0, .ref (ad 0)), (1, .int k0)] := hl
  refine lv_iload_n (pc := 0) hx hb dzU_about_0 rfl (lv_at hl 1 rfl) ?_
  refine lv_tableOut (pc := 1) (tgt := 145) hx hb dzU_about_1 (xk_sw hsw (by decide)) (by decide) ?_
  exact xt_throw (pc := 145) (ln := 2) (is := 248) (tx := "there is 0 to 10 to be asked about") (rest := []) hx hb hst (by rw [hml]; exact hl.1.symm) hown hlocks hout hX hend hP hS (by decide +kernel) (by decide +kernel) (by decide +kernel) xbIA_0 xbIA_1 xbIA_2 xbIA_5 (hts _ xk_m317) (hts _ xk_m58) (xaIA hts) (by decide) (by decide) dzU_about_145 dzU_about_148 (Or.inl ⟨rfl, dzU_about_149⟩) dzU_about_151 dzU_about_154 (Nat.le_of_ble_eq_true rfl) (Nat.le_of_ble_eq_true rfl) (Nat.le_of_ble_eq_true rfl) (Nat.le_of_ble_eq_true rfl)

set_option maxHeartbeats 4000000 in
set_option maxRecDepth 100000 in
theorem xzU_event_bad (l : Launch) (hst : l.stackTraces = false) (G : va_G) (ac : Nat → ClassId) (ad : Nat → Nat) (g0 : xk_St) (k0 : Int32) (k1 : Int32) (hk : (qzJ_keeps (g0 5 3) k0) = 0) : xt_C l yzU_event czU_event 4 (some .int) xk_WS xt_r1 G xk_cls (xk_tys ac) RzU xk_tx xk_ex [.ref (ad 0), .int k0, .int k1] (xk_wU ad ac g0) "java/util/NoSuchElementException" := by
  refine xt_of (by decide) (Nat.le_of_ble_eq_true rfl) ?_
  intro p e s m args below meth c A Q H locs ls C0 hlocks hout hX hend hP hD hS hl
  obtain ⟨hx, hb, hml, hts, hown, hK, hA⟩ := C0
  have hl : lv_has ls 4 [(0, .ref (ad 0)), (1, .int k0), (2, .int k1)] := hl
  refine lv_aload_n (pc := 0) hx hb dzU_event_0 rfl (lv_at hl 0 rfl) ?_
  refine xk_get (pc := 1) hx hb hts hown hK hP ffzU_37 0 rfl rfl dzU_event_1 ?_
  refine lv_iload_n (pc := 4) hx hb dzU_event_4 rfl (lv_at hl 1 rfl) ?_
  refine xk_callVI (As := [.int k0]) (rest := []) (H0 := s.heap) (pc := 5) hx hb hml hts hown hK hA hP hD hS (kzJ_keeps l G ac (ad 5) (ad 6) (ad 7) (ad 8) (g0 5 3) k0) vfzU_250 [5] (by decide) rfl (fun _ => rfl) 5 rfl rfl ⟨rfl, rfl⟩ ⟨Nat.le_of_ble_eq_true rfl, Nat.le_of_ble_eq_true rfl⟩ rfl hl.1 rfl (Nat.le_of_ble_eq_true rfl) ⟨Nat.zero_le _, Nat.zero_le _⟩ dzU_event_5 (fun r1 u9 H locs e9 hP hD hS => ?_)
  obtain rfl : r1 = qzJ_keeps (g0 5 3) k0 := e9
  have hP : va_P G xk_cls (xk_wU ad ac g0) H := hP
  have hD : va_D A (xk_wU ad ac g0) := hD
  refine lv_if_ne (pc := 8) (tgt := 21) hx hb dzU_event_8 (by decide) (fun hq9 => absurd hk hq9) (fun _ => ?_)
  exact xt_throw (pc := 11) (ln := 2) (is := 253) (tx := "no such event is kept") (rest := []) hx hb hst (by rw [hml]; exact hl.1.symm) hown hlocks hout hX hend hP hS (by decide +kernel) (by decide +kernel) (by decide +kernel) xbNS_0 xbNS_1 xbNS_2 xbNS_5 (hts _ xk_m311) (hts _ xk_m57) (xaNS hts) (by decide) (by decide) dzU_event_11 dzU_event_14 (Or.inl ⟨rfl, dzU_event_15⟩) dzU_event_17 dzU_event_20 (Nat.le_of_ble_eq_true rfl) (Nat.le_of_ble_eq_true rfl) (Nat.le_of_ble_eq_true rfl) (Nat.le_of_ble_eq_true rfl)

set_option maxHeartbeats 4000000 in
set_option maxRecDepth 100000 in
theorem xzU_event_bq (l : Launch) (hst : l.stackTraces = false) (G : va_G) (ac : Nat → ClassId) (ad : Nat → Nat) (g0 : xk_St) (k0 : Int32) (k1 : Int32) (hk : ¬ (qzJ_keeps (g0 5 3) k0) = 0) (hsw : k1 < 0 ∨ 2 < k1) : xt_C l yzU_event czU_event 4 (some .int) xk_WS xt_r1 G xk_cls (xk_tys ac) RzU xk_tx xk_ex [.ref (ad 0), .int k0, .int k1] (xk_wU ad ac g0) "java/lang/IllegalArgumentException" := by
  refine xt_of (by decide) (Nat.le_of_ble_eq_true rfl) ?_
  intro p e s m args below meth c A Q H locs ls C0 hlocks hout hX hend hP hD hS hl
  obtain ⟨hx, hb, hml, hts, hown, hK, hA⟩ := C0
  have hl : lv_has ls 4 [(0, .ref (ad 0)), (1, .int k0), (2, .int k1)] := hl
  refine lv_aload_n (pc := 0) hx hb dzU_event_0 rfl (lv_at hl 0 rfl) ?_
  refine xk_get (pc := 1) hx hb hts hown hK hP ffzU_37 0 rfl rfl dzU_event_1 ?_
  refine lv_iload_n (pc := 4) hx hb dzU_event_4 rfl (lv_at hl 1 rfl) ?_
  refine xk_callVI (As := [.int k0]) (rest := []) (H0 := s.heap) (pc := 5) hx hb hml hts hown hK hA hP hD hS (kzJ_keeps l G ac (ad 5) (ad 6) (ad 7) (ad 8) (g0 5 3) k0) vfzU_250 [5] (by decide) rfl (fun _ => rfl) 5 rfl rfl ⟨rfl, rfl⟩ ⟨Nat.le_of_ble_eq_true rfl, Nat.le_of_ble_eq_true rfl⟩ rfl hl.1 rfl (Nat.le_of_ble_eq_true rfl) ⟨Nat.zero_le _, Nat.zero_le _⟩ dzU_event_5 (fun r1 u9 H locs e9 hP hD hS => ?_)
  obtain rfl : r1 = qzJ_keeps (g0 5 3) k0 := e9
  have hP : va_P G xk_cls (xk_wU ad ac g0) H := hP
  have hD : va_D A (xk_wU ad ac g0) := hD
  refine lv_if_ne (pc := 8) (tgt := 21) hx hb dzU_event_8 (by decide) (fun _ => ?_) (fun hq9 => absurd hq9 hk)
  refine lv_iload_n (pc := 21) hx hb dzU_event_21 rfl (lv_at hl 1 rfl) ?_
  refine lv_bipush (v := 63) (pc := 22) hx hb dzU_event_22 (by decide) ?_
  refine lv_iand (pc := 24) hx hb dzU_event_24 ?_
  refine lv_istore_n (lv' := [(3, .int (k0 &&& 63)), (0, .ref (ad 0)), (1, .int k0), (2, .int k1)]) (pc := 25) hx hb dzU_event_25 rfl hl (by decide) rfl (fun ls hl => ?_)
  refine lv_iload_n (pc := 26) hx hb dzU_event_26 rfl (lv_at hl 3 rfl) ?_
  refine lv_tableOut (pc := 27) (tgt := 82) hx hb dzU_event_27 (xk_sw hsw (by decide)) (by decide) ?_
  exact xt_throw (pc := 82) (ln := 3) (is := 264) (tx := "of an event there is 0 to 2") (rest := []) hx hb hst (by rw [hml]; exact hl.1.symm) hown hlocks hout hX hend hP hS (by decide +kernel) (by decide +kernel) (by decide +kernel) xbIA_0 xbIA_1 xbIA_2 xbIA_5 (hts _ xk_m317) (hts _ xk_m58) (xaIA hts) (by decide) (by decide) dzU_event_82 dzU_event_85 (Or.inr ⟨rfl, dzU_event_86⟩) dzU_event_89 dzU_event_92 (Nat.le_of_ble_eq_true rfl) (Nat.le_of_ble_eq_true rfl) (Nat.le_of_ble_eq_true rfl) (Nat.le_of_ble_eq_true rfl)

