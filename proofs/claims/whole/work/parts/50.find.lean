section XKF
variable {p : Program} {l : Launch} {e : Env} {R : Room} {s : State} {m : MethodId} {args : Array Value} {below : List Frame} {meth : Method} {c : Code} {H H0 : Heap} {locs : List Loc} {cells slots : Nat} {Q : State → Prop}
variable {cc bt : ByteArray} {pc nL n k index ci : Nat} {ls : Array Slot} {rest st : List Value} {G : va_G} {cl : List vw_C} {tys : List (ClassId × FieldType)} {ws wc : va_W} {A : Nat → Prop} {S : Type} {WS : List Cond} {own C : String} {y : MethodName} {ret : FieldType} {rt : Option FieldType} {rm : Room} {b : Nat} {As fs : List Value} {T : u_T} {N : Nat}
theorem xk_allVR {ra : Nat} (hx : p.tables.exec = Jvm.exec) (hb : c.code = cc) (hml : c.maxLocals = nL) (hts : ∀ w ∈ WS, w.before args s = true) (hown : s.vm.findClass own = some m.cls) (hK : va_K G cl tys s) (hA : ∀ q : Nat, H0.size ≤ q → A q) (hP : va_P G cl ws H) (hD : va_D A ws) (hS : va_S A H0 H locs)
    (hM : xk_CR l y bt n ret WS rm G cl tys (.ref b :: As) ws ra) (F : xk_VF WS own index y bt n (some ret) k)
    (q0 : Nat) (he : ws[q0]? = some (b, .inr (ci, fs))) (hc : cl[ci]? = some (y.cls, T, N)) (hrm : rm.cells = 0 ∧ rm.slots = 0) (hR : rm.frames + 1 ≤ R.frames ∧ 8 + (n + 11) + rm.locals ≤ R.locals) (hk : As.length = k) (hsz : ls.size = nL) (hst : st = As.reverse ++ .ref b :: rest) (hw : (rest.map fun v => v.category).sum ≤ 8) (hcs : cells ≤ R.cells ∧ slots ≤ R.slots)
    (hdg : decode cc pc = .ok (.invokevirtual index, 3))
    (kk : ∀ (H1 : Heap) (locs1 : List Loc), va_P G cl ws H1 → va_D A ws → va_S A H0 H1 locs1 → W p l e R s m args below meth c H1 locs1 cells slots Q (F0 m (pc + 3) ls (.ref ra :: rest))) : W p l e R s m args below meth c H locs cells slots Q (F0 m pc ls st) := by
  subst hst
  have hFc := xk_freeAll hD hS hA
  refine va_callr (va_runV (As := As) (rest := rest) (b := b) ⟨hx, hb, hml, hown, hts⟩ (hM H.size) (cwV k hts F.1 rfl hrm.1 hrm.2 ⟨rfl, F.2.1.1, F.2.1.2, F.2.2⟩ hR) ⟨xk_blind, va_recv hK hP hc he, fun U hU hW => xk_pre hK hP hD hU hW⟩ rfl hk hsz rfl (lv_room hw) hdg ⟨hcs.1, hcs.2⟩) hS (fun q _ h => hFc q h) hFc (fun u ra1 t H1 locs1 ht hvm hp hB hz1 hk1 hS1 => ?_)
  obtain ⟨rfl, hB⟩ := hB
  exact kk H1 locs1 (by rw [← ht]; exact hB) hD hS1
end XKF
theorem xk_ge {x y : Int32} (h : ¬ x < y) : y ≤ x := Int32.not_lt.mp h
set_option maxHeartbeats 4000000 in
set_option maxRecDepth 100000 in
theorem kzU_findTrack_0 (l : Launch) (G : va_G) (ac : Nat → ClassId) (ad : Nat → Nat) (g0 : xk_St) : xk_CR l yzU_findTrack czU_findTrack 2 (.object "CrossingUnit$Track") xk_WS xk_r0 G xk_cls (xk_tys ac) [.ref (ad 0), .int 0] (xk_wU ad ac g0) (ad 9) := by
  refine xk_ofR (by decide) (Nat.le_of_ble_eq_true rfl) rfl ?_
  intro p e s m args below meth c A Q H locs ls C0 hret hP hD hS hl
  obtain ⟨hx, hb, hml, hts, hown, hK, hA⟩ := C0
  have hl : lv_has ls 2 [(0, .ref (ad 0)), (1, .int 0)] := hl
  refine lv_iload_n (pc := 0) hx hb dzU_findTrack_0 rfl (lv_at hl 1 rfl) ?_
  refine lv_if_lt (pc := 1) (tgt := 9) hx hb dzU_findTrack_1 (by decide) (fun hq9 => absurd hq9 (by decide)) (fun _ => ?_)
  refine lv_iload_n (pc := 4) hx hb dzU_findTrack_4 rfl (lv_at hl 1 rfl) ?_
  refine lv_iconst (v := 2) (pc := 5) hx hb dzU_findTrack_5 (by decide) ?_
  refine lv_icmp_lt (pc := 6) (tgt := 20) hx hb dzU_findTrack_6 (by decide) (fun _ => ?_) (fun hq9 => absurd (by decide) hq9)
  refine lv_aload_n (pc := 20) hx hb dzU_findTrack_20 rfl (lv_at hl 0 rfl) ?_
  refine xk_get (pc := 21) hx hb hts hown hK hP ffzU_11 0 rfl rfl dzU_findTrack_21 ?_
  refine lv_iload_n (pc := 24) hx hb dzU_findTrack_24 rfl (lv_at hl 1 rfl) ?_
  refine xk_aald (q0 := 1) (t0 := 2) (j := 0) (b := (ad 9)) (pc := 25) hx hb hK hP rfl rfl (pk_in 0 2 (by decide)) (pk_cl 0) rfl dzU_findTrack_25 ?_
  exact hret H locs 26 ls hP hS dzU_findTrack_26

set_option maxHeartbeats 4000000 in
set_option maxRecDepth 100000 in
theorem kzU_findTrack_1 (l : Launch) (G : va_G) (ac : Nat → ClassId) (ad : Nat → Nat) (g0 : xk_St) : xk_CR l yzU_findTrack czU_findTrack 2 (.object "CrossingUnit$Track") xk_WS xk_r0 G xk_cls (xk_tys ac) [.ref (ad 0), .int 1] (xk_wU ad ac g0) (ad 10) := by
  refine xk_ofR (by decide) (Nat.le_of_ble_eq_true rfl) rfl ?_
  intro p e s m args below meth c A Q H locs ls C0 hret hP hD hS hl
  obtain ⟨hx, hb, hml, hts, hown, hK, hA⟩ := C0
  have hl : lv_has ls 2 [(0, .ref (ad 0)), (1, .int 1)] := hl
  refine lv_iload_n (pc := 0) hx hb dzU_findTrack_0 rfl (lv_at hl 1 rfl) ?_
  refine lv_if_lt (pc := 1) (tgt := 9) hx hb dzU_findTrack_1 (by decide) (fun hq9 => absurd hq9 (by decide)) (fun _ => ?_)
  refine lv_iload_n (pc := 4) hx hb dzU_findTrack_4 rfl (lv_at hl 1 rfl) ?_
  refine lv_iconst (v := 2) (pc := 5) hx hb dzU_findTrack_5 (by decide) ?_
  refine lv_icmp_lt (pc := 6) (tgt := 20) hx hb dzU_findTrack_6 (by decide) (fun _ => ?_) (fun hq9 => absurd (by decide) hq9)
  refine lv_aload_n (pc := 20) hx hb dzU_findTrack_20 rfl (lv_at hl 0 rfl) ?_
  refine xk_get (pc := 21) hx hb hts hown hK hP ffzU_11 0 rfl rfl dzU_findTrack_21 ?_
  refine lv_iload_n (pc := 24) hx hb dzU_findTrack_24 rfl (lv_at hl 1 rfl) ?_
  refine xk_aald (q0 := 1) (t0 := 2) (j := 1) (b := (ad 10)) (pc := 25) hx hb hK hP rfl rfl (pk_in 1 2 (by decide)) (pk_cl 1) rfl dzU_findTrack_25 ?_
  exact hret H locs 26 ls hP hS dzU_findTrack_26

set_option maxHeartbeats 4000000 in
set_option maxRecDepth 100000 in
theorem kzU_findSection_0_0 (l : Launch) (G : va_G) (ac : Nat → ClassId) (ad : Nat → Nat) (g0 : xk_St) : xk_CR l yzU_findSection czU_findSection 4 (.object "CrossingUnit$Section") xk_WS xk_r1 G xk_cls (xk_tys ac) [.ref (ad 0), .int 0, .int 0] (xk_wU ad ac g0) (ad 19) := by
  refine xk_ofR (by decide) (Nat.le_of_ble_eq_true rfl) rfl ?_
  intro p e s m args below meth c A Q H locs ls C0 hret hP hD hS hl
  obtain ⟨hx, hb, hml, hts, hown, hK, hA⟩ := C0
  have hl : lv_has ls 4 [(0, .ref (ad 0)), (1, .int 0), (2, .int 0)] := hl
  refine lv_aload_n (pc := 0) hx hb dzU_findSection_0 rfl (lv_at hl 0 rfl) ?_
  refine lv_iload_n (pc := 1) hx hb dzU_findSection_1 rfl (lv_at hl 1 rfl) ?_
  refine xk_allVR (As := [.int 0]) (rest := []) (H0 := s.heap) (pc := 2) hx hb hml hts hown hK hA hP hD hS (kzU_findTrack_0 l G ac ad g0) vfzU_63 0 rfl rfl ⟨rfl, rfl⟩ ⟨Nat.le_of_ble_eq_true rfl, Nat.le_of_ble_eq_true rfl⟩ rfl hl.1 rfl (Nat.le_of_ble_eq_true rfl) ⟨Nat.zero_le _, Nat.zero_le _⟩ dzU_findSection_2 (fun H locs hP hD hS => ?_)
  have hP : va_P G xk_cls (xk_wU ad ac g0) H := hP
  have hD : va_D A (xk_wU ad ac g0) := hD
  refine lv_astore_n (lv' := [(3, .ref (ad 9)), (0, .ref (ad 0)), (1, .int 0), (2, .int 0)]) (pc := 5) hx hb dzU_findSection_5 rfl hl (by decide) rfl (fun ls hl => ?_)
  refine lv_iload_n (pc := 6) hx hb dzU_findSection_6 rfl (lv_at hl 3 rfl) ?_
  refine lv_if_lt (pc := 7) (tgt := 15) hx hb dzU_findSection_7 (by decide) (fun hq9 => absurd hq9 (by decide)) (fun _ => ?_)
  refine lv_iload_n (pc := 10) hx hb dzU_findSection_10 rfl (lv_at hl 3 rfl) ?_
  refine lv_iconst (v := 3) (pc := 11) hx hb dzU_findSection_11 (by decide) ?_
  refine lv_icmp_lt (pc := 12) (tgt := 26) hx hb dzU_findSection_12 (by decide) (fun _ => ?_) (fun hq9 => absurd (by decide) hq9)
  refine lv_aload_n (pc := 26) hx hb dzU_findSection_26 rfl (lv_at hl 0 rfl) ?_
  refine xk_get (pc := 27) hx hb hts hown hK hP ffzU_158 9 rfl rfl dzU_findSection_27 ?_
  refine lv_iload_n (pc := 30) hx hb dzU_findSection_30 rfl (lv_at hl 3 rfl) ?_
  refine xk_aald (q0 := 11) (t0 := 3) (j := 0) (b := (ad 19)) (pc := 31) hx hb hK hP rfl rfl (pk_in 0 3 (by decide)) (pk_cl 0) rfl dzU_findSection_31 ?_
  exact hret H locs 32 ls hP hS dzU_findSection_32

set_option maxHeartbeats 4000000 in
set_option maxRecDepth 100000 in
theorem kzU_findSection_0_1 (l : Launch) (G : va_G) (ac : Nat → ClassId) (ad : Nat → Nat) (g0 : xk_St) : xk_CR l yzU_findSection czU_findSection 4 (.object "CrossingUnit$Section") xk_WS xk_r1 G xk_cls (xk_tys ac) [.ref (ad 0), .int 0, .int 1] (xk_wU ad ac g0) (ad 20) := by
  refine xk_ofR (by decide) (Nat.le_of_ble_eq_true rfl) rfl ?_
  intro p e s m args below meth c A Q H locs ls C0 hret hP hD hS hl
  obtain ⟨hx, hb, hml, hts, hown, hK, hA⟩ := C0
  have hl : lv_has ls 4 [(0, .ref (ad 0)), (1, .int 0), (2, .int 1)] := hl
  refine lv_aload_n (pc := 0) hx hb dzU_findSection_0 rfl (lv_at hl 0 rfl) ?_
  refine lv_iload_n (pc := 1) hx hb dzU_findSection_1 rfl (lv_at hl 1 rfl) ?_
  refine xk_allVR (As := [.int 0]) (rest := []) (H0 := s.heap) (pc := 2) hx hb hml hts hown hK hA hP hD hS (kzU_findTrack_0 l G ac ad g0) vfzU_63 0 rfl rfl ⟨rfl, rfl⟩ ⟨Nat.le_of_ble_eq_true rfl, Nat.le_of_ble_eq_true rfl⟩ rfl hl.1 rfl (Nat.le_of_ble_eq_true rfl) ⟨Nat.zero_le _, Nat.zero_le _⟩ dzU_findSection_2 (fun H locs hP hD hS => ?_)
  have hP : va_P G xk_cls (xk_wU ad ac g0) H := hP
  have hD : va_D A (xk_wU ad ac g0) := hD
  refine lv_astore_n (lv' := [(3, .ref (ad 9)), (0, .ref (ad 0)), (1, .int 0), (2, .int 1)]) (pc := 5) hx hb dzU_findSection_5 rfl hl (by decide) rfl (fun ls hl => ?_)
  refine lv_iload_n (pc := 6) hx hb dzU_findSection_6 rfl (lv_at hl 3 rfl) ?_
  refine lv_if_lt (pc := 7) (tgt := 15) hx hb dzU_findSection_7 (by decide) (fun hq9 => absurd hq9 (by decide)) (fun _ => ?_)
  refine lv_iload_n (pc := 10) hx hb dzU_findSection_10 rfl (lv_at hl 3 rfl) ?_
  refine lv_iconst (v := 3) (pc := 11) hx hb dzU_findSection_11 (by decide) ?_
  refine lv_icmp_lt (pc := 12) (tgt := 26) hx hb dzU_findSection_12 (by decide) (fun _ => ?_) (fun hq9 => absurd (by decide) hq9)
  refine lv_aload_n (pc := 26) hx hb dzU_findSection_26 rfl (lv_at hl 0 rfl) ?_
  refine xk_get (pc := 27) hx hb hts hown hK hP ffzU_158 9 rfl rfl dzU_findSection_27 ?_
  refine lv_iload_n (pc := 30) hx hb dzU_findSection_30 rfl (lv_at hl 3 rfl) ?_
  refine xk_aald (q0 := 11) (t0 := 3) (j := 1) (b := (ad 20)) (pc := 31) hx hb hK hP rfl rfl (pk_in 1 3 (by decide)) (pk_cl 1) rfl dzU_findSection_31 ?_
  exact hret H locs 32 ls hP hS dzU_findSection_32

set_option maxHeartbeats 4000000 in
set_option maxRecDepth 100000 in
theorem kzU_findSection_0_2 (l : Launch) (G : va_G) (ac : Nat → ClassId) (ad : Nat → Nat) (g0 : xk_St) : xk_CR l yzU_findSection czU_findSection 4 (.object "CrossingUnit$Section") xk_WS xk_r1 G xk_cls (xk_tys ac) [.ref (ad 0), .int 0, .int 2] (xk_wU ad ac g0) (ad 21) := by
  refine xk_ofR (by decide) (Nat.le_of_ble_eq_true rfl) rfl ?_
  intro p e s m args below meth c A Q H locs ls C0 hret hP hD hS hl
  obtain ⟨hx, hb, hml, hts, hown, hK, hA⟩ := C0
  have hl : lv_has ls 4 [(0, .ref (ad 0)), (1, .int 0), (2, .int 2)] := hl
  refine lv_aload_n (pc := 0) hx hb dzU_findSection_0 rfl (lv_at hl 0 rfl) ?_
  refine lv_iload_n (pc := 1) hx hb dzU_findSection_1 rfl (lv_at hl 1 rfl) ?_
  refine xk_allVR (As := [.int 0]) (rest := []) (H0 := s.heap) (pc := 2) hx hb hml hts hown hK hA hP hD hS (kzU_findTrack_0 l G ac ad g0) vfzU_63 0 rfl rfl ⟨rfl, rfl⟩ ⟨Nat.le_of_ble_eq_true rfl, Nat.le_of_ble_eq_true rfl⟩ rfl hl.1 rfl (Nat.le_of_ble_eq_true rfl) ⟨Nat.zero_le _, Nat.zero_le _⟩ dzU_findSection_2 (fun H locs hP hD hS => ?_)
  have hP : va_P G xk_cls (xk_wU ad ac g0) H := hP
  have hD : va_D A (xk_wU ad ac g0) := hD
  refine lv_astore_n (lv' := [(3, .ref (ad 9)), (0, .ref (ad 0)), (1, .int 0), (2, .int 2)]) (pc := 5) hx hb dzU_findSection_5 rfl hl (by decide) rfl (fun ls hl => ?_)
  refine lv_iload_n (pc := 6) hx hb dzU_findSection_6 rfl (lv_at hl 3 rfl) ?_
  refine lv_if_lt (pc := 7) (tgt := 15) hx hb dzU_findSection_7 (by decide) (fun hq9 => absurd hq9 (by decide)) (fun _ => ?_)
  refine lv_iload_n (pc := 10) hx hb dzU_findSection_10 rfl (lv_at hl 3 rfl) ?_
  refine lv_iconst (v := 3) (pc := 11) hx hb dzU_findSection_11 (by decide) ?_
  refine lv_icmp_lt (pc := 12) (tgt := 26) hx hb dzU_findSection_12 (by decide) (fun _ => ?_) (fun hq9 => absurd (by decide) hq9)
  refine lv_aload_n (pc := 26) hx hb dzU_findSection_26 rfl (lv_at hl 0 rfl) ?_
  refine xk_get (pc := 27) hx hb hts hown hK hP ffzU_158 9 rfl rfl dzU_findSection_27 ?_
  refine lv_iload_n (pc := 30) hx hb dzU_findSection_30 rfl (lv_at hl 3 rfl) ?_
  refine xk_aald (q0 := 11) (t0 := 3) (j := 2) (b := (ad 21)) (pc := 31) hx hb hK hP rfl rfl (pk_in 2 3 (by decide)) (pk_cl 2) rfl dzU_findSection_31 ?_
  exact hret H locs 32 ls hP hS dzU_findSection_32

set_option maxHeartbeats 4000000 in
set_option maxRecDepth 100000 in
theorem kzU_findSection_1_0 (l : Launch) (G : va_G) (ac : Nat → ClassId) (ad : Nat → Nat) (g0 : xk_St) : xk_CR l yzU_findSection czU_findSection 4 (.object "CrossingUnit$Section") xk_WS xk_r1 G xk_cls (xk_tys ac) [.ref (ad 0), .int 1, .int 0] (xk_wU ad ac g0) (ad 22) := by
  refine xk_ofR (by decide) (Nat.le_of_ble_eq_true rfl) rfl ?_
  intro p e s m args below meth c A Q H locs ls C0 hret hP hD hS hl
  obtain ⟨hx, hb, hml, hts, hown, hK, hA⟩ := C0
  have hl : lv_has ls 4 [(0, .ref (ad 0)), (1, .int 1), (2, .int 0)] := hl
  refine lv_aload_n (pc := 0) hx hb dzU_findSection_0 rfl (lv_at hl 0 rfl) ?_
  refine lv_iload_n (pc := 1) hx hb dzU_findSection_1 rfl (lv_at hl 1 rfl) ?_
  refine xk_allVR (As := [.int 1]) (rest := []) (H0 := s.heap) (pc := 2) hx hb hml hts hown hK hA hP hD hS (kzU_findTrack_1 l G ac ad g0) vfzU_63 0 rfl rfl ⟨rfl, rfl⟩ ⟨Nat.le_of_ble_eq_true rfl, Nat.le_of_ble_eq_true rfl⟩ rfl hl.1 rfl (Nat.le_of_ble_eq_true rfl) ⟨Nat.zero_le _, Nat.zero_le _⟩ dzU_findSection_2 (fun H locs hP hD hS => ?_)
  have hP : va_P G xk_cls (xk_wU ad ac g0) H := hP
  have hD : va_D A (xk_wU ad ac g0) := hD
  refine lv_astore_n (lv' := [(3, .ref (ad 10)), (0, .ref (ad 0)), (1, .int 1), (2, .int 0)]) (pc := 5) hx hb dzU_findSection_5 rfl hl (by decide) rfl (fun ls hl => ?_)
  refine lv_iload_n (pc := 6) hx hb dzU_findSection_6 rfl (lv_at hl 3 rfl) ?_
  refine lv_if_lt (pc := 7) (tgt := 15) hx hb dzU_findSection_7 (by decide) (fun hq9 => absurd hq9 (by decide)) (fun _ => ?_)
  refine lv_iload_n (pc := 10) hx hb dzU_findSection_10 rfl (lv_at hl 3 rfl) ?_
  refine lv_iconst (v := 3) (pc := 11) hx hb dzU_findSection_11 (by decide) ?_
  refine lv_icmp_lt (pc := 12) (tgt := 26) hx hb dzU_findSection_12 (by decide) (fun _ => ?_) (fun hq9 => absurd (by decide) hq9)
  refine lv_aload_n (pc := 26) hx hb dzU_findSection_26 rfl (lv_at hl 0 rfl) ?_
  refine xk_get (pc := 27) hx hb hts hown hK hP ffzU_158 10 rfl rfl dzU_findSection_27 ?_
  refine lv_iload_n (pc := 30) hx hb dzU_findSection_30 rfl (lv_at hl 3 rfl) ?_
  refine xk_aald (q0 := 12) (t0 := 3) (j := 0) (b := (ad 22)) (pc := 31) hx hb hK hP rfl rfl (pk_in 0 3 (by decide)) (pk_cl 0) rfl dzU_findSection_31 ?_
  exact hret H locs 32 ls hP hS dzU_findSection_32

set_option maxHeartbeats 4000000 in
set_option maxRecDepth 100000 in
theorem kzU_findSection_1_1 (l : Launch) (G : va_G) (ac : Nat → ClassId) (ad : Nat → Nat) (g0 : xk_St) : xk_CR l yzU_findSection czU_findSection 4 (.object "CrossingUnit$Section") xk_WS xk_r1 G xk_cls (xk_tys ac) [.ref (ad 0), .int 1, .int 1] (xk_wU ad ac g0) (ad 23) := by
  refine xk_ofR (by decide) (Nat.le_of_ble_eq_true rfl) rfl ?_
  intro p e s m args below meth c A Q H locs ls C0 hret hP hD hS hl
  obtain ⟨hx, hb, hml, hts, hown, hK, hA⟩ := C0
  have hl : lv_has ls 4 [(0, .ref (ad 0)), (1, .int 1), (2, .int 1)] := hl
  refine lv_aload_n (pc := 0) hx hb dzU_findSection_0 rfl (lv_at hl 0 rfl) ?_
  refine lv_iload_n (pc := 1) hx hb dzU_findSection_1 rfl (lv_at hl 1 rfl) ?_
  refine xk_allVR (As := [.int 1]) (rest := []) (H0 := s.heap) (pc := 2) hx hb hml hts hown hK hA hP hD hS (kzU_findTrack_1 l G ac ad g0) vfzU_63 0 rfl rfl ⟨rfl, rfl⟩ ⟨Nat.le_of_ble_eq_true rfl, Nat.le_of_ble_eq_true rfl⟩ rfl hl.1 rfl (Nat.le_of_ble_eq_true rfl) ⟨Nat.zero_le _, Nat.zero_le _⟩ dzU_findSection_2 (fun H locs hP hD hS => ?_)
  have hP : va_P G xk_cls (xk_wU ad ac g0) H := hP
  have hD : va_D A (xk_wU ad ac g0) := hD
  refine lv_astore_n (lv' := [(3, .ref (ad 10)), (0, .ref (ad 0)), (1, .int 1), (2, .int 1)]) (pc := 5) hx hb dzU_findSection_5 rfl hl (by decide) rfl (fun ls hl => ?_)
  refine lv_iload_n (pc := 6) hx hb dzU_findSection_6 rfl (lv_at hl 3 rfl) ?_
  refine lv_if_lt (pc := 7) (tgt := 15) hx hb dzU_findSection_7 (by decide) (fun hq9 => absurd hq9 (by decide)) (fun _ => ?_)
  refine lv_iload_n (pc := 10) hx hb dzU_findSection_10 rfl (lv_at hl 3 rfl) ?_
  refine lv_iconst (v := 3) (pc := 11) hx hb dzU_findSection_11 (by decide) ?_
  refine lv_icmp_lt (pc := 12) (tgt := 26) hx hb dzU_findSection_12 (by decide) (fun _ => ?_) (fun hq9 => absurd (by decide) hq9)
  refine lv_aload_n (pc := 26) hx hb dzU_findSection_26 rfl (lv_at hl 0 rfl) ?_
  refine xk_get (pc := 27) hx hb hts hown hK hP ffzU_158 10 rfl rfl dzU_findSection_27 ?_
  refine lv_iload_n (pc := 30) hx hb dzU_findSection_30 rfl (lv_at hl 3 rfl) ?_
  refine xk_aald (q0 := 12) (t0 := 3) (j := 1) (b := (ad 23)) (pc := 31) hx hb hK hP rfl rfl (pk_in 1 3 (by decide)) (pk_cl 1) rfl dzU_findSection_31 ?_
  exact hret H locs 32 ls hP hS dzU_findSection_32

set_option maxHeartbeats 4000000 in
set_option maxRecDepth 100000 in
theorem kzU_findSection_1_2 (l : Launch) (G : va_G) (ac : Nat → ClassId) (ad : Nat → Nat) (g0 : xk_St) : xk_CR l yzU_findSection czU_findSection 4 (.object "CrossingUnit$Section") xk_WS xk_r1 G xk_cls (xk_tys ac) [.ref (ad 0), .int 1, .int 2] (xk_wU ad ac g0) (ad 24) := by
  refine xk_ofR (by decide) (Nat.le_of_ble_eq_true rfl) rfl ?_
  intro p e s m args below meth c A Q H locs ls C0 hret hP hD hS hl
  obtain ⟨hx, hb, hml, hts, hown, hK, hA⟩ := C0
  have hl : lv_has ls 4 [(0, .ref (ad 0)), (1, .int 1), (2, .int 2)] := hl
  refine lv_aload_n (pc := 0) hx hb dzU_findSection_0 rfl (lv_at hl 0 rfl) ?_
  refine lv_iload_n (pc := 1) hx hb dzU_findSection_1 rfl (lv_at hl 1 rfl) ?_
  refine xk_allVR (As := [.int 1]) (rest := []) (H0 := s.heap) (pc := 2) hx hb hml hts hown hK hA hP hD hS (kzU_findTrack_1 l G ac ad g0) vfzU_63 0 rfl rfl ⟨rfl, rfl⟩ ⟨Nat.le_of_ble_eq_true rfl, Nat.le_of_ble_eq_true rfl⟩ rfl hl.1 rfl (Nat.le_of_ble_eq_true rfl) ⟨Nat.zero_le _, Nat.zero_le _⟩ dzU_findSection_2 (fun H locs hP hD hS => ?_)
  have hP : va_P G xk_cls (xk_wU ad ac g0) H := hP
  have hD : va_D A (xk_wU ad ac g0) := hD
  refine lv_astore_n (lv' := [(3, .ref (ad 10)), (0, .ref (ad 0)), (1, .int 1), (2, .int 2)]) (pc := 5) hx hb dzU_findSection_5 rfl hl (by decide) rfl (fun ls hl => ?_)
  refine lv_iload_n (pc := 6) hx hb dzU_findSection_6 rfl (lv_at hl 3 rfl) ?_
  refine lv_if_lt (pc := 7) (tgt := 15) hx hb dzU_findSection_7 (by decide) (fun hq9 => absurd hq9 (by decide)) (fun _ => ?_)
  refine lv_iload_n (pc := 10) hx hb dzU_findSection_10 rfl (lv_at hl 3 rfl) ?_
  refine lv_iconst (v := 3) (pc := 11) hx hb dzU_findSection_11 (by decide) ?_
  refine lv_icmp_lt (pc := 12) (tgt := 26) hx hb dzU_findSection_12 (by decide) (fun _ => ?_) (fun hq9 => absurd (by decide) hq9)
  refine lv_aload_n (pc := 26) hx hb dzU_findSection_26 rfl (lv_at hl 0 rfl) ?_
  refine xk_get (pc := 27) hx hb hts hown hK hP ffzU_158 10 rfl rfl dzU_findSection_27 ?_
  refine lv_iload_n (pc := 30) hx hb dzU_findSection_30 rfl (lv_at hl 3 rfl) ?_
  refine xk_aald (q0 := 12) (t0 := 3) (j := 2) (b := (ad 24)) (pc := 31) hx hb hK hP rfl rfl (pk_in 2 3 (by decide)) (pk_cl 2) rfl dzU_findSection_31 ?_
  exact hret H locs 32 ls hP hS dzU_findSection_32


set_option maxHeartbeats 4000000 in
set_option maxRecDepth 100000 in
theorem kzU_checkHead_0 (l : Launch) (G : va_G) (ac : Nat → ClassId) : xk_CV l yzU_checkHead czU_checkHead 1 xk_WS xk_r0 G xk_cls (xk_tys ac) [.int 0] [] (fun _ : Unit => True) (fun _ => []) := by
  refine xk_ofV (by decide) (Nat.le_of_ble_eq_true rfl) ?_
  intro p e s m args below meth c A Q H locs ls C0 hret hP hD hS hl
  obtain ⟨hx, hb, hml, hts, hown, hK, hA⟩ := C0
  have hl : lv_has ls 1 [(0, .int 0)] := hl
  refine lv_iload_n (pc := 0) hx hb dzU_checkHead_0 rfl (lv_at hl 0 rfl) ?_
  refine lv_if_lt (pc := 1) (tgt := 9) hx hb dzU_checkHead_1 (by decide) (fun hq9 => absurd hq9 (by decide)) (fun _ => ?_)
  refine lv_iload_n (pc := 4) hx hb dzU_checkHead_4 rfl (lv_at hl 0 rfl) ?_
  refine lv_iconst (v := 4) (pc := 5) hx hb dzU_checkHead_5 (by decide) ?_
  refine lv_icmp_lt (pc := 6) (tgt := 20) hx hb dzU_checkHead_6 (by decide) (fun _ => ?_) (fun hq9 => absurd (by decide) hq9)
  have hP : va_P G xk_cls [] H := by exact hP
  exact hret () H locs 20 ls hP hS trivial dzU_checkHead_20

set_option maxHeartbeats 4000000 in
set_option maxRecDepth 100000 in
theorem kzU_checkHead_1 (l : Launch) (G : va_G) (ac : Nat → ClassId) : xk_CV l yzU_checkHead czU_checkHead 1 xk_WS xk_r0 G xk_cls (xk_tys ac) [.int 1] [] (fun _ : Unit => True) (fun _ => []) := by
  refine xk_ofV (by decide) (Nat.le_of_ble_eq_true rfl) ?_
  intro p e s m args below meth c A Q H locs ls C0 hret hP hD hS hl
  obtain ⟨hx, hb, hml, hts, hown, hK, hA⟩ := C0
  have hl : lv_has ls 1 [(0, .int 1)] := hl
  refine lv_iload_n (pc := 0) hx hb dzU_checkHead_0 rfl (lv_at hl 0 rfl) ?_
  refine lv_if_lt (pc := 1) (tgt := 9) hx hb dzU_checkHead_1 (by decide) (fun hq9 => absurd hq9 (by decide)) (fun _ => ?_)
  refine lv_iload_n (pc := 4) hx hb dzU_checkHead_4 rfl (lv_at hl 0 rfl) ?_
  refine lv_iconst (v := 4) (pc := 5) hx hb dzU_checkHead_5 (by decide) ?_
  refine lv_icmp_lt (pc := 6) (tgt := 20) hx hb dzU_checkHead_6 (by decide) (fun _ => ?_) (fun hq9 => absurd (by decide) hq9)
  have hP : va_P G xk_cls [] H := by exact hP
  exact hret () H locs 20 ls hP hS trivial dzU_checkHead_20

set_option maxHeartbeats 4000000 in
set_option maxRecDepth 100000 in
theorem kzU_checkHead_2 (l : Launch) (G : va_G) (ac : Nat → ClassId) : xk_CV l yzU_checkHead czU_checkHead 1 xk_WS xk_r0 G xk_cls (xk_tys ac) [.int 2] [] (fun _ : Unit => True) (fun _ => []) := by
  refine xk_ofV (by decide) (Nat.le_of_ble_eq_true rfl) ?_
  intro p e s m args below meth c A Q H locs ls C0 hret hP hD hS hl
  obtain ⟨hx, hb, hml, hts, hown, hK, hA⟩ := C0
  have hl : lv_has ls 1 [(0, .int 2)] := hl
  refine lv_iload_n (pc := 0) hx hb dzU_checkHead_0 rfl (lv_at hl 0 rfl) ?_
  refine lv_if_lt (pc := 1) (tgt := 9) hx hb dzU_checkHead_1 (by decide) (fun hq9 => absurd hq9 (by decide)) (fun _ => ?_)
  refine lv_iload_n (pc := 4) hx hb dzU_checkHead_4 rfl (lv_at hl 0 rfl) ?_
  refine lv_iconst (v := 4) (pc := 5) hx hb dzU_checkHead_5 (by decide) ?_
  refine lv_icmp_lt (pc := 6) (tgt := 20) hx hb dzU_checkHead_6 (by decide) (fun _ => ?_) (fun hq9 => absurd (by decide) hq9)
  have hP : va_P G xk_cls [] H := by exact hP
  exact hret () H locs 20 ls hP hS trivial dzU_checkHead_20

set_option maxHeartbeats 4000000 in
set_option maxRecDepth 100000 in
theorem kzU_checkHead_3 (l : Launch) (G : va_G) (ac : Nat → ClassId) : xk_CV l yzU_checkHead czU_checkHead 1 xk_WS xk_r0 G xk_cls (xk_tys ac) [.int 3] [] (fun _ : Unit => True) (fun _ => []) := by
  refine xk_ofV (by decide) (Nat.le_of_ble_eq_true rfl) ?_
  intro p e s m args below meth c A Q H locs ls C0 hret hP hD hS hl
  obtain ⟨hx, hb, hml, hts, hown, hK, hA⟩ := C0
  have hl : lv_has ls 1 [(0, .int 3)] := hl
  refine lv_iload_n (pc := 0) hx hb dzU_checkHead_0 rfl (lv_at hl 0 rfl) ?_
  refine lv_if_lt (pc := 1) (tgt := 9) hx hb dzU_checkHead_1 (by decide) (fun hq9 => absurd hq9 (by decide)) (fun _ => ?_)
  refine lv_iload_n (pc := 4) hx hb dzU_checkHead_4 rfl (lv_at hl 0 rfl) ?_
  refine lv_iconst (v := 4) (pc := 5) hx hb dzU_checkHead_5 (by decide) ?_
  refine lv_icmp_lt (pc := 6) (tgt := 20) hx hb dzU_checkHead_6 (by decide) (fun _ => ?_) (fun hq9 => absurd (by decide) hq9)
  have hP : va_P G xk_cls [] H := by exact hP
  exact hret () H locs 20 ls hP hS trivial dzU_checkHead_20

set_option maxHeartbeats 4000000 in
set_option maxRecDepth 100000 in
theorem kzU_checkPerson (l : Launch) (G : va_G) (ac : Nat → ClassId) (k0 : Int32) (hwho : 0 < k0) : xk_CV l yzU_checkPerson czU_checkPerson 1 xk_WS xk_r0 G xk_cls (xk_tys ac) [.int k0] [] (fun _ : Unit => True) (fun _ => []) := by
  refine xk_ofV (by decide) (Nat.le_of_ble_eq_true rfl) ?_
  intro p e s m args below meth c A Q H locs ls C0 hret hP hD hS hl
  obtain ⟨hx, hb, hml, hts, hown, hK, hA⟩ := C0
  have hl : lv_has ls 1 [(0, .int k0)] := hl
  refine lv_iload_n (pc := 0) hx hb dzU_checkPerson_0 rfl (lv_at hl 0 rfl) ?_
  refine lv_if_gt (pc := 1) (tgt := 15) hx hb dzU_checkPerson_1 (by decide) (fun _ => ?_) (fun hq9 => absurd hwho hq9)
  have hP : va_P G xk_cls [] H := by exact hP
  exact hret () H locs 15 ls hP hS trivial dzU_checkPerson_15
