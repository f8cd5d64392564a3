theorem nnzL_8 : xn_NF xk_WS xk_cls RzL 8 0 10 [.null, .null, .null, .null, .null, .int 0, .int 0, .int 0, .int 0, .int 0] := ⟨RzU, TzU, tyzU, rfl, iwzU, tyzU_ok, xk_m558, xk_m61, xk_m45, fun j hj => by
  rcases (show j = 0 ∨ j = 1 ∨ j = 2 ∨ j = 3 ∨ j = 4 ∨ j = 5 ∨ j = 6 ∨ j = 7 ∨ j = 8 ∨ j = 9 from by omega) with rfl | rfl | rfl | rfl | rfl | rfl | rfl | rfl | rfl | rfl <;> rfl⟩
theorem nnzL_63 : xn_NF xk_WS xk_cls RzL 63 8 35 [.int 0, .null, .null, .null, .null, .null, .null, .null, .null, .null, .null, .null, .null, .null, .null, .null, .null, .null, .null, .null, .null, .null, .null, .null, .int 0, .int 0, .null, .int 0, .int 0, .int 0, .int 0, .int 0, .null, .null, .null] := ⟨RzM, TzM, tyzM, rfl, iwzM, tyzM_ok, xk_m617, xk_m400, xk_m53, fun j hj => by
  rcases (show j = 0 ∨ j = 1 ∨ j = 2 ∨ j = 3 ∨ j = 4 ∨ j = 5 ∨ j = 6 ∨ j = 7 ∨ j = 8 ∨ j = 9 ∨ j = 10 ∨ j = 11 ∨ j = 12 ∨ j = 13 ∨ j = 14 ∨ j = 15 ∨ j = 16 ∨ j = 17 ∨ j = 18 ∨ j = 19 ∨ j = 20 ∨ j = 21 ∨ j = 22 ∨ j = 23 ∨ j = 24 ∨ j = 25 ∨ j = 26 ∨ j = 27 ∨ j = 28 ∨ j = 29 ∨ j = 30 ∨ j = 31 ∨ j = 32 ∨ j = 33 ∨ j = 34 from by omega) with rfl | rfl | rfl | rfl | rfl | rfl | rfl | rfl | rfl | rfl | rfl | rfl | rfl | rfl | rfl | rfl | rfl | rfl | rfl | rfl | rfl | rfl | rfl | rfl | rfl | rfl | rfl | rfl | rfl | rfl | rfl | rfl | rfl | rfl | rfl <;> rfl⟩
set_option maxHeartbeats 8000000 in
set_option maxRecDepth 100000 in
theorem whole_start {p : Program} {e : Env} {s : State} {m : MethodId} {below : List Frame} {meth : Method} {c : Code} (l : Launch) (hst : l.stackTraces = false) {b L : Nat} {xs : Nat → Int32} (hL : L ≤ 2048) (C0 : lw_At p s m meth c b L xs) : W p l e room_1 s m #[Value.ref b] below meth c s.heap [] 0 0 (lw_Z below #[Value.ref b] s) (entryFrame m ([Value.ref b] : List Value).toArray 7) := by
  obtain ⟨hx, hb, hr, hml, hown, hts0, hXs, hbl, hlocks, hgv⟩ := C0
  have hts : ∀ w ∈ xk_WS, w.before #[Value.ref b] s = true := fun w hw => hts0 w (xs_WS w hw)
  have hX := xs_nX hts0
  obtain ⟨G, ac, hK⟩ := xs_K hts hX
  have hA : ∀ q : Nat, s.heap.size ≤ q → (fun q => s.heap.size ≤ q) q := fun q h => h
  have hC : lz_C p s m c b L xs G ac (fun q => s.heap.size ≤ q) := ⟨hx, hb, hml, hts, hown, hK, hA, hXs, hbl, fun h => Nat.lt_irrefl _ (Nat.lt_of_lt_of_le hbl h), xs_X hts0 hgv (fun a ha h => Nat.lt_irrefl _ (Nat.lt_of_lt_of_le ha h)), xs_N hts0 hgv⟩
  have hown : s.vm.findClass RzL = some m.cls := hown
  have hb : c.code = czL_law := hb
  have hl := lv_entry ([.ref b]) (n := 7) (Nat.le_of_ble_eq_true rfl)
  rw [lg_entry_eq]
  generalize (lg_sl ([Value.ref b]) ++ List.replicate (7 - (lg_sl ([Value.ref b])).length) Slot.unset).toArray = ls at hl ⊢
  have hl : lv_has ls 7 [(0, .ref b)] := hl
  generalize hAe : (fun q => s.heap.size ≤ q : Nat → Prop) = A at hC hA
  have hS : va_S A s.heap s.heap [] := va_S.rf
  have hP : va_P G xk_cls [] s.heap := fun k q h => by simp at h
  have hD : va_D A [] := ⟨fun i j p q h => by simp at h, fun k q h => by simp at h⟩
  refine xn_new (pc := 0) hx hb hts hown hK hA hP hD hS nnzL_8 (Nat.le_of_ble_eq_true rfl) (Nat.le_of_ble_eq_true rfl) dzL_law_0 (fun q1 Ha hPa hDa hSa => ?_)
  have hPa : va_P G xk_cls [(q1, .inr (0, [.null, .null, .null, .null, .null, .int 0, .int 0, .int 0, .int 0, .int 0]))] Ha := hPa
  have hDa : va_D A [(q1, .inr (0, [.null, .null, .null, .null, .null, .int 0, .int 0, .int 0, .int 0, .int 0]))] := hDa
  refine lv_dup (pc := 3) hx hb dzL_law_3 rfl ?_
  refine xn_call (k := 0) (wr := []) (As := []) (rest := [.ref q1]) (H0 := s.heap) (pc := 4) hx hb hml hts hown hX hK hA hPa hDa hSa (nzzU l G ac q1) ⟨Or.inl xk_m559, gWS, xk_m63, xk_m62, xk_m45, rfl, ⟨by decide, by decide⟩, by decide +kernel⟩ [0] [] rfl rfl rfl rfl (by decide) ⟨(Nat.le_of_ble_eq_true rfl), (Nat.le_of_ble_eq_true rfl)⟩ rfl hl.1 rfl (Nat.le_of_ble_eq_true rfl) ⟨(Nat.le_of_ble_eq_true rfl), (Nat.le_of_ble_eq_true rfl)⟩ dzL_law_4 (fun u H locs hu hP hD hS => ?_)
  have hP : va_P G xk_cls (xk_wU u ac xn_g0) H := hP
  have hD : va_D A (xk_wU u ac xn_g0) := hD
  have hu : u 0 = q1 := hu
  subst hu
  refine lv_astore_n (lv' := [(1, .ref (u 0)), (0, .ref b)]) (pc := 7) hx hb dzL_law_7 rfl hl (by decide) rfl (fun ls hl => ?_)
  refine xn_new (pc := 8) hx hb hts hown hK hA hP hD hS nnzL_63 (Nat.le_of_ble_eq_true rfl) (Nat.le_of_ble_eq_true rfl) dzL_law_8 (fun q2 Hb hPb hDb hSb => ?_)
  refine lv_dup (pc := 11) hx hb dzL_law_11 rfl ?_
  refine xn_call (k := 0) (wr := xk_wU u ac xn_g0) (As := []) (rest := [.ref q2]) (H0 := s.heap) (pc := 12) hx hb hml hts hown hX hK hA hPb hDb hSb (nzzM l G ac q2) ⟨Or.inl xk_m618, gWS, xk_m402, xk_m401, xk_m53, rfl, ⟨by decide, by decide⟩, by decide +kernel⟩ [34] [0, 1, 2, 3, 4, 5, 6, 7, 8, 9, 10, 11, 12, 13, 14, 15, 16, 17, 18, 19, 20, 21, 22, 23, 24, 25, 26, 27, 28, 29, 30, 31, 32, 33] rfl rfl rfl rfl (by decide) ⟨(Nat.le_of_ble_eq_true rfl), (Nat.le_of_ble_eq_true rfl)⟩ rfl hl.1 rfl (Nat.le_of_ble_eq_true rfl) ⟨(Nat.le_of_ble_eq_true rfl), (Nat.le_of_ble_eq_true rfl)⟩ dzL_law_12 (fun v H locs hv hP hD hS => ?_)
  have hv : v 0 = q2 := hv
  subst hv
  refine lv_astore_n (lv' := [(2, .ref (v 0)), (1, .ref (u 0)), (0, .ref b)]) (pc := 15) hx hb dzL_law_15 rfl hl (by decide) rfl (fun ls hl => ?_)
  refine lv_iconst (v := 1) (pc := 16) hx hb dzL_law_16 (by decide) ?_
  refine xn_newa (pc := 17) (t0 := 7) (N' := 1) (a0 := (1, .inr (.inl (fun _ => 0)))) hx hb hts xk_m556 rfl (fun C h => by cases h) hK hA hP hD hS rfl (fun _ => rfl) (by decide) (by decide) (by decide) (Nat.le_of_ble_eq_true rfl) (Nat.le_of_ble_eq_true rfl) dzL_law_17 (fun q3 H hP hD hS => ?_)
  obtain ⟨hP, hD⟩ := xn_perm (ws2 := lz_W v u ac q3 xn_t0 (fun _ => 0) xn_g0) hP hD [34, 35, 36, 37, 38, 39, 40, 41, 42, 43, 44, 45, 46, 47, 48, 49, 50, 51, 52, 53, 54, 55, 56, 57, 58, 59, 60, 61, 62, 0, 1, 2, 3, 4, 5, 6, 7, 8, 9, 10, 11, 12, 13, 14, 15, 16, 17, 18, 19, 20, 21, 22, 23, 24, 25, 26, 27, 28, 29, 30, 31, 32, 33] (by decide) rfl
  refine lv_astore_n (lv' := [(3, .ref q3), (2, .ref (v 0)), (1, .ref (u 0)), (0, .ref b)]) (pc := 19) hx hb dzL_law_19 rfl hl (by decide) rfl (fun ls hl => ?_)
  refine lv_iconst (v := 0) (pc := 20) hx hb dzL_law_20 (by decide) ?_
  refine lv_istore (lv' := [(4, .int 0), (3, .ref q3), (2, .ref (v 0)), (1, .ref (u 0)), (0, .ref b)]) (pc := 21) hx hb dzL_law_21 hl (by decide) rfl (fun ls hl => ?_)
  subst hAe
  exact lz_loop l xJ xJ_more (go_pulse l hst) (go_health l hst) (go_tick l hst) (go_ticks l hst) (go_barrier l hst) (go_current l hst) (go_night l hst) (go_order l hst) (go_cancel l hst) (go_ask l hst) (go_confirm l hst) (go_section l hst) (go_earliest l hst) (go_about l hst) (go_event l hst) hC hr hlocks hL u v q3 512 0 xn_t0 xn_g0 (fun _ => 0) H locs ls _ _ (by omega) (Nat.le_of_ble_eq_true rfl) (Nat.le_of_ble_eq_true rfl) xs_J0 hP hD hS (lv_sub hl [0, 4, 3, 2, 1] rfl)
