theorem nfzS_37 : xn_PF xk_WS xk_cls RzS 37 1 0 .int := ⟨RzS, TzS, 9, tyzS, rfl, by decide, iwzS, xk_m107, tyzS_ok, nmzS, rfl, rfl, rfl⟩
theorem nfzE_19 : xn_PF xk_WS xk_cls RzE 19 2 0 (.object "CrossingUnit$Section") := ⟨RzE, TzE, 3, tyzE, rfl, by decide, iwzE, xk_m130, tyzE_ok, nmzE, rfl, rfl, rfl⟩
theorem nfzJ_9 : xn_PF xk_WS xk_cls RzJ 9 7 0 (.array (.int)) := ⟨RzJ, TzJ, 4, tyzJ, rfl, by decide, iwzJ, xk_m86, tyzJ_ok, nmzJ, rfl, rfl, rfl⟩
theorem nfzJ_13 : xn_PF xk_WS xk_cls RzJ 13 7 1 (.array (.int)) := ⟨RzJ, TzJ, 4, tyzJ, rfl, by decide, iwzJ, xk_m88, tyzJ_ok, nmzJ, rfl, rfl, rfl⟩
theorem nfzJ_16 : xn_PF xk_WS xk_cls RzJ 16 7 2 (.array (.int)) := ⟨RzJ, TzJ, 4, tyzJ, rfl, by decide, iwzJ, xk_m90, tyzJ_ok, nmzJ, rfl, rfl, rfl⟩
theorem nfzK_11 : xn_PF xk_WS xk_cls RzK 11 3 0 (.array (.object "CrossingUnit$Section")) := ⟨RzK, TzK, 6, tyzK, rfl, by decide, iwzK, xk_m135, tyzK_ok, nmzK, rfl, rfl, rfl⟩
theorem nfzK_19 : xn_PF xk_WS xk_cls RzK 19 3 1 (.array (.object "CrossingUnit$End")) := ⟨RzK, TzK, 6, tyzK, rfl, by decide, iwzK, xk_m137, tyzK_ok, nmzK, rfl, rfl, rfl⟩
theorem nfzK_23 : xn_PF xk_WS xk_cls RzK 23 3 2 (.array (.int)) := ⟨RzK, TzK, 6, tyzK, rfl, by decide, iwzK, xk_m139, tyzK_ok, nmzK, rfl, rfl, rfl⟩
theorem nfzK_27 : xn_PF xk_WS xk_cls RzK 27 3 3 (.array (.boolean)) := ⟨RzK, TzK, 6, tyzK, rfl, by decide, iwzK, xk_m141, tyzK_ok, nmzK, rfl, rfl, rfl⟩
theorem nnzK_9 : xn_NF xk_WS xk_cls RzK 9 1 9 [.int 0, .int 0, .int 0, .int 0, .int 0, .int 0, .int 0, .int 0, .int 0] := ⟨RzS, TzS, tyzS, rfl, iwzS, tyzS_ok, xk_m100, xk_m102, xk_m49, fun j hj => by
  rcases (show j = 0 ∨ j = 1 ∨ j = 2 ∨ j = 3 ∨ j = 4 ∨ j = 5 ∨ j = 6 ∨ j = 7 ∨ j = 8 from by omega) with rfl | rfl | rfl | rfl | rfl | rfl | rfl | rfl | rfl <;> rfl⟩
theorem nnzK_17 : xn_NF xk_WS xk_cls RzK 17 2 3 [.null, .int 0, .int 0] := ⟨RzE, TzE, tyzE, rfl, iwzE, tyzE_ok, xk_m101, xk_m125, xk_m50, fun j hj => by
  rcases (show j = 0 ∨ j = 1 ∨ j = 2 from by omega) with rfl | rfl | rfl <;> rfl⟩
theorem nfzM_7 : xn_PF xk_WS xk_cls RzM 7 8 1 (.array (.int)) := ⟨RzM, TzM, 35, tyzM, rfl, by decide, iwzM, xk_m405, tyzM_ok, nmzM, rfl, rfl, rfl⟩
theorem nfzM_13 : xn_PF xk_WS xk_cls RzM 13 8 2 (.array (.boolean)) := ⟨RzM, TzM, 35, tyzM, rfl, by decide, iwzM, xk_m406, tyzM_ok, nmzM, rfl, rfl, rfl⟩
theorem nfzM_17 : xn_PF xk_WS xk_cls RzM 17 8 3 (.array (.int)) := ⟨RzM, TzM, 35, tyzM, rfl, by decide, iwzM, xk_m407, tyzM_ok, nmzM, rfl, rfl, rfl⟩
theorem nfzM_20 : xn_PF xk_WS xk_cls RzM 20 8 4 (.array (.int)) := ⟨RzM, TzM, 35, tyzM, rfl, by decide, iwzM, xk_m408, tyzM_ok, nmzM, rfl, rfl, rfl⟩
theorem nfzM_23 : xn_PF xk_WS xk_cls RzM 23 8 5 (.array (.boolean)) := ⟨RzM, TzM, 35, tyzM, rfl, by decide, iwzM, xk_m409, tyzM_ok, nmzM, rfl, rfl, rfl⟩
theorem nfzM_26 : xn_PF xk_WS xk_cls RzM 26 8 6 (.array (.int)) := ⟨RzM, TzM, 35, tyzM, rfl, by decide, iwzM, xk_m410, tyzM_ok, nmzM, rfl, rfl, rfl⟩
theorem nfzM_29 : xn_PF xk_WS xk_cls RzM 29 8 7 (.array (.int)) := ⟨RzM, TzM, 35, tyzM, rfl, by decide, iwzM, xk_m411, tyzM_ok, nmzM, rfl, rfl, rfl⟩
theorem nfzM_32 : xn_PF xk_WS xk_cls RzM 32 8 8 (.array (.int)) := ⟨RzM, TzM, 35, tyzM, rfl, by decide, iwzM, xk_m412, tyzM_ok, nmzM, rfl, rfl, rfl⟩
theorem nfzM_35 : xn_PF xk_WS xk_cls RzM 35 8 9 (.array (.int)) := ⟨RzM, TzM, 35, tyzM, rfl, by decide, iwzM, xk_m413, tyzM_ok, nmzM, rfl, rfl, rfl⟩
theorem nfzM_38 : xn_PF xk_WS xk_cls RzM 38 8 10 (.array (.int)) := ⟨RzM, TzM, 35, tyzM, rfl, by decide, iwzM, xk_m414, tyzM_ok, nmzM, rfl, rfl, rfl⟩
theorem nfzM_41 : xn_PF xk_WS xk_cls RzM 41 8 11 (.array (.int)) := ⟨RzM, TzM, 35, tyzM, rfl, by decide, iwzM, xk_m415, tyzM_ok, nmzM, rfl, rfl, rfl⟩
theorem nfzM_44 : xn_PF xk_WS xk_cls RzM 44 8 12 (.array (.boolean)) := ⟨RzM, TzM, 35, tyzM, rfl, by decide, iwzM, xk_m416, tyzM_ok, nmzM, rfl, rfl, rfl⟩
theorem nfzM_47 : xn_PF xk_WS xk_cls RzM 47 8 13 (.array (.boolean)) := ⟨RzM, TzM, 35, tyzM, rfl, by decide, iwzM, xk_m417, tyzM_ok, nmzM, rfl, rfl, rfl⟩
theorem nfzM_50 : xn_PF xk_WS xk_cls RzM 50 8 14 (.array (.int)) := ⟨RzM, TzM, 35, tyzM, rfl, by decide, iwzM, xk_m418, tyzM_ok, nmzM, rfl, rfl, rfl⟩
theorem nfzM_53 : xn_PF xk_WS xk_cls RzM 53 8 15 (.array (.int)) := ⟨RzM, TzM, 35, tyzM, rfl, by decide, iwzM, xk_m419, tyzM_ok, nmzM, rfl, rfl, rfl⟩
theorem nfzM_56 : xn_PF xk_WS xk_cls RzM 56 8 16 (.array (.int)) := ⟨RzM, TzM, 35, tyzM, rfl, by decide, iwzM, xk_m420, tyzM_ok, nmzM, rfl, rfl, rfl⟩
theorem nfzM_59 : xn_PF xk_WS xk_cls RzM 59 8 17 (.array (.int)) := ⟨RzM, TzM, 35, tyzM, rfl, by decide, iwzM, xk_m421, tyzM_ok, nmzM, rfl, rfl, rfl⟩
theorem nfzM_62 : xn_PF xk_WS xk_cls RzM 62 8 18 (.array (.int)) := ⟨RzM, TzM, 35, tyzM, rfl, by decide, iwzM, xk_m422, tyzM_ok, nmzM, rfl, rfl, rfl⟩
theorem nfzM_65 : xn_PF xk_WS xk_cls RzM 65 8 19 (.array (.boolean)) := ⟨RzM, TzM, 35, tyzM, rfl, by decide, iwzM, xk_m423, tyzM_ok, nmzM, rfl, rfl, rfl⟩
theorem nfzM_68 : xn_PF xk_WS xk_cls RzM 68 8 20 (.array (.boolean)) := ⟨RzM, TzM, 35, tyzM, rfl, by decide, iwzM, xk_m424, tyzM_ok, nmzM, rfl, rfl, rfl⟩
theorem nfzM_71 : xn_PF xk_WS xk_cls RzM 71 8 21 (.array (.boolean)) := ⟨RzM, TzM, 35, tyzM, rfl, by decide, iwzM, xk_m425, tyzM_ok, nmzM, rfl, rfl, rfl⟩
theorem nfzM_74 : xn_PF xk_WS xk_cls RzM 74 8 22 (.array (.int)) := ⟨RzM, TzM, 35, tyzM, rfl, by decide, iwzM, xk_m426, tyzM_ok, nmzM, rfl, rfl, rfl⟩
theorem nfzM_77 : xn_PF xk_WS xk_cls RzM 77 8 23 (.array (.boolean)) := ⟨RzM, TzM, 35, tyzM, rfl, by decide, iwzM, xk_m427, tyzM_ok, nmzM, rfl, rfl, rfl⟩
theorem nfzM_80 : xn_PF xk_WS xk_cls RzM 80 8 26 (.array (.boolean)) := ⟨RzM, TzM, 35, tyzM, rfl, by decide, iwzM, xk_m430, tyzM_ok, nmzM, rfl, rfl, rfl⟩
theorem nfzM_83 : xn_PF xk_WS xk_cls RzM 83 8 32 (.array (.int)) := ⟨RzM, TzM, 35, tyzM, rfl, by decide, iwzM, xk_m436, tyzM_ok, nmzM, rfl, rfl, rfl⟩
theorem nfzM_86 : xn_PF xk_WS xk_cls RzM 86 8 33 (.array (.int)) := ⟨RzM, TzM, 35, tyzM, rfl, by decide, iwzM, xk_m437, tyzM_ok, nmzM, rfl, rfl, rfl⟩
theorem nfzM_89 : xn_PF xk_WS xk_cls RzM 89 8 34 (.array (.int)) := ⟨RzM, TzM, 35, tyzM, rfl, by decide, iwzM, xk_m438, tyzM_ok, nmzM, rfl, rfl, rfl⟩
theorem nfzU_11 : xn_PF xk_WS xk_cls RzU 11 0 0 (.array (.object "CrossingUnit$Track")) := ⟨RzU, TzU, 10, tyzU, rfl, by decide, iwzU, xk_m173, tyzU_ok, nmzU, rfl, rfl, rfl⟩
theorem nfzU_17 : xn_PF xk_WS xk_cls RzU 17 0 1 (.array (.object "CrossingUnit$Barrier")) := ⟨RzU, TzU, 10, tyzU, rfl, by decide, iwzU, xk_m174, tyzU_ok, nmzU, rfl, rfl, rfl⟩
theorem nfzU_23 : xn_PF xk_WS xk_cls RzU 23 0 2 (.array (.object "CrossingUnit$Lamp")) := ⟨RzU, TzU, 10, tyzU, rfl, by decide, iwzU, xk_m175, tyzU_ok, nmzU, rfl, rfl, rfl⟩
theorem nnzU_27 : xn_NF xk_WS xk_cls RzU 27 6 3 [.int 0, .int 0, .int 0] := ⟨RzR, TzR, tyzR, rfl, iwzR, tyzR_ok, xk_m70, xk_m71, xk_m46, fun j hj => by
  rcases (show j = 0 ∨ j = 1 ∨ j = 2 from by omega) with rfl | rfl | rfl <;> rfl⟩
theorem nfzU_30 : xn_PF xk_WS xk_cls RzU 30 0 3 (.object "CrossingUnit$Road") := ⟨RzU, TzU, 10, tyzU, rfl, by decide, iwzU, xk_m176, tyzU_ok, nmzU, rfl, rfl, rfl⟩
theorem nnzU_34 : xn_NF xk_WS xk_cls RzU 34 7 4 [.null, .null, .null, .int 0] := ⟨RzJ, TzJ, tyzJ, rfl, iwzJ, tyzJ_ok, xk_m81, xk_m82, xk_m47, fun j hj => by
  rcases (show j = 0 ∨ j = 1 ∨ j = 2 ∨ j = 3 from by omega) with rfl | rfl | rfl | rfl <;> rfl⟩
theorem nfzU_37 : xn_PF xk_WS xk_cls RzU 37 0 4 (.object "CrossingUnit$Journal") := ⟨RzU, TzU, 10, tyzU, rfl, by decide, iwzU, xk_m177, tyzU_ok, nmzU, rfl, rfl, rfl⟩
theorem nnzU_9 : xn_NF xk_WS xk_cls RzU 9 3 6 [.null, .null, .null, .null, .int 0, .int 0] := ⟨RzK, TzK, tyzK, rfl, iwzK, tyzK_ok, xk_m67, xk_m95, xk_m48, fun j hj => by
  rcases (show j = 0 ∨ j = 1 ∨ j = 2 ∨ j = 3 ∨ j = 4 ∨ j = 5 from by omega) with rfl | rfl | rfl | rfl | rfl | rfl <;> rfl⟩
theorem nnzU_15 : xn_NF xk_WS xk_cls RzU 15 4 6 [.int 0, .int 0, .int 0, .int 0, .int 0, .int 0] := ⟨RzB, TzB, tyzB, rfl, iwzB, tyzB_ok, xk_m68, xk_m147, xk_m51, fun j hj => by
  rcases (show j = 0 ∨ j = 1 ∨ j = 2 ∨ j = 3 ∨ j = 4 ∨ j = 5 from by omega) with rfl | rfl | rfl | rfl | rfl | rfl <;> rfl⟩
theorem nnzU_21 : xn_NF xk_WS xk_cls RzU 21 5 4 [.int 0, .int 0, .int 0, .int 0] := ⟨RzP, TzP, tyzP, rfl, iwzP, tyzP_ok, xk_m69, xk_m162, xk_m52, fun j hj => by
  rcases (show j = 0 ∨ j = 1 ∨ j = 2 ∨ j = 3 from by omega) with rfl | rfl | rfl | rfl <;> rfl⟩
def xn_rzS : Room := { frames := 1, cells := 0, slots := 0, locals := 20 }
set_option maxHeartbeats 4000000 in
set_option maxRecDepth 100000 in
theorem nzzS (l : Launch) (G : va_G) (ac : Nat → ClassId) (oa : Nat) (k0 : Int32) : xn_C l yzS_init czS_init 2 xk_WS xn_rzS G xk_cls (xk_tys ac) [.ref oa, .int k0] [(oa, .inr (1, [.int 0, .int 0, .int 0, .int 0, .int 0, .int 0, .int 0, .int 0, .int 0]))] (fun _ : Unit => True) (fun _ => [(oa, .inr (1, [.int k0, .int 0, .int 0, .int 0, .int 0, .int 0, .int 0, .int 0, .int 0]))]) := by
  refine xn_of (by decide) rfl (Nat.le_of_ble_eq_true rfl) ?_
  intro p e s m args below meth c A Q H locs ls C0 hin hX hret hP hD hS hl
  obtain ⟨hx, hb, hml, hts, hown, hK, hA⟩ := C0
  have hl : lv_has ls 2 [(0, .ref oa), (1, .int k0)] := hl
  refine lv_aload_n (pc := 0) hx hb dzS_init_0 rfl (lv_at hl 0 rfl) ?_
  refine xn_obj (pc := 1) hx hb hml hts hown xk_m106 xk_m65 xk_m66 hl.1 (Nat.le_of_ble_eq_true rfl) (Nat.le_of_ble_eq_true rfl) (Nat.le_of_ble_eq_true rfl) dzS_init_1 ?_
  refine lv_aload_n (pc := 4) hx hb dzS_init_4 rfl (lv_at hl 0 rfl) ?_
  refine lv_iconst (v := 0) (pc := 5) hx hb dzS_init_5 (by decide) ?_
  refine xk_putf (pc := 6) hx hb hts hown hK hP hD hS pfzS_9 0 rfl rfl rfl (Nat.le_of_ble_eq_true rfl) dzS_init_6 (fun H locs hP hD hS => ?_)
  have hP : va_P G xk_cls [(oa, .inr (1, [.int 0, .int 0, .int 0, .int 0, .int 0, .int 0, .int 0, .int 0, .int 0]))] H := hP
  have hD : va_D A [(oa, .inr (1, [.int 0, .int 0, .int 0, .int 0, .int 0, .int 0, .int 0, .int 0, .int 0]))] := hD
  refine lv_aload_n (pc := 9) hx hb dzS_init_9 rfl (lv_at hl 0 rfl) ?_
  refine lv_iconst (v := 0) (pc := 10) hx hb dzS_init_10 (by decide) ?_
  refine xk_putf (pc := 11) hx hb hts hown hK hP hD hS pfzS_15 0 rfl rfl rfl (Nat.le_of_ble_eq_true rfl) dzS_init_11 (fun H locs hP hD hS => ?_)
  have hP : va_P G xk_cls [(oa, .inr (1, [.int 0, .int 0, .int 0, .int 0, .int 0, .int 0, .int 0, .int 0, .int 0]))] H := hP
  have hD : va_D A [(oa, .inr (1, [.int 0, .int 0, .int 0, .int 0, .int 0, .int 0, .int 0, .int 0, .int 0]))] := hD
  refine lv_aload_n (pc := 14) hx hb dzS_init_14 rfl (lv_at hl 0 rfl) ?_
  refine lv_iconst (v := 0) (pc := 15) hx hb dzS_init_15 (by decide) ?_
  refine xk_putf (pc := 16) hx hb hts hown hK hP hD hS pfzS_18 0 rfl (xk_bn xk_b0) (xk_bf xk_b0) (Nat.le_of_ble_eq_true rfl) dzS_init_16 (fun H locs hP hD hS => ?_)
  have hP : va_P G xk_cls [(oa, .inr (1, [.int 0, .int 0, .int 0, .int 0, .int 0, .int 0, .int 0, .int 0, .int 0]))] H := hP
  have hD : va_D A [(oa, .inr (1, [.int 0, .int 0, .int 0, .int 0, .int 0, .int 0, .int 0, .int 0, .int 0]))] := hD
  refine lv_aload_n (pc := 19) hx hb dzS_init_19 rfl (lv_at hl 0 rfl) ?_
  refine lv_iconst (v := 0) (pc := 20) hx hb dzS_init_20 (by decide) ?_
  refine xk_putf (pc := 21) hx hb hts hown hK hP hD hS pfzS_22 0 rfl rfl rfl (Nat.le_of_ble_eq_true rfl) dzS_init_21 (fun H locs hP hD hS => ?_)
  have hP : va_P G xk_cls [(oa, .inr (1, [.int 0, .int 0, .int 0, .int 0, .int 0, .int 0, .int 0, .int 0, .int 0]))] H := hP
  have hD : va_D A [(oa, .inr (1, [.int 0, .int 0, .int 0, .int 0, .int 0, .int 0, .int 0, .int 0, .int 0]))] := hD
  refine lv_aload_n (pc := 24) hx hb dzS_init_24 rfl (lv_at hl 0 rfl) ?_
  refine lv_iconst (v := 0) (pc := 25) hx hb dzS_init_25 (by decide) ?_
  refine xk_putf (pc := 26) hx hb hts hown hK hP hD hS pfzS_25 0 rfl rfl rfl (Nat.le_of_ble_eq_true rfl) dzS_init_26 (fun H locs hP hD hS => ?_)
  have hP : va_P G xk_cls [(oa, .inr (1, [.int 0, .int 0, .int 0, .int 0, .int 0, .int 0, .int 0, .int 0, .int 0]))] H := hP
  have hD : va_D A [(oa, .inr (1, [.int 0, .int 0, .int 0, .int 0, .int 0, .int 0, .int 0, .int 0, .int 0]))] := hD
  refine lv_aload_n (pc := 29) hx hb dzS_init_29 rfl (lv_at hl 0 rfl) ?_
  refine lv_iconst (v := 0) (pc := 30) hx hb dzS_init_30 (by decide) ?_
  refine xk_putf (pc := 31) hx hb hts hown hK hP hD hS pfzS_28 0 rfl rfl rfl (Nat.le_of_ble_eq_true rfl) dzS_init_31 (fun H locs hP hD hS => ?_)
  have hP : va_P G xk_cls [(oa, .inr (1, [.int 0, .int 0, .int 0, .int 0, .int 0, .int 0, .int 0, .int 0, .int 0]))] H := hP
  have hD : va_D A [(oa, .inr (1, [.int 0, .int 0, .int 0, .int 0, .int 0, .int 0, .int 0, .int 0, .int 0]))] := hD
  refine lv_aload_n (pc := 34) hx hb dzS_init_34 rfl (lv_at hl 0 rfl) ?_
  refine lv_iconst (v := 0) (pc := 35) hx hb dzS_init_35 (by decide) ?_
  refine xk_putf (pc := 36) hx hb hts hown hK hP hD hS pfzS_31 0 rfl rfl rfl (Nat.le_of_ble_eq_true rfl) dzS_init_36 (fun H locs hP hD hS => ?_)
  have hP : va_P G xk_cls [(oa, .inr (1, [.int 0, .int 0, .int 0, .int 0, .int 0, .int 0, .int 0, .int 0, .int 0]))] H := hP
  have hD : va_D A [(oa, .inr (1, [.int 0, .int 0, .int 0, .int 0, .int 0, .int 0, .int 0, .int 0, .int 0]))] := hD
  refine lv_aload_n (pc := 39) hx hb dzS_init_39 rfl (lv_at hl 0 rfl) ?_
  refine lv_iconst (v := 0) (pc := 40) hx hb dzS_init_40 (by decide) ?_
  refine xk_putf (pc := 41) hx hb hts hown hK hP hD hS pfzS_34 0 rfl rfl rfl (Nat.le_of_ble_eq_true rfl) dzS_init_41 (fun H locs hP hD hS => ?_)
  have hP : va_P G xk_cls [(oa, .inr (1, [.int 0, .int 0, .int 0, .int 0, .int 0, .int 0, .int 0, .int 0, .int 0]))] H := hP
  have hD : va_D A [(oa, .inr (1, [.int 0, .int 0, .int 0, .int 0, .int 0, .int 0, .int 0, .int 0, .int 0]))] := hD
  refine lv_aload_n (pc := 44) hx hb dzS_init_44 rfl (lv_at hl 0 rfl) ?_
  refine lv_iload_n (pc := 45) hx hb dzS_init_45 rfl (lv_at hl 1 rfl) ?_
  refine xn_putF (pc := 46) hx hb hts hown hin hK hP hD hS nfzS_37 0 rfl rfl rfl (Nat.le_of_ble_eq_true rfl) dzS_init_46 (fun H locs hP hD hS => ?_)
  have hP : va_P G xk_cls [(oa, .inr (1, [.int k0, .int 0, .int 0, .int 0, .int 0, .int 0, .int 0, .int 0, .int 0]))] H := hP
  have hD : va_D A [(oa, .inr (1, [.int k0, .int 0, .int 0, .int 0, .int 0, .int 0, .int 0, .int 0, .int 0]))] := hD
  exact hret () H locs 49 ls _ _ (Nat.le_of_ble_eq_true rfl) (Nat.le_of_ble_eq_true rfl) hP hD hS trivial dzS_init_49

def xn_rzE : Room := { frames := 1, cells := 0, slots := 0, locals := 20 }
set_option maxHeartbeats 4000000 in
set_option maxRecDepth 100000 in
theorem nzzE (l : Launch) (G : va_G) (ac : Nat → ClassId) (oa : Nat) (ob : Nat) : xn_C l yzE_init czE_init 2 xk_WS xn_rzE G xk_cls (xk_tys ac) [.ref oa, .ref ob] [(oa, .inr (2, [.null, .int 0, .int 0]))] (fun _ : Unit => True) (fun _ => [(oa, .inr (2, [.ref ob, .int (-1), .int 0]))]) := by
  refine xn_of (by decide) rfl (Nat.le_of_ble_eq_true rfl) ?_
  intro p e s m args below meth c A Q H locs ls C0 hin hX hret hP hD hS hl
  obtain ⟨hx, hb, hml, hts, hown, hK, hA⟩ := C0
  have hl : lv_has ls 2 [(0, .ref oa), (1, .ref ob)] := hl
  refine lv_aload_n (pc := 0) hx hb dzE_init_0 rfl (lv_at hl 0 rfl) ?_
  refine xn_obj (pc := 1) hx hb hml hts hown xk_m129 xk_m65 xk_m66 hl.1 (Nat.le_of_ble_eq_true rfl) (Nat.le_of_ble_eq_true rfl) (Nat.le_of_ble_eq_true rfl) dzE_init_1 ?_
  refine lv_aload_n (pc := 4) hx hb dzE_init_4 rfl (lv_at hl 0 rfl) ?_
  refine lv_iconst (v := (-1)) (pc := 5) hx hb dzE_init_5 (by decide) ?_
  refine xk_putf (pc := 6) hx hb hts hown hK hP hD hS pfzE_9 0 rfl rfl rfl (Nat.le_of_ble_eq_true rfl) dzE_init_6 (fun H locs hP hD hS => ?_)
  have hP : va_P G xk_cls [(oa, .inr (2, [.null, .int (-1), .int 0]))] H := hP
  have hD : va_D A [(oa, .inr (2, [.null, .int (-1), .int 0]))] := hD
  refine lv_aload_n (pc := 9) hx hb dzE_init_9 rfl (lv_at hl 0 rfl) ?_
  refine lv_iconst (v := 0) (pc := 10) hx hb dzE_init_10 (by decide) ?_
  refine xk_putf (pc := 11) hx hb hts hown hK hP hD hS pfzE_15 0 rfl (xk_bn xk_b0) (xk_bf xk_b0) (Nat.le_of_ble_eq_true rfl) dzE_init_11 (fun H locs hP hD hS => ?_)
  have hP : va_P G xk_cls [(oa, .inr (2, [.null, .int (-1), .int 0]))] H := hP
  have hD : va_D A [(oa, .inr (2, [.null, .int (-1), .int 0]))] := hD
  refine lv_aload_n (pc := 14) hx hb dzE_init_14 rfl (lv_at hl 0 rfl) ?_
  refine lv_aload_n (pc := 15) hx hb dzE_init_15 rfl (lv_at hl 1 rfl) ?_
  refine xn_putF (pc := 16) hx hb hts hown hin hK hP hD hS nfzE_19 0 rfl rfl rfl (Nat.le_of_ble_eq_true rfl) dzE_init_16 (fun H locs hP hD hS => ?_)
  have hP : va_P G xk_cls [(oa, .inr (2, [.ref ob, .int (-1), .int 0]))] H := hP
  have hD : va_D A [(oa, .inr (2, [.ref ob, .int (-1), .int 0]))] := hD
  exact hret () H locs 19 ls _ _ (Nat.le_of_ble_eq_true rfl) (Nat.le_of_ble_eq_true rfl) hP hD hS trivial dzE_init_19

def xn_rzR : Room := { frames := 1, cells := 0, slots := 0, locals := 20 }
set_option maxHeartbeats 4000000 in
set_option maxRecDepth 100000 in
theorem nzzR (l : Launch) (G : va_G) (ac : Nat → ClassId) (oa : Nat) : xn_C l yzR_init czR_init 1 xk_WS xn_rzR G xk_cls (xk_tys ac) [.ref oa] [(oa, .inr (6, [.int 0, .int 0, .int 0]))] (fun _ : Unit => True) (fun _ => [(oa, .inr (6, [.int 0, .int 0, .int 0]))]) := by
  refine xn_of (by decide) rfl (Nat.le_of_ble_eq_true rfl) ?_
  intro p e s m args below meth c A Q H locs ls C0 hin hX hret hP hD hS hl
  obtain ⟨hx, hb, hml, hts, hown, hK, hA⟩ := C0
  have hl : lv_has ls 1 [(0, .ref oa)] := hl
  refine lv_aload_n (pc := 0) hx hb dzR_init_0 rfl (lv_at hl 0 rfl) ?_
  refine xn_obj (pc := 1) hx hb hml hts hown xk_m74 xk_m65 xk_m66 hl.1 (Nat.le_of_ble_eq_true rfl) (Nat.le_of_ble_eq_true rfl) (Nat.le_of_ble_eq_true rfl) dzR_init_1 ?_
  refine lv_aload_n (pc := 4) hx hb dzR_init_4 rfl (lv_at hl 0 rfl) ?_
  refine lv_iconst (v := 0) (pc := 5) hx hb dzR_init_5 (by decide) ?_
  refine xk_putf (pc := 6) hx hb hts hown hK hP hD hS pfzR_9 0 rfl rfl rfl (Nat.le_of_ble_eq_true rfl) dzR_init_6 (fun H locs hP hD hS => ?_)
  have hP : va_P G xk_cls [(oa, .inr (6, [.int 0, .int 0, .int 0]))] H := hP
  have hD : va_D A [(oa, .inr (6, [.int 0, .int 0, .int 0]))] := hD
  refine lv_aload_n (pc := 9) hx hb dzR_init_9 rfl (lv_at hl 0 rfl) ?_
  refine lv_iconst (v := 0) (pc := 10) hx hb dzR_init_10 (by decide) ?_
  refine xk_putf (pc := 11) hx hb hts hown hK hP hD hS pfzR_15 0 rfl rfl rfl (Nat.le_of_ble_eq_true rfl) dzR_init_11 (fun H locs hP hD hS => ?_)
  have hP : va_P G xk_cls [(oa, .inr (6, [.int 0, .int 0, .int 0]))] H := hP
  have hD : va_D A [(oa, .inr (6, [.int 0, .int 0, .int 0]))] := hD
  refine lv_aload_n (pc := 14) hx hb dzR_init_14 rfl (lv_at hl 0 rfl) ?_
  refine lv_iconst (v := 0) (pc := 15) hx hb dzR_init_15 (by decide) ?_
  refine xk_putf (pc := 16) hx hb hts hown hK hP hD hS pfzR_18 0 rfl rfl rfl (Nat.le_of_ble_eq_true rfl) dzR_init_16 (fun H locs hP hD hS => ?_)
  have hP : va_P G xk_cls [(oa, .inr (6, [.int 0, .int 0, .int 0]))] H := hP
  have hD : va_D A [(oa, .inr (6, [.int 0, .int 0, .int 0]))] := hD
  exact hret () H locs 19 ls _ _ (Nat.le_of_ble_eq_true rfl) (Nat.le_of_ble_eq_true rfl) hP hD hS trivial dzR_init_19

def xn_rzB : Room := { frames := 1, cells := 0, slots := 0, locals := 20 }
set_option maxHeartbeats 4000000 in
set_option maxRecDepth 100000 in
theorem nzzB (l : Launch) (G : va_G) (ac : Nat → ClassId) (oa : Nat) : xn_C l yzB_init czB_init 1 xk_WS xn_rzB G xk_cls (xk_tys ac) [.ref oa] [(oa, .inr (4, [.int 0, .int 0, .int 0, .int 0, .int 0, .int 0]))] (fun _ : Unit => True) (fun _ => [(oa, .inr (4, [.int 100, .int 100, .int 0, .int 0, .int 0, .int 0]))]) := by
  refine xn_of (by decide) rfl (Nat.le_of_ble_eq_true rfl) ?_
  intro p e s m args below meth c A Q H locs ls C0 hin hX hret hP hD hS hl
  obtain ⟨hx, hb, hml, hts, hown, hK, hA⟩ := C0
  have hl : lv_has ls 1 [(0, .ref oa)] := hl
  refine lv_aload_n (pc := 0) hx hb dzB_init_0 rfl (lv_at hl 0 rfl) ?_
  refine xn_obj (pc := 1) hx hb hml hts hown xk_m150 xk_m65 xk_m66 hl.1 (Nat.le_of_ble_eq_true rfl) (Nat.le_of_ble_eq_true rfl) (Nat.le_of_ble_eq_true rfl) dzB_init_1 ?_
  refine lv_aload_n (pc := 4) hx hb dzB_init_4 rfl (lv_at hl 0 rfl) ?_
  refine lv_bipush (v := 100) (pc := 5) hx hb dzB_init_5 (by decide) ?_
  refine xk_putf (pc := 7) hx hb hts hown hK hP hD hS pfzB_9 0 rfl rfl rfl (Nat.le_of_ble_eq_true rfl) dzB_init_7 (fun H locs hP hD hS => ?_)
  have hP : va_P G xk_cls [(oa, .inr (4, [.int 100, .int 0, .int 0, .int 0, .int 0, .int 0]))] H := hP
  have hD : va_D A [(oa, .inr (4, [.int 100, .int 0, .int 0, .int 0, .int 0, .int 0]))] := hD
  refine lv_aload_n (pc := 10) hx hb dzB_init_10 rfl (lv_at hl 0 rfl) ?_
  refine lv_bipush (v := 100) (pc := 11) hx hb dzB_init_11 (by decide) ?_
  refine xk_putf (pc := 13) hx hb hts hown hK hP hD hS pfzB_15 0 rfl rfl rfl (Nat.le_of_ble_eq_true rfl) dzB_init_13 (fun H locs hP hD hS => ?_)
  have hP : va_P G xk_cls [(oa, .inr (4, [.int 100, .int 100, .int 0, .int 0, .int 0, .int 0]))] H := hP
  have hD : va_D A [(oa, .inr (4, [.int 100, .int 100, .int 0, .int 0, .int 0, .int 0]))] := hD
  refine lv_aload_n (pc := 16) hx hb dzB_init_16 rfl (lv_at hl 0 rfl) ?_
  refine lv_iconst (v := 0) (pc := 17) hx hb dzB_init_17 (by decide) ?_
  refine xk_putf (pc := 18) hx hb hts hown hK hP hD hS pfzB_18 0 rfl rfl rfl (Nat.le_of_ble_eq_true rfl) dzB_init_18 (fun H locs hP hD hS => ?_)
  have hP : va_P G xk_cls [(oa, .inr (4, [.int 100, .int 100, .int 0, .int 0, .int 0, .int 0]))] H := hP
  have hD : va_D A [(oa, .inr (4, [.int 100, .int 100, .int 0, .int 0, .int 0, .int 0]))] := hD
  refine lv_aload_n (pc := 21) hx hb dzB_init_21 rfl (lv_at hl 0 rfl) ?_
  refine lv_iconst (v := 0) (pc := 22) hx hb dzB_init_22 (by decide) ?_
  refine xk_putf (pc := 23) hx hb hts hown hK hP hD hS pfzB_21 0 rfl rfl rfl (Nat.le_of_ble_eq_true rfl) dzB_init_23 (fun H locs hP hD hS => ?_)
  have hP : va_P G xk_cls [(oa, .inr (4, [.int 100, .int 100, .int 0, .int 0, .int 0, .int 0]))] H := hP
  have hD : va_D A [(oa, .inr (4, [.int 100, .int 100, .int 0, .int 0, .int 0, .int 0]))] := hD
  refine lv_aload_n (pc := 26) hx hb dzB_init_26 rfl (lv_at hl 0 rfl) ?_
  refine lv_iconst (v := 0) (pc := 27) hx hb dzB_init_27 (by decide) ?_
  refine xk_putf (pc := 28) hx hb hts hown hK hP hD hS pfzB_24 0 rfl rfl rfl (Nat.le_of_ble_eq_true rfl) dzB_init_28 (fun H locs hP hD hS => ?_)
  have hP : va_P G xk_cls [(oa, .inr (4, [.int 100, .int 100, .int 0, .int 0, .int 0, .int 0]))] H := hP
  have hD : va_D A [(oa, .inr (4, [.int 100, .int 100, .int 0, .int 0, .int 0, .int 0]))] := hD
  refine lv_aload_n (pc := 31) hx hb dzB_init_31 rfl (lv_at hl 0 rfl) ?_
  refine lv_iconst (v := 0) (pc := 32) hx hb dzB_init_32 (by decide) ?_
  refine xk_putf (pc := 33) hx hb hts hown hK hP hD hS pfzB_27 0 rfl (xk_bn xk_b0) (xk_bf xk_b0) (Nat.le_of_ble_eq_true rfl) dzB_init_33 (fun H locs hP hD hS => ?_)
  have hP : va_P G xk_cls [(oa, .inr (4, [.int 100, .int 100, .int 0, .int 0, .int 0, .int 0]))] H := hP
  have hD : va_D A [(oa, .inr (4, [.int 100, .int 100, .int 0, .int 0, .int 0, .int 0]))] := hD
  exact hret () H locs 36 ls _ _ (Nat.le_of_ble_eq_true rfl) (Nat.le_of_ble_eq_true rfl) hP hD hS trivial dzB_init_36

def xn_rzP : Room := { frames := 1, cells := 0, slots := 0, locals := 20 }
set_option maxHeartbeats 4000000 in
set_option maxRecDepth 100000 in
theorem nzzP (l : Launch) (G : va_G) (ac : Nat → ClassId) (oa : Nat) : xn_C l yzP_init czP_init 1 xk_WS xn_rzP G xk_cls (xk_tys ac) [.ref oa] [(oa, .inr (5, [.int 0, .int 0, .int 0, .int 0]))] (fun _ : Unit => True) (fun _ => [(oa, .inr (5, [.int 1, .int 0, .int 0, .int 0]))]) := by
  refine xn_of (by decide) rfl (Nat.le_of_ble_eq_true rfl) ?_
  intro p e s m args below meth c A Q H locs ls C0 hin hX hret hP hD hS hl
  obtain ⟨hx, hb, hml, hts, hown, hK, hA⟩ := C0
  have hl : lv_has ls 1 [(0, .ref oa)] := hl
  refine lv_aload_n (pc := 0) hx hb dzP_init_0 rfl (lv_at hl 0 rfl) ?_
  refine xn_obj (pc := 1) hx hb hml hts hown xk_m165 xk_m65 xk_m66 hl.1 (Nat.le_of_ble_eq_true rfl) (Nat.le_of_ble_eq_true rfl) (Nat.le_of_ble_eq_true rfl) dzP_init_1 ?_
  refine lv_aload_n (pc := 4) hx hb dzP_init_4 rfl (lv_at hl 0 rfl) ?_
  refine lv_iconst (v := 1) (pc := 5) hx hb dzP_init_5 (by decide) ?_
  refine xk_putf (pc := 6) hx hb hts hown hK hP hD hS pfzP_9 0 rfl (xk_bn xk_b1) (xk_bf xk_b1) (Nat.le_of_ble_eq_true rfl) dzP_init_6 (fun H locs hP hD hS => ?_)
  have hP : va_P G xk_cls [(oa, .inr (5, [.int 1, .int 0, .int 0, .int 0]))] H := hP
  have hD : va_D A [(oa, .inr (5, [.int 1, .int 0, .int 0, .int 0]))] := hD
  refine lv_aload_n (pc := 9) hx hb dzP_init_9 rfl (lv_at hl 0 rfl) ?_
  refine lv_iconst (v := 0) (pc := 10) hx hb dzP_init_10 (by decide) ?_
  refine xk_putf (pc := 11) hx hb hts hown hK hP hD hS pfzP_15 0 rfl (xk_bn xk_b0) (xk_bf xk_b0) (Nat.le_of_ble_eq_true rfl) dzP_init_11 (fun H locs hP hD hS => ?_)
  have hP : va_P G xk_cls [(oa, .inr (5, [.int 1, .int 0, .int 0, .int 0]))] H := hP
  have hD : va_D A [(oa, .inr (5, [.int 1, .int 0, .int 0, .int 0]))] := hD
  refine lv_aload_n (pc := 14) hx hb dzP_init_14 rfl (lv_at hl 0 rfl) ?_
  refine lv_iconst (v := 0) (pc := 15) hx hb dzP_init_15 (by decide) ?_
  refine xk_putf (pc := 16) hx hb hts hown hK hP hD hS pfzP_18 0 rfl (xk_bn xk_b0) (xk_bf xk_b0) (Nat.le_of_ble_eq_true rfl) dzP_init_16 (fun H locs hP hD hS => ?_)
  have hP : va_P G xk_cls [(oa, .inr (5, [.int 1, .int 0, .int 0, .int 0]))] H := hP
  have hD : va_D A [(oa, .inr (5, [.int 1, .int 0, .int 0, .int 0]))] := hD
  refine lv_aload_n (pc := 19) hx hb dzP_init_19 rfl (lv_at hl 0 rfl) ?_
  refine lv_iconst (v := 0) (pc := 20) hx hb dzP_init_20 (by decide) ?_
  refine xk_putf (pc := 21) hx hb hts hown hK hP hD hS pfzP_21 0 rfl rfl rfl (Nat.le_of_ble_eq_true rfl) dzP_init_21 (fun H locs hP hD hS => ?_)
  have hP : va_P G xk_cls [(oa, .inr (5, [.int 1, .int 0, .int 0, .int 0]))] H := hP
  have hD : va_D A [(oa, .inr (5, [.int 1, .int 0, .int 0, .int 0]))] := hD
  exact hret () H locs 24 ls _ _ (Nat.le_of_ble_eq_true rfl) (Nat.le_of_ble_eq_true rfl) hP hD hS trivial dzP_init_24

def xn_rzJ : Room := { frames := 1, cells := 3, slots := 192, locals := 20 }
set_option maxHeartbeats 4000000 in
set_option maxRecDepth 100000 in
theorem nzzJ (l : Launch) (G : va_G) (ac : Nat → ClassId) (oa : Nat) : xn_C l yzJ_init czJ_init 1 xk_WS xn_rzJ G xk_cls (xk_tys ac) [.ref oa] [(oa, .inr (7, [.null, .null, .null, .int 0]))] (fun _ : Nat → Nat => True) (fun u => [(oa, .inr (7, [.ref (u 1), .ref (u 2), .ref (u 3), .int 0])), ((u 1), .inl (ac 0, 64, .inl (fun _ => 0))), ((u 2), .inl (ac 0, 64, .inl (fun _ => 0))), ((u 3), .inl (ac 0, 64, .inl (fun _ => 0)))]) := by
  refine xn_of (by decide) rfl (Nat.le_of_ble_eq_true rfl) ?_
  intro p e s m args below meth c A Q H locs ls C0 hin hX hret hP hD hS hl
  obtain ⟨hx, hb, hml, hts, hown, hK, hA⟩ := C0
  have hl : lv_has ls 1 [(0, .ref oa)] := hl
  refine lv_aload_n (pc := 0) hx hb dzJ_init_0 rfl (lv_at hl 0 rfl) ?_
  refine xn_obj (pc := 1) hx hb hml hts hown xk_m85 xk_m65 xk_m66 hl.1 (Nat.le_of_ble_eq_true rfl) (Nat.le_of_ble_eq_true rfl) (Nat.le_of_ble_eq_true rfl) dzJ_init_1 ?_
  refine lv_aload_n (pc := 4) hx hb dzJ_init_4 rfl (lv_at hl 0 rfl) ?_
  refine lv_bipush (v := 64) (pc := 5) hx hb dzJ_init_5 (by decide) ?_
  refine xn_newa (pc := 7) (t0 := 0) (a0 := (64, .inl (fun _ => 0))) hx hb hts xk_m94 rfl (fun C h => by cases h) hK hA hP hD hS rfl (fun _ => rfl) (by decide) (by decide) (by decide) (Nat.le_of_ble_eq_true rfl) (Nat.le_of_ble_eq_true rfl) dzJ_init_7 (fun q1 H hP hD hS => ?_)
  have hP : va_P G xk_cls [(oa, .inr (7, [.null, .null, .null, .int 0])), (q1, .inl (ac 0, 64, .inl (fun _ => 0)))] H := hP
  have hD : va_D A [(oa, .inr (7, [.null, .null, .null, .int 0])), (q1, .inl (ac 0, 64, .inl (fun _ => 0)))] := hD
  refine xn_putF (pc := 9) hx hb hts hown hin hK hP hD hS nfzJ_9 0 rfl rfl rfl (Nat.le_of_ble_eq_true rfl) dzJ_init_9 (fun H locs hP hD hS => ?_)
  have hP : va_P G xk_cls [(oa, .inr (7, [.ref q1, .null, .null, .int 0])), (q1, .inl (ac 0, 64, .inl (fun _ => 0)))] H := hP
  have hD : va_D A [(oa, .inr (7, [.ref q1, .null, .null, .int 0])), (q1, .inl (ac 0, 64, .inl (fun _ => 0)))] := hD
  refine lv_aload_n (pc := 12) hx hb dzJ_init_12 rfl (lv_at hl 0 rfl) ?_
  refine lv_bipush (v := 64) (pc := 13) hx hb dzJ_init_13 (by decide) ?_
  refine xn_newa (pc := 15) (t0 := 0) (a0 := (64, .inl (fun _ => 0))) hx hb hts xk_m94 rfl (fun C h => by cases h) hK hA hP hD hS rfl (fun _ => rfl) (by decide) (by decide) (by decide) (Nat.le_of_ble_eq_true rfl) (Nat.le_of_ble_eq_true rfl) dzJ_init_15 (fun q2 H hP hD hS => ?_)
  have hP : va_P G xk_cls [(oa, .inr (7, [.ref q1, .null, .null, .int 0])), (q1, .inl (ac 0, 64, .inl (fun _ => 0))), (q2, .inl (ac 0, 64, .inl (fun _ => 0)))] H := hP
  have hD : va_D A [(oa, .inr (7, [.ref q1, .null, .null, .int 0])), (q1, .inl (ac 0, 64, .inl (fun _ => 0))), (q2, .inl (ac 0, 64, .inl (fun _ => 0)))] := hD
  refine xn_putF (pc := 17) hx hb hts hown hin hK hP hD hS nfzJ_13 0 rfl rfl rfl (Nat.le_of_ble_eq_true rfl) dzJ_init_17 (fun H locs hP hD hS => ?_)
  have hP : va_P G xk_cls [(oa, .inr (7, [.ref q1, .ref q2, .null, .int 0])), (q1, .inl (ac 0, 64, .inl (fun _ => 0))), (q2, .inl (ac 0, 64, .inl (fun _ => 0)))] H := hP
  have hD : va_D A [(oa, .inr (7, [.ref q1, .ref q2, .null, .int 0])), (q1, .inl (ac 0, 64, .inl (fun _ => 0))), (q2, .inl (ac 0, 64, .inl (fun _ => 0)))] := hD
  refine lv_aload_n (pc := 20) hx hb dzJ_init_20 rfl (lv_at hl 0 rfl) ?_
  refine lv_bipush (v := 64) (pc := 21) hx hb dzJ_init_21 (by decide) ?_
  refine xn_newa (pc := 23) (t0 := 0) (a0 := (64, .inl (fun _ => 0))) hx hb hts xk_m94 rfl (fun C h => by cases h) hK hA hP hD hS rfl (fun _ => rfl) (by decide) (by decide) (by decide) (Nat.le_of_ble_eq_true rfl) (Nat.le_of_ble_eq_true rfl) dzJ_init_23 (fun q3 H hP hD hS => ?_)
  have hP : va_P G xk_cls [(oa, .inr (7, [.ref q1, .ref q2, .null, .int 0])), (q1, .inl (ac 0, 64, .inl (fun _ => 0))), (q2, .inl (ac 0, 64, .inl (fun _ => 0))), (q3, .inl (ac 0, 64, .inl (fun _ => 0)))] H := hP
  have hD : va_D A [(oa, .inr (7, [.ref q1, .ref q2, .null, .int 0])), (q1, .inl (ac 0, 64, .inl (fun _ => 0))), (q2, .inl (ac 0, 64, .inl (fun _ => 0))), (q3, .inl (ac 0, 64, .inl (fun _ => 0)))] := hD
  refine xn_putF (pc := 25) hx hb hts hown hin hK hP hD hS nfzJ_16 0 rfl rfl rfl (Nat.le_of_ble_eq_true rfl) dzJ_init_25 (fun H locs hP hD hS => ?_)
  have hP : va_P G xk_cls [(oa, .inr (7, [.ref q1, .ref q2, .ref q3, .int 0])), (q1, .inl (ac 0, 64, .inl (fun _ => 0))), (q2, .inl (ac 0, 64, .inl (fun _ => 0))), (q3, .inl (ac 0, 64, .inl (fun _ => 0)))] H := hP
  have hD : va_D A [(oa, .inr (7, [.ref q1, .ref q2, .ref q3, .int 0])), (q1, .inl (ac 0, 64, .inl (fun _ => 0))), (q2, .inl (ac 0, 64, .inl (fun _ => 0))), (q3, .inl (ac 0, 64, .inl (fun _ => 0)))] := hD
  refine lv_aload_n (pc := 28) hx hb dzJ_init_28 rfl (lv_at hl 0 rfl) ?_
  refine lv_iconst (v := 0) (pc := 29) hx hb dzJ_init_29 (by decide) ?_
  refine xk_putf (pc := 30) hx hb hts hown hK hP hD hS pfzJ_19 0 rfl rfl rfl (Nat.le_of_ble_eq_true rfl) dzJ_init_30 (fun H locs hP hD hS => ?_)
  have hP : va_P G xk_cls [(oa, .inr (7, [.ref q1, .ref q2, .ref q3, .int 0])), (q1, .inl (ac 0, 64, .inl (fun _ => 0))), (q2, .inl (ac 0, 64, .inl (fun _ => 0))), (q3, .inl (ac 0, 64, .inl (fun _ => 0)))] H := hP
  have hD : va_D A [(oa, .inr (7, [.ref q1, .ref q2, .ref q3, .int 0])), (q1, .inl (ac 0, 64, .inl (fun _ => 0))), (q2, .inl (ac 0, 64, .inl (fun _ => 0))), (q3, .inl (ac 0, 64, .inl (fun _ => 0)))] := hD
  exact hret (fun k => match k with | 1 => q1 | 2 => q2 | _ => q3) H locs 33 ls _ _ (Nat.le_of_ble_eq_true rfl) (Nat.le_of_ble_eq_true rfl) hP hD hS trivial dzJ_init_33

def xn_rzK : Room := { frames := 2, cells := 9, slots := 46, locals := 41 }
set_option maxHeartbeats 4000000 in
set_option maxRecDepth 100000 in
theorem nzzK (l : Launch) (G : va_G) (ac : Nat → ClassId) (oa : Nat) (k0 : Int32) : xn_C l yzK_init czK_init 3 xk_WS xn_rzK G xk_cls (xk_tys ac) [.ref oa, .int k0] [(oa, .inr (3, [.null, .null, .null, .null, .int 0, .int 0]))] (fun _ : Nat → Nat => True) (fun u => [(oa, .inr (3, [.ref (u 1), .ref (u 2), .ref (u 3), .ref (u 4), .int 0, .int 0])), ((u 1), .inl (ac 3, 3, .inr (.inr (.inr (.inr (fun j => some (u (5 + j)))))))), ((u 2), .inl (ac 4, 2, .inr (.inr (.inr (.inr (fun j => some (u (8 + j)))))))), ((u 3), .inl (ac 0, 4, .inl (fun _ => 0))), ((u 4), .inl (ac 1, 4, .inl (upd (upd (upd (upd (fun _ => 0) 0 1) 1 1) 2 1) 3 1))), ((u 5), .inr (1, [.int (3 * k0 + 0), .int 0, .int 0, .int 0, .int 0, .int 0, .int 0, .int 0, .int 0])), ((u 6), .inr (1, [.int (3 * k0 + 1), .int 0, .int 0, .int 0, .int 0, .int 0, .int 0, .int 0, .int 0])), ((u 7), .inr (1, [.int (3 * k0 + 2), .int 0, .int 0, .int 0, .int 0, .int 0, .int 0, .int 0, .int 0])), ((u 8), .inr (2, [.ref (u 5), .int (-1), .int 0])), ((u 9), .inr (2, [.ref (u 7), .int (-1), .int 0]))]) := by
  refine xn_of (by decide) rfl (Nat.le_of_ble_eq_true rfl) ?_
  intro p e s m args below meth c A Q H locs ls C0 hin hX hret hP hD hS hl
  obtain ⟨hx, hb, hml, hts, hown, hK, hA⟩ := C0
  have hl : lv_has ls 3 [(0, .ref oa), (1, .int k0)] := hl
  refine lv_aload_n (pc := 0) hx hb dzK_init_0 rfl (lv_at hl 0 rfl) ?_
  refine xn_obj (pc := 1) hx hb hml hts hown xk_m99 xk_m65 xk_m66 hl.1 (Nat.le_of_ble_eq_true rfl) (Nat.le_of_ble_eq_true rfl) (Nat.le_of_ble_eq_true rfl) dzK_init_1 ?_
  refine lv_aload_n (pc := 4) hx hb dzK_init_4 rfl (lv_at hl 0 rfl) ?_
  refine lv_iconst (v := 3) (pc := 5) hx hb dzK_init_5 (by decide) ?_
  refine xn_newq (pc := 6) (t0 := 3) (N' := 3) hx hb hts hown xk_m100 hX.2.2.2.1 hK hA hP hD hS rfl (by decide) (by decide) (by decide) (Nat.le_of_ble_eq_true rfl) (Nat.le_of_ble_eq_true rfl) dzK_init_6 (fun q1 H hP hD hS => ?_)
  have hP : va_P G xk_cls [(oa, .inr (3, [.null, .null, .null, .null, .int 0, .int 0])), (q1, .inl (ac 3, 3, .inr (.inr (.inr (.inr (fun _ => none))))))] H := hP
  have hD : va_D A [(oa, .inr (3, [.null, .null, .null, .null, .int 0, .int 0])), (q1, .inl (ac 3, 3, .inr (.inr (.inr (.inr (fun _ => none))))))] := hD
  refine xn_putF (pc := 9) hx hb hts hown hin hK hP hD hS nfzK_11 0 rfl rfl rfl (Nat.le_of_ble_eq_true rfl) dzK_init_9 (fun H locs hP hD hS => ?_)
  have hP : va_P G xk_cls [(oa, .inr (3, [.ref q1, .null, .null, .null, .int 0, .int 0])), (q1, .inl (ac 3, 3, .inr (.inr (.inr (.inr (fun _ => none))))))] H := hP
  have hD : va_D A [(oa, .inr (3, [.ref q1, .null, .null, .null, .int 0, .int 0])), (q1, .inl (ac 3, 3, .inr (.inr (.inr (.inr (fun _ => none))))))] := hD
  refine lv_aload_n (pc := 12) hx hb dzK_init_12 rfl (lv_at hl 0 rfl) ?_
  refine lv_iconst (v := 2) (pc := 13) hx hb dzK_init_13 (by decide) ?_
  refine xn_newq (pc := 14) (t0 := 4) (N' := 2) hx hb hts hown xk_m101 hX.2.2.2.2.1 hK hA hP hD hS rfl (by decide) (by decide) (by decide) (Nat.le_of_ble_eq_true rfl) (Nat.le_of_ble_eq_true rfl) dzK_init_14 (fun q2 H hP hD hS => ?_)
  have hP : va_P G xk_cls [(oa, .inr (3, [.ref q1, .null, .null, .null, .int 0, .int 0])), (q1, .inl (ac 3, 3, .inr (.inr (.inr (.inr (fun _ => none)))))), (q2, .inl (ac 4, 2, .inr (.inr (.inr (.inr (fun _ => none))))))] H := hP
  have hD : va_D A [(oa, .inr (3, [.ref q1, .null, .null, .null, .int 0, .int 0])), (q1, .inl (ac 3, 3, .inr (.inr (.inr (.inr (fun _ => none)))))), (q2, .inl (ac 4, 2, .inr (.inr (.inr (.inr (fun _ => none))))))] := hD
  refine xn_putF (pc := 17) hx hb hts hown hin hK hP hD hS nfzK_19 0 rfl rfl rfl (Nat.le_of_ble_eq_true rfl) dzK_init_17 (fun H locs hP hD hS => ?_)
  have hP : va_P G xk_cls [(oa, .inr (3, [.ref q1, .ref q2, .null, .null, .int 0, .int 0])), (q1, .inl (ac 3, 3, .inr (.inr (.inr (.inr (fun _ => none)))))), (q2, .inl (ac 4, 2, .inr (.inr (.inr (.inr (fun _ => none))))))] H := hP
  have hD : va_D A [(oa, .inr (3, [.ref q1, .ref q2, .null, .null, .int 0, .int 0])), (q1, .inl (ac 3, 3, .inr (.inr (.inr (.inr (fun _ => none)))))), (q2, .inl (ac 4, 2, .inr (.inr (.inr (.inr (fun _ => none))))))] := hD
  refine lv_aload_n (pc := 20) hx hb dzK_init_20 rfl (lv_at hl 0 rfl) ?_
  refine lv_iconst (v := 4) (pc := 21) hx hb dzK_init_21 (by decide) ?_
  refine xn_newa (pc := 22) (t0 := 0) (a0 := (4, .inl (fun _ => 0))) hx hb hts xk_m94 rfl (fun C h => by cases h) hK hA hP hD hS rfl (fun _ => rfl) (by decide) (by decide) (by decide) (Nat.le_of_ble_eq_true rfl) (Nat.le_of_ble_eq_true rfl) dzK_init_22 (fun q3 H hP hD hS => ?_)
  have hP : va_P G xk_cls [(oa, .inr (3, [.ref q1, .ref q2, .null, .null, .int 0, .int 0])), (q1, .inl (ac 3, 3, .inr (.inr (.inr (.inr (fun _ => none)))))), (q2, .inl (ac 4, 2, .inr (.inr (.inr (.inr (fun _ => none)))))), (q3, .inl (ac 0, 4, .inl (fun _ => 0)))] H := hP
  have hD : va_D A [(oa, .inr (3, [.ref q1, .ref q2, .null, .null, .int 0, .int 0])), (q1, .inl (ac 3, 3, .inr (.inr (.inr (.inr (fun _ => none)))))), (q2, .inl (ac 4, 2, .inr (.inr (.inr (.inr (fun _ => none)))))), (q3, .inl (ac 0, 4, .inl (fun _ => 0)))] := hD
  refine xn_putF (pc := 24) hx hb hts hown hin hK hP hD hS nfzK_23 0 rfl rfl rfl (Nat.le_of_ble_eq_true rfl) dzK_init_24 (fun H locs hP hD hS => ?_)
  have hP : va_P G xk_cls [(oa, .inr (3, [.ref q1, .ref q2, .ref q3, .null, .int 0, .int 0])), (q1, .inl (ac 3, 3, .inr (.inr (.inr (.inr (fun _ => none)))))), (q2, .inl (ac 4, 2, .inr (.inr (.inr (.inr (fun _ => none)))))), (q3, .inl (ac 0, 4, .inl (fun _ => 0)))] H := hP
  have hD : va_D A [(oa, .inr (3, [.ref q1, .ref q2, .ref q3, .null, .int 0, .int 0])), (q1, .inl (ac 3, 3, .inr (.inr (.inr (.inr (fun _ => none)))))), (q2, .inl (ac 4, 2, .inr (.inr (.inr (.inr (fun _ => none)))))), (q3, .inl (ac 0, 4, .inl (fun _ => 0)))] := hD
  refine lv_aload_n (pc := 27) hx hb dzK_init_27 rfl (lv_at hl 0 rfl) ?_
  refine lv_iconst (v := 4) (pc := 28) hx hb dzK_init_28 (by decide) ?_
  refine xn_newa (pc := 29) (t0 := 1) (a0 := (4, .inl (fun _ => 0))) hx hb hts xk_m124 rfl (fun C h => by cases h) hK hA hP hD hS rfl (fun _ => rfl) (by decide) (by decide) (by decide) (Nat.le_of_ble_eq_true rfl) (Nat.le_of_ble_eq_true rfl) dzK_init_29 (fun q4 H hP hD hS => ?_)
  have hP : va_P G xk_cls [(oa, .inr (3, [.ref q1, .ref q2, .ref q3, .null, .int 0, .int 0])), (q1, .inl (ac 3, 3, .inr (.inr (.inr (.inr (fun _ => none)))))), (q2, .inl (ac 4, 2, .inr (.inr (.inr (.inr (fun _ => none)))))), (q3, .inl (ac 0, 4, .inl (fun _ => 0))), (q4, .inl (ac 1, 4, .inl (fun _ => 0)))] H := hP
  have hD : va_D A [(oa, .inr (3, [.ref q1, .ref q2, .ref q3, .null, .int 0, .int 0])), (q1, .inl (ac 3, 3, .inr (.inr (.inr (.inr (fun _ => none)))))), (q2, .inl (ac 4, 2, .inr (.inr (.inr (.inr (fun _ => none)))))), (q3, .inl (ac 0, 4, .inl (fun _ => 0))), (q4, .inl (ac 1, 4, .inl (fun _ => 0)))] := hD
  refine xn_putF (pc := 31) hx hb hts hown hin hK hP hD hS nfzK_27 0 rfl rfl rfl (Nat.le_of_ble_eq_true rfl) dzK_init_31 (fun H locs hP hD hS => ?_)
  have hP : va_P G xk_cls [(oa, .inr (3, [.ref q1, .ref q2, .ref q3, .ref q4, .int 0, .int 0])), (q1, .inl (ac 3, 3, .inr (.inr (.inr (.inr (fun _ => none)))))), (q2, .inl (ac 4, 2, .inr (.inr (.inr (.inr (fun _ => none)))))), (q3, .inl (ac 0, 4, .inl (fun _ => 0))), (q4, .inl (ac 1, 4, .inl (fun _ => 0)))] H := hP
  have hD : va_D A [(oa, .inr (3, [.ref q1, .ref q2, .ref q3, .ref q4, .int 0, .int 0])), (q1, .inl (ac 3, 3, .inr (.inr (.inr (.inr (fun _ => none)))))), (q2, .inl (ac 4, 2, .inr (.inr (.inr (.inr (fun _ => none)))))), (q3, .inl (ac 0, 4, .inl (fun _ => 0))), (q4, .inl (ac 1, 4, .inl (fun _ => 0)))] := hD
  refine lv_aload_n (pc := 34) hx hb dzK_init_34 rfl (lv_at hl 0 rfl) ?_
  refine lv_iconst (v := 0) (pc := 35) hx hb dzK_init_35 (by decide) ?_
  refine xk_putf (pc := 36) hx hb hts hown hK hP hD hS pfzK_31 0 rfl (xk_bn xk_b0) (xk_bf xk_b0) (Nat.le_of_ble_eq_true rfl) dzK_init_36 (fun H locs hP hD hS => ?_)
  have hP : va_P G xk_cls [(oa, .inr (3, [.ref q1, .ref q2, .ref q3, .ref q4, .int 0, .int 0])), (q1, .inl (ac 3, 3, .inr (.inr (.inr (.inr (fun _ => none)))))), (q2, .inl (ac 4, 2, .inr (.inr (.inr (.inr (fun _ => none)))))), (q3, .inl (ac 0, 4, .inl (fun _ => 0))), (q4, .inl (ac 1, 4, .inl (fun _ => 0)))] H := hP
  have hD : va_D A [(oa, .inr (3, [.ref q1, .ref q2, .ref q3, .ref q4, .int 0, .int 0])), (q1, .inl (ac 3, 3, .inr (.inr (.inr (.inr (fun _ => none)))))), (q2, .inl (ac 4, 2, .inr (.inr (.inr (.inr (fun _ => none)))))), (q3, .inl (ac 0, 4, .inl (fun _ => 0))), (q4, .inl (ac 1, 4, .inl (fun _ => 0)))] := hD
  refine lv_aload_n (pc := 39) hx hb dzK_init_39 rfl (lv_at hl 0 rfl) ?_
  refine lv_iconst (v := 0) (pc := 40) hx hb dzK_init_40 (by decide) ?_
  refine xk_putf (pc := 41) hx hb hts hown hK hP hD hS pfzK_35 0 rfl (xk_bn xk_b0) (xk_bf xk_b0) (Nat.le_of_ble_eq_true rfl) dzK_init_41 (fun H locs hP hD hS => ?_)
  have hP : va_P G xk_cls [(oa, .inr (3, [.ref q1, .ref q2, .ref q3, .ref q4, .int 0, .int 0])), (q1, .inl (ac 3, 3, .inr (.inr (.inr (.inr (fun _ => none)))))), (q2, .inl (ac 4, 2, .inr (.inr (.inr (.inr (fun _ => none)))))), (q3, .inl (ac 0, 4, .inl (fun _ => 0))), (q4, .inl (ac 1, 4, .inl (fun _ => 0)))] H := hP
  have hD : va_D A [(oa, .inr (3, [.ref q1, .ref q2, .ref q3, .ref q4, .int 0, .int 0])), (q1, .inl (ac 3, 3, .inr (.inr (.inr (.inr (fun _ => none)))))), (q2, .inl (ac 4, 2, .inr (.inr (.inr (.inr (fun _ => none)))))), (q3, .inl (ac 0, 4, .inl (fun _ => 0))), (q4, .inl (ac 1, 4, .inl (fun _ => 0)))] := hD
  refine lv_iconst (v := 0) (pc := 44) hx hb dzK_init_44 (by decide) ?_
  refine lv_istore_n (lv' := [(2, .int 0), (0, .ref oa), (1, .int k0)]) (pc := 45) hx hb dzK_init_45 rfl hl (by decide) rfl (fun ls hl => ?_)
  refine lv_iload_n (pc := 46) hx hb dzK_init_46 rfl (lv_at hl 0 rfl) ?_
  refine lv_iconst (v := 3) (pc := 47) hx hb dzK_init_47 (by decide) ?_
  refine lv_icmp_ge (pc := 48) (tgt := 75) hx hb dzK_init_48 (by decide) (fun hq9 => absurd hq9 (by decide)) (fun _ => ?_)
  refine lv_aload_n (pc := 51) hx hb dzK_init_51 rfl (lv_at hl 1 rfl) ?_
  refine xk_get (pc := 52) hx hb hts hown hK hP ffzK_11 0 rfl rfl dzK_init_52 ?_
  refine lv_iload_n (pc := 55) hx hb dzK_init_55 rfl (lv_at hl 0 rfl) ?_
  refine xn_new (pc := 56) hx hb hts hown hK hA hP hD hS nnzK_9 (Nat.le_of_ble_eq_true rfl) (Nat.le_of_ble_eq_true rfl) dzK_init_56 (fun q5 H hP hD hS => ?_)
  have hP : va_P G xk_cls [(oa, .inr (3, [.ref q1, .ref q2, .ref q3, .ref q4, .int 0, .int 0])), (q1, .inl (ac 3, 3, .inr (.inr (.inr (.inr (fun _ => none)))))), (q2, .inl (ac 4, 2, .inr (.inr (.inr (.inr (fun _ => none)))))), (q3, .inl (ac 0, 4, .inl (fun _ => 0))), (q4, .inl (ac 1, 4, .inl (fun _ => 0))), (q5, .inr (1, [.int 0, .int 0, .int 0, .int 0, .int 0, .int 0, .int 0, .int 0, .int 0]))] H := hP
  have hD : va_D A [(oa, .inr (3, [.ref q1, .ref q2, .ref q3, .ref q4, .int 0, .int 0])), (q1, .inl (ac 3, 3, .inr (.inr (.inr (.inr (fun _ => none)))))), (q2, .inl (ac 4, 2, .inr (.inr (.inr (.inr (fun _ => none)))))), (q3, .inl (ac 0, 4, .inl (fun _ => 0))), (q4, .inl (ac 1, 4, .inl (fun _ => 0))), (q5, .inr (1, [.int 0, .int 0, .int 0, .int 0, .int 0, .int 0, .int 0, .int 0, .int 0]))] := hD
  refine lv_dup (pc := 59) hx hb dzK_init_59 rfl ?_
  refine lv_iconst (v := 3) (pc := 60) hx hb dzK_init_60 (by decide) ?_
  refine lv_iload_n (pc := 61) hx hb dzK_init_61 rfl (lv_at hl 2 rfl) ?_
  refine lv_imul (pc := 62) hx hb dzK_init_62 ?_
  refine lv_iload_n (pc := 63) hx hb dzK_init_63 rfl (lv_at hl 0 rfl) ?_
  refine lv_iadd (pc := 64) hx hb dzK_init_64 ?_
  refine xn_call (k := 1) (wr := [(oa, .inr (3, [.ref q1, .ref q2, .ref q3, .ref q4, .int 0, .int 0])), (q1, .inl (ac 3, 3, .inr (.inr (.inr (.inr (fun _ => none)))))), (q2, .inl (ac 4, 2, .inr (.inr (.inr (.inr (fun _ => none)))))), (q3, .inl (ac 0, 4, .inl (fun _ => 0))), (q4, .inl (ac 1, 4, .inl (fun _ => 0)))]) (As := [.int ((3 * k0) + 0)]) (rest := [.ref q5, .int 0, .ref q1]) (H0 := s.heap) (pc := 65) hx hb hml hts hown hX hK hA hP hD hS (nzzS l G ac q5 (((3 * k0) + 0))) ⟨Or.inl xk_m103, gWS, xk_m105, xk_m104, xk_m49, rfl, ⟨by decide, by decide⟩, by decide +kernel⟩ [5] [0, 1, 2, 3, 4] rfl rfl rfl rfl (by decide) ⟨(Nat.le_of_ble_eq_true rfl), (Nat.le_of_ble_eq_true rfl)⟩ rfl hl.1 rfl (Nat.le_of_ble_eq_true rfl) ⟨(Nat.le_of_ble_eq_true rfl), (Nat.le_of_ble_eq_true rfl)⟩ dzK_init_65 (fun u6 H locs hu hP hD hS => ?_)
  have hP : va_P G xk_cls [(oa, .inr (3, [.ref q1, .ref q2, .ref q3, .ref q4, .int 0, .int 0])), (q1, .inl (ac 3, 3, .inr (.inr (.inr (.inr (fun _ => none)))))), (q2, .inl (ac 4, 2, .inr (.inr (.inr (.inr (fun _ => none)))))), (q3, .inl (ac 0, 4, .inl (fun _ => 0))), (q4, .inl (ac 1, 4, .inl (fun _ => 0))), (q5, .inr (1, [.int ((3 * k0) + 0), .int 0, .int 0, .int 0, .int 0, .int 0, .int 0, .int 0, .int 0]))] H := hP
  have hD : va_D A [(oa, .inr (3, [.ref q1, .ref q2, .ref q3, .ref q4, .int 0, .int 0])), (q1, .inl (ac 3, 3, .inr (.inr (.inr (.inr (fun _ => none)))))), (q2, .inl (ac 4, 2, .inr (.inr (.inr (.inr (fun _ => none)))))), (q3, .inl (ac 0, 4, .inl (fun _ => 0))), (q4, .inl (ac 1, 4, .inl (fun _ => 0))), (q5, .inr (1, [.int ((3 * k0) + 0), .int 0, .int 0, .int 0, .int 0, .int 0, .int 0, .int 0, .int 0]))] := hD
  refine xn_ast (q0 := 1) (t0 := 3) (qk := 5) (ci := 1) (r := (RzS, TzS, 9)) (j := 0) (pc := 68) hx hb hK hP hD hS rfl rfl rfl rfl (by unfold vp_in; decide) (by decide) dzK_init_68 (fun H locs hP hD hS => ?_)
  have hP : va_P G xk_cls [(oa, .inr (3, [.ref q1, .ref q2, .ref q3, .ref q4, .int 0, .int 0])), (q1, .inl (ac 3, 3, .inr (.inr (.inr (.inr (va_up (fun _ => none) 0 (some q5))))))), (q2, .inl (ac 4, 2, .inr (.inr (.inr (.inr (fun _ => none)))))), (q3, .inl (ac 0, 4, .inl (fun _ => 0))), (q4, .inl (ac 1, 4, .inl (fun _ => 0))), (q5, .inr (1, [.int ((3 * k0) + 0), .int 0, .int 0, .int 0, .int 0, .int 0, .int 0, .int 0, .int 0]))] H := hP
  have hD : va_D A [(oa, .inr (3, [.ref q1, .ref q2, .ref q3, .ref q4, .int 0, .int 0])), (q1, .inl (ac 3, 3, .inr (.inr (.inr (.inr (va_up (fun _ => none) 0 (some q5))))))), (q2, .inl (ac 4, 2, .inr (.inr (.inr (.inr (fun _ => none)))))), (q3, .inl (ac 0, 4, .inl (fun _ => 0))), (q4, .inl (ac 1, 4, .inl (fun _ => 0))), (q5, .inr (1, [.int ((3 * k0) + 0), .int 0, .int 0, .int 0, .int 0, .int 0, .int 0, .int 0, .int 0]))] := hD
  refine lv_iinc (k := 0) (x := 0) (v := 1) (lv' := [(2, .int 1), (0, .ref oa), (1, .int k0)]) (pc := 69) hx hb dzK_init_69 hl rfl (by decide) (by decide) rfl (fun ls hl => ?_)
  refine lv_goto (tgt := 46) (pc := 72) hx hb dzK_init_72 (by decide) ?_
  refine lv_iload_n (pc := 46) hx hb dzK_init_46 rfl (lv_at hl 0 rfl) ?_
  refine lv_iconst (v := 3) (pc := 47) hx hb dzK_init_47 (by decide) ?_
  refine lv_icmp_ge (pc := 48) (tgt := 75) hx hb dzK_init_48 (by decide) (fun hq9 => absurd hq9 (by decide)) (fun _ => ?_)
  refine lv_aload_n (pc := 51) hx hb dzK_init_51 rfl (lv_at hl 1 rfl) ?_
  refine xk_get (pc := 52) hx hb hts hown hK hP ffzK_11 0 rfl rfl dzK_init_52 ?_
  refine lv_iload_n (pc := 55) hx hb dzK_init_55 rfl (lv_at hl 0 rfl) ?_
  refine xn_new (pc := 56) hx hb hts hown hK hA hP hD hS nnzK_9 (Nat.le_of_ble_eq_true rfl) (Nat.le_of_ble_eq_true rfl) dzK_init_56 (fun q7 H hP hD hS => ?_)
  have hP : va_P G xk_cls [(oa, .inr (3, [.ref q1, .ref q2, .ref q3, .ref q4, .int 0, .int 0])), (q1, .inl (ac 3, 3, .inr (.inr (.inr (.inr (va_up (fun _ => none) 0 (some q5))))))), (q2, .inl (ac 4, 2, .inr (.inr (.inr (.inr (fun _ => none)))))), (q3, .inl (ac 0, 4, .inl (fun _ => 0))), (q4, .inl (ac 1, 4, .inl (fun _ => 0))), (q5, .inr (1, [.int ((3 * k0) + 0), .int 0, .int 0, .int 0, .int 0, .int 0, .int 0, .int 0, .int 0])), (q7, .inr (1, [.int 0, .int 0, .int 0, .int 0, .int 0, .int 0, .int 0, .int 0, .int 0]))] H := hP
  have hD : va_D A [(oa, .inr (3, [.ref q1, .ref q2, .ref q3, .ref q4, .int 0, .int 0])), (q1, .inl (ac 3, 3, .inr (.inr (.inr (.inr (va_up (fun _ => none) 0 (some q5))))))), (q2, .inl (ac 4, 2, .inr (.inr (.inr (.inr (fun _ => none)))))), (q3, .inl (ac 0, 4, .inl (fun _ => 0))), (q4, .inl (ac 1, 4, .inl (fun _ => 0))), (q5, .inr (1, [.int ((3 * k0) + 0), .int 0, .int 0, .int 0, .int 0, .int 0, .int 0, .int 0, .int 0])), (q7, .inr (1, [.int 0, .int 0, .int 0, .int 0, .int 0, .int 0, .int 0, .int 0, .int 0]))] := hD
  refine lv_dup (pc := 59) hx hb dzK_init_59 rfl ?_
  refine lv_iconst (v := 3) (pc := 60) hx hb dzK_init_60 (by decide) ?_
  refine lv_iload_n (pc := 61) hx hb dzK_init_61 rfl (lv_at hl 2 rfl) ?_
  refine lv_imul (pc := 62) hx hb dzK_init_62 ?_
  refine lv_iload_n (pc := 63) hx hb dzK_init_63 rfl (lv_at hl 0 rfl) ?_
  refine lv_iadd (pc := 64) hx hb dzK_init_64 ?_
  refine xn_call (k := 1) (wr := [(oa, .inr (3, [.ref q1, .ref q2, .ref q3, .ref q4, .int 0, .int 0])), (q1, .inl (ac 3, 3, .inr (.inr (.inr (.inr (va_up (fun _ => none) 0 (some q5))))))), (q2, .inl (ac 4, 2, .inr (.inr (.inr (.inr (fun _ => none)))))), (q3, .inl (ac 0, 4, .inl (fun _ => 0))), (q4, .inl (ac 1, 4, .inl (fun _ => 0))), (q5, .inr (1, [.int ((3 * k0) + 0), .int 0, .int 0, .int 0, .int 0, .int 0, .int 0, .int 0, .int 0]))]) (As := [.int ((3 * k0) + 1)]) (rest := [.ref q7, .int 1, .ref q1]) (H0 := s.heap) (pc := 65) hx hb hml hts hown hX hK hA hP hD hS (nzzS l G ac q7 (((3 * k0) + 1))) ⟨Or.inl xk_m103, gWS, xk_m105, xk_m104, xk_m49, rfl, ⟨by decide, by decide⟩, by decide +kernel⟩ [6] [0, 1, 2, 3, 4, 5] rfl rfl rfl rfl (by decide) ⟨(Nat.le_of_ble_eq_true rfl), (Nat.le_of_ble_eq_true rfl)⟩ rfl hl.1 rfl (Nat.le_of_ble_eq_true rfl) ⟨(Nat.le_of_ble_eq_true rfl), (Nat.le_of_ble_eq_true rfl)⟩ dzK_init_65 (fun u8 H locs hu hP hD hS => ?_)
  have hP : va_P G xk_cls [(oa, .inr (3, [.ref q1, .ref q2, .ref q3, .ref q4, .int 0, .int 0])), (q1, .inl (ac 3, 3, .inr (.inr (.inr (.inr (va_up (fun _ => none) 0 (some q5))))))), (q2, .inl (ac 4, 2, .inr (.inr (.inr (.inr (fun _ => none)))))), (q3, .inl (ac 0, 4, .inl (fun _ => 0))), (q4, .inl (ac 1, 4, .inl (fun _ => 0))), (q5, .inr (1, [.int ((3 * k0) + 0), .int 0, .int 0, .int 0, .int 0, .int 0, .int 0, .int 0, .int 0])), (q7, .inr (1, [.int ((3 * k0) + 1), .int 0, .int 0, .int 0, .int 0, .int 0, .int 0, .int 0, .int 0]))] H := hP
  have hD : va_D A [(oa, .inr (3, [.ref q1, .ref q2, .ref q3, .ref q4, .int 0, .int 0])), (q1, .inl (ac 3, 3, .inr (.inr (.inr (.inr (va_up (fun _ => none) 0 (some q5))))))), (q2, .inl (ac 4, 2, .inr (.inr (.inr (.inr (fun _ => none)))))), (q3, .inl (ac 0, 4, .inl (fun _ => 0))), (q4, .inl (ac 1, 4, .inl (fun _ => 0))), (q5, .inr (1, [.int ((3 * k0) + 0), .int 0, .int 0, .int 0, .int 0, .int 0, .int 0, .int 0, .int 0])), (q7, .inr (1, [.int ((3 * k0) + 1), .int 0, .int 0, .int 0, .int 0, .int 0, .int 0, .int 0, .int 0]))] := hD
  refine xn_ast (q0 := 1) (t0 := 3) (qk := 6) (ci := 1) (r := (RzS, TzS, 9)) (j := 1) (pc := 68) hx hb hK hP hD hS rfl rfl rfl rfl (by unfold vp_in; decide) (by decide) dzK_init_68 (fun H locs hP hD hS => ?_)
  have hP : va_P G xk_cls [(oa, .inr (3, [.ref q1, .ref q2, .ref q3, .ref q4, .int 0, .int 0])), (q1, .inl (ac 3, 3, .inr (.inr (.inr (.inr (va_up (va_up (fun _ => none) 0 (some q5)) 1 (some q7))))))), (q2, .inl (ac 4, 2, .inr (.inr (.inr (.inr (fun _ => none)))))), (q3, .inl (ac 0, 4, .inl (fun _ => 0))), (q4, .inl (ac 1, 4, .inl (fun _ => 0))), (q5, .inr (1, [.int ((3 * k0) + 0), .int 0, .int 0, .int 0, .int 0, .int 0, .int 0, .int 0, .int 0])), (q7, .inr (1, [.int ((3 * k0) + 1), .int 0, .int 0, .int 0, .int 0, .int 0, .int 0, .int 0, .int 0]))] H := hP
  have hD : va_D A [(oa, .inr (3, [.ref q1, .ref q2, .ref q3, .ref q4, .int 0, .int 0])), (q1, .inl (ac 3, 3, .inr (.inr (.inr (.inr (va_up (va_up (fun _ => none) 0 (some q5)) 1 (some q7))))))), (q2, .inl (ac 4, 2, .inr (.inr (.inr (.inr (fun _ => none)))))), (q3, .inl (ac 0, 4, .inl (fun _ => 0))), (q4, .inl (ac 1, 4, .inl (fun _ => 0))), (q5, .inr (1, [.int ((3 * k0) + 0), .int 0, .int 0, .int 0, .int 0, .int 0, .int 0, .int 0, .int 0])), (q7, .inr (1, [.int ((3 * k0) + 1), .int 0, .int 0, .int 0, .int 0, .int 0, .int 0, .int 0, .int 0]))] := hD
  refine lv_iinc (k := 0) (x := 1) (v := 2) (lv' := [(2, .int 2), (0, .ref oa), (1, .int k0)]) (pc := 69) hx hb dzK_init_69 hl rfl (by decide) (by decide) rfl (fun ls hl => ?_)
  refine lv_goto (tgt := 46) (pc := 72) hx hb dzK_init_72 (by decide) ?_
  refine lv_iload_n (pc := 46) hx hb dzK_init_46 rfl (lv_at hl 0 rfl) ?_
  refine lv_iconst (v := 3) (pc := 47) hx hb dzK_init_47 (by decide) ?_
  refine lv_icmp_ge (pc := 48) (tgt := 75) hx hb dzK_init_48 (by decide) (fun hq9 => absurd hq9 (by decide)) (fun _ => ?_)
  refine lv_aload_n (pc := 51) hx hb dzK_init_51 rfl (lv_at hl 1 rfl) ?_
  refine xk_get (pc := 52) hx hb hts hown hK hP ffzK_11 0 rfl rfl dzK_init_52 ?_
  refine lv_iload_n (pc := 55) hx hb dzK_init_55 rfl (lv_at hl 0 rfl) ?_
  refine xn_new (pc := 56) hx hb hts hown hK hA hP hD hS nnzK_9 (Nat.le_of_ble_eq_true rfl) (Nat.le_of_ble_eq_true rfl) dzK_init_56 (fun q9 H hP hD hS => ?_)
  have hP : va_P G xk_cls [(oa, .inr (3, [.ref q1, .ref q2, .ref q3, .ref q4, .int 0, .int 0])), (q1, .inl (ac 3, 3, .inr (.inr (.inr (.inr (va_up (va_up (fun _ => none) 0 (some q5)) 1 (some q7))))))), (q2, .inl (ac 4, 2, .inr (.inr (.inr (.inr (fun _ => none)))))), (q3, .inl (ac 0, 4, .inl (fun _ => 0))), (q4, .inl (ac 1, 4, .inl (fun _ => 0))), (q5, .inr (1, [.int ((3 * k0) + 0), .int 0, .int 0, .int 0, .int 0, .int 0, .int 0, .int 0, .int 0])), (q7, .inr (1, [.int ((3 * k0) + 1), .int 0, .int 0, .int 0, .int 0, .int 0, .int 0, .int 0, .int 0])), (q9, .inr (1, [.int 0, .int 0, .int 0, .int 0, .int 0, .int 0, .int 0, .int 0, .int 0]))] H := hP
  have hD : va_D A [(oa, .inr (3, [.ref q1, .ref q2, .ref q3, .ref q4, .int 0, .int 0])), (q1, .inl (ac 3, 3, .inr (.inr (.inr (.inr (va_up (va_up (fun _ => none) 0 (some q5)) 1 (some q7))))))), (q2, .inl (ac 4, 2, .inr (.inr (.inr (.inr (fun _ => none)))))), (q3, .inl (ac 0, 4, .inl (fun _ => 0))), (q4, .inl (ac 1, 4, .inl (fun _ => 0))), (q5, .inr (1, [.int ((3 * k0) + 0), .int 0, .int 0, .int 0, .int 0, .int 0, .int 0, .int 0, .int 0])), (q7, .inr (1, [.int ((3 * k0) + 1), .int 0, .int 0, .int 0, .int 0, .int 0, .int 0, .int 0, .int 0])), (q9, .inr (1, [.int 0, .int 0, .int 0, .int 0, .int 0, .int 0, .int 0, .int 0, .int 0]))] := hD
  refine lv_dup (pc := 59) hx hb dzK_init_59 rfl ?_
  refine lv_iconst (v := 3) (pc := 60) hx hb dzK_init_60 (by decide) ?_
  refine lv_iload_n (pc := 61) hx hb dzK_init_61 rfl (lv_at hl 2 rfl) ?_
  refine lv_imul (pc := 62) hx hb dzK_init_62 ?_
  refine lv_iload_n (pc := 63) hx hb dzK_init_63 rfl (lv_at hl 0 rfl) ?_
  refine lv_iadd (pc := 64) hx hb dzK_init_64 ?_
  refine xn_call (k := 1) (wr := [(oa, .inr (3, [.ref q1, .ref q2, .ref q3, .ref q4, .int 0, .int 0])), (q1, .inl (ac 3, 3, .inr (.inr (.inr (.inr (va_up (va_up (fun _ => none) 0 (some q5)) 1 (some q7))))))), (q2, .inl (ac 4, 2, .inr (.inr (.inr (.inr (fun _ => none)))))), (q3, .inl (ac 0, 4, .inl (fun _ => 0))), (q4, .inl (ac 1, 4, .inl (fun _ => 0))), (q5, .inr (1, [.int ((3 * k0) + 0), .int 0, .int 0, .int 0, .int 0, .int 0, .int 0, .int 0, .int 0])), (q7, .inr (1, [.int ((3 * k0) + 1), .int 0, .int 0, .int 0, .int 0, .int 0, .int 0, .int 0, .int 0]))]) (As := [.int ((3 * k0) + 2)]) (rest := [.ref q9, .int 2, .ref q1]) (H0 := s.heap) (pc := 65) hx hb hml hts hown hX hK hA hP hD hS (nzzS l G ac q9 (((3 * k0) + 2))) ⟨Or.inl xk_m103, gWS, xk_m105, xk_m104, xk_m49, rfl, ⟨by decide, by decide⟩, by decide +kernel⟩ [7] [0, 1, 2, 3, 4, 5, 6] rfl rfl rfl rfl (by decide) ⟨(Nat.le_of_ble_eq_true rfl), (Nat.le_of_ble_eq_true rfl)⟩ rfl hl.1 rfl (Nat.le_of_ble_eq_true rfl) ⟨(Nat.le_of_ble_eq_true rfl), (Nat.le_of_ble_eq_true rfl)⟩ dzK_init_65 (fun u10 H locs hu hP hD hS => ?_)
  have hP : va_P G xk_cls [(oa, .inr (3, [.ref q1, .ref q2, .ref q3, .ref q4, .int 0, .int 0])), (q1, .inl (ac 3, 3, .inr (.inr (.inr (.inr (va_up (va_up (fun _ => none) 0 (some q5)) 1 (some q7))))))), (q2, .inl (ac 4, 2, .inr (.inr (.inr (.inr (fun _ => none)))))), (q3, .inl (ac 0, 4, .inl (fun _ => 0))), (q4, .inl (ac 1, 4, .inl (fun _ => 0))), (q5, .inr (1, [.int ((3 * k0) + 0), .int 0, .int 0, .int 0, .int 0, .int 0, .int 0, .int 0, .int 0])), (q7, .inr (1, [.int ((3 * k0) + 1), .int 0, .int 0, .int 0, .int 0, .int 0, .int 0, .int 0, .int 0])), (q9, .inr (1, [.int ((3 * k0) + 2), .int 0, .int 0, .int 0, .int 0, .int 0, .int 0, .int 0, .int 0]))] H := hP
  have hD : va_D A [(oa, .inr (3, [.ref q1, .ref q2, .ref q3, .ref q4, .int 0, .int 0])), (q1, .inl (ac 3, 3, .inr (.inr (.inr (.inr (va_up (va_up (fun _ => none) 0 (some q5)) 1 (some q7))))))), (q2, .inl (ac 4, 2, .inr (.inr (.inr (.inr (fun _ => none)))))), (q3, .inl (ac 0, 4, .inl (fun _ => 0))), (q4, .inl (ac 1, 4, .inl (fun _ => 0))), (q5, .inr (1, [.int ((3 * k0) + 0), .int 0, .int 0, .int 0, .int 0, .int 0, .int 0, .int 0, .int 0])), (q7, .inr (1, [.int ((3 * k0) + 1), .int 0, .int 0, .int 0, .int 0, .int 0, .int 0, .int 0, .int 0])), (q9, .inr (1, [.int ((3 * k0) + 2), .int 0, .int 0, .int 0, .int 0, .int 0, .int 0, .int 0, .int 0]))] := hD
  refine xn_ast (q0 := 1) (t0 := 3) (qk := 7) (ci := 1) (r := (RzS, TzS, 9)) (j := 2) (pc := 68) hx hb hK hP hD hS rfl rfl rfl rfl (by unfold vp_in; decide) (by decide) dzK_init_68 (fun H locs hP hD hS => ?_)
  have hP : va_P G xk_cls [(oa, .inr (3, [.ref q1, .ref q2, .ref q3, .ref q4, .int 0, .int 0])), (q1, .inl (ac 3, 3, .inr (.inr (.inr (.inr (va_up (va_up (va_up (fun _ => none) 0 (some q5)) 1 (some q7)) 2 (some q9))))))), (q2, .inl (ac 4, 2, .inr (.inr (.inr (.inr (fun _ => none)))))), (q3, .inl (ac 0, 4, .inl (fun _ => 0))), (q4, .inl (ac 1, 4, .inl (fun _ => 0))), (q5, .inr (1, [.int ((3 * k0) + 0), .int 0, .int 0, .int 0, .int 0, .int 0, .int 0, .int 0, .int 0])), (q7, .inr (1, [.int ((3 * k0) + 1), .int 0, .int 0, .int 0, .int 0, .int 0, .int 0, .int 0, .int 0])), (q9, .inr (1, [.int ((3 * k0) + 2), .int 0, .int 0, .int 0, .int 0, .int 0, .int 0, .int 0, .int 0]))] H := hP
  have hD : va_D A [(oa, .inr (3, [.ref q1, .ref q2, .ref q3, .ref q4, .int 0, .int 0])), (q1, .inl (ac 3, 3, .inr (.inr (.inr (.inr (va_up (va_up (va_up (fun _ => none) 0 (some q5)) 1 (some q7)) 2 (some q9))))))), (q2, .inl (ac 4, 2, .inr (.inr (.inr (.inr (fun _ => none)))))), (q3, .inl (ac 0, 4, .inl (fun _ => 0))), (q4, .inl (ac 1, 4, .inl (fun _ => 0))), (q5, .inr (1, [.int ((3 * k0) + 0), .int 0, .int 0, .int 0, .int 0, .int 0, .int 0, .int 0, .int 0])), (q7, .inr (1, [.int ((3 * k0) + 1), .int 0, .int 0, .int 0, .int 0, .int 0, .int 0, .int 0, .int 0])), (q9, .inr (1, [.int ((3 * k0) + 2), .int 0, .int 0, .int 0, .int 0, .int 0, .int 0, .int 0, .int 0]))] := hD
  refine lv_iinc (k := 0) (x := 2) (v := 3) (lv' := [(2, .int 3), (0, .ref oa), (1, .int k0)]) (pc := 69) hx hb dzK_init_69 hl rfl (by decide) (by decide) rfl (fun ls hl => ?_)
  refine lv_goto (tgt := 46) (pc := 72) hx hb dzK_init_72 (by decide) ?_
  refine lv_iload_n (pc := 46) hx hb dzK_init_46 rfl (lv_at hl 0 rfl) ?_
  refine lv_iconst (v := 3) (pc := 47) hx hb dzK_init_47 (by decide) ?_
  refine lv_icmp_ge (pc := 48) (tgt := 75) hx hb dzK_init_48 (by decide) (fun _ => ?_) (fun hq9 => absurd (by decide) hq9)
  refine lv_iconst (v := 0) (pc := 75) hx hb dzK_init_75 (by decide) ?_
  refine lv_istore_n (lv' := [(2, .int 0), (0, .ref oa), (1, .int k0)]) (pc := 76) hx hb dzK_init_76 rfl hl (by decide) rfl (fun ls hl => ?_)
  refine lv_iload_n (pc := 77) hx hb dzK_init_77 rfl (lv_at hl 0 rfl) ?_
  refine lv_iconst (v := 4) (pc := 78) hx hb dzK_init_78 (by decide) ?_
  refine lv_icmp_ge (pc := 79) (tgt := 95) hx hb dzK_init_79 (by decide) (fun hq9 => absurd hq9 (by decide)) (fun _ => ?_)
  refine lv_aload_n (pc := 82) hx hb dzK_init_82 rfl (lv_at hl 1 rfl) ?_
  refine xk_get (pc := 83) hx hb hts hown hK hP ffzK_27 0 rfl rfl dzK_init_83 ?_
  refine lv_iload_n (pc := 86) hx hb dzK_init_86 rfl (lv_at hl 0 rfl) ?_
  refine lv_iconst (v := 1) (pc := 87) hx hb dzK_init_87 (by decide) ?_
  refine xk_zast (q0 := 4) (t0 := 1) (j := 0) (pc := 88) hx hb hK hP hD hS rfl rfl (by unfold vp_in; decide) (by decide) xk_b1 dzK_init_88 (fun H locs hP hD hS => ?_)
  have hP : va_P G xk_cls [(oa, .inr (3, [.ref q1, .ref q2, .ref q3, .ref q4, .int 0, .int 0])), (q1, .inl (ac 3, 3, .inr (.inr (.inr (.inr (va_up (va_up (va_up (fun _ => none) 0 (some q5)) 1 (some q7)) 2 (some q9))))))), (q2, .inl (ac 4, 2, .inr (.inr (.inr (.inr (fun _ => none)))))), (q3, .inl (ac 0, 4, .inl (fun _ => 0))), (q4, .inl (ac 1, 4, .inl (upd (fun _ => 0) 0 1))), (q5, .inr (1, [.int ((3 * k0) + 0), .int 0, .int 0, .int 0, .int 0, .int 0, .int 0, .int 0, .int 0])), (q7, .inr (1, [.int ((3 * k0) + 1), .int 0, .int 0, .int 0, .int 0, .int 0, .int 0, .int 0, .int 0])), (q9, .inr (1, [.int ((3 * k0) + 2), .int 0, .int 0, .int 0, .int 0, .int 0, .int 0, .int 0, .int 0]))] H := hP
  have hD : va_D A [(oa, .inr (3, [.ref q1, .ref q2, .ref q3, .ref q4, .int 0, .int 0])), (q1, .inl (ac 3, 3, .inr (.inr (.inr (.inr (va_up (va_up (va_up (fun _ => none) 0 (some q5)) 1 (some q7)) 2 (some q9))))))), (q2, .inl (ac 4, 2, .inr (.inr (.inr (.inr (fun _ => none)))))), (q3, .inl (ac 0, 4, .inl (fun _ => 0))), (q4, .inl (ac 1, 4, .inl (upd (fun _ => 0) 0 1))), (q5, .inr (1, [.int ((3 * k0) + 0), .int 0, .int 0, .int 0, .int 0, .int 0, .int 0, .int 0, .int 0])), (q7, .inr (1, [.int ((3 * k0) + 1), .int 0, .int 0, .int 0, .int 0, .int 0, .int 0, .int 0, .int 0])), (q9, .inr (1, [.int ((3 * k0) + 2), .int 0, .int 0, .int 0, .int 0, .int 0, .int 0, .int 0, .int 0]))] := hD
  refine lv_iinc (k := 0) (x := 0) (v := 1) (lv' := [(2, .int 1), (0, .ref oa), (1, .int k0)]) (pc := 89) hx hb dzK_init_89 hl rfl (by decide) (by decide) rfl (fun ls hl => ?_)
  refine lv_goto (tgt := 77) (pc := 92) hx hb dzK_init_92 (by decide) ?_
  refine lv_iload_n (pc := 77) hx hb dzK_init_77 rfl (lv_at hl 0 rfl) ?_
  refine lv_iconst (v := 4) (pc := 78) hx hb dzK_init_78 (by decide) ?_
  refine lv_icmp_ge (pc := 79) (tgt := 95) hx hb dzK_init_79 (by decide) (fun hq9 => absurd hq9 (by decide)) (fun _ => ?_)
  refine lv_aload_n (pc := 82) hx hb dzK_init_82 rfl (lv_at hl 1 rfl) ?_
  refine xk_get (pc := 83) hx hb hts hown hK hP ffzK_27 0 rfl rfl dzK_init_83 ?_
  refine lv_iload_n (pc := 86) hx hb dzK_init_86 rfl (lv_at hl 0 rfl) ?_
  refine lv_iconst (v := 1) (pc := 87) hx hb dzK_init_87 (by decide) ?_
  refine xk_zast (q0 := 4) (t0 := 1) (j := 1) (pc := 88) hx hb hK hP hD hS rfl rfl (by unfold vp_in; decide) (by decide) xk_b1 dzK_init_88 (fun H locs hP hD hS => ?_)
  have hP : va_P G xk_cls [(oa, .inr (3, [.ref q1, .ref q2, .ref q3, .ref q4, .int 0, .int 0])), (q1, .inl (ac 3, 3, .inr (.inr (.inr (.inr (va_up (va_up (va_up (fun _ => none) 0 (some q5)) 1 (some q7)) 2 (some q9))))))), (q2, .inl (ac 4, 2, .inr (.inr (.inr (.inr (fun _ => none)))))), (q3, .inl (ac 0, 4, .inl (fun _ => 0))), (q4, .inl (ac 1, 4, .inl (upd (upd (fun _ => 0) 0 1) 1 1))), (q5, .inr (1, [.int ((3 * k0) + 0), .int 0, .int 0, .int 0, .int 0, .int 0, .int 0, .int 0, .int 0])), (q7, .inr (1, [.int ((3 * k0) + 1), .int 0, .int 0, .int 0, .int 0, .int 0, .int 0, .int 0, .int 0])), (q9, .inr (1, [.int ((3 * k0) + 2), .int 0, .int 0, .int 0, .int 0, .int 0, .int 0, .int 0, .int 0]))] H := hP
  have hD : va_D A [(oa, .inr (3, [.ref q1, .ref q2, .ref q3, .ref q4, .int 0, .int 0])), (q1, .inl (ac 3, 3, .inr (.inr (.inr (.inr (va_up (va_up (va_up (fun _ => none) 0 (some q5)) 1 (some q7)) 2 (some q9))))))), (q2, .inl (ac 4, 2, .inr (.inr (.inr (.inr (fun _ => none)))))), (q3, .inl (ac 0, 4, .inl (fun _ => 0))), (q4, .inl (ac 1, 4, .inl (upd (upd (fun _ => 0) 0 1) 1 1))), (q5, .inr (1, [.int ((3 * k0) + 0), .int 0, .int 0, .int 0, .int 0, .int 0, .int 0, .int 0, .int 0])), (q7, .inr (1, [.int ((3 * k0) + 1), .int 0, .int 0, .int 0, .int 0, .int 0, .int 0, .int 0, .int 0])), (q9, .inr (1, [.int ((3 * k0) + 2), .int 0, .int 0, .int 0, .int 0, .int 0, .int 0, .int 0, .int 0]))] := hD
  refine lv_iinc (k := 0) (x := 1) (v := 2) (lv' := [(2, .int 2), (0, .ref oa), (1, .int k0)]) (pc := 89) hx hb dzK_init_89 hl rfl (by decide) (by decide) rfl (fun ls hl => ?_)
  refine lv_goto (tgt := 77) (pc := 92) hx hb dzK_init_92 (by decide) ?_
  refine lv_iload_n (pc := 77) hx hb dzK_init_77 rfl (lv_at hl 0 rfl) ?_
  refine lv_iconst (v := 4) (pc := 78) hx hb dzK_init_78 (by decide) ?_
  refine lv_icmp_ge (pc := 79) (tgt := 95) hx hb dzK_init_79 (by decide) (fun hq9 => absurd hq9 (by decide)) (fun _ => ?_)
  refine lv_aload_n (pc := 82) hx hb dzK_init_82 rfl (lv_at hl 1 rfl) ?_
  refine xk_get (pc := 83) hx hb hts hown hK hP ffzK_27 0 rfl rfl dzK_init_83 ?_
  refine lv_iload_n (pc := 86) hx hb dzK_init_86 rfl (lv_at hl 0 rfl) ?_
  refine lv_iconst (v := 1) (pc := 87) hx hb dzK_init_87 (by decide) ?_
  refine xk_zast (q0 := 4) (t0 := 1) (j := 2) (pc := 88) hx hb hK hP hD hS rfl rfl (by unfold vp_in; decide) (by decide) xk_b1 dzK_init_88 (fun H locs hP hD hS => ?_)
  have hP : va_P G xk_cls [(oa, .inr (3, [.ref q1, .ref q2, .ref q3, .ref q4, .int 0, .int 0])), (q1, .inl (ac 3, 3, .inr (.inr (.inr (.inr (va_up (va_up (va_up (fun _ => none) 0 (some q5)) 1 (some q7)) 2 (some q9))))))), (q2, .inl (ac 4, 2, .inr (.inr (.inr (.inr (fun _ => none)))))), (q3, .inl (ac 0, 4, .inl (fun _ => 0))), (q4, .inl (ac 1, 4, .inl (upd (upd (upd (fun _ => 0) 0 1) 1 1) 2 1))), (q5, .inr (1, [.int ((3 * k0) + 0), .int 0, .int 0, .int 0, .int 0, .int 0, .int 0, .int 0, .int 0])), (q7, .inr (1, [.int ((3 * k0) + 1), .int 0, .int 0, .int 0, .int 0, .int 0, .int 0, .int 0, .int 0])), (q9, .inr (1, [.int ((3 * k0) + 2), .int 0, .int 0, .int 0, .int 0, .int 0, .int 0, .int 0, .int 0]))] H := hP
  have hD : va_D A [(oa, .inr (3, [.ref q1, .ref q2, .ref q3, .ref q4, .int 0, .int 0])), (q1, .inl (ac 3, 3, .inr (.inr (.inr (.inr (va_up (va_up (va_up (fun _ => none) 0 (some q5)) 1 (some q7)) 2 (some q9))))))), (q2, .inl (ac 4, 2, .inr (.inr (.inr (.inr (fun _ => none)))))), (q3, .inl (ac 0, 4, .inl (fun _ => 0))), (q4, .inl (ac 1, 4, .inl (upd (upd (upd (fun _ => 0) 0 1) 1 1) 2 1))), (q5, .inr (1, [.int ((3 * k0) + 0), .int 0, .int 0, .int 0, .int 0, .int 0, .int 0, .int 0, .int 0])), (q7, .inr (1, [.int ((3 * k0) + 1), .int 0, .int 0, .int 0, .int 0, .int 0, .int 0, .int 0, .int 0])), (q9, .inr (1, [.int ((3 * k0) + 2), .int 0, .int 0, .int 0, .int 0, .int 0, .int 0, .int 0, .int 0]))] := hD
  refine lv_iinc (k := 0) (x := 2) (v := 3) (lv' := [(2, .int 3), (0, .ref oa), (1, .int k0)]) (pc := 89) hx hb dzK_init_89 hl rfl (by decide) (by decide) rfl (fun ls hl => ?_)
  refine lv_goto (tgt := 77) (pc := 92) hx hb dzK_init_92 (by decide) ?_
  refine lv_iload_n (pc := 77) hx hb dzK_init_77 rfl (lv_at hl 0 rfl) ?_
  refine lv_iconst (v := 4) (pc := 78) hx hb dzK_init_78 (by decide) ?_
  refine lv_icmp_ge (pc := 79) (tgt := 95) hx hb dzK_init_79 (by decide) (fun hq9 => absurd hq9 (by decide)) (fun _ => ?_)
  refine lv_aload_n (pc := 82) hx hb dzK_init_82 rfl (lv_at hl 1 rfl) ?_
  refine xk_get (pc := 83) hx hb hts hown hK hP ffzK_27 0 rfl rfl dzK_init_83 ?_
  refine lv_iload_n (pc := 86) hx hb dzK_init_86 rfl (lv_at hl 0 rfl) ?_
  refine lv_iconst (v := 1) (pc := 87) hx hb dzK_init_87 (by decide) ?_
  refine xk_zast (q0 := 4) (t0 := 1) (j := 3) (pc := 88) hx hb hK hP hD hS rfl rfl (by unfold vp_in; decide) (by decide) xk_b1 dzK_init_88 (fun H locs hP hD hS => ?_)
  have hP : va_P G xk_cls [(oa, .inr (3, [.ref q1, .ref q2, .ref q3, .ref q4, .int 0, .int 0])), (q1, .inl (ac 3, 3, .inr (.inr (.inr (.inr (va_up (va_up (va_up (fun _ => none) 0 (some q5)) 1 (some q7)) 2 (some q9))))))), (q2, .inl (ac 4, 2, .inr (.inr (.inr (.inr (fun _ => none)))))), (q3, .inl (ac 0, 4, .inl (fun _ => 0))), (q4, .inl (ac 1, 4, .inl (upd (upd (upd (upd (fun _ => 0) 0 1) 1 1) 2 1) 3 1))), (q5, .inr (1, [.int ((3 * k0) + 0), .int 0, .int 0, .int 0, .int 0, .int 0, .int 0, .int 0, .int 0])), (q7, .inr (1, [.int ((3 * k0) + 1), .int 0, .int 0, .int 0, .int 0, .int 0, .int 0, .int 0, .int 0])), (q9, .inr (1, [.int ((3 * k0) + 2), .int 0, .int 0, .int 0, .int 0, .int 0, .int 0, .int 0, .int 0]))] H := hP
  have hD : va_D A [(oa, .inr (3, [.ref q1, .ref q2, .ref q3, .ref q4, .int 0, .int 0])), (q1, .inl (ac 3, 3, .inr (.inr (.inr (.inr (va_up (va_up (va_up (fun _ => none) 0 (some q5)) 1 (some q7)) 2 (some q9))))))), (q2, .inl (ac 4, 2, .inr (.inr (.inr (.inr (fun _ => none)))))), (q3, .inl (ac 0, 4, .inl (fun _ => 0))), (q4, .inl (ac 1, 4, .inl (upd (upd (upd (upd (fun _ => 0) 0 1) 1 1) 2 1) 3 1))), (q5, .inr (1, [.int ((3 * k0) + 0), .int 0, .int 0, .int 0, .int 0, .int 0, .int 0, .int 0, .int 0])), (q7, .inr (1, [.int ((3 * k0) + 1), .int 0, .int 0, .int 0, .int 0, .int 0, .int 0, .int 0, .int 0])), (q9, .inr (1, [.int ((3 * k0) + 2), .int 0, .int 0, .int 0, .int 0, .int 0, .int 0, .int 0, .int 0]))] := hD
  refine lv_iinc (k := 0) (x := 3) (v := 4) (lv' := [(2, .int 4), (0, .ref oa), (1, .int k0)]) (pc := 89) hx hb dzK_init_89 hl rfl (by decide) (by decide) rfl (fun ls hl => ?_)
  refine lv_goto (tgt := 77) (pc := 92) hx hb dzK_init_92 (by decide) ?_
  refine lv_iload_n (pc := 77) hx hb dzK_init_77 rfl (lv_at hl 0 rfl) ?_
  refine lv_iconst (v := 4) (pc := 78) hx hb dzK_init_78 (by decide) ?_
  refine lv_icmp_ge (pc := 79) (tgt := 95) hx hb dzK_init_79 (by decide) (fun _ => ?_) (fun hq9 => absurd (by decide) hq9)
  refine lv_aload_n (pc := 95) hx hb dzK_init_95 rfl (lv_at hl 1 rfl) ?_
  refine xk_get (pc := 96) hx hb hts hown hK hP ffzK_19 0 rfl rfl dzK_init_96 ?_
  refine lv_iconst (v := 0) (pc := 99) hx hb dzK_init_99 (by decide) ?_
  refine xn_new (pc := 100) hx hb hts hown hK hA hP hD hS nnzK_17 (Nat.le_of_ble_eq_true rfl) (Nat.le_of_ble_eq_true rfl) dzK_init_100 (fun q11 H hP hD hS => ?_)
  have hP : va_P G xk_cls [(oa, .inr (3, [.ref q1, .ref q2, .ref q3, .ref q4, .int 0, .int 0])), (q1, .inl (ac 3, 3, .inr (.inr (.inr (.inr (va_up (va_up (va_up (fun _ => none) 0 (some q5)) 1 (some q7)) 2 (some q9))))))), (q2, .inl (ac 4, 2, .inr (.inr (.inr (.inr (fun _ => none)))))), (q3, .inl (ac 0, 4, .inl (fun _ => 0))), (q4, .inl (ac 1, 4, .inl (upd (upd (upd (upd (fun _ => 0) 0 1) 1 1) 2 1) 3 1))), (q5, .inr (1, [.int ((3 * k0) + 0), .int 0, .int 0, .int 0, .int 0, .int 0, .int 0, .int 0, .int 0])), (q7, .inr (1, [.int ((3 * k0) + 1), .int 0, .int 0, .int 0, .int 0, .int 0, .int 0, .int 0, .int 0])), (q9, .inr (1, [.int ((3 * k0) + 2), .int 0, .int 0, .int 0, .int 0, .int 0, .int 0, .int 0, .int 0])), (q11, .inr (2, [.null, .int 0, .int 0]))] H := hP
  have hD : va_D A [(oa, .inr (3, [.ref q1, .ref q2, .ref q3, .ref q4, .int 0, .int 0])), (q1, .inl (ac 3, 3, .inr (.inr (.inr (.inr (va_up (va_up (va_up (fun _ => none) 0 (some q5)) 1 (some q7)) 2 (some q9))))))), (q2, .inl (ac 4, 2, .inr (.inr (.inr (.inr (fun _ => none)))))), (q3, .inl (ac 0, 4, .inl (fun _ => 0))), (q4, .inl (ac 1, 4, .inl (upd (upd (upd (upd (fun _ => 0) 0 1) 1 1) 2 1) 3 1))), (q5, .inr (1, [.int ((3 * k0) + 0), .int 0, .int 0, .int 0, .int 0, .int 0, .int 0, .int 0, .int 0])), (q7, .inr (1, [.int ((3 * k0) + 1), .int 0, .int 0, .int 0, .int 0, .int 0, .int 0, .int 0, .int 0])), (q9, .inr (1, [.int ((3 * k0) + 2), .int 0, .int 0, .int 0, .int 0, .int 0, .int 0, .int 0, .int 0])), (q11, .inr (2, [.null, .int 0, .int 0]))] := hD
  refine lv_dup (pc := 103) hx hb dzK_init_103 rfl ?_
  refine lv_aload_n (pc := 104) hx hb dzK_init_104 rfl (lv_at hl 1 rfl) ?_
  refine xk_get (pc := 105) hx hb hts hown hK hP ffzK_11 0 rfl rfl dzK_init_105 ?_
  refine lv_iconst (v := 0) (pc := 108) hx hb dzK_init_108 (by decide) ?_
  refine xk_aald (q0 := 1) (t0 := 3) (j := 0) (b := q5) (pc := 109) hx hb hK hP rfl rfl (by unfold vp_in; decide) (by decide) rfl dzK_init_109 ?_
  refine xn_call (k := 1) (wr := [(oa, .inr (3, [.ref q1, .ref q2, .ref q3, .ref q4, .int 0, .int 0])), (q1, .inl (ac 3, 3, .inr (.inr (.inr (.inr (va_up (va_up (va_up (fun _ => none) 0 (some q5)) 1 (some q7)) 2 (some q9))))))), (q2, .inl (ac 4, 2, .inr (.inr (.inr (.inr (fun _ => none)))))), (q3, .inl (ac 0, 4, .inl (fun _ => 0))), (q4, .inl (ac 1, 4, .inl (upd (upd (upd (upd (fun _ => 0) 0 1) 1 1) 2 1) 3 1))), (q5, .inr (1, [.int ((3 * k0) + 0), .int 0, .int 0, .int 0, .int 0, .int 0, .int 0, .int 0, .int 0])), (q7, .inr (1, [.int ((3 * k0) + 1), .int 0, .int 0, .int 0, .int 0, .int 0, .int 0, .int 0, .int 0])), (q9, .inr (1, [.int ((3 * k0) + 2), .int 0, .int 0, .int 0, .int 0, .int 0, .int 0, .int 0, .int 0]))]) (As := [.ref q5]) (rest := [.ref q11, .int 0, .ref q2]) (H0 := s.heap) (pc := 110) hx hb hml hts hown hX hK hA hP hD hS (nzzE l G ac q11 (q5)) ⟨Or.inl xk_m126, gWS, xk_m128, xk_m127, xk_m50, rfl, ⟨by decide, by decide⟩, by decide +kernel⟩ [8] [0, 1, 2, 3, 4, 5, 6, 7] rfl rfl rfl rfl (by decide) ⟨(Nat.le_of_ble_eq_true rfl), (Nat.le_of_ble_eq_true rfl)⟩ rfl hl.1 rfl (Nat.le_of_ble_eq_true rfl) ⟨(Nat.le_of_ble_eq_true rfl), (Nat.le_of_ble_eq_true rfl)⟩ dzK_init_110 (fun u12 H locs hu hP hD hS => ?_)
  have hP : va_P G xk_cls [(oa, .inr (3, [.ref q1, .ref q2, .ref q3, .ref q4, .int 0, .int 0])), (q1, .inl (ac 3, 3, .inr (.inr (.inr (.inr (va_up (va_up (va_up (fun _ => none) 0 (some q5)) 1 (some q7)) 2 (some q9))))))), (q2, .inl (ac 4, 2, .inr (.inr (.inr (.inr (fun _ => none)))))), (q3, .inl (ac 0, 4, .inl (fun _ => 0))), (q4, .inl (ac 1, 4, .inl (upd (upd (upd (upd (fun _ => 0) 0 1) 1 1) 2 1) 3 1))), (q5, .inr (1, [.int ((3 * k0) + 0), .int 0, .int 0, .int 0, .int 0, .int 0, .int 0, .int 0, .int 0])), (q7, .inr (1, [.int ((3 * k0) + 1), .int 0, .int 0, .int 0, .int 0, .int 0, .int 0, .int 0, .int 0])), (q9, .inr (1, [.int ((3 * k0) + 2), .int 0, .int 0, .int 0, .int 0, .int 0, .int 0, .int 0, .int 0])), (q11, .inr (2, [.ref q5, .int (-1), .int 0]))] H := hP
  have hD : va_D A [(oa, .inr (3, [.ref q1, .ref q2, .ref q3, .ref q4, .int 0, .int 0])), (q1, .inl (ac 3, 3, .inr (.inr (.inr (.inr (va_up (va_up (va_up (fun _ => none) 0 (some q5)) 1 (some q7)) 2 (some q9))))))), (q2, .inl (ac 4, 2, .inr (.inr (.inr (.inr (fun _ => none)))))), (q3, .inl (ac 0, 4, .inl (fun _ => 0))), (q4, .inl (ac 1, 4, .inl (upd (upd (upd (upd (fun _ => 0) 0 1) 1 1) 2 1) 3 1))), (q5, .inr (1, [.int ((3 * k0) + 0), .int 0, .int 0, .int 0, .int 0, .int 0, .int 0, .int 0, .int 0])), (q7, .inr (1, [.int ((3 * k0) + 1), .int 0, .int 0, .int 0, .int 0, .int 0, .int 0, .int 0, .int 0])), (q9, .inr (1, [.int ((3 * k0) + 2), .int 0, .int 0, .int 0, .int 0, .int 0, .int 0, .int 0, .int 0])), (q11, .inr (2, [.ref q5, .int (-1), .int 0]))] := hD
  refine xn_ast (q0 := 2) (t0 := 4) (qk := 8) (ci := 2) (r := (RzE, TzE, 3)) (j := 0) (pc := 113) hx hb hK hP hD hS rfl rfl rfl rfl (by unfold vp_in; decide) (by decide) dzK_init_113 (fun H locs hP hD hS => ?_)
  have hP : va_P G xk_cls [(oa, .inr (3, [.ref q1, .ref q2, .ref q3, .ref q4, .int 0, .int 0])), (q1, .inl (ac 3, 3, .inr (.inr (.inr (.inr (va_up (va_up (va_up (fun _ => none) 0 (some q5)) 1 (some q7)) 2 (some q9))))))), (q2, .inl (ac 4, 2, .inr (.inr (.inr (.inr (va_up (fun _ => none) 0 (some q11))))))), (q3, .inl (ac 0, 4, .inl (fun _ => 0))), (q4, .inl (ac 1, 4, .inl (upd (upd (upd (upd (fun _ => 0) 0 1) 1 1) 2 1) 3 1))), (q5, .inr (1, [.int ((3 * k0) + 0), .int 0, .int 0, .int 0, .int 0, .int 0, .int 0, .int 0, .int 0])), (q7, .inr (1, [.int ((3 * k0) + 1), .int 0, .int 0, .int 0, .int 0, .int 0, .int 0, .int 0, .int 0])), (q9, .inr (1, [.int ((3 * k0) + 2), .int 0, .int 0, .int 0, .int 0, .int 0, .int 0, .int 0, .int 0])), (q11, .inr (2, [.ref q5, .int (-1), .int 0]))] H := hP
  have hD : va_D A [(oa, .inr (3, [.ref q1, .ref q2, .ref q3, .ref q4, .int 0, .int 0])), (q1, .inl (ac 3, 3, .inr (.inr (.inr (.inr (va_up (va_up (va_up (fun _ => none) 0 (some q5)) 1 (some q7)) 2 (some q9))))))), (q2, .inl (ac 4, 2, .inr (.inr (.inr (.inr (va_up (fun _ => none) 0 (some q11))))))), (q3, .inl (ac 0, 4, .inl (fun _ => 0))), (q4, .inl (ac 1, 4, .inl (upd (upd (upd (upd (fun _ => 0) 0 1) 1 1) 2 1) 3 1))), (q5, .inr (1, [.int ((3 * k0) + 0), .int 0, .int 0, .int 0, .int 0, .int 0, .int 0, .int 0, .int 0])), (q7, .inr (1, [.int ((3 * k0) + 1), .int 0, .int 0, .int 0, .int 0, .int 0, .int 0, .int 0, .int 0])), (q9, .inr (1, [.int ((3 * k0) + 2), .int 0, .int 0, .int 0, .int 0, .int 0, .int 0, .int 0, .int 0])), (q11, .inr (2, [.ref q5, .int (-1), .int 0]))] := hD
  refine lv_aload_n (pc := 114) hx hb dzK_init_114 rfl (lv_at hl 1 rfl) ?_
  refine xk_get (pc := 115) hx hb hts hown hK hP ffzK_19 0 rfl rfl dzK_init_115 ?_
  refine lv_iconst (v := 1) (pc := 118) hx hb dzK_init_118 (by decide) ?_
  refine xn_new (pc := 119) hx hb hts hown hK hA hP hD hS nnzK_17 (Nat.le_of_ble_eq_true rfl) (Nat.le_of_ble_eq_true rfl) dzK_init_119 (fun q13 H hP hD hS => ?_)
  have hP : va_P G xk_cls [(oa, .inr (3, [.ref q1, .ref q2, .ref q3, .ref q4, .int 0, .int 0])), (q1, .inl (ac 3, 3, .inr (.inr (.inr (.inr (va_up (va_up (va_up (fun _ => none) 0 (some q5)) 1 (some q7)) 2 (some q9))))))), (q2, .inl (ac 4, 2, .inr (.inr (.inr (.inr (va_up (fun _ => none) 0 (some q11))))))), (q3, .inl (ac 0, 4, .inl (fun _ => 0))), (q4, .inl (ac 1, 4, .inl (upd (upd (upd (upd (fun _ => 0) 0 1) 1 1) 2 1) 3 1))), (q5, .inr (1, [.int ((3 * k0) + 0), .int 0, .int 0, .int 0, .int 0, .int 0, .int 0, .int 0, .int 0])), (q7, .inr (1, [.int ((3 * k0) + 1), .int 0, .int 0, .int 0, .int 0, .int 0, .int 0, .int 0, .int 0])), (q9, .inr (1, [.int ((3 * k0) + 2), .int 0, .int 0, .int 0, .int 0, .int 0, .int 0, .int 0, .int 0])), (q11, .inr (2, [.ref q5, .int (-1), .int 0])), (q13, .inr (2, [.null, .int 0, .int 0]))] H := hP
  have hD : va_D A [(oa, .inr (3, [.ref q1, .ref q2, .ref q3, .ref q4, .int 0, .int 0])), (q1, .inl (ac 3, 3, .inr (.inr (.inr (.inr (va_up (va_up (va_up (fun _ => none) 0 (some q5)) 1 (some q7)) 2 (some q9))))))), (q2, .inl (ac 4, 2, .inr (.inr (.inr (.inr (va_up (fun _ => none) 0 (some q11))))))), (q3, .inl (ac 0, 4, .inl (fun _ => 0))), (q4, .inl (ac 1, 4, .inl (upd (upd (upd (upd (fun _ => 0) 0 1) 1 1) 2 1) 3 1))), (q5, .inr (1, [.int ((3 * k0) + 0), .int 0, .int 0, .int 0, .int 0, .int 0, .int 0, .int 0, .int 0])), (q7, .inr (1, [.int ((3 * k0) + 1), .int 0, .int 0, .int 0, .int 0, .int 0, .int 0, .int 0, .int 0])), (q9, .inr (1, [.int ((3 * k0) + 2), .int 0, .int 0, .int 0, .int 0, .int 0, .int 0, .int 0, .int 0])), (q11, .inr (2, [.ref q5, .int (-1), .int 0])), (q13, .inr (2, [.null, .int 0, .int 0]))] := hD
  refine lv_dup (pc := 122) hx hb dzK_init_122 rfl ?_
  refine lv_aload_n (pc := 123) hx hb dzK_init_123 rfl (lv_at hl 1 rfl) ?_
  refine xk_get (pc := 124) hx hb hts hown hK hP ffzK_11 0 rfl rfl dzK_init_124 ?_
  refine lv_iconst (v := 2) (pc := 127) hx hb dzK_init_127 (by decide) ?_
  refine xk_aald (q0 := 1) (t0 := 3) (j := 2) (b := q9) (pc := 128) hx hb hK hP rfl rfl (by unfold vp_in; decide) (by decide) rfl dzK_init_128 ?_
  refine xn_call (k := 1) (wr := [(oa, .inr (3, [.ref q1, .ref q2, .ref q3, .ref q4, .int 0, .int 0])), (q1, .inl (ac 3, 3, .inr (.inr (.inr (.inr (va_up (va_up (va_up (fun _ => none) 0 (some q5)) 1 (some q7)) 2 (some q9))))))), (q2, .inl (ac 4, 2, .inr (.inr (.inr (.inr (va_up (fun _ => none) 0 (some q11))))))), (q3, .inl (ac 0, 4, .inl (fun _ => 0))), (q4, .inl (ac 1, 4, .inl (upd (upd (upd (upd (fun _ => 0) 0 1) 1 1) 2 1) 3 1))), (q5, .inr (1, [.int ((3 * k0) + 0), .int 0, .int 0, .int 0, .int 0, .int 0, .int 0, .int 0, .int 0])), (q7, .inr (1, [.int ((3 * k0) + 1), .int 0, .int 0, .int 0, .int 0, .int 0, .int 0, .int 0, .int 0])), (q9, .inr (1, [.int ((3 * k0) + 2), .int 0, .int 0, .int 0, .int 0, .int 0, .int 0, .int 0, .int 0])), (q11, .inr (2, [.ref q5, .int (-1), .int 0]))]) (As := [.ref q9]) (rest := [.ref q13, .int 1, .ref q2]) (H0 := s.heap) (pc := 129) hx hb hml hts hown hX hK hA hP hD hS (nzzE l G ac q13 (q9)) ⟨Or.inl xk_m126, gWS, xk_m128, xk_m127, xk_m50, rfl, ⟨by decide, by decide⟩, by decide +kernel⟩ [9] [0, 1, 2, 3, 4, 5, 6, 7, 8] rfl rfl rfl rfl (by decide) ⟨(Nat.le_of_ble_eq_true rfl), (Nat.le_of_ble_eq_true rfl)⟩ rfl hl.1 rfl (Nat.le_of_ble_eq_true rfl) ⟨(Nat.le_of_ble_eq_true rfl), (Nat.le_of_ble_eq_true rfl)⟩ dzK_init_129 (fun u14 H locs hu hP hD hS => ?_)
  have hP : va_P G xk_cls [(oa, .inr (3, [.ref q1, .ref q2, .ref q3, .ref q4, .int 0, .int 0])), (q1, .inl (ac 3, 3, .inr (.inr (.inr (.inr (va_up (va_up (va_up (fun _ => none) 0 (some q5)) 1 (some q7)) 2 (some q9))))))), (q2, .inl (ac 4, 2, .inr (.inr (.inr (.inr (va_up (fun _ => none) 0 (some q11))))))), (q3, .inl (ac 0, 4, .inl (fun _ => 0))), (q4, .inl (ac 1, 4, .inl (upd (upd (upd (upd (fun _ => 0) 0 1) 1 1) 2 1) 3 1))), (q5, .inr (1, [.int ((3 * k0) + 0), .int 0, .int 0, .int 0, .int 0, .int 0, .int 0, .int 0, .int 0])), (q7, .inr (1, [.int ((3 * k0) + 1), .int 0, .int 0, .int 0, .int 0, .int 0, .int 0, .int 0, .int 0])), (q9, .inr (1, [.int ((3 * k0) + 2), .int 0, .int 0, .int 0, .int 0, .int 0, .int 0, .int 0, .int 0])), (q11, .inr (2, [.ref q5, .int (-1), .int 0])), (q13, .inr (2, [.ref q9, .int (-1), .int 0]))] H := hP
  have hD : va_D A [(oa, .inr (3, [.ref q1, .ref q2, .ref q3, .ref q4, .int 0, .int 0])), (q1, .inl (ac 3, 3, .inr (.inr (.inr (.inr (va_up (va_up (va_up (fun _ => none) 0 (some q5)) 1 (some q7)) 2 (some q9))))))), (q2, .inl (ac 4, 2, .inr (.inr (.inr (.inr (va_up (fun _ => none) 0 (some q11))))))), (q3, .inl (ac 0, 4, .inl (fun _ => 0))), (q4, .inl (ac 1, 4, .inl (upd (upd (upd (upd (fun _ => 0) 0 1) 1 1) 2 1) 3 1))), (q5, .inr (1, [.int ((3 * k0) + 0), .int 0, .int 0, .int 0, .int 0, .int 0, .int 0, .int 0, .int 0])), (q7, .inr (1, [.int ((3 * k0) + 1), .int 0, .int 0, .int 0, .int 0, .int 0, .int 0, .int 0, .int 0])), (q9, .inr (1, [.int ((3 * k0) + 2), .int 0, .int 0, .int 0, .int 0, .int 0, .int 0, .int 0, .int 0])), (q11, .inr (2, [.ref q5, .int (-1), .int 0])), (q13, .inr (2, [.ref q9, .int (-1), .int 0]))] := hD
  refine xn_ast (q0 := 2) (t0 := 4) (qk := 9) (ci := 2) (r := (RzE, TzE, 3)) (j := 1) (pc := 132) hx hb hK hP hD hS rfl rfl rfl rfl (by unfold vp_in; decide) (by decide) dzK_init_132 (fun H locs hP hD hS => ?_)
  have hP : va_P G xk_cls [(oa, .inr (3, [.ref q1, .ref q2, .ref q3, .ref q4, .int 0, .int 0])), (q1, .inl (ac 3, 3, .inr (.inr (.inr (.inr (va_up (va_up (va_up (fun _ => none) 0 (some q5)) 1 (some q7)) 2 (some q9))))))), (q2, .inl (ac 4, 2, .inr (.inr (.inr (.inr (va_up (va_up (fun _ => none) 0 (some q11)) 1 (some q13))))))), (q3, .inl (ac 0, 4, .inl (fun _ => 0))), (q4, .inl (ac 1, 4, .inl (upd (upd (upd (upd (fun _ => 0) 0 1) 1 1) 2 1) 3 1))), (q5, .inr (1, [.int ((3 * k0) + 0), .int 0, .int 0, .int 0, .int 0, .int 0, .int 0, .int 0, .int 0])), (q7, .inr (1, [.int ((3 * k0) + 1), .int 0, .int 0, .int 0, .int 0, .int 0, .int 0, .int 0, .int 0])), (q9, .inr (1, [.int ((3 * k0) + 2), .int 0, .int 0, .int 0, .int 0, .int 0, .int 0, .int 0, .int 0])), (q11, .inr (2, [.ref q5, .int (-1), .int 0])), (q13, .inr (2, [.ref q9, .int (-1), .int 0]))] H := hP
  have hD : va_D A [(oa, .inr (3, [.ref q1, .ref q2, .ref q3, .ref q4, .int 0, .int 0])), (q1, .inl (ac 3, 3, .inr (.inr (.inr (.inr (va_up (va_up (va_up (fun _ => none) 0 (some q5)) 1 (some q7)) 2 (some q9))))))), (q2, .inl (ac 4, 2, .inr (.inr (.inr (.inr (va_up (va_up (fun _ => none) 0 (some q11)) 1 (some q13))))))), (q3, .inl (ac 0, 4, .inl (fun _ => 0))), (q4, .inl (ac 1, 4, .inl (upd (upd (upd (upd (fun _ => 0) 0 1) 1 1) 2 1) 3 1))), (q5, .inr (1, [.int ((3 * k0) + 0), .int 0, .int 0, .int 0, .int 0, .int 0, .int 0, .int 0, .int 0])), (q7, .inr (1, [.int ((3 * k0) + 1), .int 0, .int 0, .int 0, .int 0, .int 0, .int 0, .int 0, .int 0])), (q9, .inr (1, [.int ((3 * k0) + 2), .int 0, .int 0, .int 0, .int 0, .int 0, .int 0, .int 0, .int 0])), (q11, .inr (2, [.ref q5, .int (-1), .int 0])), (q13, .inr (2, [.ref q9, .int (-1), .int 0]))] := hD
  obtain ⟨uu, hu⟩ : ∃ uu : Nat → Nat, uu = (fun k => match k with | 0 => oa | 1 => q1 | 2 => q2 | 3 => q3 | 4 => q4 | 5 => q5 | 6 => q7 | 7 => q9 | 8 => q11 | _ => q13) := ⟨_, rfl⟩
  obtain ⟨hP, hD⟩ := xn_perm (ws2 := [(oa, .inr (3, [.ref q1, .ref q2, .ref q3, .ref q4, .int 0, .int 0])), (q1, .inl (ac 3, 3, .inr (.inr (.inr (.inr (va_up (va_up (va_up (fun _ => none) 0 (some q5)) 1 (some q7)) 2 (some q9))))))), (q2, .inl (ac 4, 2, .inr (.inr (.inr (.inr (va_up (va_up (fun _ => none) 0 (some q11)) 1 (some q13))))))), (q3, .inl (ac 0, 4, .inl (fun _ => 0))), (q4, .inl (ac 1, 4, .inl (upd (upd (upd (upd (fun _ => 0) 0 1) 1 1) 2 1) 3 1))), (q5, .inr (1, [.int ((3 * k0) + 0), .int 0, .int 0, .int 0, .int 0, .int 0, .int 0, .int 0, .int 0])), (q7, .inr (1, [.int ((3 * k0) + 1), .int 0, .int 0, .int 0, .int 0, .int 0, .int 0, .int 0, .int 0])), (q9, .inr (1, [.int ((3 * k0) + 2), .int 0, .int 0, .int 0, .int 0, .int 0, .int 0, .int 0, .int 0])), (q11, .inr (2, [.ref q5, .int (-1), .int 0])), (q13, .inr (2, [.ref q9, .int (-1), .int 0]))]) hP hD [0, 1, 2, 3, 4, 5, 6, 7, 8, 9] (by decide) rfl
  obtain ⟨hP, hD⟩ := xn_fix (f2 := fun j => some ((fun k => match k with | 0 => oa | 1 => q1 | 2 => q2 | 3 => q3 | 4 => q4 | 5 => q5 | 6 => q7 | 7 => q9 | 8 => q11 | _ => q13) (5 + j))) hP hD 1 rfl (fun j hj => by
    rcases (show j = 0 ∨ j = 1 ∨ j = 2 from by omega) with rfl | rfl | rfl <;> rfl)
  obtain ⟨hP, hD⟩ := xn_fix (f2 := fun j => some ((fun k => match k with | 0 => oa | 1 => q1 | 2 => q2 | 3 => q3 | 4 => q4 | 5 => q5 | 6 => q7 | 7 => q9 | 8 => q11 | _ => q13) (8 + j))) hP hD 2 rfl (fun j hj => by
    rcases (show j = 0 ∨ j = 1 from by omega) with rfl | rfl <;> rfl)
  exact hret (fun k => match k with | 0 => oa | 1 => q1 | 2 => q2 | 3 => q3 | 4 => q4 | 5 => q5 | 6 => q7 | 7 => q9 | 8 => q11 | _ => q13) H locs 133 ls _ _ (Nat.le_of_ble_eq_true rfl) (Nat.le_of_ble_eq_true rfl) hP hD hS trivial dzK_init_133
