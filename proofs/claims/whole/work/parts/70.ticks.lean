theorem ikzU_countPulses (g0 : xk_St) (gz : xk_St) : relzU_countPulses g0 gz → xk_kept g0 → xk_kept gz := by
  intro h Ig0
  unfold relzU_countPulses at h
  obtain ⟨g1, u1, v2⟩ := h
  have Ig1 : xk_kept g1 := by rw [u1]; first | exact xk_kept_a _ Ig0 | exact xk_kept_b _ Ig0 | exact xk_kept_up Ig0 (by decide) (by decide)
  obtain ⟨g4, u3, v4⟩ := v2
  have Ig4 : xk_kept g4 := by
    by_cases hc : (qzK_takePulse_0 (g0 15)) = 0
    · rw [if_pos hc] at u3
      rw [u3]; exact Ig1
    · rw [if_neg hc] at u3
      by_cases hc : ((g1 17) 0) = 0
      · rw [if_pos hc] at u3
        rw [u3]; exact Ig1
      · rw [if_neg hc] at u3
        by_cases hc : (qzK_takePulse_0 (g0 15)) = 1
        · rw [if_pos hc] at u3
          obtain ⟨g2, u5, v6⟩ := u3
          have Ig2 : xk_kept g2 := xk_kept_of (frzU_countAxle_0_0_p _ _ u5) (by decide) (by decide) Ig1
          rw [v6]; exact Ig2
        · rw [if_neg hc] at u3
          obtain ⟨g3, u7, v8⟩ := u3
          have Ig3 : xk_kept g3 := xk_kept_of (frzU_countAxle_0_0_m _ _ u7) (by decide) (by decide) Ig1
          rw [v8]; exact Ig3
  obtain ⟨g5, u9, v10⟩ := v4
  have Ig5 : xk_kept g5 := by rw [u9]; first | exact xk_kept_a _ Ig4 | exact xk_kept_b _ Ig4 | exact xk_kept_up Ig4 (by decide) (by decide)
  obtain ⟨g8, u11, v12⟩ := v10
  have Ig8 : xk_kept g8 := by
    by_cases hc : (qzK_takePulse_1 (g4 15)) = 0
    · rw [if_pos hc] at u11
      rw [u11]; exact Ig5
    · rw [if_neg hc] at u11
      by_cases hc : ((g5 17) 1) = 0
      · rw [if_pos hc] at u11
        rw [u11]; exact Ig5
      · rw [if_neg hc] at u11
        by_cases hc : (qzK_takePulse_1 (g4 15)) = 1
        · rw [if_pos hc] at u11
          obtain ⟨g6, u13, v14⟩ := u11
          have Ig6 : xk_kept g6 := xk_kept_of (frzU_countAxle_0_1_p _ _ u13) (by decide) (by decide) Ig5
          rw [v14]; exact Ig6
        · rw [if_neg hc] at u11
          obtain ⟨g7, u15, v16⟩ := u11
          have Ig7 : xk_kept g7 := xk_kept_of (frzU_countAxle_0_1_m _ _ u15) (by decide) (by decide) Ig5
          rw [v16]; exact Ig7
  obtain ⟨g9, u17, v18⟩ := v12
  have Ig9 : xk_kept g9 := by rw [u17]; first | exact xk_kept_a _ Ig8 | exact xk_kept_b _ Ig8 | exact xk_kept_up Ig8 (by decide) (by decide)
  obtain ⟨g12, u19, v20⟩ := v18
  have Ig12 : xk_kept g12 := by
    by_cases hc : (qzK_takePulse_2 (g8 15)) = 0
    · rw [if_pos hc] at u19
      rw [u19]; exact Ig9
    · rw [if_neg hc] at u19
      by_cases hc : ((g9 17) 2) = 0
      · rw [if_pos hc] at u19
        rw [u19]; exact Ig9
      · rw [if_neg hc] at u19
        by_cases hc : (qzK_takePulse_2 (g8 15)) = 1
        · rw [if_pos hc] at u19
          obtain ⟨g10, u21, v22⟩ := u19
          have Ig10 : xk_kept g10 := xk_kept_of (frzU_countAxle_0_2_p _ _ u21) (by decide) (by decide) Ig9
          rw [v22]; exact Ig10
        · rw [if_neg hc] at u19
          obtain ⟨g11, u23, v24⟩ := u19
          have Ig11 : xk_kept g11 := xk_kept_of (frzU_countAxle_0_2_m _ _ u23) (by decide) (by decide) Ig9
          rw [v24]; exact Ig11
  obtain ⟨g13, u25, v26⟩ := v20
  have Ig13 : xk_kept g13 := by rw [u25]; first | exact xk_kept_a _ Ig12 | exact xk_kept_b _ Ig12 | exact xk_kept_up Ig12 (by decide) (by decide)
  obtain ⟨g16, u27, v28⟩ := v26
  have Ig16 : xk_kept g16 := by
    by_cases hc : (qzK_takePulse_3 (g12 15)) = 0
    · rw [if_pos hc] at u27
      rw [u27]; exact Ig13
    · rw [if_neg hc] at u27
      by_cases hc : ((g13 17) 3) = 0
      · rw [if_pos hc] at u27
        rw [u27]; exact Ig13
      · rw [if_neg hc] at u27
        by_cases hc : (qzK_takePulse_3 (g12 15)) = 1
        · rw [if_pos hc] at u27
          obtain ⟨g14, u29, v30⟩ := u27
          have Ig14 : xk_kept g14 := xk_kept_of (frzU_countAxle_0_3_p _ _ u29) (by decide) (by decide) Ig13
          rw [v30]; exact Ig14
        · rw [if_neg hc] at u27
          obtain ⟨g15, u31, v32⟩ := u27
          have Ig15 : xk_kept g15 := xk_kept_of (frzU_countAxle_0_3_m _ _ u31) (by decide) (by decide) Ig13
          rw [v32]; exact Ig15
  obtain ⟨g17, u33, v34⟩ := v28
  have Ig17 : xk_kept g17 := by rw [u33]; first | exact xk_kept_a _ Ig16 | exact xk_kept_b _ Ig16 | exact xk_kept_up Ig16 (by decide) (by decide)
  obtain ⟨g20, u35, v36⟩ := v34
  have Ig20 : xk_kept g20 := by
    by_cases hc : (qzK_takePulse_0 (g16 16)) = 0
    · rw [if_pos hc] at u35
      rw [u35]; exact Ig17
    · rw [if_neg hc] at u35
      by_cases hc : ((g17 18) 0) = 0
      · rw [if_pos hc] at u35
        rw [u35]; exact Ig17
      · rw [if_neg hc] at u35
        by_cases hc : (qzK_takePulse_0 (g16 16)) = 1
        · rw [if_pos hc] at u35
          obtain ⟨g18, u37, v38⟩ := u35
          have Ig18 : xk_kept g18 := xk_kept_of (frzU_countAxle_1_0_p _ _ u37) (by decide) (by decide) Ig17
          rw [v38]; exact Ig18
        · rw [if_neg hc] at u35
          obtain ⟨g19, u39, v40⟩ := u35
          have Ig19 : xk_kept g19 := xk_kept_of (frzU_countAxle_1_0_m _ _ u39) (by decide) (by decide) Ig17
          rw [v40]; exact Ig19
  obtain ⟨g21, u41, v42⟩ := v36
  have Ig21 : xk_kept g21 := by rw [u41]; first | exact xk_kept_a _ Ig20 | exact xk_kept_b _ Ig20 | exact xk_kept_up Ig20 (by decide) (by decide)
  obtain ⟨g24, u43, v44⟩ := v42
  have Ig24 : xk_kept g24 := by
    by_cases hc : (qzK_takePulse_1 (g20 16)) = 0
    · rw [if_pos hc] at u43
      rw [u43]; exact Ig21
    · rw [if_neg hc] at u43
      by_cases hc : ((g21 18) 1) = 0
      · rw [if_pos hc] at u43
        rw [u43]; exact Ig21
      · rw [if_neg hc] at u43
        by_cases hc : (qzK_takePulse_1 (g20 16)) = 1
        · rw [if_pos hc] at u43
          obtain ⟨g22, u45, v46⟩ := u43
          have Ig22 : xk_kept g22 := xk_kept_of (frzU_countAxle_1_1_p _ _ u45) (by decide) (by decide) Ig21
          rw [v46]; exact Ig22
        · rw [if_neg hc] at u43
          obtain ⟨g23, u47, v48⟩ := u43
          have Ig23 : xk_kept g23 := xk_kept_of (frzU_countAxle_1_1_m _ _ u47) (by decide) (by decide) Ig21
          rw [v48]; exact Ig23
  obtain ⟨g25, u49, v50⟩ := v44
  have Ig25 : xk_kept g25 := by rw [u49]; first | exact xk_kept_a _ Ig24 | exact xk_kept_b _ Ig24 | exact xk_kept_up Ig24 (by decide) (by decide)
  obtain ⟨g28, u51, v52⟩ := v50
  have Ig28 : xk_kept g28 := by
    by_cases hc : (qzK_takePulse_2 (g24 16)) = 0
    · rw [if_pos hc] at u51
      rw [u51]; exact Ig25
    · rw [if_neg hc] at u51
      by_cases hc : ((g25 18) 2) = 0
      · rw [if_pos hc] at u51
        rw [u51]; exact Ig25
      · rw [if_neg hc] at u51
        by_cases hc : (qzK_takePulse_2 (g24 16)) = 1
        · rw [if_pos hc] at u51
          obtain ⟨g26, u53, v54⟩ := u51
          have Ig26 : xk_kept g26 := xk_kept_of (frzU_countAxle_1_2_p _ _ u53) (by decide) (by decide) Ig25
          rw [v54]; exact Ig26
        · rw [if_neg hc] at u51
          obtain ⟨g27, u55, v56⟩ := u51
          have Ig27 : xk_kept g27 := xk_kept_of (frzU_countAxle_1_2_m _ _ u55) (by decide) (by decide) Ig25
          rw [v56]; exact Ig27
  obtain ⟨g29, u57, v58⟩ := v52
  have Ig29 : xk_kept g29 := by rw [u57]; first | exact xk_kept_a _ Ig28 | exact xk_kept_b _ Ig28 | exact xk_kept_up Ig28 (by decide) (by decide)
  obtain ⟨g32, u59, v60⟩ := v58
  have Ig32 : xk_kept g32 := by
    by_cases hc : (qzK_takePulse_3 (g28 16)) = 0
    · rw [if_pos hc] at u59
      rw [u59]; exact Ig29
    · rw [if_neg hc] at u59
      by_cases hc : ((g29 18) 3) = 0
      · rw [if_pos hc] at u59
        rw [u59]; exact Ig29
      · rw [if_neg hc] at u59
        by_cases hc : (qzK_takePulse_3 (g28 16)) = 1
        · rw [if_pos hc] at u59
          obtain ⟨g30, u61, v62⟩ := u59
          have Ig30 : xk_kept g30 := xk_kept_of (frzU_countAxle_1_3_p _ _ u61) (by decide) (by decide) Ig29
          rw [v62]; exact Ig30
        · rw [if_neg hc] at u59
          obtain ⟨g31, u63, v64⟩ := u59
          have Ig31 : xk_kept g31 := xk_kept_of (frzU_countAxle_1_3_m _ _ u63) (by decide) (by decide) Ig29
          rw [v64]; exact Ig31
  rw [v60]; exact Ig32
theorem ikzU_tick (g0 : xk_St) (rz : Int32) (gz : xk_St) : relzU_tick g0 rz gz → xk_kept g0 → xk_kept gz := by
  intro h Ig0
  unfold relzU_tick at h
  obtain ⟨g1, u1, v2⟩ := h
  have Ig1 : xk_kept g1 := by rw [u1]; first | exact xk_kept_a _ Ig0 | exact xk_kept_b _ Ig0 | exact xk_kept_up Ig0 (by decide) (by decide)
  obtain ⟨g2, u3, v4⟩ := v2
  have Ig2 : xk_kept g2 := xk_kept_of (frzU_rememberBalances _ _ u3) (by decide) (by decide) Ig1
  obtain ⟨g3, u5, v6⟩ := v4
  have Ig3 : xk_kept g3 := ikzU_countPulses _ _ u5 Ig2
  obtain ⟨g4, u7, v8⟩ := v6
  have Ig4 : xk_kept g4 := xk_kept_of (frzU_followComings _ _ u7) (by decide) (by decide) Ig3
  obtain ⟨g5, u9, v10⟩ := v8
  have Ig5 : xk_kept g5 := xk_kept_of (frzU_useUpOrders _ _ u9) (by decide) (by decide) Ig4
  obtain ⟨g6, u11, v12⟩ := v10
  have Ig6 : xk_kept g6 := xk_kept_of (frzU_watchLamps _ _ u11) (by decide) (by decide) Ig5
  obtain ⟨g7, u13, v14⟩ := v12
  have Ig7 : xk_kept g7 := xk_kept_of (frzU_watchBarriers _ _ u13) (by decide) (by decide) Ig6
  obtain ⟨g8, u15, v16⟩ := v14
  have Ig8 : xk_kept g8 := xk_kept_of (frzU_moveRoad _ _ u15) (by decide) (by decide) Ig7
  obtain ⟨g9, u17, v18⟩ := v16
  have Ig9 : xk_kept g9 := xk_kept_of (frzU_driveMotors _ _ u17) (by decide) (by decide) Ig8
  obtain ⟨g10, u19, v20⟩ := v18
  have Ig10 : xk_kept g10 := xk_kept_of (frzU_lightLamps _ _ u19) (by decide) (by decide) Ig9
  obtain ⟨g11, u21, v22⟩ := v20
  have Ig11 : xk_kept g11 := by rw [u21]; first | exact xk_kept_a _ Ig10 | exact xk_kept_b _ Ig10 | exact xk_kept_up Ig10 (by decide) (by decide)
  obtain ⟨g12, u23, v24⟩ := v22
  have Ig12 : xk_kept g12 := xk_kept_of (frzU_setSignals _ _ u23) (by decide) (by decide) Ig11
  obtain ⟨g13, u25, v26⟩ := v24
  have Ig13 : xk_kept g13 := by rw [u25]; first | exact xk_kept_a _ Ig12 | exact xk_kept_b _ Ig12 | exact xk_kept_up Ig12 (by decide) (by decide)
  rw [v26.2]; exact Ig13
/-- so many ticks, one behind another -/
def xk_tks : Nat → xk_St → xk_St → Prop
  | 0, g, gz => gz = g
  | n + 1, g, gz => ∃ (g1 : xk_St) (r : Int32), relzU_tick g r g1 ∧ xk_tks n g1 gz
set_option maxHeartbeats 4000000 in
set_option maxRecDepth 100000 in
theorem kzU_ticks (l : Launch) (G : va_G) (ac : Nat → ClassId) (ad : Nat → Nat) (g0 : xk_St) (k : Nat) (hk : k ≤ 1000) (Ig0 : xk_kept g0) : xk_CI l yzU_ticks czU_ticks 3 .int xk_WS xk_r6 G xk_cls (xk_tys ac) [.ref (ad 0), .int (nI k)] (xk_wU ad ac g0) (fun rz (gz : xk_St) => xk_tks k g0 gz ∧ rz = gz 0 6) (fun gz => xk_wU ad ac gz) := by
  refine xk_ofI (by decide) (Nat.le_of_ble_eq_true rfl) ?_
  intro p e s m args below meth c A Q H locs ls C0 hret hP hD hS hl
  obtain ⟨hx, hb, hml, hts, hown, hK, hA⟩ := C0
  have hl : lv_has ls 3 [(0, .ref (ad 0)), (1, .int (nI k))] := hl
  have loop : ∀ (d j : Nat) (g : xk_St) (H : Heap) (locs : List Loc) (ls : Array Slot), j + d = k → xk_kept g → (∀ gz, xk_tks d g gz → xk_tks k g0 gz) → va_P G xk_cls (xk_wU ad ac g) H → va_D A (xk_wU ad ac g) → va_S A s.heap H locs → lv_has ls 3 [(2, .int (nI j)), (0, .ref (ad 0)), (1, .int (nI k))] → W p l e xk_r6 s m args below meth c H locs 0 0 Q (F0 m 23 ls []) := by
    intro d
    induction d with
    | zero =>
      intro j g H locs ls hj Ig hfin hP hD hS hl
      refine lv_iload_n (pc := 23) hx hb dzU_ticks_23 rfl (lv_at hl 0 rfl) ?_
      refine lv_iload_n (pc := 24) hx hb dzU_ticks_24 rfl (lv_at hl 2 rfl) ?_
      refine lv_icmp_ge (pc := 25) (tgt := 39) hx hb dzU_ticks_25 (by decide) (fun _ => ?_) (fun hq9 => absurd (nI_le (by omega) (by omega)) hq9)
      refine lv_aload_n (pc := 39) hx hb dzU_ticks_39 rfl (lv_at hl 1 rfl) ?_
      refine xk_get (pc := 40) hx hb hts hown hK hP ffzU_45 0 rfl rfl dzU_ticks_40 ?_
      exact hret _ g H locs 43 ls hP hS rfl ⟨hfin g rfl, rfl⟩ dzU_ticks_43
    | succ d ih =>
      intro j g H locs ls hj Ig hfin hP hD hS hl
      refine lv_iload_n (pc := 23) hx hb dzU_ticks_23 rfl (lv_at hl 0 rfl) ?_
      refine lv_iload_n (pc := 24) hx hb dzU_ticks_24 rfl (lv_at hl 2 rfl) ?_
      refine lv_icmp_ge (pc := 25) (tgt := 39) hx hb dzU_ticks_25 (by decide) (fun hq9 => absurd hq9 (nI_ge (by omega) (by omega))) (fun _ => ?_)
      refine lv_aload_n (pc := 28) hx hb dzU_ticks_28 rfl (lv_at hl 1 rfl) ?_
      refine xk_allVI (As := []) (rest := []) (H0 := s.heap) (pc := 29) hx hb hml hts hown hK hA hP hD hS (kzU_tick l G ac ad g Ig) vfzU_134 (fun _ => rfl) 0 rfl rfl ⟨rfl, rfl⟩ ⟨Nat.le_of_ble_eq_true rfl, Nat.le_of_ble_eq_true rfl⟩ rfl hl.1 rfl (Nat.le_of_ble_eq_true rfl) ⟨Nat.zero_le _, Nat.zero_le _⟩ dzU_ticks_29 (fun r g1 H locs hr hP hD hS => ?_)
      refine lv_pop (pc := 32) hx hb dzU_ticks_32 rfl ?_
      refine lv_iinc (k := 0) (x := nI j) (v := nI (j + 1)) (lv' := [(2, .int (nI (j + 1))), (0, .ref (ad 0)), (1, .int (nI k))]) (pc := 33) hx hb dzU_ticks_33 hl rfl (by rw [show Int32.ofInt (1) = 1 from by decide]; exact nI_1 j) (by decide) rfl (fun ls hl => ?_)
      refine lv_goto (tgt := 23) (pc := 36) hx hb dzU_ticks_36 (by decide) ?_
      exact ih (j + 1) g1 H locs ls (by omega) (ikzU_tick _ _ _ hr Ig) (fun gz hz => hfin gz ⟨g1, r, hr, hz⟩) hP hD hS hl
  refine lv_iload_n (pc := 0) hx hb dzU_ticks_0 rfl (lv_at hl 1 rfl) ?_
  refine lv_if_lt (pc := 1) (tgt := 11) hx hb dzU_ticks_1 (by decide) (fun hq9 => absurd hq9 (nI_pos (by omega))) (fun _ => ?_)
  refine lv_iload_n (pc := 4) hx hb dzU_ticks_4 rfl (lv_at hl 1 rfl) ?_
  refine lv_sipush (v := 1000) (pc := 5) hx hb dzU_ticks_5 (by decide) ?_
  refine lv_icmp_le (pc := 8) (tgt := 21) hx hb dzU_ticks_8 (by decide) (fun _ => ?_) (fun hq9 => absurd (show nI k ≤ 1000 from by rw [show (1000 : Int32) = nI 1000 from by decide]; exact nI_le hk (by decide)) hq9)
  refine lv_iconst (v := 0) (pc := 21) hx hb dzU_ticks_21 (by decide) ?_
  refine lv_istore_n (lv' := [(2, .int 0), (0, .ref (ad 0)), (1, .int (nI k))]) (pc := 22) hx hb dzU_ticks_22 rfl hl (by decide) rfl (fun ls hl => ?_)
  exact loop k 0 g0 H locs ls (by omega) Ig0 (fun gz h => h) hP hD hS hl
def xk_tkm : Nat → xk_St → xk_St → Prop
  | 0, g, gz => gz = g
  | n + 1, g, gz => ∃ g1 : xk_St, relzM_oneTick g g1 ∧ xk_tkm n g1 gz
set_option maxHeartbeats 4000000 in
set_option maxRecDepth 100000 in
theorem kzM_ticks (l : Launch) (G : va_G) (ac : Nat → ClassId) (ad : Nat → Nat) (g0 : xk_St) (k B : Nat) (hk : k ≤ 1000) (Ig0 : xk_cnt B g0) (hB : B + k * 22 + 1 < 2147483648) : xk_CI l yzM_ticks czM_ticks 3 .int xk_WS xk_r7 G xk_cls (xk_tys ac) [.ref (ad 0), .int (nI k)] (xk_wM ad ac g0) (fun rz (gz : xk_St) => ∃ (r1 : Int32) (g1 : xk_St), relzM_goes_111 g0 r1 g1 ∧ xk_tkm k g1 gz ∧ relzM_output gz rz) (fun gz => xk_wM ad ac gz) := by
  refine xk_ofI (by decide) (Nat.le_of_ble_eq_true rfl) ?_
  intro p e s m args below meth c A Q H locs ls C0 hret hP hD hS hl
  obtain ⟨hx, hb, hml, hts, hown, hK, hA⟩ := C0
  have hl : lv_has ls 3 [(0, .ref (ad 0)), (1, .int (nI k))] := hl
  refine lv_aload_n (pc := 0) hx hb dzM_ticks_0 rfl (lv_at hl 0 rfl) ?_
  refine lv_iload_n (pc := 1) hx hb dzM_ticks_1 rfl (lv_at hl 1 rfl) ?_
  refine lv_if_lt (pc := 2) (tgt := 16) hx hb dzM_ticks_2 (by decide) (fun hq9 => absurd hq9 (nI_pos (by omega))) (fun _ => ?_)
  refine lv_iload_n (pc := 5) hx hb dzM_ticks_5 rfl (lv_at hl 1 rfl) ?_
  refine lv_sipush (v := 1000) (pc := 6) hx hb dzM_ticks_6 (by decide) ?_
  refine lv_icmp_gt (pc := 9) (tgt := 16) hx hb dzM_ticks_9 (by decide) (fun hq9 => absurd hq9 (show ¬ (1000 : Int32) < nI k from by rw [show (1000 : Int32) = nI 1000 from by decide]; exact nI_nlt hk (by decide))) (fun _ => ?_)
  refine lv_iconst (v := 1) (pc := 12) hx hb dzM_ticks_12 (by decide) ?_
  refine lv_goto (tgt := 17) (pc := 13) hx hb dzM_ticks_13 (by decide) ?_
  refine lv_iconst (v := 1) (pc := 17) hx hb dzM_ticks_17 (by decide) ?_
  refine lv_iconst (v := 1) (pc := 18) hx hb dzM_ticks_18 (by decide) ?_
  refine xk_allVI (As := [.int 1, .int 1, .int 1]) (rest := []) (H0 := s.heap) (pc := 19) hx hb hml hts hown hK hA hP hD hS (kzM_goes_111 l G ac ad g0 B Ig0 (by omega)) vfzM_114 (fun _ => rfl) 0 rfl rfl ⟨rfl, rfl⟩ ⟨Nat.le_of_ble_eq_true rfl, Nat.le_of_ble_eq_true rfl⟩ rfl hl.1 rfl (Nat.le_of_ble_eq_true rfl) ⟨Nat.zero_le _, Nat.zero_le _⟩ dzM_ticks_19 (fun r1 g1 H locs hr1 hP hD hS => ?_)
  have hr0 : r1 = 1 := rczM_goes_111 _ _ _ hr1
  have Ig1 : xk_cnt B g1 := iczM_goes_111 B _ _ _ hr1 Ig0
  have loop : ∀ (d j : Nat) (g : xk_St) (H : Heap) (locs : List Loc) (ls : Array Slot), j + d = k → xk_cnt (B + j * 22) g → (∀ gz, xk_tkm d g gz → xk_tkm k g1 gz) → va_P G xk_cls (xk_wM ad ac g) H → va_D A (xk_wM ad ac g) → va_S A s.heap H locs → lv_has ls 3 [(2, .int (nI j)), (0, .ref (ad 0)), (1, .int (nI k))] → W p l e xk_r7 s m args below meth c H locs 0 0 Q (F0 m 29 ls []) := by
    intro d
    induction d with
    | zero =>
      intro j g H locs ls hj Ig hfin hP hD hS hl
      refine lv_iload_n (pc := 29) hx hb dzM_ticks_29 rfl (lv_at hl 0 rfl) ?_
      refine lv_iload_n (pc := 30) hx hb dzM_ticks_30 rfl (lv_at hl 2 rfl) ?_
      refine lv_icmp_ge (pc := 31) (tgt := 44) hx hb dzM_ticks_31 (by decide) (fun _ => ?_) (fun hq9 => absurd (nI_le (by omega) (by omega)) hq9)
      refine lv_aload_n (pc := 44) hx hb dzM_ticks_44 rfl (lv_at hl 1 rfl) ?_
      refine xk_allVI (As := []) (rest := []) (H0 := s.heap) (pc := 45) hx hb hml hts hown hK hA hP hD hS (kzM_output l G ac ad g) vfzM_191 (fun _ => rfl) 0 rfl rfl ⟨rfl, rfl⟩ ⟨Nat.le_of_ble_eq_true rfl, Nat.le_of_ble_eq_true rfl⟩ rfl hl.1 rfl (Nat.le_of_ble_eq_true rfl) ⟨Nat.zero_le _, Nat.zero_le _⟩ dzM_ticks_45 (fun r u9 H locs hr hP hD hS => ?_)
      exact hret _ g H locs 48 ls hP hS rfl ⟨r1, g1, hr1, hfin g rfl, hr⟩ dzM_ticks_48
    | succ d ih =>
      intro j g H locs ls hj Ig hfin hP hD hS hl
      have hjk : j * 22 + 22 ≤ k * 22 := by
        have h9 : (j + 1) * 22 ≤ k * 22 := Nat.mul_le_mul_right _ (by omega)
        omega
      refine lv_iload_n (pc := 29) hx hb dzM_ticks_29 rfl (lv_at hl 0 rfl) ?_
      refine lv_iload_n (pc := 30) hx hb dzM_ticks_30 rfl (lv_at hl 2 rfl) ?_
      refine lv_icmp_ge (pc := 31) (tgt := 44) hx hb dzM_ticks_31 (by decide) (fun hq9 => absurd hq9 (nI_ge (by omega) (by omega))) (fun _ => ?_)
      refine lv_aload_n (pc := 34) hx hb dzM_ticks_34 rfl (lv_at hl 1 rfl) ?_
      refine xk_allVV (As := []) (rest := []) (H0 := s.heap) (pc := 35) hx hb hml hts hown hK hA hP hD hS (kzM_oneTick l G ac ad g (B + j * 22) Ig (by omega)) vfzM_188 (fun _ => rfl) 0 rfl rfl ⟨rfl, rfl⟩ ⟨Nat.le_of_ble_eq_true rfl, Nat.le_of_ble_eq_true rfl⟩ rfl hl.1 rfl (Nat.le_of_ble_eq_true rfl) ⟨Nat.zero_le _, Nat.zero_le _⟩ dzM_ticks_35 (fun g2 H locs hr hP hD hS => ?_)
      refine lv_iinc (k := 0) (x := nI j) (v := nI (j + 1)) (lv' := [(2, .int (nI (j + 1))), (0, .ref (ad 0)), (1, .int (nI k))]) (pc := 38) hx hb dzM_ticks_38 hl rfl (by rw [show Int32.ofInt (1) = 1 from by decide]; exact nI_1 j) (by decide) rfl (fun ls hl => ?_)
      refine lv_goto (tgt := 29) (pc := 41) hx hb dzM_ticks_41 (by decide) ?_
      exact ih (j + 1) g2 H locs ls (by omega) (xk_cnt_le (iczM_oneTick _ _ _ hr Ig) (by omega)) (fun gz hz => hfin gz ⟨g2, hr, hz⟩) hP hD hS hl
  refine xk_is (y := 1) hr0 ?_
  refine lv_if_ne (pc := 22) (tgt := 27) hx hb dzM_ticks_22 (by decide) (fun _ => ?_) (fun hq9 => absurd hq9 (by decide))
  refine lv_iconst (v := 0) (pc := 27) hx hb dzM_ticks_27 (by decide) ?_
  refine lv_istore_n (lv' := [(2, .int 0), (0, .ref (ad 0)), (1, .int (nI k))]) (pc := 28) hx hb dzM_ticks_28 rfl hl (by decide) rfl (fun ls hl => ?_)
  exact loop k 0 g1 H locs ls (by omega) (xk_cnt_le Ig1 (by omega)) (fun gz h => h) hP hD hS hl
