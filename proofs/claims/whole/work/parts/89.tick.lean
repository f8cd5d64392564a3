/-- what holds between two calls, and between two ticks -/
def xI (W : Int) (T B : Nat) (g t : xk_St) : Prop := xr g t ∧ xk_cnt B t ∧ xi_pl W t ∧ (∀ h : Nat, h < 8 → xk_p (t 1 h)) ∧ (∀ e : Nat, e < 4 → g (25 + e) 2 = 0) ∧ (∀ e : Nat, e < 4 → xi_co t e) ∧ (∀ k : Nat, k < 3 → xi_lp T t k) ∧ (∀ b : Nat, b < 2 → xi_ba t b) ∧ xi_tm T t ∧ g 0 9 = qzM_isProved t ∧ g 0 6 = qzU_gatherOutput g
theorem xi_lp_of {T : Nat} {t t1 : xk_St} {k : Nat} (h : xi_lp T t k) (e1 : t1 22 = t 22) (e2 : t1 23 = t 23) : xi_lp T t1 k := by
  obtain ⟨n, h1, h2, h3⟩ := h
  exact ⟨n, h1, by rw [e1]; exact h2, by rw [e2]; exact h3⟩
theorem xi_co_of {t t1 : xk_St} {e : Nat} (h : xi_co t e) (e1 : t1 11 = t 11) : xi_co t1 e := by
  show _ ∨ _
  rw [e1]; exact h
theorem xi_ba_of {t t1 : xk_St} {b : Nat} (h : xi_ba t b) (e1 : t1 19 = t 19) (e2 : t1 18 = t 18) (e3 : t1 16 = t 16) : xi_ba t1 b := by
  show _ ∨ _
  rw [e1, e2, e3]; exact h
theorem xi_bb_of {t t1 : xk_St} {b : Nat} (h : xi_bb t b) (e1 : t1 19 = t 19) (e2 : t1 18 = t 18) : xi_bb t1 b := by
  show _ ∨ _
  rw [e1, e2]; exact h
theorem xi_pl_of {W : Int} {t t1 : xk_St} (h : xi_pl W t) (e1 : t1 1 = t 1) (e3 : t1 3 = t 3) (e5 : t1 5 = t 5) : xi_pl W t1 := fun s hs => by
  show xi_q W t1 s _
  unfold xi_q
  rw [e1, e3, e5]; exact h s hs
theorem xf_time7 {g gz : xk_St} (h : relzU_watchBarriers g gz) : gz 0 5 = g 0 5 := by
  obtain ⟨g1, u1, g3, u3, g4, u4, g6, u6, y1, u7, g7, rfl, rfl⟩ := h
  have e3 : g3 0 = g 0 := by
    split at u3
    · rw [u3, u1]; rfl
    · obtain ⟨g2, rfl, rfl⟩ := u3; rw [u1]; rfl
  have e6 : g6 0 = g3 0 := by
    split at u6
    · rw [u6, u4]; rfl
    · obtain ⟨g2, rfl, rfl⟩ := u6; rw [u4]; rfl
  rw [xv_eq]
  show g6 0 5 = _
  rw [e6, e3]
theorem sim_oneTick {g gz t tz : xk_St} {r : Int32} {W : Int} {T B : Nat} (hW : W ≤ 1100) (hT : T < 999998) (hB : B + 26 < 2147483647) (h : xI W T B g t) (hU : relzU_tick g r gz) (hM : relzM_oneTick t tz) : xI W (T + 1) (B + 26) gz tz ∧ r = qzU_gatherOutput gz ∧ (∀ h : Nat, h < 8 → tz 1 h = 0) := by
  obtain ⟨hR, hC, hq, hp, he, hco, hlp, hba, htm, hpr, ho⟩ := h
  obtain ⟨g1, u1, g2, u2, g3, u3, g4, u4, g5, u5, g6, u6, g7, u7, g8, u8, g9, u9, g10, u10, g11, u11, g12, u12, g13, u13, hr, rfl⟩ := hU
  obtain ⟨t1, m1, t2, m2, t3, m3, t4, m4, t5, m5, t6, m6, t7, m7, t8, m8, t9, m9, rfl⟩ := hM
  have R1 : xr g1 t1 := by rw [u1, m1, hR.time]; exact xr_time _ hR
  have C1 : xk_cnt B t1 := by rw [m1]; exact xk_cnt_f (by decide) hC
  have k1 : ∀ c : Nat, c ≠ 0 → t1 c = t c := fun c hc => by rw [m1]; exact xv_ne hc
  have T1 : xi_tm (T + 1) t1 := by
    obtain ⟨n, h1, h2⟩ := htm
    refine ⟨n + 1, by omega, ?_⟩
    rw [m1, xv_eq]
    show t 0 27 + 1 = _
    rw [h2, nI_1]
  have E1 : ∀ e : Nat, e < 4 → g1 (25 + e) 2 = 0 := fun e h => by rw [u1, xv_ne (by omega)]; exact he e h
  obtain ⟨R3, C3, Q3, E3, P3⟩ := sim_pulses R1 C1 (by omega) hW (xi_pl_of hq (k1 1 (by decide)) (k1 3 (by decide)) (k1 5 (by decide))) (fun h hh => by rw [k1 1 (by decide)]; exact hp h hh) E1 u2 u3 m2
  have f2 := frzM_allPulses _ _ m2
  have K2 : ∀ c : Nat, c ∈ [11, 14, 15, 16, 17, 18, 19, 21, 22, 23] → t2 c = t c := fun c hc => by
    rw [f2 c (by revert hc; revert c; decide), k1 c (by rintro rfl; exact absurd hc (by decide))]
  obtain ⟨R4, I4, E4, F4⟩ := sim_comings R3 (fun e h => xi_co_of (hco e h) (K2 11 (by decide))) E3 u4 m3
  have F4' : ∀ c : Nat, c ≠ 11 → t3 c = t2 c := fun c hc => funext (fun j => F4 c j hc)
  have C4 : xk_cnt (B + 16) t3 := by
    obtain ⟨n, h1, h2⟩ := C3
    exact ⟨n, by rw [F4' 0 (by decide)]; exact h1, h2⟩
  obtain ⟨R5, C5⟩ := sim_useOrders R4 C4 (by omega) u5 m4
  have f4 := frzM_useOrders _ _ m4
  obtain ⟨R6, L6, C6⟩ := sim_watchLamps R5 C5 (by omega) (by omega) (fun k hk => xi_lp_of (hlp k hk) (by rw [f4 22 (by decide), F4' 22 (by decide), K2 22 (by decide)]) (by rw [f4 23 (by decide), F4' 23 (by decide), K2 23 (by decide)])) u6 m5
  have f5 := frzM_watchLamps _ _ m5
  have K5 : ∀ c : Nat, c ∈ [14, 15, 16, 17, 18, 19] → t5 c = t c := fun c hc => by
    rw [f5 c (by revert hc; revert c; decide), f4 c (by revert hc; revert c; decide), F4' c (by rintro rfl; exact absurd hc (by decide)), K2 c (by revert hc; revert c; decide)]
  obtain ⟨R7, A7, C7, P7⟩ := sim_watchBarriers R6 C6 (by omega) (fun b hb => xi_ba_of (hba b hb) (K5 19 (by decide)) (K5 18 (by decide)) (K5 16 (by decide))) u7 m6
  obtain ⟨R8, C8, P8⟩ := sim_moveRoad R7 C7 (by omega) P7 u8 m7
  have f7 := frzM_goOn _ _ m7
  have T7 : xi_tm (T + 1) t7 := by
    obtain ⟨n, h1, h2⟩ := T1
    refine ⟨n, h1, ?_⟩
    rw [← R8.time]
    rw [show g8 0 5 = g1 0 5 from ?_, R1.time]
    · exact h2
    · rw [frzU_moveRoad _ _ u8 0 (by decide), xf_time7 u7, frzU_watchLamps _ _ u6 0 (by decide), frzU_useUpOrders _ _ u5 0 (by decide), frzU_followComings _ _ u4 0 (by decide), frzU_countPulses _ _ u3 0 (by decide), frzU_rememberBalances _ _ u2 0 (by decide)]
  obtain ⟨R10, C10, A10, P10⟩ := sim_drive R8 C8 T7 (by omega) (fun b hb => xi_bb_of (A7 b hb) (f7 19 (by decide)) (f7 18 (by decide))) u9 u10 m8
  rw [← u11] at R10
  have f8 := frzM_drive _ _ m8
  have P11 : g11 0 9 = qzM_isProved t8 := by
    rw [u11, xv_eq]
    show g10 0 9 = _
    rw [P10, P8, P7]
    unfold qzM_isProved
    rw [f8 17 (by decide), f7 17 (by decide)]
  obtain ⟨R12, C12, P12⟩ := sim_signals R10 C10 (by omega) P11 u12 m9
  have f9 := frzM_signal _ _ m9
  have hz : gz 0 6 = qzU_gatherOutput gz := by
    rw [u13]
    simp [qzU_gatherOutput, va_up, upd]
  have hr2 : r = qzU_gatherOutput gz := by rw [← hz, hr, u13]; simp [va_up, upd]
  have Z1 : tz 1 = t2 1 := by rw [f9 1 (by decide), f8 1 (by decide), f7 1 (by decide), frzM_watchBarriers _ _ m6 1 (by decide), f5 1 (by decide), f4 1 (by decide), F4' 1 (by decide)]
  have Z3 : tz 3 = t2 3 := by rw [f9 3 (by decide), f8 3 (by decide), f7 3 (by decide), frzM_watchBarriers _ _ m6 3 (by decide), f5 3 (by decide), f4 3 (by decide), F4' 3 (by decide)]
  have Z5 : tz 5 = t2 5 := by rw [f9 5 (by decide), f8 5 (by decide), f7 5 (by decide), frzM_watchBarriers _ _ m6 5 (by decide), f5 5 (by decide), f4 5 (by decide), F4' 5 (by decide)]
  have Z11 : tz 11 = t3 11 := by rw [f9 11 (by decide), f8 11 (by decide), f7 11 (by decide), frzM_watchBarriers _ _ m6 11 (by decide), f5 11 (by decide), f4 11 (by decide)]
  have Z22 : ∀ c : Nat, c ∈ [22, 23] → tz c = t5 c := fun c hc => by rw [f9 c (by revert hc; revert c; decide), f8 c (by revert hc; revert c; decide), f7 c (by revert hc; revert c; decide), frzM_watchBarriers _ _ m6 c (by revert hc; revert c; decide)]
  have hpz : ∀ h : Nat, h < 8 → tz 1 h = 0 := fun h hh => by rw [Z1]; exact P3 h hh
  refine ⟨⟨by rw [u13]; exact xr_out _ R12, xk_cnt_le C12 (by omega), xi_pl_of Q3 Z1 Z3 Z5, fun h hh => Or.inl (hpz h hh), fun e h => ?_, fun e h => xi_co_of (I4 e h) Z11, fun k hk => xi_lp_of (L6 k hk) (Z22 22 (by decide)) (Z22 23 (by decide)), fun b hb => xi_ba_of (A10 b hb) (f9 19 (by decide)) (f9 18 (by decide)) (f9 16 (by decide)), ?_, ?_, hz⟩, hr2, hpz⟩
  · have hc : (25 + e) ∈ [25, 26, 27, 28] := by rcases (show e = 0 ∨ e = 1 ∨ e = 2 ∨ e = 3 from by omega) with rfl | rfl | rfl | rfl <;> decide
    rw [u13, xv_ne (by omega), frzU_setSignals _ _ u12 (25 + e) (by revert hc; generalize 25 + e = c; revert c; decide), u11, xv_ne (by omega), frzU_lightLamps _ _ u10 (25 + e) (by revert hc; generalize 25 + e = c; revert c; decide), frzU_driveMotors _ _ u9 (25 + e) (by revert hc; generalize 25 + e = c; revert c; decide), frzU_moveRoad _ _ u8 (25 + e) (by revert hc; generalize 25 + e = c; revert c; decide), frzU_watchBarriers _ _ u7 (25 + e) (by revert hc; generalize 25 + e = c; revert c; decide), frzU_watchLamps _ _ u6 (25 + e) (by revert hc; generalize 25 + e = c; revert c; decide), frzU_useUpOrders _ _ u5 (25 + e) (by revert hc; generalize 25 + e = c; revert c; decide)]
    exact E4 e h
  · obtain ⟨n, h1, h2⟩ := T7
    refine ⟨n, h1, ?_⟩
    rw [← R12.time, frzU_setSignals _ _ u12 0 (by decide), u11, xv_eq]
    show g10 0 5 = _
    rw [frzU_lightLamps _ _ u10 0 (by decide), frzU_driveMotors _ _ u9 0 (by decide), R8.time]
    exact h2
  · rw [u13, xv_eq]
    exact P12
