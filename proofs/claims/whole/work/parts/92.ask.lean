theorem xs_up (a b c d : Int32) : qzS_isSweep a b c d = (if a = b then (if a = 0 then 0 else (if c = 0 then (if d = 0 then 1 else 0 : Int32) else 0 : Int32) : Int32) else 0 : Int32) := by
  unfold qzS_isSweep
  by_cases h1 : a = 0
  · rw [if_pos h1, if_pos h1]
    by_cases h2 : a = b
    · rw [if_pos h2]
    · rw [if_neg h2]
  · rw [if_neg h1, if_neg h1]
theorem xs_idx {k : Int32} (h : ¬ k < 0) : (k &&& 63).toNatClampNeg = (k - k / 64 * 64).toNatClampNeg := by
  obtain ⟨m, h1, rfl⟩ := xk_nn h
  have e : nI m - nI m / nI 64 * nI 64 = nI (m % 64) := pk_rem (by omega) (by decide) (by decide)
  rw [xr_and63 (by omega), show (64 : Int32) = nI 64 from by decide, e]
theorem pf_ask_0 {n : Nat} {g gz t tz : xk_St} {k2 : Int32} (hJ : xJ n g t) (hd : ¬ t 5 0 = 0) (hU : relzU_ask_0_0 g k2 gz) (hM : relzM_ask_0_0 t k2 tz) : tz 0 0 = 0 ∧ xJ (n + 1) gz tz := by
  obtain ⟨g1, u1, u2⟩ := hU
  obtain ⟨x1, m1, r2, t1, m2, t7, m3, m4⟩ := hM
  rw [if_neg hd] at m1
  subst m1
  rcases xg_goes m2 with ⟨q, -⟩ | ⟨-, q, -⟩ | ⟨-, -, q, -⟩ | ⟨-, -, -, q, hg1⟩
  · exact absurd q (by decide)
  · exact absurd q (by decide)
  · exact absurd q (by decide)
  subst q
  subst hg1
  rw [if_neg (by decide)] at m3
  obtain ⟨t2, w2, t3, w3, t4, w4, t5, w5, t6, w6, w7⟩ := m3
  have hR := xg_r 0 hJ.r
  have R : xr (va_up g 19 (upd (upd (upd (upd (upd (g 19) 4 (qzS_startSweep_a4 k2)) 5 qzS_startSweep_a5) 6 qzS_startSweep_a6) 7 qzS_startSweep_a7) 8 qzS_startSweep_a8)) (va_up (va_up (va_up (va_up (va_up (xg t 0) 6 (upd ((xg t 0) 6) 0 k2)) 7 (upd ((va_up (xg t 0) 6 (upd ((xg t 0) 6) 0 k2)) 7) 0 0)) 8 (upd ((va_up (va_up (xg t 0) 6 (upd ((xg t 0) 6) 0 k2)) 7 (upd ((va_up (xg t 0) 6 (upd ((xg t 0) 6) 0 k2)) 7) 0 0)) 8) 0 0)) 9 (upd ((va_up (va_up (va_up (xg t 0) 6 (upd ((xg t 0) 6) 0 k2)) 7 (upd ((va_up (xg t 0) 6 (upd ((xg t 0) 6) 0 k2)) 7) 0 0)) 8 (upd ((va_up (va_up (xg t 0) 6 (upd ((xg t 0) 6) 0 k2)) 7 (upd ((va_up (xg t 0) 6 (upd ((xg t 0) 6) 0 k2)) 7) 0 0)) 8) 0 0)) 9) 0 0)) 10 (upd ((va_up (va_up (va_up (va_up (xg t 0) 6 (upd ((xg t 0) 6) 0 k2)) 7 (upd ((va_up (xg t 0) 6 (upd ((xg t 0) 6) 0 k2)) 7) 0 0)) 8 (upd ((va_up (va_up (xg t 0) 6 (upd ((xg t 0) 6) 0 k2)) 7 (upd ((va_up (xg t 0) 6 (upd ((xg t 0) 6) 0 k2)) 7) 0 0)) 8) 0 0)) 9 (upd ((va_up (va_up (va_up (xg t 0) 6 (upd ((xg t 0) 6) 0 k2)) 7 (upd ((va_up (xg t 0) 6 (upd ((xg t 0) 6) 0 k2)) 7) 0 0)) 8 (upd ((va_up (va_up (xg t 0) 6 (upd ((xg t 0) 6) 0 k2)) 7 (upd ((va_up (xg t 0) 6 (upd ((xg t 0) 6) 0 k2)) 7) 0 0)) 8) 0 0)) 9) 0 0)) 10) 0 0)) := by
    exact xr.mk hR.b0 hR.a0 hR.d0 (by simp [va_up, upd, hR.k0, qzS_startSweep_a4, qzS_startSweep_a5, qzS_startSweep_a6, qzS_startSweep_a7, qzS_startSweep_a8]) hR.b1 hR.a1 hR.d1 hR.k1 hR.b2 hR.a2 hR.d2 hR.k2 hR.b3 hR.a3 hR.d3 hR.k3 hR.b4 hR.a4 hR.d4 hR.k4 hR.b5 hR.a5 hR.d5 hR.k5 hR.p0 hR.p1 hR.p2 hR.p3 hR.p4 hR.p5 hR.p6 hR.p7 hR.c0 hR.c1 hR.c2 hR.c3 hR.o0 hR.s0 hR.o1 hR.s1 hR.po0 hR.pb0 hR.mo0 hR.ze0 hR.st0 hR.al0 hR.po1 hR.pb1 hR.mo1 hR.ze1 hR.st1 hR.al1 hR.li0 hR.de0 hR.da0 hR.li1 hR.de1 hR.da1 hR.li2 hR.de2 hR.da2 hR.step hR.age hR.quiet hR.many hR.time hR.night hR.bell hR.h0 hR.h1 hR.h2 hR.h3 hR.h4 hR.h5 hR.h6 hR.h7 hR.nc0 hR.nc1 hR.nc2 (by simp [va_up, upd, hR.i0, qzS_startSweep_a4, qzS_startSweep_a5, qzS_startSweep_a6, qzS_startSweep_a7, qzS_startSweep_a8]) (by simp [va_up, upd, hR.j0, qzS_startSweep_a4, qzS_startSweep_a5, qzS_startSweep_a6, qzS_startSweep_a7, qzS_startSweep_a8]) (by simp [va_up, upd, hR.m0, qzS_startSweep_a4, qzS_startSweep_a5, qzS_startSweep_a6, qzS_startSweep_a7, qzS_startSweep_a8]) (by simp [va_up, upd, hR.n0, qzS_startSweep_a4, qzS_startSweep_a5, qzS_startSweep_a6, qzS_startSweep_a7, qzS_startSweep_a8]) hR.i1 hR.j1 hR.m1 hR.n1 hR.i2 hR.j2 hR.m2 hR.n2 hR.i3 hR.j3 hR.m3 hR.n3 hR.i4 hR.j4 hR.m4 hR.n4 hR.i5 hR.j5 hR.m5 hR.n5 hR.nu0 hR.nu1 hR.nu2 hR.nu3 hR.nu4 hR.nu5 hR.jt hR.jk hR.jw hR.yh0 hR.yh1 hR.yh2 hR.yh3 hR.yh4 hR.yh5 hR.yh6 hR.yh7 hR.yc0 hR.yc1 hR.yc2 hR.yo0 hR.yo1
  have e : tz = (va_up (va_up (va_up (va_up (va_up (xg t 0) 6 (upd ((xg t 0) 6) 0 k2)) 7 (upd ((va_up (xg t 0) 6 (upd ((xg t 0) 6) 0 k2)) 7) 0 0)) 8 (upd ((va_up (va_up (xg t 0) 6 (upd ((xg t 0) 6) 0 k2)) 7 (upd ((va_up (xg t 0) 6 (upd ((xg t 0) 6) 0 k2)) 7) 0 0)) 8) 0 0)) 9 (upd ((va_up (va_up (va_up (xg t 0) 6 (upd ((xg t 0) 6) 0 k2)) 7 (upd ((va_up (xg t 0) 6 (upd ((xg t 0) 6) 0 k2)) 7) 0 0)) 8 (upd ((va_up (va_up (xg t 0) 6 (upd ((xg t 0) 6) 0 k2)) 7 (upd ((va_up (xg t 0) 6 (upd ((xg t 0) 6) 0 k2)) 7) 0 0)) 8) 0 0)) 9) 0 0)) 10 (upd ((va_up (va_up (va_up (va_up (xg t 0) 6 (upd ((xg t 0) 6) 0 k2)) 7 (upd ((va_up (xg t 0) 6 (upd ((xg t 0) 6) 0 k2)) 7) 0 0)) 8 (upd ((va_up (va_up (xg t 0) 6 (upd ((xg t 0) 6) 0 k2)) 7 (upd ((va_up (xg t 0) 6 (upd ((xg t 0) 6) 0 k2)) 7) 0 0)) 8) 0 0)) 9 (upd ((va_up (va_up (va_up (xg t 0) 6 (upd ((xg t 0) 6) 0 k2)) 7 (upd ((va_up (xg t 0) 6 (upd ((xg t 0) 6) 0 k2)) 7) 0 0)) 8 (upd ((va_up (va_up (xg t 0) 6 (upd ((xg t 0) 6) 0 k2)) 7 (upd ((va_up (xg t 0) 6 (upd ((xg t 0) 6) 0 k2)) 7) 0 0)) 8) 0 0)) 9) 0 0)) 10) 0 0)) := by rw [m4, w7, w6, w5, w4, w3, w2]
  rw [e, u2, u1]
  exact ⟨xg_0 t 0, xJ_step (xJ_g 0 hJ) R (xk_cnt_k (by decide) (xk_cnt_k (by decide) (xk_cnt_k (by decide) (xk_cnt_k (by decide) (xk_cnt_k (by decide) (xk_cnt_le (xg_c 0 hJ.c) (by omega))))))) (xi_pn_of (xJ_g 0 hJ).n rfl rfl (fun _ q => q)) (xk_kept_up hJ.p (by decide) (by decide)) (fun c hc => by simp only [List.mem_cons, List.not_mem_nil, or_false] at hc; rcases hc with rfl | rfl | rfl | rfl | rfl | rfl | rfl <;> rfl) rfl (fun c hc => by simp only [List.mem_cons, List.not_mem_nil, or_false] at hc; rcases hc with rfl | rfl | rfl | rfl <;> rfl) rfl rfl (by simp [qzU_gatherOutput, va_up, upd])⟩
theorem pt_ask_0 {n : Nat} {g t tz : xk_St} {k2 : Int32} (hJ : xJ n g t) (hd : t 5 0 = 0) (hM : relzM_ask_0_0 t k2 tz) : tz 0 0 = 2 ∧ xJ (n + 1) g tz := by
  obtain ⟨x1, m1, r2, t1, m2, t7, m3, rfl⟩ := hM
  rw [if_pos hd] at m1
  subst m1
  rcases xg_goes m2 with ⟨q, -⟩ | ⟨-, -, q, hg1⟩ | ⟨-, q, -⟩ | ⟨-, q, -⟩
  · exact absurd q (by decide)
  · rw [if_pos q] at m3
    rw [m3, hg1]
    exact ⟨xg_0 _ _, xJ_gm 2 hJ⟩
  · exact absurd rfl q
  · exact absurd rfl q
theorem xs_swept_0 {g t : xk_St} (hR : xr g t) : qzS_isSwept (g 19 4) (g 19 5) (g 19 6) (g 19 7) (g 19 8) = qzM_swept_0 t := by
  unfold qzS_isSwept qzM_swept_0
  rw [xs_up, xs_up, hR.k0]
  by_cases q : t 6 0 = 0
  · rw [if_pos q, if_pos q]
  · have q2 : ¬ g 19 4 = 0 := by rw [hR.k0]; exact q
    rw [if_neg q, if_neg q, hR.i0.resolve_left q2, hR.j0.resolve_left q2, hR.m0.resolve_left q2, hR.n0.resolve_left q2]
theorem pf_confirm_0 {n : Nat} {g gz t tz : xk_St} {k2 r a : Int32} (hn : n < 512) (hJ : xJ n g t) (ha1 : ¬ t 6 0 = 0) (ha2 : ¬ t 6 0 = k2) (hU : relzU_confirm_0_0 g r gz) (hM : relzM_confirm_0_0 t k2 a tz) : tz 0 0 = 0 ∧ r = a ∧ xJ (n + 1) gz tz := by
  obtain ⟨x1, m1, r2, t1, m2, m3⟩ := hM
  rw [if_neg ha1, if_neg ha2] at m1
  subst m1
  rcases xg_goes m2 with ⟨q, -⟩ | ⟨-, q, -⟩ | ⟨-, -, q, -⟩ | ⟨-, -, -, q, hg1⟩
  · exact absurd q (by decide)
  · exact absurd q (by decide)
  · exact absurd q (by decide)
  subst q
  subst hg1
  rw [if_neg (by decide)] at m3
  obtain ⟨x2, m4, t6, m5, m6, -, m7⟩ := m3
  have hR := xg_r 0 hJ.r
  unfold relzU_confirm_0_0 at hU
  rw [xs_swept_0 hR] at hU
  have hsame : x2 = 0 → r = 0 → gz = g → tz 0 0 = 0 ∧ r = a ∧ xJ (n + 1) gz tz := by
    intro h1 h2 h3
    rw [if_pos h1] at m5
    rw [h3, m7, m5, m6, h1, h2]
    exact ⟨xg_0 _ _, rfl, xJ_gm 0 hJ⟩
  by_cases c1 : qzM_swept_0 (xg t 0) = 0
  · rw [if_pos c1] at hU m4
    exact hsame m4 hU.1 hU.2.2
  · rw [if_neg c1] at hU m4
    have k1 := hR.h0
    have k2 := hR.h1
    unfold qzK_hasHealthyHeads_0 at hU
    by_cases c2 : g 17 0 = 0
    · rw [if_pos c2] at k1
      rw [if_pos c2, if_pos rfl] at hU
      rw [k1, if_neg (by decide)] at m4
      exact hsame m4 hU.1 hU.2.2
    · rw [if_neg c2] at k1
      rw [k1, if_pos rfl] at m4
      by_cases c3 : g 17 1 = 0
      · rw [if_pos c3] at k2
        rw [if_neg c2, if_pos c3, if_pos rfl] at hU
        rw [k2, if_neg (by decide)] at m4
        exact hsame m4 hU.1 hU.2.2
      · rw [if_neg c3] at k2
        rw [if_neg c2, if_neg c3, if_neg (by decide)] at hU
        rw [k2, if_pos rfl] at m4
        subst m4
        rw [if_neg (by decide)] at m5
        obtain ⟨g1, u1, g2, u2, u3, -, u4⟩ := hU
        obtain ⟨t2, w2, t3, w3, t4, w4, t5, m9, w5⟩ := m5
        subst w2; subst w3; subst w4; subst u1
        have R : xr (va_up g 19 (upd (upd (upd (g 19) 1 qzS_reset_a1) 3 qzS_reset_a3) 4 qzS_reset_a4)) (va_up (va_up (va_up (xg t 0) 5 (upd ((xg t 0) 5) 0 0)) 3 (upd ((va_up (xg t 0) 5 (upd ((xg t 0) 5) 0 0)) 3) 0 0)) 6 (upd ((va_up (va_up (xg t 0) 5 (upd ((xg t 0) 5) 0 0)) 3 (upd ((va_up (xg t 0) 5 (upd ((xg t 0) 5) 0 0)) 3) 0 0)) 6) 0 0)) := by
          exact xr.mk (by simp [va_up, upd, hR.b0, qzS_reset_a1, qzS_reset_a3, qzS_reset_a4]) hR.a0 (by simp [va_up, upd, hR.d0, qzS_reset_a1, qzS_reset_a3, qzS_reset_a4]) (by simp [va_up, upd, hR.k0, qzS_reset_a1, qzS_reset_a3, qzS_reset_a4]) hR.b1 hR.a1 hR.d1 hR.k1 hR.b2 hR.a2 hR.d2 hR.k2 hR.b3 hR.a3 hR.d3 hR.k3 hR.b4 hR.a4 hR.d4 hR.k4 hR.b5 hR.a5 hR.d5 hR.k5 hR.p0 hR.p1 hR.p2 hR.p3 hR.p4 hR.p5 hR.p6 hR.p7 hR.c0 hR.c1 hR.c2 hR.c3 hR.o0 hR.s0 hR.o1 hR.s1 hR.po0 hR.pb0 hR.mo0 hR.ze0 hR.st0 hR.al0 hR.po1 hR.pb1 hR.mo1 hR.ze1 hR.st1 hR.al1 hR.li0 hR.de0 hR.da0 hR.li1 hR.de1 hR.da1 hR.li2 hR.de2 hR.da2 hR.step hR.age hR.quiet hR.many hR.time hR.night hR.bell hR.h0 hR.h1 hR.h2 hR.h3 hR.h4 hR.h5 hR.h6 hR.h7 hR.nc0 hR.nc1 hR.nc2 (by simp [va_up, upd, hR.i0, qzS_reset_a1, qzS_reset_a3, qzS_reset_a4]) (by simp [va_up, upd, hR.j0, qzS_reset_a1, qzS_reset_a3, qzS_reset_a4]) (by simp [va_up, upd, hR.m0, qzS_reset_a1, qzS_reset_a3, qzS_reset_a4]) (by simp [va_up, upd, hR.n0, qzS_reset_a1, qzS_reset_a3, qzS_reset_a4]) hR.i1 hR.j1 hR.m1 hR.n1 hR.i2 hR.j2 hR.m2 hR.n2 hR.i3 hR.j3 hR.m3 hR.n3 hR.i4 hR.j4 hR.m4 hR.n4 hR.i5 hR.j5 hR.m5 hR.n5 hR.nu0 hR.nu1 hR.nu2 hR.nu3 hR.nu4 hR.nu5 hR.jt hR.jk hR.jw hR.yh0 hR.yh1 hR.yh2 hR.yh3 hR.yh4 hR.yh5 hR.yh6 hR.yh7 hR.yc0 hR.yc1 hR.yc2 hR.yo0 hR.yo1
        have hB2 : xk_cnt (26000 * n) (va_up (va_up (va_up (xg t 0) 5 (upd ((xg t 0) 5) 0 0)) 3 (upd ((va_up (xg t 0) 5 (upd ((xg t 0) 5) 0 0)) 3) 0 0)) 6 (upd ((va_up (va_up (xg t 0) 5 (upd ((xg t 0) 5) 0 0)) 3 (upd ((va_up (xg t 0) 5 (upd ((xg t 0) 5) 0 0)) 3) 0 0)) 6) 0 0)) := xk_cnt_k (by decide) (xk_cnt_k (by decide) (xk_cnt_k (by decide) (xg_c 0 hJ.c)))
        have R3 := xr_note R hB2 (by omega) m9
        rw [R.nu0] at u2
        have hkp : xk_kept (va_up (va_up (va_up (va_up (va_up g 19 (upd (upd (upd (g 19) 1 qzS_reset_a1) 3 qzS_reset_a3) 4 qzS_reset_a4)) 5 (upd ((va_up g 19 (upd (upd (upd (g 19) 1 qzS_reset_a1) 3 qzS_reset_a3) 4 qzS_reset_a4)) 5) 3 (qzJ_add_a3 ((va_up g 19 (upd (upd (upd (g 19) 1 qzS_reset_a1) 3 qzS_reset_a3) 4 qzS_reset_a4)) 5 3)))) 6 (qzJ_add_b ((va_up g 19 (upd (upd (upd (g 19) 1 qzS_reset_a1) 3 qzS_reset_a3) 4 qzS_reset_a4)) 5 3) ((va_up g 19 (upd (upd (upd (g 19) 1 qzS_reset_a1) 3 qzS_reset_a3) 4 qzS_reset_a4)) 6) ((va_up g 19 (upd (upd (upd (g 19) 1 qzS_reset_a1) 3 qzS_reset_a3) 4 qzS_reset_a4)) 0 5))) 7 (qzJ_add_c ((va_up g 19 (upd (upd (upd (g 19) 1 qzS_reset_a1) 3 qzS_reset_a3) 4 qzS_reset_a4)) 5 3) ((va_up g 19 (upd (upd (upd (g 19) 1 qzS_reset_a1) 3 qzS_reset_a3) 4 qzS_reset_a4)) 7) 2)) 8 (qzJ_add_d ((va_up g 19 (upd (upd (upd (g 19) 1 qzS_reset_a1) 3 qzS_reset_a3) 4 qzS_reset_a4)) 5 3) ((va_up g 19 (upd (upd (upd (g 19) 1 qzS_reset_a1) 3 qzS_reset_a3) 4 qzS_reset_a4)) 8) 0)) := xk_kept_up (xk_kept_up (xk_kept_up (xk_kept_up (xk_kept_up hJ.p (by decide) (by decide)) (by decide) (by decide)) (by decide) (by decide)) (by decide) (by decide)) (by decide) (by decide)
        refine ⟨?_, ?_, ?_⟩
        · rw [m7, w5, xr_nf0 m9 0 (by decide)]; exact xg_0 t 0
        · rw [u3, m6]
        · rw [u4, u2, m7, w5]
          exact xJ_step (xJ_g 0 hJ) R3 (xk_cnt_le (xr_nc hB2 m9) (by omega)) (xi_pn_reset (r := 0) (xJ_g 0 hJ).n (funext (fun j => xr_nf m9 1 j (by decide) (by decide) (by decide) (by decide))) (funext (fun j => xr_nf m9 3 j (by decide) (by decide) (by decide) (by decide))) (fun j q => by rw [xr_nf m9 5 j (by decide) (by decide) (by decide) (by decide)]; exact if_neg q)) hkp (fun c hc => funext (fun j => (xr_nf m9 c j (by rintro rfl; exact absurd hc (by decide)) (by rintro rfl; exact absurd hc (by decide)) (by rintro rfl; exact absurd hc (by decide)) (by rintro rfl; exact absurd hc (by decide))).trans (by simp only [List.mem_cons, List.not_mem_nil, or_false] at hc; rcases hc with rfl | rfl | rfl | rfl | rfl | rfl | rfl <;> rfl))) ((xr_nf0 m9 27 (by decide)).trans rfl) (fun c hc => by simp only [List.mem_cons, List.not_mem_nil, or_false] at hc; rcases hc with rfl | rfl | rfl | rfl <;> rfl) rfl rfl (by simp [qzU_gatherOutput, va_up, upd])
theorem pt_confirm_0 {n : Nat} {g t tz : xk_St} {k2 a : Int32} (hJ : xJ n g t) (ha : t 6 0 = 0 ∨ t 6 0 = k2) (hM : relzM_confirm_0_0 t k2 a tz) : tz 0 0 = 2 ∧ xJ (n + 1) g tz := by
  obtain ⟨x1, m1, r2, t1, m2, m3⟩ := hM
  have hx : x1 = 0 := by
    by_cases q : t 6 0 = 0
    · rw [if_pos q] at m1; exact m1
    · rw [if_neg q, if_pos (ha.resolve_left q)] at m1; exact m1
  subst hx
  rcases xg_goes m2 with ⟨q, -⟩ | ⟨-, -, q, hg1⟩ | ⟨-, q, -⟩ | ⟨-, q, -⟩
  · exact absurd q (by decide)
  · rw [if_pos q] at m3
    rw [m3.2.2, hg1]
    exact ⟨xg_0 _ _, xJ_gm 2 hJ⟩
  · exact absurd rfl q
  · exact absurd rfl q
theorem pf_section_0_0 {n : Nat} {g t tz : xk_St} {a : Int32} (hJ : xJ n g t) (hM : relzM_section_0_0 t 0 a tz) : tz 0 0 = 0 ∧ qzU_section_0_0_0 g = a ∧ xJ (n + 1) g tz := by
  obtain ⟨x1, m1, r2, t1, m2, m3⟩ := hM
  rw [if_neg (by decide), if_neg (by decide)] at m1
  subst m1
  rcases xg_goes m2 with ⟨q, -⟩ | ⟨-, q, -⟩ | ⟨-, -, q, -⟩ | ⟨-, -, -, q, hg1⟩
  · exact absurd q (by decide)
  · exact absurd q (by decide)
  · exact absurd q (by decide)
  subst q
  subst hg1
  have hR := xg_r 0 hJ.r
  rw [if_neg (by decide), if_pos rfl] at m3
  obtain ⟨x2, m4, m5, m6⟩ := m3
  rw [m5, m6]
  refine ⟨xg_0 _ _, ?_, xJ_gm 0 hJ⟩
  show qzS_state (g 19 1) (g 19 3) = x2
  unfold qzS_state
  rw [hR.b0, hR.d0]
  by_cases q1 : (xg t 0) 5 0 = 0
  · rw [if_pos q1] at m4 ⊢; exact (xd_pick m4).symm
  · rw [if_neg q1] at m4 ⊢; exact m4.symm
theorem pf_section_0_1 {n : Nat} {g t tz : xk_St} {a : Int32} (hJ : xJ n g t) (hM : relzM_section_0_0 t 1 a tz) : tz 0 0 = 0 ∧ qzU_section_0_0_1 g = a ∧ xJ (n + 1) g tz := by
  obtain ⟨x1, m1, r2, t1, m2, m3⟩ := hM
  rw [if_neg (by decide), if_neg (by decide)] at m1
  subst m1
  rcases xg_goes m2 with ⟨q, -⟩ | ⟨-, q, -⟩ | ⟨-, -, q, -⟩ | ⟨-, -, -, q, hg1⟩
  · exact absurd q (by decide)
  · exact absurd q (by decide)
  · exact absurd q (by decide)
  subst q
  subst hg1
  have hR := xg_r 0 hJ.r
  rw [if_neg (by decide), if_neg (by decide), if_pos rfl] at m3
  rw [m3.1, m3.2]
  exact ⟨xg_0 _ _, hR.b0, xJ_gm 0 hJ⟩
theorem pf_section_0_2 {n : Nat} {g t tz : xk_St} {a : Int32} (hJ : xJ n g t) (hM : relzM_section_0_0 t 2 a tz) : tz 0 0 = 0 ∧ qzU_section_0_0_2 g = a ∧ xJ (n + 1) g tz := by
  obtain ⟨x1, m1, r2, t1, m2, m3⟩ := hM
  rw [if_neg (by decide), if_neg (by decide)] at m1
  subst m1
  rcases xg_goes m2 with ⟨q, -⟩ | ⟨-, q, -⟩ | ⟨-, -, q, -⟩ | ⟨-, -, -, q, hg1⟩
  · exact absurd q (by decide)
  · exact absurd q (by decide)
  · exact absurd q (by decide)
  subst q
  subst hg1
  have hR := xg_r 0 hJ.r
  rw [if_neg (by decide), if_neg (by decide), if_neg (by decide), if_pos rfl] at m3
  obtain ⟨x2, m4, m5, m6⟩ := m3
  rw [m5, m6]
  refine ⟨xg_0 _ _, ?_, xJ_gm 0 hJ⟩
  show (if (qzS_isSwept (g 19 4) (g 19 5) (g 19 6) (g 19 7) (g 19 8)) = 0 then 0 else 1 : Int32) = x2
  rw [xs_swept_0 hR]
  exact (xd_pick m4).symm
theorem pf_section_0_3 {n : Nat} {g t tz : xk_St} {a : Int32} (hJ : xJ n g t) (hM : relzM_section_0_0 t 3 a tz) : tz 0 0 = 0 ∧ qzU_section_0_0_3 g = a ∧ xJ (n + 1) g tz := by
  obtain ⟨x1, m1, r2, t1, m2, m3⟩ := hM
  rw [if_neg (by decide), if_neg (by decide)] at m1
  subst m1
  rcases xg_goes m2 with ⟨q, -⟩ | ⟨-, q, -⟩ | ⟨-, -, q, -⟩ | ⟨-, -, -, q, hg1⟩
  · exact absurd q (by decide)
  · exact absurd q (by decide)
  · exact absurd q (by decide)
  subst q
  subst hg1
  have hR := xg_r 0 hJ.r
  rw [if_neg (by decide), if_neg (by decide), if_neg (by decide), if_neg (by decide)] at m3
  rw [m3.1, m3.2]
  exact ⟨xg_0 _ _, hR.k0, xJ_gm 0 hJ⟩
theorem pt_section_0 {n : Nat} {g t tz : xk_St} {k2 a : Int32} (hJ : xJ n g t) (h1 : k2 < 0 ∨ 3 < k2) (hM : relzM_section_0_0 t k2 a tz) : tz 0 0 = 2 ∧ xJ (n + 1) g tz := by
  obtain ⟨x1, m1, r2, t1, m2, m3⟩ := hM
  have hx : x1 = 0 := by
    by_cases q : k2 < 0
    · rw [if_pos q] at m1; exact m1
    · rw [if_neg q, if_pos (h1.resolve_left q)] at m1; exact m1
  subst hx
  rcases xg_goes m2 with ⟨q, -⟩ | ⟨-, -, q, hg1⟩ | ⟨-, q, -⟩ | ⟨-, q, -⟩
  · exact absurd q (by decide)
  · rw [if_pos q] at m3
    rw [m3.2, hg1]
    exact ⟨xg_0 _ _, xJ_gm 2 hJ⟩
  · exact absurd rfl q
  · exact absurd rfl q
theorem pf_ask_1 {n : Nat} {g gz t tz : xk_St} {k2 : Int32} (hJ : xJ n g t) (hd : ¬ t 5 1 = 0) (hU : relzU_ask_0_1 g k2 gz) (hM : relzM_ask_0_1 t k2 tz) : tz 0 0 = 0 ∧ xJ (n + 1) gz tz := by
  obtain ⟨g1, u1, u2⟩ := hU
  obtain ⟨x1, m1, r2, t1, m2, t7, m3, m4⟩ := hM
  rw [if_neg hd] at m1
  subst m1
  rcases xg_goes m2 with ⟨q, -⟩ | ⟨-, q, -⟩ | ⟨-, -, q, -⟩ | ⟨-, -, -, q, hg1⟩
  · exact absurd q (by decide)
  · exact absurd q (by decide)
  · exact absurd q (by decide)
  subst q
  subst hg1
  rw [if_neg (by decide)] at m3
  obtain ⟨t2, w2, t3, w3, t4, w4, t5, w5, t6, w6, w7⟩ := m3
  have hR := xg_r 0 hJ.r
  have R : xr (va_up g 20 (upd (upd (upd (upd (upd (g 20) 4 (qzS_startSweep_a4 k2)) 5 qzS_startSweep_a5) 6 qzS_startSweep_a6) 7 qzS_startSweep_a7) 8 qzS_startSweep_a8)) (va_up (va_up (va_up (va_up (va_up (xg t 0) 6 (upd ((xg t 0) 6) 1 k2)) 7 (upd ((va_up (xg t 0) 6 (upd ((xg t 0) 6) 1 k2)) 7) 1 0)) 8 (upd ((va_up (va_up (xg t 0) 6 (upd ((xg t 0) 6) 1 k2)) 7 (upd ((va_up (xg t 0) 6 (upd ((xg t 0) 6) 1 k2)) 7) 1 0)) 8) 1 0)) 9 (upd ((va_up (va_up (va_up (xg t 0) 6 (upd ((xg t 0) 6) 1 k2)) 7 (upd ((va_up (xg t 0) 6 (upd ((xg t 0) 6) 1 k2)) 7) 1 0)) 8 (upd ((va_up (va_up (xg t 0) 6 (upd ((xg t 0) 6) 1 k2)) 7 (upd ((va_up (xg t 0) 6 (upd ((xg t 0) 6) 1 k2)) 7) 1 0)) 8) 1 0)) 9) 1 0)) 10 (upd ((va_up (va_up (va_up (va_up (xg t 0) 6 (upd ((xg t 0) 6) 1 k2)) 7 (upd ((va_up (xg t 0) 6 (upd ((xg t 0) 6) 1 k2)) 7) 1 0)) 8 (upd ((va_up (va_up (xg t 0) 6 (upd ((xg t 0) 6) 1 k2)) 7 (upd ((va_up (xg t 0) 6 (upd ((xg t 0) 6) 1 k2)) 7) 1 0)) 8) 1 0)) 9 (upd ((va_up (va_up (va_up (xg t 0) 6 (upd ((xg t 0) 6) 1 k2)) 7 (upd ((va_up (xg t 0) 6 (upd ((xg t 0) 6) 1 k2)) 7) 1 0)) 8 (upd ((va_up (va_up (xg t 0) 6 (upd ((xg t 0) 6) 1 k2)) 7 (upd ((va_up (xg t 0) 6 (upd ((xg t 0) 6) 1 k2)) 7) 1 0)) 8) 1 0)) 9) 1 0)) 10) 1 0)) := by
    exact xr.mk hR.b0 hR.a0 hR.d0 hR.k0 hR.b1 hR.a1 hR.d1 (by simp [va_up, upd, hR.k1, qzS_startSweep_a4, qzS_startSweep_a5, qzS_startSweep_a6, qzS_startSweep_a7, qzS_startSweep_a8]) hR.b2 hR.a2 hR.d2 hR.k2 hR.b3 hR.a3 hR.d3 hR.k3 hR.b4 hR.a4 hR.d4 hR.k4 hR.b5 hR.a5 hR.d5 hR.k5 hR.p0 hR.p1 hR.p2 hR.p3 hR.p4 hR.p5 hR.p6 hR.p7 hR.c0 hR.c1 hR.c2 hR.c3 hR.o0 hR.s0 hR.o1 hR.s1 hR.po0 hR.pb0 hR.mo0 hR.ze0 hR.st0 hR.al0 hR.po1 hR.pb1 hR.mo1 hR.ze1 hR.st1 hR.al1 hR.li0 hR.de0 hR.da0 hR.li1 hR.de1 hR.da1 hR.li2 hR.de2 hR.da2 hR.step hR.age hR.quiet hR.many hR.time hR.night hR.bell hR.h0 hR.h1 hR.h2 hR.h3 hR.h4 hR.h5 hR.h6 hR.h7 hR.nc0 hR.nc1 hR.nc2 hR.i0 hR.j0 hR.m0 hR.n0 (by simp [va_up, upd, hR.i1, qzS_startSweep_a4, qzS_startSweep_a5, qzS_startSweep_a6, qzS_startSweep_a7, qzS_startSweep_a8]) (by simp [va_up, upd, hR.j1, qzS_startSweep_a4, qzS_startSweep_a5, qzS_startSweep_a6, qzS_startSweep_a7, qzS_startSweep_a8]) (by simp [va_up, upd, hR.m1, qzS_startSweep_a4, qzS_startSweep_a5, qzS_startSweep_a6, qzS_startSweep_a7, qzS_startSweep_a8]) (by simp [va_up, upd, hR.n1, qzS_startSweep_a4, qzS_startSweep_a5, qzS_startSweep_a6, qzS_startSweep_a7, qzS_startSweep_a8]) hR.i2 hR.j2 hR.m2 hR.n2 hR.i3 hR.j3 hR.m3 hR.n3 hR.i4 hR.j4 hR.m4 hR.n4 hR.i5 hR.j5 hR.m5 hR.n5 hR.nu0 hR.nu1 hR.nu2 hR.nu3 hR.nu4 hR.nu5 hR.jt hR.jk hR.jw hR.yh0 hR.yh1 hR.yh2 hR.yh3 hR.yh4 hR.yh5 hR.yh6 hR.yh7 hR.yc0 hR.yc1 hR.yc2 hR.yo0 hR.yo1
  have e : tz = (va_up (va_up (va_up (va_up (va_up (xg t 0) 6 (upd ((xg t 0) 6) 1 k2)) 7 (upd ((va_up (xg t 0) 6 (upd ((xg t 0) 6) 1 k2)) 7) 1 0)) 8 (upd ((va_up (va_up (xg t 0) 6 (upd ((xg t 0) 6) 1 k2)) 7 (upd ((va_up (xg t 0) 6 (upd ((xg t 0) 6) 1 k2)) 7) 1 0)) 8) 1 0)) 9 (upd ((va_up (va_up (va_up (xg t 0) 6 (upd ((xg t 0) 6) 1 k2)) 7 (upd ((va_up (xg t 0) 6 (upd ((xg t 0) 6) 1 k2)) 7) 1 0)) 8 (upd ((va_up (va_up (xg t 0) 6 (upd ((xg t 0) 6) 1 k2)) 7 (upd ((va_up (xg t 0) 6 (upd ((xg t 0) 6) 1 k2)) 7) 1 0)) 8) 1 0)) 9) 1 0)) 10 (upd ((va_up (va_up (va_up (va_up (xg t 0) 6 (upd ((xg t 0) 6) 1 k2)) 7 (upd ((va_up (xg t 0) 6 (upd ((xg t 0) 6) 1 k2)) 7) 1 0)) 8 (upd ((va_up (va_up (xg t 0) 6 (upd ((xg t 0) 6) 1 k2)) 7 (upd ((va_up (xg t 0) 6 (upd ((xg t 0) 6) 1 k2)) 7) 1 0)) 8) 1 0)) 9 (upd ((va_up (va_up (va_up (xg t 0) 6 (upd ((xg t 0) 6) 1 k2)) 7 (upd ((va_up (xg t 0) 6 (upd ((xg t 0) 6) 1 k2)) 7) 1 0)) 8 (upd ((va_up (va_up (xg t 0) 6 (upd ((xg t 0) 6) 1 k2)) 7 (upd ((va_up (xg t 0) 6 (upd ((xg t 0) 6) 1 k2)) 7) 1 0)) 8) 1 0)) 9) 1 0)) 10) 1 0)) := by rw [m4, w7, w6, w5, w4, w3, w2]
  rw [e, u2, u1]
  exact ⟨xg_0 t 0, xJ_step (xJ_g 0 hJ) R (xk_cnt_k (by decide) (xk_cnt_k (by decide) (xk_cnt_k (by decide) (xk_cnt_k (by decide) (xk_cnt_k (by decide) (xk_cnt_le (xg_c 0 hJ.c) (by omega))))))) (xi_pn_of (xJ_g 0 hJ).n rfl rfl (fun _ q => q)) (xk_kept_up hJ.p (by decide) (by decide)) (fun c hc => by simp only [List.mem_cons, List.not_mem_nil, or_false] at hc; rcases hc with rfl | rfl | rfl | rfl | rfl | rfl | rfl <;> rfl) rfl (fun c hc => by simp only [List.mem_cons, List.not_mem_nil, or_false] at hc; rcases hc with rfl | rfl | rfl | rfl <;> rfl) rfl rfl (by simp [qzU_gatherOutput, va_up, upd])⟩
theorem pt_ask_1 {n : Nat} {g t tz : xk_St} {k2 : Int32} (hJ : xJ n g t) (hd : t 5 1 = 0) (hM : relzM_ask_0_1 t k2 tz) : tz 0 0 = 2 ∧ xJ (n + 1) g tz := by
  obtain ⟨x1, m1, r2, t1, m2, t7, m3, rfl⟩ := hM
  rw [if_pos hd] at m1
  subst m1
  rcases xg_goes m2 with ⟨q, -⟩ | ⟨-, -, q, hg1⟩ | ⟨-, q, -⟩ | ⟨-, q, -⟩
  · exact absurd q (by decide)
  · rw [if_pos q] at m3
    rw [m3, hg1]
    exact ⟨xg_0 _ _, xJ_gm 2 hJ⟩
  · exact absurd rfl q
  · exact absurd rfl q
theorem xs_swept_1 {g t : xk_St} (hR : xr g t) : qzS_isSwept (g 20 4) (g 20 5) (g 20 6) (g 20 7) (g 20 8) = qzM_swept_1 t := by
  unfold qzS_isSwept qzM_swept_1
  rw [xs_up, xs_up, hR.k1]
  by_cases q : t 6 1 = 0
  · rw [if_pos q, if_pos q]
  · have q2 : ¬ g 20 4 = 0 := by rw [hR.k1]; exact q
    rw [if_neg q, if_neg q, hR.i1.resolve_left q2, hR.j1.resolve_left q2, hR.m1.resolve_left q2, hR.n1.resolve_left q2]
theorem pf_confirm_1 {n : Nat} {g gz t tz : xk_St} {k2 r a : Int32} (hn : n < 512) (hJ : xJ n g t) (ha1 : ¬ t 6 1 = 0) (ha2 : ¬ t 6 1 = k2) (hU : relzU_confirm_0_1 g r gz) (hM : relzM_confirm_0_1 t k2 a tz) : tz 0 0 = 0 ∧ r = a ∧ xJ (n + 1) gz tz := by
  obtain ⟨x1, m1, r2, t1, m2, m3⟩ := hM
  rw [if_neg ha1, if_neg ha2] at m1
  subst m1
  rcases xg_goes m2 with ⟨q, -⟩ | ⟨-, q, -⟩ | ⟨-, -, q, -⟩ | ⟨-, -, -, q, hg1⟩
  · exact absurd q (by decide)
  · exact absurd q (by decide)
  · exact absurd q (by decide)
  subst q
  subst hg1
  rw [if_neg (by decide)] at m3
  obtain ⟨x2, m4, t6, m5, m6, -, m7⟩ := m3
  have hR := xg_r 0 hJ.r
  unfold relzU_confirm_0_1 at hU
  rw [xs_swept_1 hR] at hU
  have hsame : x2 = 0 → r = 0 → gz = g → tz 0 0 = 0 ∧ r = a ∧ xJ (n + 1) gz tz := by
    intro h1 h2 h3
    rw [if_pos h1] at m5
    rw [h3, m7, m5, m6, h1, h2]
    exact ⟨xg_0 _ _, rfl, xJ_gm 0 hJ⟩
  by_cases c1 : qzM_swept_1 (xg t 0) = 0
  · rw [if_pos c1] at hU m4
    exact hsame m4 hU.1 hU.2.2
  · rw [if_neg c1] at hU m4
    have k1 := hR.h1
    have k2 := hR.h2
    unfold qzK_hasHealthyHeads_1 at hU
    by_cases c2 : g 17 1 = 0
    · rw [if_pos c2] at k1
      rw [if_pos c2, if_pos rfl] at hU
      rw [k1, if_neg (by decide)] at m4
      exact hsame m4 hU.1 hU.2.2
    · rw [if_neg c2] at k1
      rw [k1, if_pos rfl] at m4
      by_cases c3 : g 17 2 = 0
      · rw [if_pos c3] at k2
        rw [if_neg c2, if_pos c3, if_pos rfl] at hU
        rw [k2, if_neg (by decide)] at m4
        exact hsame m4 hU.1 hU.2.2
      · rw [if_neg c3] at k2
        rw [if_neg c2, if_neg c3, if_neg (by decide)] at hU
        rw [k2, if_pos rfl] at m4
        subst m4
        rw [if_neg (by decide)] at m5
        obtain ⟨g1, u1, g2, u2, u3, -, u4⟩ := hU
        obtain ⟨t2, w2, t3, w3, t4, w4, t5, m9, w5⟩ := m5
        subst w2; subst w3; subst w4; subst u1
        have R : xr (va_up g 20 (upd (upd (upd (g 20) 1 qzS_reset_a1) 3 qzS_reset_a3) 4 qzS_reset_a4)) (va_up (va_up (va_up (xg t 0) 5 (upd ((xg t 0) 5) 1 0)) 3 (upd ((va_up (xg t 0) 5 (upd ((xg t 0) 5) 1 0)) 3) 1 0)) 6 (upd ((va_up (va_up (xg t 0) 5 (upd ((xg t 0) 5) 1 0)) 3 (upd ((va_up (xg t 0) 5 (upd ((xg t 0) 5) 1 0)) 3) 1 0)) 6) 1 0)) := by
          exact xr.mk hR.b0 hR.a0 hR.d0 hR.k0 (by simp [va_up, upd, hR.b1, qzS_reset_a1, qzS_reset_a3, qzS_reset_a4]) hR.a1 (by simp [va_up, upd, hR.d1, qzS_reset_a1, qzS_reset_a3, qzS_reset_a4]) (by simp [va_up, upd, hR.k1, qzS_reset_a1, qzS_reset_a3, qzS_reset_a4]) hR.b2 hR.a2 hR.d2 hR.k2 hR.b3 hR.a3 hR.d3 hR.k3 hR.b4 hR.a4 hR.d4 hR.k4 hR.b5 hR.a5 hR.d5 hR.k5 hR.p0 hR.p1 hR.p2 hR.p3 hR.p4 hR.p5 hR.p6 hR.p7 hR.c0 hR.c1 hR.c2 hR.c3 hR.o0 hR.s0 hR.o1 hR.s1 hR.po0 hR.pb0 hR.mo0 hR.ze0 hR.st0 hR.al0 hR.po1 hR.pb1 hR.mo1 hR.ze1 hR.st1 hR.al1 hR.li0 hR.de0 hR.da0 hR.li1 hR.de1 hR.da1 hR.li2 hR.de2 hR.da2 hR.step hR.age hR.quiet hR.many hR.time hR.night hR.bell hR.h0 hR.h1 hR.h2 hR.h3 hR.h4 hR.h5 hR.h6 hR.h7 hR.nc0 hR.nc1 hR.nc2 hR.i0 hR.j0 hR.m0 hR.n0 (by simp [va_up, upd, hR.i1, qzS_reset_a1, qzS_reset_a3, qzS_reset_a4]) (by simp [va_up, upd, hR.j1, qzS_reset_a1, qzS_reset_a3, qzS_reset_a4]) (by simp [va_up, upd, hR.m1, qzS_reset_a1, qzS_reset_a3, qzS_reset_a4]) (by simp [va_up, upd, hR.n1, qzS_reset_a1, qzS_reset_a3, qzS_reset_a4]) hR.i2 hR.j2 hR.m2 hR.n2 hR.i3 hR.j3 hR.m3 hR.n3 hR.i4 hR.j4 hR.m4 hR.n4 hR.i5 hR.j5 hR.m5 hR.n5 hR.nu0 hR.nu1 hR.nu2 hR.nu3 hR.nu4 hR.nu5 hR.jt hR.jk hR.jw hR.yh0 hR.yh1 hR.yh2 hR.yh3 hR.yh4 hR.yh5 hR.yh6 hR.yh7 hR.yc0 hR.yc1 hR.yc2 hR.yo0 hR.yo1
        have hB2 : xk_cnt (26000 * n) (va_up (va_up (va_up (xg t 0) 5 (upd ((xg t 0) 5) 1 0)) 3 (upd ((va_up (xg t 0) 5 (upd ((xg t 0) 5) 1 0)) 3) 1 0)) 6 (upd ((va_up (va_up (xg t 0) 5 (upd ((xg t 0) 5) 1 0)) 3 (upd ((va_up (xg t 0) 5 (upd ((xg t 0) 5) 1 0)) 3) 1 0)) 6) 1 0)) := xk_cnt_k (by decide) (xk_cnt_k (by decide) (xk_cnt_k (by decide) (xg_c 0 hJ.c)))
        have R3 := xr_note R hB2 (by omega) m9
        rw [R.nu1] at u2
        have hkp : xk_kept (va_up (va_up (va_up (va_up (va_up g 20 (upd (upd (upd (g 20) 1 qzS_reset_a1) 3 qzS_reset_a3) 4 qzS_reset_a4)) 5 (upd ((va_up g 20 (upd (upd (upd (g 20) 1 qzS_reset_a1) 3 qzS_reset_a3) 4 qzS_reset_a4)) 5) 3 (qzJ_add_a3 ((va_up g 20 (upd (upd (upd (g 20) 1 qzS_reset_a1) 3 qzS_reset_a3) 4 qzS_reset_a4)) 5 3)))) 6 (qzJ_add_b ((va_up g 20 (upd (upd (upd (g 20) 1 qzS_reset_a1) 3 qzS_reset_a3) 4 qzS_reset_a4)) 5 3) ((va_up g 20 (upd (upd (upd (g 20) 1 qzS_reset_a1) 3 qzS_reset_a3) 4 qzS_reset_a4)) 6) ((va_up g 20 (upd (upd (upd (g 20) 1 qzS_reset_a1) 3 qzS_reset_a3) 4 qzS_reset_a4)) 0 5))) 7 (qzJ_add_c ((va_up g 20 (upd (upd (upd (g 20) 1 qzS_reset_a1) 3 qzS_reset_a3) 4 qzS_reset_a4)) 5 3) ((va_up g 20 (upd (upd (upd (g 20) 1 qzS_reset_a1) 3 qzS_reset_a3) 4 qzS_reset_a4)) 7) 2)) 8 (qzJ_add_d ((va_up g 20 (upd (upd (upd (g 20) 1 qzS_reset_a1) 3 qzS_reset_a3) 4 qzS_reset_a4)) 5 3) ((va_up g 20 (upd (upd (upd (g 20) 1 qzS_reset_a1) 3 qzS_reset_a3) 4 qzS_reset_a4)) 8) 1)) := xk_kept_up (xk_kept_up (xk_kept_up (xk_kept_up (xk_kept_up hJ.p (by decide) (by decide)) (by decide) (by decide)) (by decide) (by decide)) (by decide) (by decide)) (by decide) (by decide)
        refine ⟨?_, ?_, ?_⟩
        · rw [m7, w5, xr_nf0 m9 0 (by decide)]; exact xg_0 t 0
        · rw [u3, m6]
        · rw [u4, u2, m7, w5]
          exact xJ_step (xJ_g 0 hJ) R3 (xk_cnt_le (xr_nc hB2 m9) (by omega)) (xi_pn_reset (r := 1) (xJ_g 0 hJ).n (funext (fun j => xr_nf m9 1 j (by decide) (by decide) (by decide) (by decide))) (funext (fun j => xr_nf m9 3 j (by decide) (by decide) (by decide) (by decide))) (fun j q => by rw [xr_nf m9 5 j (by decide) (by decide) (by decide) (by decide)]; exact if_neg q)) hkp (fun c hc => funext (fun j => (xr_nf m9 c j (by rintro rfl; exact absurd hc (by decide)) (by rintro rfl; exact absurd hc (by decide)) (by rintro rfl; exact absurd hc (by decide)) (by rintro rfl; exact absurd hc (by decide))).trans (by simp only [List.mem_cons, List.not_mem_nil, or_false] at hc; rcases hc with rfl | rfl | rfl | rfl | rfl | rfl | rfl <;> rfl))) ((xr_nf0 m9 27 (by decide)).trans rfl) (fun c hc => by simp only [List.mem_cons, List.not_mem_nil, or_false] at hc; rcases hc with rfl | rfl | rfl | rfl <;> rfl) rfl rfl (by simp [qzU_gatherOutput, va_up, upd])
theorem pt_confirm_1 {n : Nat} {g t tz : xk_St} {k2 a : Int32} (hJ : xJ n g t) (ha : t 6 1 = 0 ∨ t 6 1 = k2) (hM : relzM_confirm_0_1 t k2 a tz) : tz 0 0 = 2 ∧ xJ (n + 1) g tz := by
  obtain ⟨x1, m1, r2, t1, m2, m3⟩ := hM
  have hx : x1 = 0 := by
    by_cases q : t 6 1 = 0
    · rw [if_pos q] at m1; exact m1
    · rw [if_neg q, if_pos (ha.resolve_left q)] at m1; exact m1
  subst hx
  rcases xg_goes m2 with ⟨q, -⟩ | ⟨-, -, q, hg1⟩ | ⟨-, q, -⟩ | ⟨-, q, -⟩
  · exact absurd q (by decide)
  · rw [if_pos q] at m3
    rw [m3.2.2, hg1]
    exact ⟨xg_0 _ _, xJ_gm 2 hJ⟩
  · exact absurd rfl q
  · exact absurd rfl q
theorem pf_section_1_0 {n : Nat} {g t tz : xk_St} {a : Int32} (hJ : xJ n g t) (hM : relzM_section_0_1 t 0 a tz) : tz 0 0 = 0 ∧ qzU_section_0_1_0 g = a ∧ xJ (n + 1) g tz := by
  obtain ⟨x1, m1, r2, t1, m2, m3⟩ := hM
  rw [if_neg (by decide), if_neg (by decide)] at m1
  subst m1
  rcases xg_goes m2 with ⟨q, -⟩ | ⟨-, q, -⟩ | ⟨-, -, q, -⟩ | ⟨-, -, -, q, hg1⟩
  · exact absurd q (by decide)
  · exact absurd q (by decide)
  · exact absurd q (by decide)
  subst q
  subst hg1
  have hR := xg_r 0 hJ.r
  rw [if_neg (by decide), if_pos rfl] at m3
  obtain ⟨x2, m4, m5, m6⟩ := m3
  rw [m5, m6]
  refine ⟨xg_0 _ _, ?_, xJ_gm 0 hJ⟩
  show qzS_state (g 20 1) (g 20 3) = x2
  unfold qzS_state
  rw [hR.b1, hR.d1]
  by_cases q1 : (xg t 0) 5 1 = 0
  · rw [if_pos q1] at m4 ⊢; exact (xd_pick m4).symm
  · rw [if_neg q1] at m4 ⊢; exact m4.symm
theorem pf_section_1_1 {n : Nat} {g t tz : xk_St} {a : Int32} (hJ : xJ n g t) (hM : relzM_section_0_1 t 1 a tz) : tz 0 0 = 0 ∧ qzU_section_0_1_1 g = a ∧ xJ (n + 1) g tz := by
  obtain ⟨x1, m1, r2, t1, m2, m3⟩ := hM
  rw [if_neg (by decide), if_neg (by decide)] at m1
  subst m1
  rcases xg_goes m2 with ⟨q, -⟩ | ⟨-, q, -⟩ | ⟨-, -, q, -⟩ | ⟨-, -, -, q, hg1⟩
  · exact absurd q (by decide)
  · exact absurd q (by decide)
  · exact absurd q (by decide)
  subst q
  subst hg1
  have hR := xg_r 0 hJ.r
  rw [if_neg (by decide), if_neg (by decide), if_pos rfl] at m3
  rw [m3.1, m3.2]
  exact ⟨xg_0 _ _, hR.b1, xJ_gm 0 hJ⟩
theorem pf_section_1_2 {n : Nat} {g t tz : xk_St} {a : Int32} (hJ : xJ n g t) (hM : relzM_section_0_1 t 2 a tz) : tz 0 0 = 0 ∧ qzU_section_0_1_2 g = a ∧ xJ (n + 1) g tz := by
  obtain ⟨x1, m1, r2, t1, m2, m3⟩ := hM
  rw [if_neg (by decide), if_neg (by decide)] at m1
  subst m1
  rcases xg_goes m2 with ⟨q, -⟩ | ⟨-, q, -⟩ | ⟨-, -, q, -⟩ | ⟨-, -, -, q, hg1⟩
  · exact absurd q (by decide)
  · exact absurd q (by decide)
  · exact absurd q (by decide)
  subst q
  subst hg1
  have hR := xg_r 0 hJ.r
  rw [if_neg (by decide), if_neg (by decide), if_neg (by decide), if_pos rfl] at m3
  obtain ⟨x2, m4, m5, m6⟩ := m3
  rw [m5, m6]
  refine ⟨xg_0 _ _, ?_, xJ_gm 0 hJ⟩
  show (if (qzS_isSwept (g 20 4) (g 20 5) (g 20 6) (g 20 7) (g 20 8)) = 0 then 0 else 1 : Int32) = x2
  rw [xs_swept_1 hR]
  exact (xd_pick m4).symm
theorem pf_section_1_3 {n : Nat} {g t tz : xk_St} {a : Int32} (hJ : xJ n g t) (hM : relzM_section_0_1 t 3 a tz) : tz 0 0 = 0 ∧ qzU_section_0_1_3 g = a ∧ xJ (n + 1) g tz := by
  obtain ⟨x1, m1, r2, t1, m2, m3⟩ := hM
  rw [if_neg (by decide), if_neg (by decide)] at m1
  subst m1
  rcases xg_goes m2 with ⟨q, -⟩ | ⟨-, q, -⟩ | ⟨-, -, q, -⟩ | ⟨-, -, -, q, hg1⟩
  · exact absurd q (by decide)
  · exact absurd q (by decide)
  · exact absurd q (by decide)
  subst q
  subst hg1
  have hR := xg_r 0 hJ.r
  rw [if_neg (by decide), if_neg (by decide), if_neg (by decide), if_neg (by decide)] at m3
  rw [m3.1, m3.2]
  exact ⟨xg_0 _ _, hR.k1, xJ_gm 0 hJ⟩
theorem pt_section_1 {n : Nat} {g t tz : xk_St} {k2 a : Int32} (hJ : xJ n g t) (h1 : k2 < 0 ∨ 3 < k2) (hM : relzM_section_0_1 t k2 a tz) : tz 0 0 = 2 ∧ xJ (n + 1) g tz := by
  obtain ⟨x1, m1, r2, t1, m2, m3⟩ := hM
  have hx : x1 = 0 := by
    by_cases q : k2 < 0
    · rw [if_pos q] at m1; exact m1
    · rw [if_neg q, if_pos (h1.resolve_left q)] at m1; exact m1
  subst hx
  rcases xg_goes m2 with ⟨q, -⟩ | ⟨-, -, q, hg1⟩ | ⟨-, q, -⟩ | ⟨-, q, -⟩
  · exact absurd q (by decide)
  · rw [if_pos q] at m3
    rw [m3.2, hg1]
    exact ⟨xg_0 _ _, xJ_gm 2 hJ⟩
  · exact absurd rfl q
  · exact absurd rfl q
theorem pf_ask_2 {n : Nat} {g gz t tz : xk_St} {k2 : Int32} (hJ : xJ n g t) (hd : ¬ t 5 2 = 0) (hU : relzU_ask_0_2 g k2 gz) (hM : relzM_ask_0_2 t k2 tz) : tz 0 0 = 0 ∧ xJ (n + 1) gz tz := by
  obtain ⟨g1, u1, u2⟩ := hU
  obtain ⟨x1, m1, r2, t1, m2, t7, m3, m4⟩ := hM
  rw [if_neg hd] at m1
  subst m1
  rcases xg_goes m2 with ⟨q, -⟩ | ⟨-, q, -⟩ | ⟨-, -, q, -⟩ | ⟨-, -, -, q, hg1⟩
  · exact absurd q (by decide)
  · exact absurd q (by decide)
  · exact absurd q (by decide)
  subst q
  subst hg1
  rw [if_neg (by decide)] at m3
  obtain ⟨t2, w2, t3, w3, t4, w4, t5, w5, t6, w6, w7⟩ := m3
  have hR := xg_r 0 hJ.r
  have R : xr (va_up g 21 (upd (upd (upd (upd (upd (g 21) 4 (qzS_startSweep_a4 k2)) 5 qzS_startSweep_a5) 6 qzS_startSweep_a6) 7 qzS_startSweep_a7) 8 qzS_startSweep_a8)) (va_up (va_up (va_up (va_up (va_up (xg t 0) 6 (upd ((xg t 0) 6) 2 k2)) 7 (upd ((va_up (xg t 0) 6 (upd ((xg t 0) 6) 2 k2)) 7) 2 0)) 8 (upd ((va_up (va_up (xg t 0) 6 (upd ((xg t 0) 6) 2 k2)) 7 (upd ((va_up (xg t 0) 6 (upd ((xg t 0) 6) 2 k2)) 7) 2 0)) 8) 2 0)) 9 (upd ((va_up (va_up (va_up (xg t 0) 6 (upd ((xg t 0) 6) 2 k2)) 7 (upd ((va_up (xg t 0) 6 (upd ((xg t 0) 6) 2 k2)) 7) 2 0)) 8 (upd ((va_up (va_up (xg t 0) 6 (upd ((xg t 0) 6) 2 k2)) 7 (upd ((va_up (xg t 0) 6 (upd ((xg t 0) 6) 2 k2)) 7) 2 0)) 8) 2 0)) 9) 2 0)) 10 (upd ((va_up (va_up (va_up (va_up (xg t 0) 6 (upd ((xg t 0) 6) 2 k2)) 7 (upd ((va_up (xg t 0) 6 (upd ((xg t 0) 6) 2 k2)) 7) 2 0)) 8 (upd ((va_up (va_up (xg t 0) 6 (upd ((xg t 0) 6) 2 k2)) 7 (upd ((va_up (xg t 0) 6 (upd ((xg t 0) 6) 2 k2)) 7) 2 0)) 8) 2 0)) 9 (upd ((va_up (va_up (va_up (xg t 0) 6 (upd ((xg t 0) 6) 2 k2)) 7 (upd ((va_up (xg t 0) 6 (upd ((xg t 0) 6) 2 k2)) 7) 2 0)) 8 (upd ((va_up (va_up (xg t 0) 6 (upd ((xg t 0) 6) 2 k2)) 7 (upd ((va_up (xg t 0) 6 (upd ((xg t 0) 6) 2 k2)) 7) 2 0)) 8) 2 0)) 9) 2 0)) 10) 2 0)) := by
    exact xr.mk hR.b0 hR.a0 hR.d0 hR.k0 hR.b1 hR.a1 hR.d1 hR.k1 hR.b2 hR.a2 hR.d2 (by simp [va_up, upd, hR.k2, qzS_startSweep_a4, qzS_startSweep_a5, qzS_startSweep_a6, qzS_startSweep_a7, qzS_startSweep_a8]) hR.b3 hR.a3 hR.d3 hR.k3 hR.b4 hR.a4 hR.d4 hR.k4 hR.b5 hR.a5 hR.d5 hR.k5 hR.p0 hR.p1 hR.p2 hR.p3 hR.p4 hR.p5 hR.p6 hR.p7 hR.c0 hR.c1 hR.c2 hR.c3 hR.o0 hR.s0 hR.o1 hR.s1 hR.po0 hR.pb0 hR.mo0 hR.ze0 hR.st0 hR.al0 hR.po1 hR.pb1 hR.mo1 hR.ze1 hR.st1 hR.al1 hR.li0 hR.de0 hR.da0 hR.li1 hR.de1 hR.da1 hR.li2 hR.de2 hR.da2 hR.step hR.age hR.quiet hR.many hR.time hR.night hR.bell hR.h0 hR.h1 hR.h2 hR.h3 hR.h4 hR.h5 hR.h6 hR.h7 hR.nc0 hR.nc1 hR.nc2 hR.i0 hR.j0 hR.m0 hR.n0 hR.i1 hR.j1 hR.m1 hR.n1 (by simp [va_up, upd, hR.i2, qzS_startSweep_a4, qzS_startSweep_a5, qzS_startSweep_a6, qzS_startSweep_a7, qzS_startSweep_a8]) (by simp [va_up, upd, hR.j2, qzS_startSweep_a4, qzS_startSweep_a5, qzS_startSweep_a6, qzS_startSweep_a7, qzS_startSweep_a8]) (by simp [va_up, upd, hR.m2, qzS_startSweep_a4, qzS_startSweep_a5, qzS_startSweep_a6, qzS_startSweep_a7, qzS_startSweep_a8]) (by simp [va_up, upd, hR.n2, qzS_startSweep_a4, qzS_startSweep_a5, qzS_startSweep_a6, qzS_startSweep_a7, qzS_startSweep_a8]) hR.i3 hR.j3 hR.m3 hR.n3 hR.i4 hR.j4 hR.m4 hR.n4 hR.i5 hR.j5 hR.m5 hR.n5 hR.nu0 hR.nu1 hR.nu2 hR.nu3 hR.nu4 hR.nu5 hR.jt hR.jk hR.jw hR.yh0 hR.yh1 hR.yh2 hR.yh3 hR.yh4 hR.yh5 hR.yh6 hR.yh7 hR.yc0 hR.yc1 hR.yc2 hR.yo0 hR.yo1
  have e : tz = (va_up (va_up (va_up (va_up (va_up (xg t 0) 6 (upd ((xg t 0) 6) 2 k2)) 7 (upd ((va_up (xg t 0) 6 (upd ((xg t 0) 6) 2 k2)) 7) 2 0)) 8 (upd ((va_up (va_up (xg t 0) 6 (upd ((xg t 0) 6) 2 k2)) 7 (upd ((va_up (xg t 0) 6 (upd ((xg t 0) 6) 2 k2)) 7) 2 0)) 8) 2 0)) 9 (upd ((va_up (va_up (va_up (xg t 0) 6 (upd ((xg t 0) 6) 2 k2)) 7 (upd ((va_up (xg t 0) 6 (upd ((xg t 0) 6) 2 k2)) 7) 2 0)) 8 (upd ((va_up (va_up (xg t 0) 6 (upd ((xg t 0) 6) 2 k2)) 7 (upd ((va_up (xg t 0) 6 (upd ((xg t 0) 6) 2 k2)) 7) 2 0)) 8) 2 0)) 9) 2 0)) 10 (upd ((va_up (va_up (va_up (va_up (xg t 0) 6 (upd ((xg t 0) 6) 2 k2)) 7 (upd ((va_up (xg t 0) 6 (upd ((xg t 0) 6) 2 k2)) 7) 2 0)) 8 (upd ((va_up (va_up (xg t 0) 6 (upd ((xg t 0) 6) 2 k2)) 7 (upd ((va_up (xg t 0) 6 (upd ((xg t 0) 6) 2 k2)) 7) 2 0)) 8) 2 0)) 9 (upd ((va_up (va_up (va_up (xg t 0) 6 (upd ((xg t 0) 6) 2 k2)) 7 (upd ((va_up (xg t 0) 6 (upd ((xg t 0) 6) 2 k2)) 7) 2 0)) 8 (upd ((va_up (va_up (xg t 0) 6 (upd ((xg t 0) 6) 2 k2)) 7 (upd ((va_up (xg t 0) 6 (upd ((xg t 0) 6) 2 k2)) 7) 2 0)) 8) 2 0)) 9) 2 0)) 10) 2 0)) := by rw [m4, w7, w6, w5, w4, w3, w2]
  rw [e, u2, u1]
  exact ⟨xg_0 t 0, xJ_step (xJ_g 0 hJ) R (xk_cnt_k (by decide) (xk_cnt_k (by decide) (xk_cnt_k (by decide) (xk_cnt_k (by decide) (xk_cnt_k (by decide) (xk_cnt_le (xg_c 0 hJ.c) (by omega))))))) (xi_pn_of (xJ_g 0 hJ).n rfl rfl (fun _ q => q)) (xk_kept_up hJ.p (by decide) (by decide)) (fun c hc => by simp only [List.mem_cons, List.not_mem_nil, or_false] at hc; rcases hc with rfl | rfl | rfl | rfl | rfl | rfl | rfl <;> rfl) rfl (fun c hc => by simp only [List.mem_cons, List.not_mem_nil, or_false] at hc; rcases hc with rfl | rfl | rfl | rfl <;> rfl) rfl rfl (by simp [qzU_gatherOutput, va_up, upd])⟩
theorem pt_ask_2 {n : Nat} {g t tz : xk_St} {k2 : Int32} (hJ : xJ n g t) (hd : t 5 2 = 0) (hM : relzM_ask_0_2 t k2 tz) : tz 0 0 = 2 ∧ xJ (n + 1) g tz := by
  obtain ⟨x1, m1, r2, t1, m2, t7, m3, rfl⟩ := hM
  rw [if_pos hd] at m1
  subst m1
  rcases xg_goes m2 with ⟨q, -⟩ | ⟨-, -, q, hg1⟩ | ⟨-, q, -⟩ | ⟨-, q, -⟩
  · exact absurd q (by decide)
  · rw [if_pos q] at m3
    rw [m3, hg1]
    exact ⟨xg_0 _ _, xJ_gm 2 hJ⟩
  · exact absurd rfl q
  · exact absurd rfl q
theorem xs_swept_2 {g t : xk_St} (hR : xr g t) : qzS_isSwept (g 21 4) (g 21 5) (g 21 6) (g 21 7) (g 21 8) = qzM_swept_2 t := by
  unfold qzS_isSwept qzM_swept_2
  rw [xs_up, xs_up, hR.k2]
  by_cases q : t 6 2 = 0
  · rw [if_pos q, if_pos q]
  · have q2 : ¬ g 21 4 = 0 := by rw [hR.k2]; exact q
    rw [if_neg q, if_neg q, hR.i2.resolve_left q2, hR.j2.resolve_left q2, hR.m2.resolve_left q2, hR.n2.resolve_left q2]
theorem pf_confirm_2 {n : Nat} {g gz t tz : xk_St} {k2 r a : Int32} (hn : n < 512) (hJ : xJ n g t) (ha1 : ¬ t 6 2 = 0) (ha2 : ¬ t 6 2 = k2) (hU : relzU_confirm_0_2 g r gz) (hM : relzM_confirm_0_2 t k2 a tz) : tz 0 0 = 0 ∧ r = a ∧ xJ (n + 1) gz tz := by
  obtain ⟨x1, m1, r2, t1, m2, m3⟩ := hM
  rw [if_neg ha1, if_neg ha2] at m1
  subst m1
  rcases xg_goes m2 with ⟨q, -⟩ | ⟨-, q, -⟩ | ⟨-, -, q, -⟩ | ⟨-, -, -, q, hg1⟩
  · exact absurd q (by decide)
  · exact absurd q (by decide)
  · exact absurd q (by decide)
  subst q
  subst hg1
  rw [if_neg (by decide)] at m3
  obtain ⟨x2, m4, t6, m5, m6, -, m7⟩ := m3
  have hR := xg_r 0 hJ.r
  unfold relzU_confirm_0_2 at hU
  rw [xs_swept_2 hR] at hU
  have hsame : x2 = 0 → r = 0 → gz = g → tz 0 0 = 0 ∧ r = a ∧ xJ (n + 1) gz tz := by
    intro h1 h2 h3
    rw [if_pos h1] at m5
    rw [h3, m7, m5, m6, h1, h2]
    exact ⟨xg_0 _ _, rfl, xJ_gm 0 hJ⟩
  by_cases c1 : qzM_swept_2 (xg t 0) = 0
  · rw [if_pos c1] at hU m4
    exact hsame m4 hU.1 hU.2.2
  · rw [if_neg c1] at hU m4
    have k1 := hR.h2
    have k2 := hR.h3
    unfold qzK_hasHealthyHeads_2 at hU
    by_cases c2 : g 17 2 = 0
    · rw [if_pos c2] at k1
      rw [if_pos c2, if_pos rfl] at hU
      rw [k1, if_neg (by decide)] at m4
      exact hsame m4 hU.1 hU.2.2
    · rw [if_neg c2] at k1
      rw [k1, if_pos rfl] at m4
      by_cases c3 : g 17 3 = 0
      · rw [if_pos c3] at k2
        rw [if_neg c2, if_pos c3, if_pos rfl] at hU
        rw [k2, if_neg (by decide)] at m4
        exact hsame m4 hU.1 hU.2.2
      · rw [if_neg c3] at k2
        rw [if_neg c2, if_neg c3, if_neg (by decide)] at hU
        rw [k2, if_pos rfl] at m4
        subst m4
        rw [if_neg (by decide)] at m5
        obtain ⟨g1, u1, g2, u2, u3, -, u4⟩ := hU
        obtain ⟨t2, w2, t3, w3, t4, w4, t5, m9, w5⟩ := m5
        subst w2; subst w3; subst w4; subst u1
        have R : xr (va_up g 21 (upd (upd (upd (g 21) 1 qzS_reset_a1) 3 qzS_reset_a3) 4 qzS_reset_a4)) (va_up (va_up (va_up (xg t 0) 5 (upd ((xg t 0) 5) 2 0)) 3 (upd ((va_up (xg t 0) 5 (upd ((xg t 0) 5) 2 0)) 3) 2 0)) 6 (upd ((va_up (va_up (xg t 0) 5 (upd ((xg t 0) 5) 2 0)) 3 (upd ((va_up (xg t 0) 5 (upd ((xg t 0) 5) 2 0)) 3) 2 0)) 6) 2 0)) := by
          exact xr.mk hR.b0 hR.a0 hR.d0 hR.k0 hR.b1 hR.a1 hR.d1 hR.k1 (by simp [va_up, upd, hR.b2, qzS_reset_a1, qzS_reset_a3, qzS_reset_a4]) hR.a2 (by simp [va_up, upd, hR.d2, qzS_reset_a1, qzS_reset_a3, qzS_reset_a4]) (by simp [va_up, upd, hR.k2, qzS_reset_a1, qzS_reset_a3, qzS_reset_a4]) hR.b3 hR.a3 hR.d3 hR.k3 hR.b4 hR.a4 hR.d4 hR.k4 hR.b5 hR.a5 hR.d5 hR.k5 hR.p0 hR.p1 hR.p2 hR.p3 hR.p4 hR.p5 hR.p6 hR.p7 hR.c0 hR.c1 hR.c2 hR.c3 hR.o0 hR.s0 hR.o1 hR.s1 hR.po0 hR.pb0 hR.mo0 hR.ze0 hR.st0 hR.al0 hR.po1 hR.pb1 hR.mo1 hR.ze1 hR.st1 hR.al1 hR.li0 hR.de0 hR.da0 hR.li1 hR.de1 hR.da1 hR.li2 hR.de2 hR.da2 hR.step hR.age hR.quiet hR.many hR.time hR.night hR.bell hR.h0 hR.h1 hR.h2 hR.h3 hR.h4 hR.h5 hR.h6 hR.h7 hR.nc0 hR.nc1 hR.nc2 hR.i0 hR.j0 hR.m0 hR.n0 hR.i1 hR.j1 hR.m1 hR.n1 (by simp [va_up, upd, hR.i2, qzS_reset_a1, qzS_reset_a3, qzS_reset_a4]) (by simp [va_up, upd, hR.j2, qzS_reset_a1, qzS_reset_a3, qzS_reset_a4]) (by simp [va_up, upd, hR.m2, qzS_reset_a1, qzS_reset_a3, qzS_reset_a4]) (by simp [va_up, upd, hR.n2, qzS_reset_a1, qzS_reset_a3, qzS_reset_a4]) hR.i3 hR.j3 hR.m3 hR.n3 hR.i4 hR.j4 hR.m4 hR.n4 hR.i5 hR.j5 hR.m5 hR.n5 hR.nu0 hR.nu1 hR.nu2 hR.nu3 hR.nu4 hR.nu5 hR.jt hR.jk hR.jw hR.yh0 hR.yh1 hR.yh2 hR.yh3 hR.yh4 hR.yh5 hR.yh6 hR.yh7 hR.yc0 hR.yc1 hR.yc2 hR.yo0 hR.yo1
        have hB2 : xk_cnt (26000 * n) (va_up (va_up (va_up (xg t 0) 5 (upd ((xg t 0) 5) 2 0)) 3 (upd ((va_up (xg t 0) 5 (upd ((xg t 0) 5) 2 0)) 3) 2 0)) 6 (upd ((va_up (va_up (xg t 0) 5 (upd ((xg t 0) 5) 2 0)) 3 (upd ((va_up (xg t 0) 5 (upd ((xg t 0) 5) 2 0)) 3) 2 0)) 6) 2 0)) := xk_cnt_k (by decide) (xk_cnt_k (by decide) (xk_cnt_k (by decide) (xg_c 0 hJ.c)))
        have R3 := xr_note R hB2 (by omega) m9
        rw [R.nu2] at u2
        have hkp : xk_kept (va_up (va_up (va_up (va_up (va_up g 21 (upd (upd (upd (g 21) 1 qzS_reset_a1) 3 qzS_reset_a3) 4 qzS_reset_a4)) 5 (upd ((va_up g 21 (upd (upd (upd (g 21) 1 qzS_reset_a1) 3 qzS_reset_a3) 4 qzS_reset_a4)) 5) 3 (qzJ_add_a3 ((va_up g 21 (upd (upd (upd (g 21) 1 qzS_reset_a1) 3 qzS_reset_a3) 4 qzS_reset_a4)) 5 3)))) 6 (qzJ_add_b ((va_up g 21 (upd (upd (upd (g 21) 1 qzS_reset_a1) 3 qzS_reset_a3) 4 qzS_reset_a4)) 5 3) ((va_up g 21 (upd (upd (upd (g 21) 1 qzS_reset_a1) 3 qzS_reset_a3) 4 qzS_reset_a4)) 6) ((va_up g 21 (upd (upd (upd (g 21) 1 qzS_reset_a1) 3 qzS_reset_a3) 4 qzS_reset_a4)) 0 5))) 7 (qzJ_add_c ((va_up g 21 (upd (upd (upd (g 21) 1 qzS_reset_a1) 3 qzS_reset_a3) 4 qzS_reset_a4)) 5 3) ((va_up g 21 (upd (upd (upd (g 21) 1 qzS_reset_a1) 3 qzS_reset_a3) 4 qzS_reset_a4)) 7) 2)) 8 (qzJ_add_d ((va_up g 21 (upd (upd (upd (g 21) 1 qzS_reset_a1) 3 qzS_reset_a3) 4 qzS_reset_a4)) 5 3) ((va_up g 21 (upd (upd (upd (g 21) 1 qzS_reset_a1) 3 qzS_reset_a3) 4 qzS_reset_a4)) 8) 2)) := xk_kept_up (xk_kept_up (xk_kept_up (xk_kept_up (xk_kept_up hJ.p (by decide) (by decide)) (by decide) (by decide)) (by decide) (by decide)) (by decide) (by decide)) (by decide) (by decide)
        refine ⟨?_, ?_, ?_⟩
        · rw [m7, w5, xr_nf0 m9 0 (by decide)]; exact xg_0 t 0
        · rw [u3, m6]
        · rw [u4, u2, m7, w5]
          exact xJ_step (xJ_g 0 hJ) R3 (xk_cnt_le (xr_nc hB2 m9) (by omega)) (xi_pn_reset (r := 2) (xJ_g 0 hJ).n (funext (fun j => xr_nf m9 1 j (by decide) (by decide) (by decide) (by decide))) (funext (fun j => xr_nf m9 3 j (by decide) (by decide) (by decide) (by decide))) (fun j q => by rw [xr_nf m9 5 j (by decide) (by decide) (by decide) (by decide)]; exact if_neg q)) hkp (fun c hc => funext (fun j => (xr_nf m9 c j (by rintro rfl; exact absurd hc (by decide)) (by rintro rfl; exact absurd hc (by decide)) (by rintro rfl; exact absurd hc (by decide)) (by rintro rfl; exact absurd hc (by decide))).trans (by simp only [List.mem_cons, List.not_mem_nil, or_false] at hc; rcases hc with rfl | rfl | rfl | rfl | rfl | rfl | rfl <;> rfl))) ((xr_nf0 m9 27 (by decide)).trans rfl) (fun c hc => by simp only [List.mem_cons, List.not_mem_nil, or_false] at hc; rcases hc with rfl | rfl | rfl | rfl <;> rfl) rfl rfl (by simp [qzU_gatherOutput, va_up, upd])
theorem pt_confirm_2 {n : Nat} {g t tz : xk_St} {k2 a : Int32} (hJ : xJ n g t) (ha : t 6 2 = 0 ∨ t 6 2 = k2) (hM : relzM_confirm_0_2 t k2 a tz) : tz 0 0 = 2 ∧ xJ (n + 1) g tz := by
  obtain ⟨x1, m1, r2, t1, m2, m3⟩ := hM
  have hx : x1 = 0 := by
    by_cases q : t 6 2 = 0
    · rw [if_pos q] at m1; exact m1
    · rw [if_neg q, if_pos (ha.resolve_left q)] at m1; exact m1
  subst hx
  rcases xg_goes m2 with ⟨q, -⟩ | ⟨-, -, q, hg1⟩ | ⟨-, q, -⟩ | ⟨-, q, -⟩
  · exact absurd q (by decide)
  · rw [if_pos q] at m3
    rw [m3.2.2, hg1]
    exact ⟨xg_0 _ _, xJ_gm 2 hJ⟩
  · exact absurd rfl q
  · exact absurd rfl q
theorem pf_section_2_0 {n : Nat} {g t tz : xk_St} {a : Int32} (hJ : xJ n g t) (hM : relzM_section_0_2 t 0 a tz) : tz 0 0 = 0 ∧ qzU_section_0_2_0 g = a ∧ xJ (n + 1) g tz := by
  obtain ⟨x1, m1, r2, t1, m2, m3⟩ := hM
  rw [if_neg (by decide), if_neg (by decide)] at m1
  subst m1
  rcases xg_goes m2 with ⟨q, -⟩ | ⟨-, q, -⟩ | ⟨-, -, q, -⟩ | ⟨-, -, -, q, hg1⟩
  · exact absurd q (by decide)
  · exact absurd q (by decide)
  · exact absurd q (by decide)
  subst q
  subst hg1
  have hR := xg_r 0 hJ.r
  rw [if_neg (by decide), if_pos rfl] at m3
  obtain ⟨x2, m4, m5, m6⟩ := m3
  rw [m5, m6]
  refine ⟨xg_0 _ _, ?_, xJ_gm 0 hJ⟩
  show qzS_state (g 21 1) (g 21 3) = x2
  unfold qzS_state
  rw [hR.b2, hR.d2]
  by_cases q1 : (xg t 0) 5 2 = 0
  · rw [if_pos q1] at m4 ⊢; exact (xd_pick m4).symm
  · rw [if_neg q1] at m4 ⊢; exact m4.symm
theorem pf_section_2_1 {n : Nat} {g t tz : xk_St} {a : Int32} (hJ : xJ n g t) (hM : relzM_section_0_2 t 1 a tz) : tz 0 0 = 0 ∧ qzU_section_0_2_1 g = a ∧ xJ (n + 1) g tz := by
  obtain ⟨x1, m1, r2, t1, m2, m3⟩ := hM
  rw [if_neg (by decide), if_neg (by decide)] at m1
  subst m1
  rcases xg_goes m2 with ⟨q, -⟩ | ⟨-, q, -⟩ | ⟨-, -, q, -⟩ | ⟨-, -, -, q, hg1⟩
  · exact absurd q (by decide)
  · exact absurd q (by decide)
  · exact absurd q (by decide)
  subst q
  subst hg1
  have hR := xg_r 0 hJ.r
  rw [if_neg (by decide), if_neg (by decide), if_pos rfl] at m3
  rw [m3.1, m3.2]
  exact ⟨xg_0 _ _, hR.b2, xJ_gm 0 hJ⟩
theorem pf_section_2_2 {n : Nat} {g t tz : xk_St} {a : Int32} (hJ : xJ n g t) (hM : relzM_section_0_2 t 2 a tz) : tz 0 0 = 0 ∧ qzU_section_0_2_2 g = a ∧ xJ (n + 1) g tz := by
  obtain ⟨x1, m1, r2, t1, m2, m3⟩ := hM
  rw [if_neg (by decide), if_neg (by decide)] at m1
  subst m1
  rcases xg_goes m2 with ⟨q, -⟩ | ⟨-, q, -⟩ | ⟨-, -, q, -⟩ | ⟨-, -, -, q, hg1⟩
  · exact absurd q (by decide)
  · exact absurd q (by decide)
  · exact absurd q (by decide)
  subst q
  subst hg1
  have hR := xg_r 0 hJ.r
  rw [if_neg (by decide), if_neg (by decide), if_neg (by decide), if_pos rfl] at m3
  obtain ⟨x2, m4, m5, m6⟩ := m3
  rw [m5, m6]
  refine ⟨xg_0 _ _, ?_, xJ_gm 0 hJ⟩
  show (if (qzS_isSwept (g 21 4) (g 21 5) (g 21 6) (g 21 7) (g 21 8)) = 0 then 0 else 1 : Int32) = x2
  rw [xs_swept_2 hR]
  exact (xd_pick m4).symm
theorem pf_section_2_3 {n : Nat} {g t tz : xk_St} {a : Int32} (hJ : xJ n g t) (hM : relzM_section_0_2 t 3 a tz) : tz 0 0 = 0 ∧ qzU_section_0_2_3 g = a ∧ xJ (n + 1) g tz := by
  obtain ⟨x1, m1, r2, t1, m2, m3⟩ := hM
  rw [if_neg (by decide), if_neg (by decide)] at m1
  subst m1
  rcases xg_goes m2 with ⟨q, -⟩ | ⟨-, q, -⟩ | ⟨-, -, q, -⟩ | ⟨-, -, -, q, hg1⟩
  · exact absurd q (by decide)
  · exact absurd q (by decide)
  · exact absurd q (by decide)
  subst q
  subst hg1
  have hR := xg_r 0 hJ.r
  rw [if_neg (by decide), if_neg (by decide), if_neg (by decide), if_neg (by decide)] at m3
  rw [m3.1, m3.2]
  exact ⟨xg_0 _ _, hR.k2, xJ_gm 0 hJ⟩
theorem pt_section_2 {n : Nat} {g t tz : xk_St} {k2 a : Int32} (hJ : xJ n g t) (h1 : k2 < 0 ∨ 3 < k2) (hM : relzM_section_0_2 t k2 a tz) : tz 0 0 = 2 ∧ xJ (n + 1) g tz := by
  obtain ⟨x1, m1, r2, t1, m2, m3⟩ := hM
  have hx : x1 = 0 := by
    by_cases q : k2 < 0
    · rw [if_pos q] at m1; exact m1
    · rw [if_neg q, if_pos (h1.resolve_left q)] at m1; exact m1
  subst hx
  rcases xg_goes m2 with ⟨q, -⟩ | ⟨-, -, q, hg1⟩ | ⟨-, q, -⟩ | ⟨-, q, -⟩
  · exact absurd q (by decide)
  · rw [if_pos q] at m3
    rw [m3.2, hg1]
    exact ⟨xg_0 _ _, xJ_gm 2 hJ⟩
  · exact absurd rfl q
  · exact absurd rfl q
theorem pf_ask_3 {n : Nat} {g gz t tz : xk_St} {k2 : Int32} (hJ : xJ n g t) (hd : ¬ t 5 3 = 0) (hU : relzU_ask_1_0 g k2 gz) (hM : relzM_ask_1_0 t k2 tz) : tz 0 0 = 0 ∧ xJ (n + 1) gz tz := by
  obtain ⟨g1, u1, u2⟩ := hU
  obtain ⟨x1, m1, r2, t1, m2, t7, m3, m4⟩ := hM
  rw [if_neg hd] at m1
  subst m1
  rcases xg_goes m2 with ⟨q, -⟩ | ⟨-, q, -⟩ | ⟨-, -, q, -⟩ | ⟨-, -, -, q, hg1⟩
  · exact absurd q (by decide)
  · exact absurd q (by decide)
  · exact absurd q (by decide)
  subst q
  subst hg1
  rw [if_neg (by decide)] at m3
  obtain ⟨t2, w2, t3, w3, t4, w4, t5, w5, t6, w6, w7⟩ := m3
  have hR := xg_r 0 hJ.r
  have R : xr (va_up g 22 (upd (upd (upd (upd (upd (g 22) 4 (qzS_startSweep_a4 k2)) 5 qzS_startSweep_a5) 6 qzS_startSweep_a6) 7 qzS_startSweep_a7) 8 qzS_startSweep_a8)) (va_up (va_up (va_up (va_up (va_up (xg t 0) 6 (upd ((xg t 0) 6) 3 k2)) 7 (upd ((va_up (xg t 0) 6 (upd ((xg t 0) 6) 3 k2)) 7) 3 0)) 8 (upd ((va_up (va_up (xg t 0) 6 (upd ((xg t 0) 6) 3 k2)) 7 (upd ((va_up (xg t 0) 6 (upd ((xg t 0) 6) 3 k2)) 7) 3 0)) 8) 3 0)) 9 (upd ((va_up (va_up (va_up (xg t 0) 6 (upd ((xg t 0) 6) 3 k2)) 7 (upd ((va_up (xg t 0) 6 (upd ((xg t 0) 6) 3 k2)) 7) 3 0)) 8 (upd ((va_up (va_up (xg t 0) 6 (upd ((xg t 0) 6) 3 k2)) 7 (upd ((va_up (xg t 0) 6 (upd ((xg t 0) 6) 3 k2)) 7) 3 0)) 8) 3 0)) 9) 3 0)) 10 (upd ((va_up (va_up (va_up (va_up (xg t 0) 6 (upd ((xg t 0) 6) 3 k2)) 7 (upd ((va_up (xg t 0) 6 (upd ((xg t 0) 6) 3 k2)) 7) 3 0)) 8 (upd ((va_up (va_up (xg t 0) 6 (upd ((xg t 0) 6) 3 k2)) 7 (upd ((va_up (xg t 0) 6 (upd ((xg t 0) 6) 3 k2)) 7) 3 0)) 8) 3 0)) 9 (upd ((va_up (va_up (va_up (xg t 0) 6 (upd ((xg t 0) 6) 3 k2)) 7 (upd ((va_up (xg t 0) 6 (upd ((xg t 0) 6) 3 k2)) 7) 3 0)) 8 (upd ((va_up (va_up (xg t 0) 6 (upd ((xg t 0) 6) 3 k2)) 7 (upd ((va_up (xg t 0) 6 (upd ((xg t 0) 6) 3 k2)) 7) 3 0)) 8) 3 0)) 9) 3 0)) 10) 3 0)) := by
    exact xr.mk hR.b0 hR.a0 hR.d0 hR.k0 hR.b1 hR.a1 hR.d1 hR.k1 hR.b2 hR.a2 hR.d2 hR.k2 hR.b3 hR.a3 hR.d3 (by simp [va_up, upd, hR.k3, qzS_startSweep_a4, qzS_startSweep_a5, qzS_startSweep_a6, qzS_startSweep_a7, qzS_startSweep_a8]) hR.b4 hR.a4 hR.d4 hR.k4 hR.b5 hR.a5 hR.d5 hR.k5 hR.p0 hR.p1 hR.p2 hR.p3 hR.p4 hR.p5 hR.p6 hR.p7 hR.c0 hR.c1 hR.c2 hR.c3 hR.o0 hR.s0 hR.o1 hR.s1 hR.po0 hR.pb0 hR.mo0 hR.ze0 hR.st0 hR.al0 hR.po1 hR.pb1 hR.mo1 hR.ze1 hR.st1 hR.al1 hR.li0 hR.de0 hR.da0 hR.li1 hR.de1 hR.da1 hR.li2 hR.de2 hR.da2 hR.step hR.age hR.quiet hR.many hR.time hR.night hR.bell hR.h0 hR.h1 hR.h2 hR.h3 hR.h4 hR.h5 hR.h6 hR.h7 hR.nc0 hR.nc1 hR.nc2 hR.i0 hR.j0 hR.m0 hR.n0 hR.i1 hR.j1 hR.m1 hR.n1 hR.i2 hR.j2 hR.m2 hR.n2 (by simp [va_up, upd, hR.i3, qzS_startSweep_a4, qzS_startSweep_a5, qzS_startSweep_a6, qzS_startSweep_a7, qzS_startSweep_a8]) (by simp [va_up, upd, hR.j3, qzS_startSweep_a4, qzS_startSweep_a5, qzS_startSweep_a6, qzS_startSweep_a7, qzS_startSweep_a8]) (by simp [va_up, upd, hR.m3, qzS_startSweep_a4, qzS_startSweep_a5, qzS_startSweep_a6, qzS_startSweep_a7, qzS_startSweep_a8]) (by simp [va_up, upd, hR.n3, qzS_startSweep_a4, qzS_startSweep_a5, qzS_startSweep_a6, qzS_startSweep_a7, qzS_startSweep_a8]) hR.i4 hR.j4 hR.m4 hR.n4 hR.i5 hR.j5 hR.m5 hR.n5 hR.nu0 hR.nu1 hR.nu2 hR.nu3 hR.nu4 hR.nu5 hR.jt hR.jk hR.jw hR.yh0 hR.yh1 hR.yh2 hR.yh3 hR.yh4 hR.yh5 hR.yh6 hR.yh7 hR.yc0 hR.yc1 hR.yc2 hR.yo0 hR.yo1
  have e : tz = (va_up (va_up (va_up (va_up (va_up (xg t 0) 6 (upd ((xg t 0) 6) 3 k2)) 7 (upd ((va_up (xg t 0) 6 (upd ((xg t 0) 6) 3 k2)) 7) 3 0)) 8 (upd ((va_up (va_up (xg t 0) 6 (upd ((xg t 0) 6) 3 k2)) 7 (upd ((va_up (xg t 0) 6 (upd ((xg t 0) 6) 3 k2)) 7) 3 0)) 8) 3 0)) 9 (upd ((va_up (va_up (va_up (xg t 0) 6 (upd ((xg t 0) 6) 3 k2)) 7 (upd ((va_up (xg t 0) 6 (upd ((xg t 0) 6) 3 k2)) 7) 3 0)) 8 (upd ((va_up (va_up (xg t 0) 6 (upd ((xg t 0) 6) 3 k2)) 7 (upd ((va_up (xg t 0) 6 (upd ((xg t 0) 6) 3 k2)) 7) 3 0)) 8) 3 0)) 9) 3 0)) 10 (upd ((va_up (va_up (va_up (va_up (xg t 0) 6 (upd ((xg t 0) 6) 3 k2)) 7 (upd ((va_up (xg t 0) 6 (upd ((xg t 0) 6) 3 k2)) 7) 3 0)) 8 (upd ((va_up (va_up (xg t 0) 6 (upd ((xg t 0) 6) 3 k2)) 7 (upd ((va_up (xg t 0) 6 (upd ((xg t 0) 6) 3 k2)) 7) 3 0)) 8) 3 0)) 9 (upd ((va_up (va_up (va_up (xg t 0) 6 (upd ((xg t 0) 6) 3 k2)) 7 (upd ((va_up (xg t 0) 6 (upd ((xg t 0) 6) 3 k2)) 7) 3 0)) 8 (upd ((va_up (va_up (xg t 0) 6 (upd ((xg t 0) 6) 3 k2)) 7 (upd ((va_up (xg t 0) 6 (upd ((xg t 0) 6) 3 k2)) 7) 3 0)) 8) 3 0)) 9) 3 0)) 10) 3 0)) := by rw [m4, w7, w6, w5, w4, w3, w2]
  rw [e, u2, u1]
  exact ⟨xg_0 t 0, xJ_step (xJ_g 0 hJ) R (xk_cnt_k (by decide) (xk_cnt_k (by decide) (xk_cnt_k (by decide) (xk_cnt_k (by decide) (xk_cnt_k (by decide) (xk_cnt_le (xg_c 0 hJ.c) (by omega))))))) (xi_pn_of (xJ_g 0 hJ).n rfl rfl (fun _ q => q)) (xk_kept_up hJ.p (by decide) (by decide)) (fun c hc => by simp only [List.mem_cons, List.not_mem_nil, or_false] at hc; rcases hc with rfl | rfl | rfl | rfl | rfl | rfl | rfl <;> rfl) rfl (fun c hc => by simp only [List.mem_cons, List.not_mem_nil, or_false] at hc; rcases hc with rfl | rfl | rfl | rfl <;> rfl) rfl rfl (by simp [qzU_gatherOutput, va_up, upd])⟩
theorem pt_ask_3 {n : Nat} {g t tz : xk_St} {k2 : Int32} (hJ : xJ n g t) (hd : t 5 3 = 0) (hM : relzM_ask_1_0 t k2 tz) : tz 0 0 = 2 ∧ xJ (n + 1) g tz := by
  obtain ⟨x1, m1, r2, t1, m2, t7, m3, rfl⟩ := hM
  rw [if_pos hd] at m1
  subst m1
  rcases xg_goes m2 with ⟨q, -⟩ | ⟨-, -, q, hg1⟩ | ⟨-, q, -⟩ | ⟨-, q, -⟩
  · exact absurd q (by decide)
  · rw [if_pos q] at m3
    rw [m3, hg1]
    exact ⟨xg_0 _ _, xJ_gm 2 hJ⟩
  · exact absurd rfl q
  · exact absurd rfl q
theorem xs_swept_3 {g t : xk_St} (hR : xr g t) : qzS_isSwept (g 22 4) (g 22 5) (g 22 6) (g 22 7) (g 22 8) = qzM_swept_3 t := by
  unfold qzS_isSwept qzM_swept_3
  rw [xs_up, xs_up, hR.k3]
  by_cases q : t 6 3 = 0
  · rw [if_pos q, if_pos q]
  · have q2 : ¬ g 22 4 = 0 := by rw [hR.k3]; exact q
    rw [if_neg q, if_neg q, hR.i3.resolve_left q2, hR.j3.resolve_left q2, hR.m3.resolve_left q2, hR.n3.resolve_left q2]
theorem pf_confirm_3 {n : Nat} {g gz t tz : xk_St} {k2 r a : Int32} (hn : n < 512) (hJ : xJ n g t) (ha1 : ¬ t 6 3 = 0) (ha2 : ¬ t 6 3 = k2) (hU : relzU_confirm_1_0 g r gz) (hM : relzM_confirm_1_0 t k2 a tz) : tz 0 0 = 0 ∧ r = a ∧ xJ (n + 1) gz tz := by
  obtain ⟨x1, m1, r2, t1, m2, m3⟩ := hM
  rw [if_neg ha1, if_neg ha2] at m1
  subst m1
  rcases xg_goes m2 with ⟨q, -⟩ | ⟨-, q, -⟩ | ⟨-, -, q, -⟩ | ⟨-, -, -, q, hg1⟩
  · exact absurd q (by decide)
  · exact absurd q (by decide)
  · exact absurd q (by decide)
  subst q
  subst hg1
  rw [if_neg (by decide)] at m3
  obtain ⟨x2, m4, t6, m5, m6, -, m7⟩ := m3
  have hR := xg_r 0 hJ.r
  unfold relzU_confirm_1_0 at hU
  rw [xs_swept_3 hR] at hU
  have hsame : x2 = 0 → r = 0 → gz = g → tz 0 0 = 0 ∧ r = a ∧ xJ (n + 1) gz tz := by
    intro h1 h2 h3
    rw [if_pos h1] at m5
    rw [h3, m7, m5, m6, h1, h2]
    exact ⟨xg_0 _ _, rfl, xJ_gm 0 hJ⟩
  by_cases c1 : qzM_swept_3 (xg t 0) = 0
  · rw [if_pos c1] at hU m4
    exact hsame m4 hU.1 hU.2.2
  · rw [if_neg c1] at hU m4
    have k1 := hR.h4
    have k2 := hR.h5
    unfold qzK_hasHealthyHeads_0 at hU
    by_cases c2 : g 18 0 = 0
    · rw [if_pos c2] at k1
      rw [if_pos c2, if_pos rfl] at hU
      rw [k1, if_neg (by decide)] at m4
      exact hsame m4 hU.1 hU.2.2
    · rw [if_neg c2] at k1
      rw [k1, if_pos rfl] at m4
      by_cases c3 : g 18 1 = 0
      · rw [if_pos c3] at k2
        rw [if_neg c2, if_pos c3, if_pos rfl] at hU
        rw [k2, if_neg (by decide)] at m4
        exact hsame m4 hU.1 hU.2.2
      · rw [if_neg c3] at k2
        rw [if_neg c2, if_neg c3, if_neg (by decide)] at hU
        rw [k2, if_pos rfl] at m4
        subst m4
        rw [if_neg (by decide)] at m5
        obtain ⟨g1, u1, g2, u2, u3, -, u4⟩ := hU
        obtain ⟨t2, w2, t3, w3, t4, w4, t5, m9, w5⟩ := m5
        subst w2; subst w3; subst w4; subst u1
        have R : xr (va_up g 22 (upd (upd (upd (g 22) 1 qzS_reset_a1) 3 qzS_reset_a3) 4 qzS_reset_a4)) (va_up (va_up (va_up (xg t 0) 5 (upd ((xg t 0) 5) 3 0)) 3 (upd ((va_up (xg t 0) 5 (upd ((xg t 0) 5) 3 0)) 3) 3 0)) 6 (upd ((va_up (va_up (xg t 0) 5 (upd ((xg t 0) 5) 3 0)) 3 (upd ((va_up (xg t 0) 5 (upd ((xg t 0) 5) 3 0)) 3) 3 0)) 6) 3 0)) := by
          exact xr.mk hR.b0 hR.a0 hR.d0 hR.k0 hR.b1 hR.a1 hR.d1 hR.k1 hR.b2 hR.a2 hR.d2 hR.k2 (by simp [va_up, upd, hR.b3, qzS_reset_a1, qzS_reset_a3, qzS_reset_a4]) hR.a3 (by simp [va_up, upd, hR.d3, qzS_reset_a1, qzS_reset_a3, qzS_reset_a4]) (by simp [va_up, upd, hR.k3, qzS_reset_a1, qzS_reset_a3, qzS_reset_a4]) hR.b4 hR.a4 hR.d4 hR.k4 hR.b5 hR.a5 hR.d5 hR.k5 hR.p0 hR.p1 hR.p2 hR.p3 hR.p4 hR.p5 hR.p6 hR.p7 hR.c0 hR.c1 hR.c2 hR.c3 hR.o0 hR.s0 hR.o1 hR.s1 hR.po0 hR.pb0 hR.mo0 hR.ze0 hR.st0 hR.al0 hR.po1 hR.pb1 hR.mo1 hR.ze1 hR.st1 hR.al1 hR.li0 hR.de0 hR.da0 hR.li1 hR.de1 hR.da1 hR.li2 hR.de2 hR.da2 hR.step hR.age hR.quiet hR.many hR.time hR.night hR.bell hR.h0 hR.h1 hR.h2 hR.h3 hR.h4 hR.h5 hR.h6 hR.h7 hR.nc0 hR.nc1 hR.nc2 hR.i0 hR.j0 hR.m0 hR.n0 hR.i1 hR.j1 hR.m1 hR.n1 hR.i2 hR.j2 hR.m2 hR.n2 (by simp [va_up, upd, hR.i3, qzS_reset_a1, qzS_reset_a3, qzS_reset_a4]) (by simp [va_up, upd, hR.j3, qzS_reset_a1, qzS_reset_a3, qzS_reset_a4]) (by simp [va_up, upd, hR.m3, qzS_reset_a1, qzS_reset_a3, qzS_reset_a4]) (by simp [va_up, upd, hR.n3, qzS_reset_a1, qzS_reset_a3, qzS_reset_a4]) hR.i4 hR.j4 hR.m4 hR.n4 hR.i5 hR.j5 hR.m5 hR.n5 hR.nu0 hR.nu1 hR.nu2 hR.nu3 hR.nu4 hR.nu5 hR.jt hR.jk hR.jw hR.yh0 hR.yh1 hR.yh2 hR.yh3 hR.yh4 hR.yh5 hR.yh6 hR.yh7 hR.yc0 hR.yc1 hR.yc2 hR.yo0 hR.yo1
        have hB2 : xk_cnt (26000 * n) (va_up (va_up (va_up (xg t 0) 5 (upd ((xg t 0) 5) 3 0)) 3 (upd ((va_up (xg t 0) 5 (upd ((xg t 0) 5) 3 0)) 3) 3 0)) 6 (upd ((va_up (va_up (xg t 0) 5 (upd ((xg t 0) 5) 3 0)) 3 (upd ((va_up (xg t 0) 5 (upd ((xg t 0) 5) 3 0)) 3) 3 0)) 6) 3 0)) := xk_cnt_k (by decide) (xk_cnt_k (by decide) (xk_cnt_k (by decide) (xg_c 0 hJ.c)))
        have R3 := xr_note R hB2 (by omega) m9
        rw [R.nu3] at u2
        have hkp : xk_kept (va_up (va_up (va_up (va_up (va_up g 22 (upd (upd (upd (g 22) 1 qzS_reset_a1) 3 qzS_reset_a3) 4 qzS_reset_a4)) 5 (upd ((va_up g 22 (upd (upd (upd (g 22) 1 qzS_reset_a1) 3 qzS_reset_a3) 4 qzS_reset_a4)) 5) 3 (qzJ_add_a3 ((va_up g 22 (upd (upd (upd (g 22) 1 qzS_reset_a1) 3 qzS_reset_a3) 4 qzS_reset_a4)) 5 3)))) 6 (qzJ_add_b ((va_up g 22 (upd (upd (upd (g 22) 1 qzS_reset_a1) 3 qzS_reset_a3) 4 qzS_reset_a4)) 5 3) ((va_up g 22 (upd (upd (upd (g 22) 1 qzS_reset_a1) 3 qzS_reset_a3) 4 qzS_reset_a4)) 6) ((va_up g 22 (upd (upd (upd (g 22) 1 qzS_reset_a1) 3 qzS_reset_a3) 4 qzS_reset_a4)) 0 5))) 7 (qzJ_add_c ((va_up g 22 (upd (upd (upd (g 22) 1 qzS_reset_a1) 3 qzS_reset_a3) 4 qzS_reset_a4)) 5 3) ((va_up g 22 (upd (upd (upd (g 22) 1 qzS_reset_a1) 3 qzS_reset_a3) 4 qzS_reset_a4)) 7) 2)) 8 (qzJ_add_d ((va_up g 22 (upd (upd (upd (g 22) 1 qzS_reset_a1) 3 qzS_reset_a3) 4 qzS_reset_a4)) 5 3) ((va_up g 22 (upd (upd (upd (g 22) 1 qzS_reset_a1) 3 qzS_reset_a3) 4 qzS_reset_a4)) 8) 3)) := xk_kept_up (xk_kept_up (xk_kept_up (xk_kept_up (xk_kept_up hJ.p (by decide) (by decide)) (by decide) (by decide)) (by decide) (by decide)) (by decide) (by decide)) (by decide) (by decide)
        refine ⟨?_, ?_, ?_⟩
        · rw [m7, w5, xr_nf0 m9 0 (by decide)]; exact xg_0 t 0
        · rw [u3, m6]
        · rw [u4, u2, m7, w5]
          exact xJ_step (xJ_g 0 hJ) R3 (xk_cnt_le (xr_nc hB2 m9) (by omega)) (xi_pn_reset (r := 3) (xJ_g 0 hJ).n (funext (fun j => xr_nf m9 1 j (by decide) (by decide) (by decide) (by decide))) (funext (fun j => xr_nf m9 3 j (by decide) (by decide) (by decide) (by decide))) (fun j q => by rw [xr_nf m9 5 j (by decide) (by decide) (by decide) (by decide)]; exact if_neg q)) hkp (fun c hc => funext (fun j => (xr_nf m9 c j (by rintro rfl; exact absurd hc (by decide)) (by rintro rfl; exact absurd hc (by decide)) (by rintro rfl; exact absurd hc (by decide)) (by rintro rfl; exact absurd hc (by decide))).trans (by simp only [List.mem_cons, List.not_mem_nil, or_false] at hc; rcases hc with rfl | rfl | rfl | rfl | rfl | rfl | rfl <;> rfl))) ((xr_nf0 m9 27 (by decide)).trans rfl) (fun c hc => by simp only [List.mem_cons, List.not_mem_nil, or_false] at hc; rcases hc with rfl | rfl | rfl | rfl <;> rfl) rfl rfl (by simp [qzU_gatherOutput, va_up, upd])
theorem pt_confirm_3 {n : Nat} {g t tz : xk_St} {k2 a : Int32} (hJ : xJ n g t) (ha : t 6 3 = 0 ∨ t 6 3 = k2) (hM : relzM_confirm_1_0 t k2 a tz) : tz 0 0 = 2 ∧ xJ (n + 1) g tz := by
  obtain ⟨x1, m1, r2, t1, m2, m3⟩ := hM
  have hx : x1 = 0 := by
    by_cases q : t 6 3 = 0
    · rw [if_pos q] at m1; exact m1
    · rw [if_neg q, if_pos (ha.resolve_left q)] at m1; exact m1
  subst hx
  rcases xg_goes m2 with ⟨q, -⟩ | ⟨-, -, q, hg1⟩ | ⟨-, q, -⟩ | ⟨-, q, -⟩
  · exact absurd q (by decide)
  · rw [if_pos q] at m3
    rw [m3.2.2, hg1]
    exact ⟨xg_0 _ _, xJ_gm 2 hJ⟩
  · exact absurd rfl q
  · exact absurd rfl q
theorem pf_section_3_0 {n : Nat} {g t tz : xk_St} {a : Int32} (hJ : xJ n g t) (hM : relzM_section_1_0 t 0 a tz) : tz 0 0 = 0 ∧ qzU_section_1_0_0 g = a ∧ xJ (n + 1) g tz := by
  obtain ⟨x1, m1, r2, t1, m2, m3⟩ := hM
  rw [if_neg (by decide), if_neg (by decide)] at m1
  subst m1
  rcases xg_goes m2 with ⟨q, -⟩ | ⟨-, q, -⟩ | ⟨-, -, q, -⟩ | ⟨-, -, -, q, hg1⟩
  · exact absurd q (by decide)
  · exact absurd q (by decide)
  · exact absurd q (by decide)
  subst q
  subst hg1
  have hR := xg_r 0 hJ.r
  rw [if_neg (by decide), if_pos rfl] at m3
  obtain ⟨x2, m4, m5, m6⟩ := m3
  rw [m5, m6]
  refine ⟨xg_0 _ _, ?_, xJ_gm 0 hJ⟩
  show qzS_state (g 22 1) (g 22 3) = x2
  unfold qzS_state
  rw [hR.b3, hR.d3]
  by_cases q1 : (xg t 0) 5 3 = 0
  · rw [if_pos q1] at m4 ⊢; exact (xd_pick m4).symm
  · rw [if_neg q1] at m4 ⊢; exact m4.symm
theorem pf_section_3_1 {n : Nat} {g t tz : xk_St} {a : Int32} (hJ : xJ n g t) (hM : relzM_section_1_0 t 1 a tz) : tz 0 0 = 0 ∧ qzU_section_1_0_1 g = a ∧ xJ (n + 1) g tz := by
  obtain ⟨x1, m1, r2, t1, m2, m3⟩ := hM
  rw [if_neg (by decide), if_neg (by decide)] at m1
  subst m1
  rcases xg_goes m2 with ⟨q, -⟩ | ⟨-, q, -⟩ | ⟨-, -, q, -⟩ | ⟨-, -, -, q, hg1⟩
  · exact absurd q (by decide)
  · exact absurd q (by decide)
  · exact absurd q (by decide)
  subst q
  subst hg1
  have hR := xg_r 0 hJ.r
  rw [if_neg (by decide), if_neg (by decide), if_pos rfl] at m3
  rw [m3.1, m3.2]
  exact ⟨xg_0 _ _, hR.b3, xJ_gm 0 hJ⟩
theorem pf_section_3_2 {n : Nat} {g t tz : xk_St} {a : Int32} (hJ : xJ n g t) (hM : relzM_section_1_0 t 2 a tz) : tz 0 0 = 0 ∧ qzU_section_1_0_2 g = a ∧ xJ (n + 1) g tz := by
  obtain ⟨x1, m1, r2, t1, m2, m3⟩ := hM
  rw [if_neg (by decide), if_neg (by decide)] at m1
  subst m1
  rcases xg_goes m2 with ⟨q, -⟩ | ⟨-, q, -⟩ | ⟨-, -, q, -⟩ | ⟨-, -, -, q, hg1⟩
  · exact absurd q (by decide)
  · exact absurd q (by decide)
  · exact absurd q (by decide)
  subst q
  subst hg1
  have hR := xg_r 0 hJ.r
  rw [if_neg (by decide), if_neg (by decide), if_neg (by decide), if_pos rfl] at m3
  obtain ⟨x2, m4, m5, m6⟩ := m3
  rw [m5, m6]
  refine ⟨xg_0 _ _, ?_, xJ_gm 0 hJ⟩
  show (if (qzS_isSwept (g 22 4) (g 22 5) (g 22 6) (g 22 7) (g 22 8)) = 0 then 0 else 1 : Int32) = x2
  rw [xs_swept_3 hR]
  exact (xd_pick m4).symm
theorem pf_section_3_3 {n : Nat} {g t tz : xk_St} {a : Int32} (hJ : xJ n g t) (hM : relzM_section_1_0 t 3 a tz) : tz 0 0 = 0 ∧ qzU_section_1_0_3 g = a ∧ xJ (n + 1) g tz := by
  obtain ⟨x1, m1, r2, t1, m2, m3⟩ := hM
  rw [if_neg (by decide), if_neg (by decide)] at m1
  subst m1
  rcases xg_goes m2 with ⟨q, -⟩ | ⟨-, q, -⟩ | ⟨-, -, q, -⟩ | ⟨-, -, -, q, hg1⟩
  · exact absurd q (by decide)
  · exact absurd q (by decide)
  · exact absurd q (by decide)
  subst q
  subst hg1
  have hR := xg_r 0 hJ.r
  rw [if_neg (by decide), if_neg (by decide), if_neg (by decide), if_neg (by decide)] at m3
  rw [m3.1, m3.2]
  exact ⟨xg_0 _ _, hR.k3, xJ_gm 0 hJ⟩
theorem pt_section_3 {n : Nat} {g t tz : xk_St} {k2 a : Int32} (hJ : xJ n g t) (h1 : k2 < 0 ∨ 3 < k2) (hM : relzM_section_1_0 t k2 a tz) : tz 0 0 = 2 ∧ xJ (n + 1) g tz := by
  obtain ⟨x1, m1, r2, t1, m2, m3⟩ := hM
  have hx : x1 = 0 := by
    by_cases q : k2 < 0
    · rw [if_pos q] at m1; exact m1
    · rw [if_neg q, if_pos (h1.resolve_left q)] at m1; exact m1
  subst hx
  rcases xg_goes m2 with ⟨q, -⟩ | ⟨-, -, q, hg1⟩ | ⟨-, q, -⟩ | ⟨-, q, -⟩
  · exact absurd q (by decide)
  · rw [if_pos q] at m3
    rw [m3.2, hg1]
    exact ⟨xg_0 _ _, xJ_gm 2 hJ⟩
  · exact absurd rfl q
  · exact absurd rfl q
theorem pf_ask_4 {n : Nat} {g gz t tz : xk_St} {k2 : Int32} (hJ : xJ n g t) (hd : ¬ t 5 4 = 0) (hU : relzU_ask_1_1 g k2 gz) (hM : relzM_ask_1_1 t k2 tz) : tz 0 0 = 0 ∧ xJ (n + 1) gz tz := by
  obtain ⟨g1, u1, u2⟩ := hU
  obtain ⟨x1, m1, r2, t1, m2, t7, m3, m4⟩ := hM
  rw [if_neg hd] at m1
  subst m1
  rcases xg_goes m2 with ⟨q, -⟩ | ⟨-, q, -⟩ | ⟨-, -, q, -⟩ | ⟨-, -, -, q, hg1⟩
  · exact absurd q (by decide)
  · exact absurd q (by decide)
  · exact absurd q (by decide)
  subst q
  subst hg1
  rw [if_neg (by decide)] at m3
  obtain ⟨t2, w2, t3, w3, t4, w4, t5, w5, t6, w6, w7⟩ := m3
  have hR := xg_r 0 hJ.r
  have R : xr (va_up g 23 (upd (upd (upd (upd (upd (g 23) 4 (qzS_startSweep_a4 k2)) 5 qzS_startSweep_a5) 6 qzS_startSweep_a6) 7 qzS_startSweep_a7) 8 qzS_startSweep_a8)) (va_up (va_up (va_up (va_up (va_up (xg t 0) 6 (upd ((xg t 0) 6) 4 k2)) 7 (upd ((va_up (xg t 0) 6 (upd ((xg t 0) 6) 4 k2)) 7) 4 0)) 8 (upd ((va_up (va_up (xg t 0) 6 (upd ((xg t 0) 6) 4 k2)) 7 (upd ((va_up (xg t 0) 6 (upd ((xg t 0) 6) 4 k2)) 7) 4 0)) 8) 4 0)) 9 (upd ((va_up (va_up (va_up (xg t 0) 6 (upd ((xg t 0) 6) 4 k2)) 7 (upd ((va_up (xg t 0) 6 (upd ((xg t 0) 6) 4 k2)) 7) 4 0)) 8 (upd ((va_up (va_up (xg t 0) 6 (upd ((xg t 0) 6) 4 k2)) 7 (upd ((va_up (xg t 0) 6 (upd ((xg t 0) 6) 4 k2)) 7) 4 0)) 8) 4 0)) 9) 4 0)) 10 (upd ((va_up (va_up (va_up (va_up (xg t 0) 6 (upd ((xg t 0) 6) 4 k2)) 7 (upd ((va_up (xg t 0) 6 (upd ((xg t 0) 6) 4 k2)) 7) 4 0)) 8 (upd ((va_up (va_up (xg t 0) 6 (upd ((xg t 0) 6) 4 k2)) 7 (upd ((va_up (xg t 0) 6 (upd ((xg t 0) 6) 4 k2)) 7) 4 0)) 8) 4 0)) 9 (upd ((va_up (va_up (va_up (xg t 0) 6 (upd ((xg t 0) 6) 4 k2)) 7 (upd ((va_up (xg t 0) 6 (upd ((xg t 0) 6) 4 k2)) 7) 4 0)) 8 (upd ((va_up (va_up (xg t 0) 6 (upd ((xg t 0) 6) 4 k2)) 7 (upd ((va_up (xg t 0) 6 (upd ((xg t 0) 6) 4 k2)) 7) 4 0)) 8) 4 0)) 9) 4 0)) 10) 4 0)) := by
    exact xr.mk hR.b0 hR.a0 hR.d0 hR.k0 hR.b1 hR.a1 hR.d1 hR.k1 hR.b2 hR.a2 hR.d2 hR.k2 hR.b3 hR.a3 hR.d3 hR.k3 hR.b4 hR.a4 hR.d4 (by simp [va_up, upd, hR.k4, qzS_startSweep_a4, qzS_startSweep_a5, qzS_startSweep_a6, qzS_startSweep_a7, qzS_startSweep_a8]) hR.b5 hR.a5 hR.d5 hR.k5 hR.p0 hR.p1 hR.p2 hR.p3 hR.p4 hR.p5 hR.p6 hR.p7 hR.c0 hR.c1 hR.c2 hR.c3 hR.o0 hR.s0 hR.o1 hR.s1 hR.po0 hR.pb0 hR.mo0 hR.ze0 hR.st0 hR.al0 hR.po1 hR.pb1 hR.mo1 hR.ze1 hR.st1 hR.al1 hR.li0 hR.de0 hR.da0 hR.li1 hR.de1 hR.da1 hR.li2 hR.de2 hR.da2 hR.step hR.age hR.quiet hR.many hR.time hR.night hR.bell hR.h0 hR.h1 hR.h2 hR.h3 hR.h4 hR.h5 hR.h6 hR.h7 hR.nc0 hR.nc1 hR.nc2 hR.i0 hR.j0 hR.m0 hR.n0 hR.i1 hR.j1 hR.m1 hR.n1 hR.i2 hR.j2 hR.m2 hR.n2 hR.i3 hR.j3 hR.m3 hR.n3 (by simp [va_up, upd, hR.i4, qzS_startSweep_a4, qzS_startSweep_a5, qzS_startSweep_a6, qzS_startSweep_a7, qzS_startSweep_a8]) (by simp [va_up, upd, hR.j4, qzS_startSweep_a4, qzS_startSweep_a5, qzS_startSweep_a6, qzS_startSweep_a7, qzS_startSweep_a8]) (by simp [va_up, upd, hR.m4, qzS_startSweep_a4, qzS_startSweep_a5, qzS_startSweep_a6, qzS_startSweep_a7, qzS_startSweep_a8]) (by simp [va_up, upd, hR.n4, qzS_startSweep_a4, qzS_startSweep_a5, qzS_startSweep_a6, qzS_startSweep_a7, qzS_startSweep_a8]) hR.i5 hR.j5 hR.m5 hR.n5 hR.nu0 hR.nu1 hR.nu2 hR.nu3 hR.nu4 hR.nu5 hR.jt hR.jk hR.jw hR.yh0 hR.yh1 hR.yh2 hR.yh3 hR.yh4 hR.yh5 hR.yh6 hR.yh7 hR.yc0 hR.yc1 hR.yc2 hR.yo0 hR.yo1
  have e : tz = (va_up (va_up (va_up (va_up (va_up (xg t 0) 6 (upd ((xg t 0) 6) 4 k2)) 7 (upd ((va_up (xg t 0) 6 (upd ((xg t 0) 6) 4 k2)) 7) 4 0)) 8 (upd ((va_up (va_up (xg t 0) 6 (upd ((xg t 0) 6) 4 k2)) 7 (upd ((va_up (xg t 0) 6 (upd ((xg t 0) 6) 4 k2)) 7) 4 0)) 8) 4 0)) 9 (upd ((va_up (va_up (va_up (xg t 0) 6 (upd ((xg t 0) 6) 4 k2)) 7 (upd ((va_up (xg t 0) 6 (upd ((xg t 0) 6) 4 k2)) 7) 4 0)) 8 (upd ((va_up (va_up (xg t 0) 6 (upd ((xg t 0) 6) 4 k2)) 7 (upd ((va_up (xg t 0) 6 (upd ((xg t 0) 6) 4 k2)) 7) 4 0)) 8) 4 0)) 9) 4 0)) 10 (upd ((va_up (va_up (va_up (va_up (xg t 0) 6 (upd ((xg t 0) 6) 4 k2)) 7 (upd ((va_up (xg t 0) 6 (upd ((xg t 0) 6) 4 k2)) 7) 4 0)) 8 (upd ((va_up (va_up (xg t 0) 6 (upd ((xg t 0) 6) 4 k2)) 7 (upd ((va_up (xg t 0) 6 (upd ((xg t 0) 6) 4 k2)) 7) 4 0)) 8) 4 0)) 9 (upd ((va_up (va_up (va_up (xg t 0) 6 (upd ((xg t 0) 6) 4 k2)) 7 (upd ((va_up (xg t 0) 6 (upd ((xg t 0) 6) 4 k2)) 7) 4 0)) 8 (upd ((va_up (va_up (xg t 0) 6 (upd ((xg t 0) 6) 4 k2)) 7 (upd ((va_up (xg t 0) 6 (upd ((xg t 0) 6) 4 k2)) 7) 4 0)) 8) 4 0)) 9) 4 0)) 10) 4 0)) := by rw [m4, w7, w6, w5, w4, w3, w2]
  rw [e, u2, u1]
  exact ⟨xg_0 t 0, xJ_step (xJ_g 0 hJ) R (xk_cnt_k (by decide) (xk_cnt_k (by decide) (xk_cnt_k (by decide) (xk_cnt_k (by decide) (xk_cnt_k (by decide) (xk_cnt_le (xg_c 0 hJ.c) (by omega))))))) (xi_pn_of (xJ_g 0 hJ).n rfl rfl (fun _ q => q)) (xk_kept_up hJ.p (by decide) (by decide)) (fun c hc => by simp only [List.mem_cons, List.not_mem_nil, or_false] at hc; rcases hc with rfl | rfl | rfl | rfl | rfl | rfl | rfl <;> rfl) rfl (fun c hc => by simp only [List.mem_cons, List.not_mem_nil, or_false] at hc; rcases hc with rfl | rfl | rfl | rfl <;> rfl) rfl rfl (by simp [qzU_gatherOutput, va_up, upd])⟩
theorem pt_ask_4 {n : Nat} {g t tz : xk_St} {k2 : Int32} (hJ : xJ n g t) (hd : t 5 4 = 0) (hM : relzM_ask_1_1 t k2 tz) : tz 0 0 = 2 ∧ xJ (n + 1) g tz := by
  obtain ⟨x1, m1, r2, t1, m2, t7, m3, rfl⟩ := hM
  rw [if_pos hd] at m1
  subst m1
  rcases xg_goes m2 with ⟨q, -⟩ | ⟨-, -, q, hg1⟩ | ⟨-, q, -⟩ | ⟨-, q, -⟩
  · exact absurd q (by decide)
  · rw [if_pos q] at m3
    rw [m3, hg1]
    exact ⟨xg_0 _ _, xJ_gm 2 hJ⟩
  · exact absurd rfl q
  · exact absurd rfl q
theorem xs_swept_4 {g t : xk_St} (hR : xr g t) : qzS_isSwept (g 23 4) (g 23 5) (g 23 6) (g 23 7) (g 23 8) = qzM_swept_4 t := by
  unfold qzS_isSwept qzM_swept_4
  rw [xs_up, xs_up, hR.k4]
  by_cases q : t 6 4 = 0
  · rw [if_pos q, if_pos q]
  · have q2 : ¬ g 23 4 = 0 := by rw [hR.k4]; exact q
    rw [if_neg q, if_neg q, hR.i4.resolve_left q2, hR.j4.resolve_left q2, hR.m4.resolve_left q2, hR.n4.resolve_left q2]
theorem pf_confirm_4 {n : Nat} {g gz t tz : xk_St} {k2 r a : Int32} (hn : n < 512) (hJ : xJ n g t) (ha1 : ¬ t 6 4 = 0) (ha2 : ¬ t 6 4 = k2) (hU : relzU_confirm_1_1 g r gz) (hM : relzM_confirm_1_1 t k2 a tz) : tz 0 0 = 0 ∧ r = a ∧ xJ (n + 1) gz tz := by
  obtain ⟨x1, m1, r2, t1, m2, m3⟩ := hM
  rw [if_neg ha1, if_neg ha2] at m1
  subst m1
  rcases xg_goes m2 with ⟨q, -⟩ | ⟨-, q, -⟩ | ⟨-, -, q, -⟩ | ⟨-, -, -, q, hg1⟩
  · exact absurd q (by decide)
  · exact absurd q (by decide)
  · exact absurd q (by decide)
  subst q
  subst hg1
  rw [if_neg (by decide)] at m3
  obtain ⟨x2, m4, t6, m5, m6, -, m7⟩ := m3
  have hR := xg_r 0 hJ.r
  unfold relzU_confirm_1_1 at hU
  rw [xs_swept_4 hR] at hU
  have hsame : x2 = 0 → r = 0 → gz = g → tz 0 0 = 0 ∧ r = a ∧ xJ (n + 1) gz tz := by
    intro h1 h2 h3
    rw [if_pos h1] at m5
    rw [h3, m7, m5, m6, h1, h2]
    exact ⟨xg_0 _ _, rfl, xJ_gm 0 hJ⟩
  by_cases c1 : qzM_swept_4 (xg t 0) = 0
  · rw [if_pos c1] at hU m4
    exact hsame m4 hU.1 hU.2.2
  · rw [if_neg c1] at hU m4
    have k1 := hR.h5
    have k2 := hR.h6
    unfold qzK_hasHealthyHeads_1 at hU
    by_cases c2 : g 18 1 = 0
    · rw [if_pos c2] at k1
      rw [if_pos c2, if_pos rfl] at hU
      rw [k1, if_neg (by decide)] at m4
      exact hsame m4 hU.1 hU.2.2
    · rw [if_neg c2] at k1
      rw [k1, if_pos rfl] at m4
      by_cases c3 : g 18 2 = 0
      · rw [if_pos c3] at k2
        rw [if_neg c2, if_pos c3, if_pos rfl] at hU
        rw [k2, if_neg (by decide)] at m4
        exact hsame m4 hU.1 hU.2.2
      · rw [if_neg c3] at k2
        rw [if_neg c2, if_neg c3, if_neg (by decide)] at hU
        rw [k2, if_pos rfl] at m4
        subst m4
        rw [if_neg (by decide)] at m5
        obtain ⟨g1, u1, g2, u2, u3, -, u4⟩ := hU
        obtain ⟨t2, w2, t3, w3, t4, w4, t5, m9, w5⟩ := m5
        subst w2; subst w3; subst w4; subst u1
        have R : xr (va_up g 23 (upd (upd (upd (g 23) 1 qzS_reset_a1) 3 qzS_reset_a3) 4 qzS_reset_a4)) (va_up (va_up (va_up (xg t 0) 5 (upd ((xg t 0) 5) 4 0)) 3 (upd ((va_up (xg t 0) 5 (upd ((xg t 0) 5) 4 0)) 3) 4 0)) 6 (upd ((va_up (va_up (xg t 0) 5 (upd ((xg t 0) 5) 4 0)) 3 (upd ((va_up (xg t 0) 5 (upd ((xg t 0) 5) 4 0)) 3) 4 0)) 6) 4 0)) := by
          exact xr.mk hR.b0 hR.a0 hR.d0 hR.k0 hR.b1 hR.a1 hR.d1 hR.k1 hR.b2 hR.a2 hR.d2 hR.k2 hR.b3 hR.a3 hR.d3 hR.k3 (by simp [va_up, upd, hR.b4, qzS_reset_a1, qzS_reset_a3, qzS_reset_a4]) hR.a4 (by simp [va_up, upd, hR.d4, qzS_reset_a1, qzS_reset_a3, qzS_reset_a4]) (by simp [va_up, upd, hR.k4, qzS_reset_a1, qzS_reset_a3, qzS_reset_a4]) hR.b5 hR.a5 hR.d5 hR.k5 hR.p0 hR.p1 hR.p2 hR.p3 hR.p4 hR.p5 hR.p6 hR.p7 hR.c0 hR.c1 hR.c2 hR.c3 hR.o0 hR.s0 hR.o1 hR.s1 hR.po0 hR.pb0 hR.mo0 hR.ze0 hR.st0 hR.al0 hR.po1 hR.pb1 hR.mo1 hR.ze1 hR.st1 hR.al1 hR.li0 hR.de0 hR.da0 hR.li1 hR.de1 hR.da1 hR.li2 hR.de2 hR.da2 hR.step hR.age hR.quiet hR.many hR.time hR.night hR.bell hR.h0 hR.h1 hR.h2 hR.h3 hR.h4 hR.h5 hR.h6 hR.h7 hR.nc0 hR.nc1 hR.nc2 hR.i0 hR.j0 hR.m0 hR.n0 hR.i1 hR.j1 hR.m1 hR.n1 hR.i2 hR.j2 hR.m2 hR.n2 hR.i3 hR.j3 hR.m3 hR.n3 (by simp [va_up, upd, hR.i4, qzS_reset_a1, qzS_reset_a3, qzS_reset_a4]) (by simp [va_up, upd, hR.j4, qzS_reset_a1, qzS_reset_a3, qzS_reset_a4]) (by simp [va_up, upd, hR.m4, qzS_reset_a1, qzS_reset_a3, qzS_reset_a4]) (by simp [va_up, upd, hR.n4, qzS_reset_a1, qzS_reset_a3, qzS_reset_a4]) hR.i5 hR.j5 hR.m5 hR.n5 hR.nu0 hR.nu1 hR.nu2 hR.nu3 hR.nu4 hR.nu5 hR.jt hR.jk hR.jw hR.yh0 hR.yh1 hR.yh2 hR.yh3 hR.yh4 hR.yh5 hR.yh6 hR.yh7 hR.yc0 hR.yc1 hR.yc2 hR.yo0 hR.yo1
        have hB2 : xk_cnt (26000 * n) (va_up (va_up (va_up (xg t 0) 5 (upd ((xg t 0) 5) 4 0)) 3 (upd ((va_up (xg t 0) 5 (upd ((xg t 0) 5) 4 0)) 3) 4 0)) 6 (upd ((va_up (va_up (xg t 0) 5 (upd ((xg t 0) 5) 4 0)) 3 (upd ((va_up (xg t 0) 5 (upd ((xg t 0) 5) 4 0)) 3) 4 0)) 6) 4 0)) := xk_cnt_k (by decide) (xk_cnt_k (by decide) (xk_cnt_k (by decide) (xg_c 0 hJ.c)))
        have R3 := xr_note R hB2 (by omega) m9
        rw [R.nu4] at u2
        have hkp : xk_kept (va_up (va_up (va_up (va_up (va_up g 23 (upd (upd (upd (g 23) 1 qzS_reset_a1) 3 qzS_reset_a3) 4 qzS_reset_a4)) 5 (upd ((va_up g 23 (upd (upd (upd (g 23) 1 qzS_reset_a1) 3 qzS_reset_a3) 4 qzS_reset_a4)) 5) 3 (qzJ_add_a3 ((va_up g 23 (upd (upd (upd (g 23) 1 qzS_reset_a1) 3 qzS_reset_a3) 4 qzS_reset_a4)) 5 3)))) 6 (qzJ_add_b ((va_up g 23 (upd (upd (upd (g 23) 1 qzS_reset_a1) 3 qzS_reset_a3) 4 qzS_reset_a4)) 5 3) ((va_up g 23 (upd (upd (upd (g 23) 1 qzS_reset_a1) 3 qzS_reset_a3) 4 qzS_reset_a4)) 6) ((va_up g 23 (upd (upd (upd (g 23) 1 qzS_reset_a1) 3 qzS_reset_a3) 4 qzS_reset_a4)) 0 5))) 7 (qzJ_add_c ((va_up g 23 (upd (upd (upd (g 23) 1 qzS_reset_a1) 3 qzS_reset_a3) 4 qzS_reset_a4)) 5 3) ((va_up g 23 (upd (upd (upd (g 23) 1 qzS_reset_a1) 3 qzS_reset_a3) 4 qzS_reset_a4)) 7) 2)) 8 (qzJ_add_d ((va_up g 23 (upd (upd (upd (g 23) 1 qzS_reset_a1) 3 qzS_reset_a3) 4 qzS_reset_a4)) 5 3) ((va_up g 23 (upd (upd (upd (g 23) 1 qzS_reset_a1) 3 qzS_reset_a3) 4 qzS_reset_a4)) 8) 4)) := xk_kept_up (xk_kept_up (xk_kept_up (xk_kept_up (xk_kept_up hJ.p (by decide) (by decide)) (by decide) (by decide)) (by decide) (by decide)) (by decide) (by decide)) (by decide) (by decide)
        refine ⟨?_, ?_, ?_⟩
        · rw [m7, w5, xr_nf0 m9 0 (by decide)]; exact xg_0 t 0
        · rw [u3, m6]
        · rw [u4, u2, m7, w5]
          exact xJ_step (xJ_g 0 hJ) R3 (xk_cnt_le (xr_nc hB2 m9) (by omega)) (xi_pn_reset (r := 4) (xJ_g 0 hJ).n (funext (fun j => xr_nf m9 1 j (by decide) (by decide) (by decide) (by decide))) (funext (fun j => xr_nf m9 3 j (by decide) (by decide) (by decide) (by decide))) (fun j q => by rw [xr_nf m9 5 j (by decide) (by decide) (by decide) (by decide)]; exact if_neg q)) hkp (fun c hc => funext (fun j => (xr_nf m9 c j (by rintro rfl; exact absurd hc (by decide)) (by rintro rfl; exact absurd hc (by decide)) (by rintro rfl; exact absurd hc (by decide)) (by rintro rfl; exact absurd hc (by decide))).trans (by simp only [List.mem_cons, List.not_mem_nil, or_false] at hc; rcases hc with rfl | rfl | rfl | rfl | rfl | rfl | rfl <;> rfl))) ((xr_nf0 m9 27 (by decide)).trans rfl) (fun c hc => by simp only [List.mem_cons, List.not_mem_nil, or_false] at hc; rcases hc with rfl | rfl | rfl | rfl <;> rfl) rfl rfl (by simp [qzU_gatherOutput, va_up, upd])
theorem pt_confirm_4 {n : Nat} {g t tz : xk_St} {k2 a : Int32} (hJ : xJ n g t) (ha : t 6 4 = 0 ∨ t 6 4 = k2) (hM : relzM_confirm_1_1 t k2 a tz) : tz 0 0 = 2 ∧ xJ (n + 1) g tz := by
  obtain ⟨x1, m1, r2, t1, m2, m3⟩ := hM
  have hx : x1 = 0 := by
    by_cases q : t 6 4 = 0
    · rw [if_pos q] at m1; exact m1
    · rw [if_neg q, if_pos (ha.resolve_left q)] at m1; exact m1
  subst hx
  rcases xg_goes m2 with ⟨q, -⟩ | ⟨-, -, q, hg1⟩ | ⟨-, q, -⟩ | ⟨-, q, -⟩
  · exact absurd q (by decide)
  · rw [if_pos q] at m3
    rw [m3.2.2, hg1]
    exact ⟨xg_0 _ _, xJ_gm 2 hJ⟩
  · exact absurd rfl q
  · exact absurd rfl q
theorem pf_section_4_0 {n : Nat} {g t tz : xk_St} {a : Int32} (hJ : xJ n g t) (hM : relzM_section_1_1 t 0 a tz) : tz 0 0 = 0 ∧ qzU_section_1_1_0 g = a ∧ xJ (n + 1) g tz := by
  obtain ⟨x1, m1, r2, t1, m2, m3⟩ := hM
  rw [if_neg (by decide), if_neg (by decide)] at m1
  subst m1
  rcases xg_goes m2 with ⟨q, -⟩ | ⟨-, q, -⟩ | ⟨-, -, q, -⟩ | ⟨-, -, -, q, hg1⟩
  · exact absurd q (by decide)
  · exact absurd q (by decide)
  · exact absurd q (by decide)
  subst q
  subst hg1
  have hR := xg_r 0 hJ.r
  rw [if_neg (by decide), if_pos rfl] at m3
  obtain ⟨x2, m4, m5, m6⟩ := m3
  rw [m5, m6]
  refine ⟨xg_0 _ _, ?_, xJ_gm 0 hJ⟩
  show qzS_state (g 23 1) (g 23 3) = x2
  unfold qzS_state
  rw [hR.b4, hR.d4]
  by_cases q1 : (xg t 0) 5 4 = 0
  · rw [if_pos q1] at m4 ⊢; exact (xd_pick m4).symm
  · rw [if_neg q1] at m4 ⊢; exact m4.symm
theorem pf_section_4_1 {n : Nat} {g t tz : xk_St} {a : Int32} (hJ : xJ n g t) (hM : relzM_section_1_1 t 1 a tz) : tz 0 0 = 0 ∧ qzU_section_1_1_1 g = a ∧ xJ (n + 1) g tz := by
  obtain ⟨x1, m1, r2, t1, m2, m3⟩ := hM
  rw [if_neg (by decide), if_neg (by decide)] at m1
  subst m1
  rcases xg_goes m2 with ⟨q, -⟩ | ⟨-, q, -⟩ | ⟨-, -, q, -⟩ | ⟨-, -, -, q, hg1⟩
  · exact absurd q (by decide)
  · exact absurd q (by decide)
  · exact absurd q (by decide)
  subst q
  subst hg1
  have hR := xg_r 0 hJ.r
  rw [if_neg (by decide), if_neg (by decide), if_pos rfl] at m3
  rw [m3.1, m3.2]
  exact ⟨xg_0 _ _, hR.b4, xJ_gm 0 hJ⟩
theorem pf_section_4_2 {n : Nat} {g t tz : xk_St} {a : Int32} (hJ : xJ n g t) (hM : relzM_section_1_1 t 2 a tz) : tz 0 0 = 0 ∧ qzU_section_1_1_2 g = a ∧ xJ (n + 1) g tz := by
  obtain ⟨x1, m1, r2, t1, m2, m3⟩ := hM
  rw [if_neg (by decide), if_neg (by decide)] at m1
  subst m1
  rcases xg_goes m2 with ⟨q, -⟩ | ⟨-, q, -⟩ | ⟨-, -, q, -⟩ | ⟨-, -, -, q, hg1⟩
  · exact absurd q (by decide)
  · exact absurd q (by decide)
  · exact absurd q (by decide)
  subst q
  subst hg1
  have hR := xg_r 0 hJ.r
  rw [if_neg (by decide), if_neg (by decide), if_neg (by decide), if_pos rfl] at m3
  obtain ⟨x2, m4, m5, m6⟩ := m3
  rw [m5, m6]
  refine ⟨xg_0 _ _, ?_, xJ_gm 0 hJ⟩
  show (if (qzS_isSwept (g 23 4) (g 23 5) (g 23 6) (g 23 7) (g 23 8)) = 0 then 0 else 1 : Int32) = x2
  rw [xs_swept_4 hR]
  exact (xd_pick m4).symm
theorem pf_section_4_3 {n : Nat} {g t tz : xk_St} {a : Int32} (hJ : xJ n g t) (hM : relzM_section_1_1 t 3 a tz) : tz 0 0 = 0 ∧ qzU_section_1_1_3 g = a ∧ xJ (n + 1) g tz := by
  obtain ⟨x1, m1, r2, t1, m2, m3⟩ := hM
  rw [if_neg (by decide), if_neg (by decide)] at m1
  subst m1
  rcases xg_goes m2 with ⟨q, -⟩ | ⟨-, q, -⟩ | ⟨-, -, q, -⟩ | ⟨-, -, -, q, hg1⟩
  · exact absurd q (by decide)
  · exact absurd q (by decide)
  · exact absurd q (by decide)
  subst q
  subst hg1
  have hR := xg_r 0 hJ.r
  rw [if_neg (by decide), if_neg (by decide), if_neg (by decide), if_neg (by decide)] at m3
  rw [m3.1, m3.2]
  exact ⟨xg_0 _ _, hR.k4, xJ_gm 0 hJ⟩
theorem pt_section_4 {n : Nat} {g t tz : xk_St} {k2 a : Int32} (hJ : xJ n g t) (h1 : k2 < 0 ∨ 3 < k2) (hM : relzM_section_1_1 t k2 a tz) : tz 0 0 = 2 ∧ xJ (n + 1) g tz := by
  obtain ⟨x1, m1, r2, t1, m2, m3⟩ := hM
  have hx : x1 = 0 := by
    by_cases q : k2 < 0
    · rw [if_pos q] at m1; exact m1
    · rw [if_neg q, if_pos (h1.resolve_left q)] at m1; exact m1
  subst hx
  rcases xg_goes m2 with ⟨q, -⟩ | ⟨-, -, q, hg1⟩ | ⟨-, q, -⟩ | ⟨-, q, -⟩
  · exact absurd q (by decide)
  · rw [if_pos q] at m3
    rw [m3.2, hg1]
    exact ⟨xg_0 _ _, xJ_gm 2 hJ⟩
  · exact absurd rfl q
  · exact absurd rfl q
theorem pf_ask_5 {n : Nat} {g gz t tz : xk_St} {k2 : Int32} (hJ : xJ n g t) (hd : ¬ t 5 5 = 0) (hU : relzU_ask_1_2 g k2 gz) (hM : relzM_ask_1_2 t k2 tz) : tz 0 0 = 0 ∧ xJ (n + 1) gz tz := by
  obtain ⟨g1, u1, u2⟩ := hU
  obtain ⟨x1, m1, r2, t1, m2, t7, m3, m4⟩ := hM
  rw [if_neg hd] at m1
  subst m1
  rcases xg_goes m2 with ⟨q, -⟩ | ⟨-, q, -⟩ | ⟨-, -, q, -⟩ | ⟨-, -, -, q, hg1⟩
  · exact absurd q (by decide)
  · exact absurd q (by decide)
  · exact absurd q (by decide)
  subst q
  subst hg1
  rw [if_neg (by decide)] at m3
  obtain ⟨t2, w2, t3, w3, t4, w4, t5, w5, t6, w6, w7⟩ := m3
  have hR := xg_r 0 hJ.r
  have R : xr (va_up g 24 (upd (upd (upd (upd (upd (g 24) 4 (qzS_startSweep_a4 k2)) 5 qzS_startSweep_a5) 6 qzS_startSweep_a6) 7 qzS_startSweep_a7) 8 qzS_startSweep_a8)) (va_up (va_up (va_up (va_up (va_up (xg t 0) 6 (upd ((xg t 0) 6) 5 k2)) 7 (upd ((va_up (xg t 0) 6 (upd ((xg t 0) 6) 5 k2)) 7) 5 0)) 8 (upd ((va_up (va_up (xg t 0) 6 (upd ((xg t 0) 6) 5 k2)) 7 (upd ((va_up (xg t 0) 6 (upd ((xg t 0) 6) 5 k2)) 7) 5 0)) 8) 5 0)) 9 (upd ((va_up (va_up (va_up (xg t 0) 6 (upd ((xg t 0) 6) 5 k2)) 7 (upd ((va_up (xg t 0) 6 (upd ((xg t 0) 6) 5 k2)) 7) 5 0)) 8 (upd ((va_up (va_up (xg t 0) 6 (upd ((xg t 0) 6) 5 k2)) 7 (upd ((va_up (xg t 0) 6 (upd ((xg t 0) 6) 5 k2)) 7) 5 0)) 8) 5 0)) 9) 5 0)) 10 (upd ((va_up (va_up (va_up (va_up (xg t 0) 6 (upd ((xg t 0) 6) 5 k2)) 7 (upd ((va_up (xg t 0) 6 (upd ((xg t 0) 6) 5 k2)) 7) 5 0)) 8 (upd ((va_up (va_up (xg t 0) 6 (upd ((xg t 0) 6) 5 k2)) 7 (upd ((va_up (xg t 0) 6 (upd ((xg t 0) 6) 5 k2)) 7) 5 0)) 8) 5 0)) 9 (upd ((va_up (va_up (va_up (xg t 0) 6 (upd ((xg t 0) 6) 5 k2)) 7 (upd ((va_up (xg t 0) 6 (upd ((xg t 0) 6) 5 k2)) 7) 5 0)) 8 (upd ((va_up (va_up (xg t 0) 6 (upd ((xg t 0) 6) 5 k2)) 7 (upd ((va_up (xg t 0) 6 (upd ((xg t 0) 6) 5 k2)) 7) 5 0)) 8) 5 0)) 9) 5 0)) 10) 5 0)) := by
    exact xr.mk hR.b0 hR.a0 hR.d0 hR.k0 hR.b1 hR.a1 hR.d1 hR.k1 hR.b2 hR.a2 hR.d2 hR.k2 hR.b3 hR.a3 hR.d3 hR.k3 hR.b4 hR.a4 hR.d4 hR.k4 hR.b5 hR.a5 hR.d5 (by simp [va_up, upd, hR.k5, qzS_startSweep_a4, qzS_startSweep_a5, qzS_startSweep_a6, qzS_startSweep_a7, qzS_startSweep_a8]) hR.p0 hR.p1 hR.p2 hR.p3 hR.p4 hR.p5 hR.p6 hR.p7 hR.c0 hR.c1 hR.c2 hR.c3 hR.o0 hR.s0 hR.o1 hR.s1 hR.po0 hR.pb0 hR.mo0 hR.ze0 hR.st0 hR.al0 hR.po1 hR.pb1 hR.mo1 hR.ze1 hR.st1 hR.al1 hR.li0 hR.de0 hR.da0 hR.li1 hR.de1 hR.da1 hR.li2 hR.de2 hR.da2 hR.step hR.age hR.quiet hR.many hR.time hR.night hR.bell hR.h0 hR.h1 hR.h2 hR.h3 hR.h4 hR.h5 hR.h6 hR.h7 hR.nc0 hR.nc1 hR.nc2 hR.i0 hR.j0 hR.m0 hR.n0 hR.i1 hR.j1 hR.m1 hR.n1 hR.i2 hR.j2 hR.m2 hR.n2 hR.i3 hR.j3 hR.m3 hR.n3 hR.i4 hR.j4 hR.m4 hR.n4 (by simp [va_up, upd, hR.i5, qzS_startSweep_a4, qzS_startSweep_a5, qzS_startSweep_a6, qzS_startSweep_a7, qzS_startSweep_a8]) (by simp [va_up, upd, hR.j5, qzS_startSweep_a4, qzS_startSweep_a5, qzS_startSweep_a6, qzS_startSweep_a7, qzS_startSweep_a8]) (by simp [va_up, upd, hR.m5, qzS_startSweep_a4, qzS_startSweep_a5, qzS_startSweep_a6, qzS_startSweep_a7, qzS_startSweep_a8]) (by simp [va_up, upd, hR.n5, qzS_startSweep_a4, qzS_startSweep_a5, qzS_startSweep_a6, qzS_startSweep_a7, qzS_startSweep_a8]) hR.nu0 hR.nu1 hR.nu2 hR.nu3 hR.nu4 hR.nu5 hR.jt hR.jk hR.jw hR.yh0 hR.yh1 hR.yh2 hR.yh3 hR.yh4 hR.yh5 hR.yh6 hR.yh7 hR.yc0 hR.yc1 hR.yc2 hR.yo0 hR.yo1
  have e : tz = (va_up (va_up (va_up (va_up (va_up (xg t 0) 6 (upd ((xg t 0) 6) 5 k2)) 7 (upd ((va_up (xg t 0) 6 (upd ((xg t 0) 6) 5 k2)) 7) 5 0)) 8 (upd ((va_up (va_up (xg t 0) 6 (upd ((xg t 0) 6) 5 k2)) 7 (upd ((va_up (xg t 0) 6 (upd ((xg t 0) 6) 5 k2)) 7) 5 0)) 8) 5 0)) 9 (upd ((va_up (va_up (va_up (xg t 0) 6 (upd ((xg t 0) 6) 5 k2)) 7 (upd ((va_up (xg t 0) 6 (upd ((xg t 0) 6) 5 k2)) 7) 5 0)) 8 (upd ((va_up (va_up (xg t 0) 6 (upd ((xg t 0) 6) 5 k2)) 7 (upd ((va_up (xg t 0) 6 (upd ((xg t 0) 6) 5 k2)) 7) 5 0)) 8) 5 0)) 9) 5 0)) 10 (upd ((va_up (va_up (va_up (va_up (xg t 0) 6 (upd ((xg t 0) 6) 5 k2)) 7 (upd ((va_up (xg t 0) 6 (upd ((xg t 0) 6) 5 k2)) 7) 5 0)) 8 (upd ((va_up (va_up (xg t 0) 6 (upd ((xg t 0) 6) 5 k2)) 7 (upd ((va_up (xg t 0) 6 (upd ((xg t 0) 6) 5 k2)) 7) 5 0)) 8) 5 0)) 9 (upd ((va_up (va_up (va_up (xg t 0) 6 (upd ((xg t 0) 6) 5 k2)) 7 (upd ((va_up (xg t 0) 6 (upd ((xg t 0) 6) 5 k2)) 7) 5 0)) 8 (upd ((va_up (va_up (xg t 0) 6 (upd ((xg t 0) 6) 5 k2)) 7 (upd ((va_up (xg t 0) 6 (upd ((xg t 0) 6) 5 k2)) 7) 5 0)) 8) 5 0)) 9) 5 0)) 10) 5 0)) := by rw [m4, w7, w6, w5, w4, w3, w2]
  rw [e, u2, u1]
  exact ⟨xg_0 t 0, xJ_step (xJ_g 0 hJ) R (xk_cnt_k (by decide) (xk_cnt_k (by decide) (xk_cnt_k (by decide) (xk_cnt_k (by decide) (xk_cnt_k (by decide) (xk_cnt_le (xg_c 0 hJ.c) (by omega))))))) (xi_pn_of (xJ_g 0 hJ).n rfl rfl (fun _ q => q)) (xk_kept_up hJ.p (by decide) (by decide)) (fun c hc => by simp only [List.mem_cons, List.not_mem_nil, or_false] at hc; rcases hc with rfl | rfl | rfl | rfl | rfl | rfl | rfl <;> rfl) rfl (fun c hc => by simp only [List.mem_cons, List.not_mem_nil, or_false] at hc; rcases hc with rfl | rfl | rfl | rfl <;> rfl) rfl rfl (by simp [qzU_gatherOutput, va_up, upd])⟩
theorem pt_ask_5 {n : Nat} {g t tz : xk_St} {k2 : Int32} (hJ : xJ n g t) (hd : t 5 5 = 0) (hM : relzM_ask_1_2 t k2 tz) : tz 0 0 = 2 ∧ xJ (n + 1) g tz := by
  obtain ⟨x1, m1, r2, t1, m2, t7, m3, rfl⟩ := hM
  rw [if_pos hd] at m1
  subst m1
  rcases xg_goes m2 with ⟨q, -⟩ | ⟨-, -, q, hg1⟩ | ⟨-, q, -⟩ | ⟨-, q, -⟩
  · exact absurd q (by decide)
  · rw [if_pos q] at m3
    rw [m3, hg1]
    exact ⟨xg_0 _ _, xJ_gm 2 hJ⟩
  · exact absurd rfl q
  · exact absurd rfl q
theorem xs_swept_5 {g t : xk_St} (hR : xr g t) : qzS_isSwept (g 24 4) (g 24 5) (g 24 6) (g 24 7) (g 24 8) = qzM_swept_5 t := by
  unfold qzS_isSwept qzM_swept_5
  rw [xs_up, xs_up, hR.k5]
  by_cases q : t 6 5 = 0
  · rw [if_pos q, if_pos q]
  · have q2 : ¬ g 24 4 = 0 := by rw [hR.k5]; exact q
    rw [if_neg q, if_neg q, hR.i5.resolve_left q2, hR.j5.resolve_left q2, hR.m5.resolve_left q2, hR.n5.resolve_left q2]
theorem pf_confirm_5 {n : Nat} {g gz t tz : xk_St} {k2 r a : Int32} (hn : n < 512) (hJ : xJ n g t) (ha1 : ¬ t 6 5 = 0) (ha2 : ¬ t 6 5 = k2) (hU : relzU_confirm_1_2 g r gz) (hM : relzM_confirm_1_2 t k2 a tz) : tz 0 0 = 0 ∧ r = a ∧ xJ (n + 1) gz tz := by
  obtain ⟨x1, m1, r2, t1, m2, m3⟩ := hM
  rw [if_neg ha1, if_neg ha2] at m1
  subst m1
  rcases xg_goes m2 with ⟨q, -⟩ | ⟨-, q, -⟩ | ⟨-, -, q, -⟩ | ⟨-, -, -, q, hg1⟩
  · exact absurd q (by decide)
  · exact absurd q (by decide)
  · exact absurd q (by decide)
  subst q
  subst hg1
  rw [if_neg (by decide)] at m3
  obtain ⟨x2, m4, t6, m5, m6, -, m7⟩ := m3
  have hR := xg_r 0 hJ.r
  unfold relzU_confirm_1_2 at hU
  rw [xs_swept_5 hR] at hU
  have hsame : x2 = 0 → r = 0 → gz = g → tz 0 0 = 0 ∧ r = a ∧ xJ (n + 1) gz tz := by
    intro h1 h2 h3
    rw [if_pos h1] at m5
    rw [h3, m7, m5, m6, h1, h2]
    exact ⟨xg_0 _ _, rfl, xJ_gm 0 hJ⟩
  by_cases c1 : qzM_swept_5 (xg t 0) = 0
  · rw [if_pos c1] at hU m4
    exact hsame m4 hU.1 hU.2.2
  · rw [if_neg c1] at hU m4
    have k1 := hR.h6
    have k2 := hR.h7
    unfold qzK_hasHealthyHeads_2 at hU
    by_cases c2 : g 18 2 = 0
    · rw [if_pos c2] at k1
      rw [if_pos c2, if_pos rfl] at hU
      rw [k1, if_neg (by decide)] at m4
      exact hsame m4 hU.1 hU.2.2
    · rw [if_neg c2] at k1
      rw [k1, if_pos rfl] at m4
      by_cases c3 : g 18 3 = 0
      · rw [if_pos c3] at k2
        rw [if_neg c2, if_pos c3, if_pos rfl] at hU
        rw [k2, if_neg (by decide)] at m4
        exact hsame m4 hU.1 hU.2.2
      · rw [if_neg c3] at k2
        rw [if_neg c2, if_neg c3, if_neg (by decide)] at hU
        rw [k2, if_pos rfl] at m4
        subst m4
        rw [if_neg (by decide)] at m5
        obtain ⟨g1, u1, g2, u2, u3, -, u4⟩ := hU
        obtain ⟨t2, w2, t3, w3, t4, w4, t5, m9, w5⟩ := m5
        subst w2; subst w3; subst w4; subst u1
        have R : xr (va_up g 24 (upd (upd (upd (g 24) 1 qzS_reset_a1) 3 qzS_reset_a3) 4 qzS_reset_a4)) (va_up (va_up (va_up (xg t 0) 5 (upd ((xg t 0) 5) 5 0)) 3 (upd ((va_up (xg t 0) 5 (upd ((xg t 0) 5) 5 0)) 3) 5 0)) 6 (upd ((va_up (va_up (xg t 0) 5 (upd ((xg t 0) 5) 5 0)) 3 (upd ((va_up (xg t 0) 5 (upd ((xg t 0) 5) 5 0)) 3) 5 0)) 6) 5 0)) := by
          exact xr.mk hR.b0 hR.a0 hR.d0 hR.k0 hR.b1 hR.a1 hR.d1 hR.k1 hR.b2 hR.a2 hR.d2 hR.k2 hR.b3 hR.a3 hR.d3 hR.k3 hR.b4 hR.a4 hR.d4 hR.k4 (by simp [va_up, upd, hR.b5, qzS_reset_a1, qzS_reset_a3, qzS_reset_a4]) hR.a5 (by simp [va_up, upd, hR.d5, qzS_reset_a1, qzS_reset_a3, qzS_reset_a4]) (by simp [va_up, upd, hR.k5, qzS_reset_a1, qzS_reset_a3, qzS_reset_a4]) hR.p0 hR.p1 hR.p2 hR.p3 hR.p4 hR.p5 hR.p6 hR.p7 hR.c0 hR.c1 hR.c2 hR.c3 hR.o0 hR.s0 hR.o1 hR.s1 hR.po0 hR.pb0 hR.mo0 hR.ze0 hR.st0 hR.al0 hR.po1 hR.pb1 hR.mo1 hR.ze1 hR.st1 hR.al1 hR.li0 hR.de0 hR.da0 hR.li1 hR.de1 hR.da1 hR.li2 hR.de2 hR.da2 hR.step hR.age hR.quiet hR.many hR.time hR.night hR.bell hR.h0 hR.h1 hR.h2 hR.h3 hR.h4 hR.h5 hR.h6 hR.h7 hR.nc0 hR.nc1 hR.nc2 hR.i0 hR.j0 hR.m0 hR.n0 hR.i1 hR.j1 hR.m1 hR.n1 hR.i2 hR.j2 hR.m2 hR.n2 hR.i3 hR.j3 hR.m3 hR.n3 hR.i4 hR.j4 hR.m4 hR.n4 (by simp [va_up, upd, hR.i5, qzS_reset_a1, qzS_reset_a3, qzS_reset_a4]) (by simp [va_up, upd, hR.j5, qzS_reset_a1, qzS_reset_a3, qzS_reset_a4]) (by simp [va_up, upd, hR.m5, qzS_reset_a1, qzS_reset_a3, qzS_reset_a4]) (by simp [va_up, upd, hR.n5, qzS_reset_a1, qzS_reset_a3, qzS_reset_a4]) hR.nu0 hR.nu1 hR.nu2 hR.nu3 hR.nu4 hR.nu5 hR.jt hR.jk hR.jw hR.yh0 hR.yh1 hR.yh2 hR.yh3 hR.yh4 hR.yh5 hR.yh6 hR.yh7 hR.yc0 hR.yc1 hR.yc2 hR.yo0 hR.yo1
        have hB2 : xk_cnt (26000 * n) (va_up (va_up (va_up (xg t 0) 5 (upd ((xg t 0) 5) 5 0)) 3 (upd ((va_up (xg t 0) 5 (upd ((xg t 0) 5) 5 0)) 3) 5 0)) 6 (upd ((va_up (va_up (xg t 0) 5 (upd ((xg t 0) 5) 5 0)) 3 (upd ((va_up (xg t 0) 5 (upd ((xg t 0) 5) 5 0)) 3) 5 0)) 6) 5 0)) := xk_cnt_k (by decide) (xk_cnt_k (by decide) (xk_cnt_k (by decide) (xg_c 0 hJ.c)))
        have R3 := xr_note R hB2 (by omega) m9
        rw [R.nu5] at u2
        have hkp : xk_kept (va_up (va_up (va_up (va_up (va_up g 24 (upd (upd (upd (g 24) 1 qzS_reset_a1) 3 qzS_reset_a3) 4 qzS_reset_a4)) 5 (upd ((va_up g 24 (upd (upd (upd (g 24) 1 qzS_reset_a1) 3 qzS_reset_a3) 4 qzS_reset_a4)) 5) 3 (qzJ_add_a3 ((va_up g 24 (upd (upd (upd (g 24) 1 qzS_reset_a1) 3 qzS_reset_a3) 4 qzS_reset_a4)) 5 3)))) 6 (qzJ_add_b ((va_up g 24 (upd (upd (upd (g 24) 1 qzS_reset_a1) 3 qzS_reset_a3) 4 qzS_reset_a4)) 5 3) ((va_up g 24 (upd (upd (upd (g 24) 1 qzS_reset_a1) 3 qzS_reset_a3) 4 qzS_reset_a4)) 6) ((va_up g 24 (upd (upd (upd (g 24) 1 qzS_reset_a1) 3 qzS_reset_a3) 4 qzS_reset_a4)) 0 5))) 7 (qzJ_add_c ((va_up g 24 (upd (upd (upd (g 24) 1 qzS_reset_a1) 3 qzS_reset_a3) 4 qzS_reset_a4)) 5 3) ((va_up g 24 (upd (upd (upd (g 24) 1 qzS_reset_a1) 3 qzS_reset_a3) 4 qzS_reset_a4)) 7) 2)) 8 (qzJ_add_d ((va_up g 24 (upd (upd (upd (g 24) 1 qzS_reset_a1) 3 qzS_reset_a3) 4 qzS_reset_a4)) 5 3) ((va_up g 24 (upd (upd (upd (g 24) 1 qzS_reset_a1) 3 qzS_reset_a3) 4 qzS_reset_a4)) 8) 5)) := xk_kept_up (xk_kept_up (xk_kept_up (xk_kept_up (xk_kept_up hJ.p (by decide) (by decide)) (by decide) (by decide)) (by decide) (by decide)) (by decide) (by decide)) (by decide) (by decide)
        refine ⟨?_, ?_, ?_⟩
        · rw [m7, w5, xr_nf0 m9 0 (by decide)]; exact xg_0 t 0
        · rw [u3, m6]
        · rw [u4, u2, m7, w5]
          exact xJ_step (xJ_g 0 hJ) R3 (xk_cnt_le (xr_nc hB2 m9) (by omega)) (xi_pn_reset (r := 5) (xJ_g 0 hJ).n (funext (fun j => xr_nf m9 1 j (by decide) (by decide) (by decide) (by decide))) (funext (fun j => xr_nf m9 3 j (by decide) (by decide) (by decide) (by decide))) (fun j q => by rw [xr_nf m9 5 j (by decide) (by decide) (by decide) (by decide)]; exact if_neg q)) hkp (fun c hc => funext (fun j => (xr_nf m9 c j (by rintro rfl; exact absurd hc (by decide)) (by rintro rfl; exact absurd hc (by decide)) (by rintro rfl; exact absurd hc (by decide)) (by rintro rfl; exact absurd hc (by decide))).trans (by simp only [List.mem_cons, List.not_mem_nil, or_false] at hc; rcases hc with rfl | rfl | rfl | rfl | rfl | rfl | rfl <;> rfl))) ((xr_nf0 m9 27 (by decide)).trans rfl) (fun c hc => by simp only [List.mem_cons, List.not_mem_nil, or_false] at hc; rcases hc with rfl | rfl | rfl | rfl <;> rfl) rfl rfl (by simp [qzU_gatherOutput, va_up, upd])
theorem pt_confirm_5 {n : Nat} {g t tz : xk_St} {k2 a : Int32} (hJ : xJ n g t) (ha : t 6 5 = 0 ∨ t 6 5 = k2) (hM : relzM_confirm_1_2 t k2 a tz) : tz 0 0 = 2 ∧ xJ (n + 1) g tz := by
  obtain ⟨x1, m1, r2, t1, m2, m3⟩ := hM
  have hx : x1 = 0 := by
    by_cases q : t 6 5 = 0
    · rw [if_pos q] at m1; exact m1
    · rw [if_neg q, if_pos (ha.resolve_left q)] at m1; exact m1
  subst hx
  rcases xg_goes m2 with ⟨q, -⟩ | ⟨-, -, q, hg1⟩ | ⟨-, q, -⟩ | ⟨-, q, -⟩
  · exact absurd q (by decide)
  · rw [if_pos q] at m3
    rw [m3.2.2, hg1]
    exact ⟨xg_0 _ _, xJ_gm 2 hJ⟩
  · exact absurd rfl q
  · exact absurd rfl q
theorem pf_section_5_0 {n : Nat} {g t tz : xk_St} {a : Int32} (hJ : xJ n g t) (hM : relzM_section_1_2 t 0 a tz) : tz 0 0 = 0 ∧ qzU_section_1_2_0 g = a ∧ xJ (n + 1) g tz := by
  obtain ⟨x1, m1, r2, t1, m2, m3⟩ := hM
  rw [if_neg (by decide), if_neg (by decide)] at m1
  subst m1
  rcases xg_goes m2 with ⟨q, -⟩ | ⟨-, q, -⟩ | ⟨-, -, q, -⟩ | ⟨-, -, -, q, hg1⟩
  · exact absurd q (by decide)
  · exact absurd q (by decide)
  · exact absurd q (by decide)
  subst q
  subst hg1
  have hR := xg_r 0 hJ.r
  rw [if_neg (by decide), if_pos rfl] at m3
  obtain ⟨x2, m4, m5, m6⟩ := m3
  rw [m5, m6]
  refine ⟨xg_0 _ _, ?_, xJ_gm 0 hJ⟩
  show qzS_state (g 24 1) (g 24 3) = x2
  unfold qzS_state
  rw [hR.b5, hR.d5]
  by_cases q1 : (xg t 0) 5 5 = 0
  · rw [if_pos q1] at m4 ⊢; exact (xd_pick m4).symm
  · rw [if_neg q1] at m4 ⊢; exact m4.symm
theorem pf_section_5_1 {n : Nat} {g t tz : xk_St} {a : Int32} (hJ : xJ n g t) (hM : relzM_section_1_2 t 1 a tz) : tz 0 0 = 0 ∧ qzU_section_1_2_1 g = a ∧ xJ (n + 1) g tz := by
  obtain ⟨x1, m1, r2, t1, m2, m3⟩ := hM
  rw [if_neg (by decide), if_neg (by decide)] at m1
  subst m1
  rcases xg_goes m2 with ⟨q, -⟩ | ⟨-, q, -⟩ | ⟨-, -, q, -⟩ | ⟨-, -, -, q, hg1⟩
  · exact absurd q (by decide)
  · exact absurd q (by decide)
  · exact absurd q (by decide)
  subst q
  subst hg1
  have hR := xg_r 0 hJ.r
  rw [if_neg (by decide), if_neg (by decide), if_pos rfl] at m3
  rw [m3.1, m3.2]
  exact ⟨xg_0 _ _, hR.b5, xJ_gm 0 hJ⟩
theorem pf_section_5_2 {n : Nat} {g t tz : xk_St} {a : Int32} (hJ : xJ n g t) (hM : relzM_section_1_2 t 2 a tz) : tz 0 0 = 0 ∧ qzU_section_1_2_2 g = a ∧ xJ (n + 1) g tz := by
  obtain ⟨x1, m1, r2, t1, m2, m3⟩ := hM
  rw [if_neg (by decide), if_neg (by decide)] at m1
  subst m1
  rcases xg_goes m2 with ⟨q, -⟩ | ⟨-, q, -⟩ | ⟨-, -, q, -⟩ | ⟨-, -, -, q, hg1⟩
  · exact absurd q (by decide)
  · exact absurd q (by decide)
  · exact absurd q (by decide)
  subst q
  subst hg1
  have hR := xg_r 0 hJ.r
  rw [if_neg (by decide), if_neg (by decide), if_neg (by decide), if_pos rfl] at m3
  obtain ⟨x2, m4, m5, m6⟩ := m3
  rw [m5, m6]
  refine ⟨xg_0 _ _, ?_, xJ_gm 0 hJ⟩
  show (if (qzS_isSwept (g 24 4) (g 24 5) (g 24 6) (g 24 7) (g 24 8)) = 0 then 0 else 1 : Int32) = x2
  rw [xs_swept_5 hR]
  exact (xd_pick m4).symm
theorem pf_section_5_3 {n : Nat} {g t tz : xk_St} {a : Int32} (hJ : xJ n g t) (hM : relzM_section_1_2 t 3 a tz) : tz 0 0 = 0 ∧ qzU_section_1_2_3 g = a ∧ xJ (n + 1) g tz := by
  obtain ⟨x1, m1, r2, t1, m2, m3⟩ := hM
  rw [if_neg (by decide), if_neg (by decide)] at m1
  subst m1
  rcases xg_goes m2 with ⟨q, -⟩ | ⟨-, q, -⟩ | ⟨-, -, q, -⟩ | ⟨-, -, -, q, hg1⟩
  · exact absurd q (by decide)
  · exact absurd q (by decide)
  · exact absurd q (by decide)
  subst q
  subst hg1
  have hR := xg_r 0 hJ.r
  rw [if_neg (by decide), if_neg (by decide), if_neg (by decide), if_neg (by decide)] at m3
  rw [m3.1, m3.2]
  exact ⟨xg_0 _ _, hR.k5, xJ_gm 0 hJ⟩
theorem pt_section_5 {n : Nat} {g t tz : xk_St} {k2 a : Int32} (hJ : xJ n g t) (h1 : k2 < 0 ∨ 3 < k2) (hM : relzM_section_1_2 t k2 a tz) : tz 0 0 = 2 ∧ xJ (n + 1) g tz := by
  obtain ⟨x1, m1, r2, t1, m2, m3⟩ := hM
  have hx : x1 = 0 := by
    by_cases q : k2 < 0
    · rw [if_pos q] at m1; exact m1
    · rw [if_neg q, if_pos (h1.resolve_left q)] at m1; exact m1
  subst hx
  rcases xg_goes m2 with ⟨q, -⟩ | ⟨-, -, q, hg1⟩ | ⟨-, q, -⟩ | ⟨-, q, -⟩
  · exact absurd q (by decide)
  · rw [if_pos q] at m3
    rw [m3.2, hg1]
    exact ⟨xg_0 _ _, xJ_gm 2 hJ⟩
  · exact absurd rfl q
  · exact absurd rfl q
theorem pf_earliest_0 {n : Nat} {g t tz : xk_St} {a : Int32} (hJ : xJ n g t) (hM : relzM_earliest_0 t a tz) : tz 0 0 = 0 ∧ qzU_earliest_0 g = a ∧ xJ (n + 1) g tz := by
  obtain ⟨r2, t1, m1, x1, m2, m3, m4⟩ := hM
  have m1 := xg_goes1 m1
  subst m1
  have hR := xg_r 0 hJ.r
  rw [m3, m4]
  refine ⟨xg_0 _ _, ?_, xJ_gm 0 hJ⟩
  unfold qzU_earliest_0
  rw [hR.c0, hR.c1]
  by_cases q1 : (xg t 0) 11 0 = -1
  · rw [if_pos q1] at m2 ⊢; exact m2.symm
  · rw [if_neg q1] at m2 ⊢
    by_cases q2 : (xg t 0) 11 1 = -1
    · rw [if_pos q2] at m2 ⊢; exact m2.symm
    · rw [if_neg q2] at m2 ⊢
      by_cases q3 : (xg t 0) 11 1 < (xg t 0) 11 0
      · rw [if_pos (Int32.le_of_lt q3)] at m2
        rw [if_pos q3]; exact m2.symm
      · rw [if_neg q3]
        by_cases q4 : (xg t 0) 11 1 ≤ (xg t 0) 11 0
        · rw [if_pos q4] at m2
          rw [m2]
          exact Int32.le_antisymm (xk_ge q3) q4
        · rw [if_neg q4] at m2
          exact m2.symm
theorem pf_earliest_1 {n : Nat} {g t tz : xk_St} {a : Int32} (hJ : xJ n g t) (hM : relzM_earliest_1 t a tz) : tz 0 0 = 0 ∧ qzU_earliest_1 g = a ∧ xJ (n + 1) g tz := by
  obtain ⟨r2, t1, m1, x1, m2, m3, m4⟩ := hM
  have m1 := xg_goes1 m1
  subst m1
  have hR := xg_r 0 hJ.r
  rw [m3, m4]
  refine ⟨xg_0 _ _, ?_, xJ_gm 0 hJ⟩
  unfold qzU_earliest_1
  rw [hR.c2, hR.c3]
  by_cases q1 : (xg t 0) 11 2 = -1
  · rw [if_pos q1] at m2 ⊢; exact m2.symm
  · rw [if_neg q1] at m2 ⊢
    by_cases q2 : (xg t 0) 11 3 = -1
    · rw [if_pos q2] at m2 ⊢; exact m2.symm
    · rw [if_neg q2] at m2 ⊢
      by_cases q3 : (xg t 0) 11 3 < (xg t 0) 11 2
      · rw [if_pos (Int32.le_of_lt q3)] at m2
        rw [if_pos q3]; exact m2.symm
      · rw [if_neg q3]
        by_cases q4 : (xg t 0) 11 3 ≤ (xg t 0) 11 2
        · rw [if_pos q4] at m2
          rw [m2]
          exact Int32.le_antisymm (xk_ge q3) q4
        · rw [if_neg q4] at m2
          exact m2.symm
theorem pf_about_0 {n : Nat} {g t tz : xk_St} {a : Int32} (hJ : xJ n g t) (hM : relzM_about t 0 a tz) : tz 0 0 = 0 ∧ qzU_about_0 g = a ∧ xJ (n + 1) g tz := by
  obtain ⟨x1, m1, r2, t1, m2, m3⟩ := hM
  rw [if_neg (by decide), if_neg (by decide)] at m1
  subst m1
  rcases xg_goes m2 with ⟨q, -⟩ | ⟨-, q, -⟩ | ⟨-, -, q, -⟩ | ⟨-, -, -, q, hg1⟩
  · exact absurd q (by decide)
  · exact absurd q (by decide)
  · exact absurd q (by decide)
  subst q
  subst hg1
  have hR := xg_r 0 hJ.r
  rw [if_neg (by decide), if_pos rfl] at m3
  rw [m3.1, m3.2]
  exact ⟨xg_0 _ _, hR.step, xJ_gm 0 hJ⟩
theorem pf_about_1 {n : Nat} {g t tz : xk_St} {a : Int32} (hJ : xJ n g t) (hM : relzM_about t 1 a tz) : tz 0 0 = 0 ∧ qzU_about_1 g = a ∧ xJ (n + 1) g tz := by
  obtain ⟨x1, m1, r2, t1, m2, m3⟩ := hM
  rw [if_neg (by decide), if_neg (by decide)] at m1
  subst m1
  rcases xg_goes m2 with ⟨q, -⟩ | ⟨-, q, -⟩ | ⟨-, -, q, -⟩ | ⟨-, -, -, q, hg1⟩
  · exact absurd q (by decide)
  · exact absurd q (by decide)
  · exact absurd q (by decide)
  subst q
  subst hg1
  have hR := xg_r 0 hJ.r
  rw [if_neg (by decide), if_neg (by decide), if_pos rfl] at m3
  rw [m3.1, m3.2]
  exact ⟨xg_0 _ _, hR.age, xJ_gm 0 hJ⟩
theorem pf_about_2 {n : Nat} {g t tz : xk_St} {a : Int32} (hJ : xJ n g t) (hM : relzM_about t 2 a tz) : tz 0 0 = 0 ∧ qzU_about_2 g = a ∧ xJ (n + 1) g tz := by
  obtain ⟨x1, m1, r2, t1, m2, m3⟩ := hM
  rw [if_neg (by decide), if_neg (by decide)] at m1
  subst m1
  rcases xg_goes m2 with ⟨q, -⟩ | ⟨-, q, -⟩ | ⟨-, -, q, -⟩ | ⟨-, -, -, q, hg1⟩
  · exact absurd q (by decide)
  · exact absurd q (by decide)
  · exact absurd q (by decide)
  subst q
  subst hg1
  have hR := xg_r 0 hJ.r
  rw [if_neg (by decide), if_neg (by decide), if_neg (by decide), if_pos rfl] at m3
  rw [m3.1, m3.2]
  exact ⟨xg_0 _ _, hR.quiet, xJ_gm 0 hJ⟩
theorem pf_about_3 {n : Nat} {g t tz : xk_St} {a : Int32} (hJ : xJ n g t) (hM : relzM_about t 3 a tz) : tz 0 0 = 0 ∧ qzU_about_3 g = a ∧ xJ (n + 1) g tz := by
  obtain ⟨x1, m1, r2, t1, m2, m3⟩ := hM
  rw [if_neg (by decide), if_neg (by decide)] at m1
  subst m1
  rcases xg_goes m2 with ⟨q, -⟩ | ⟨-, q, -⟩ | ⟨-, -, q, -⟩ | ⟨-, -, -, q, hg1⟩
  · exact absurd q (by decide)
  · exact absurd q (by decide)
  · exact absurd q (by decide)
  subst q
  subst hg1
  have hR := xg_r 0 hJ.r
  rw [if_neg (by decide), if_neg (by decide), if_neg (by decide), if_neg (by decide), if_pos rfl] at m3
  obtain ⟨x2, m4, m5, m6⟩ := m3
  rw [m5, m6]
  refine ⟨xg_0 _ _, ?_, xJ_gm 0 hJ⟩
  show (if (g 0 9) = 0 then 0 else 1 : Int32) = x2
  rw [(xJ_g 0 hJ).pr]
  exact (xd_pick m4).symm
theorem pf_about_4 {n : Nat} {g t tz : xk_St} {a : Int32} (hJ : xJ n g t) (hM : relzM_about t 4 a tz) : tz 0 0 = 0 ∧ qzU_about_4 g = a ∧ xJ (n + 1) g tz := by
  obtain ⟨x1, m1, r2, t1, m2, m3⟩ := hM
  rw [if_neg (by decide), if_neg (by decide)] at m1
  subst m1
  rcases xg_goes m2 with ⟨q, -⟩ | ⟨-, q, -⟩ | ⟨-, -, q, -⟩ | ⟨-, -, -, q, hg1⟩
  · exact absurd q (by decide)
  · exact absurd q (by decide)
  · exact absurd q (by decide)
  subst q
  subst hg1
  have hR := xg_r 0 hJ.r
  rw [if_neg (by decide), if_neg (by decide), if_neg (by decide), if_neg (by decide), if_neg (by decide), if_pos rfl] at m3
  obtain ⟨x2, m4, m5, m6⟩ := m3
  rw [m5, m6]
  exact ⟨xg_0 _ _, hJ.o.trans (sim_output hR m4).symm, xJ_gm 0 hJ⟩
theorem pf_about_5 {n : Nat} {g t tz : xk_St} {a : Int32} (hJ : xJ n g t) (hM : relzM_about t 5 a tz) : tz 0 0 = 0 ∧ qzU_about_5 g = a ∧ xJ (n + 1) g tz := by
  obtain ⟨x1, m1, r2, t1, m2, m3⟩ := hM
  rw [if_neg (by decide), if_neg (by decide)] at m1
  subst m1
  rcases xg_goes m2 with ⟨q, -⟩ | ⟨-, q, -⟩ | ⟨-, -, q, -⟩ | ⟨-, -, -, q, hg1⟩
  · exact absurd q (by decide)
  · exact absurd q (by decide)
  · exact absurd q (by decide)
  subst q
  subst hg1
  have hR := xg_r 0 hJ.r
  rw [if_neg (by decide), if_neg (by decide), if_neg (by decide), if_neg (by decide), if_neg (by decide), if_neg (by decide), if_pos rfl] at m3
  rw [m3.1, m3.2]
  exact ⟨xg_0 _ _, hR.time, xJ_gm 0 hJ⟩
theorem pf_about_6 {n : Nat} {g t tz : xk_St} {a : Int32} (hJ : xJ n g t) (hM : relzM_about t 6 a tz) : tz 0 0 = 0 ∧ qzU_about_6 g = a ∧ xJ (n + 1) g tz := by
  obtain ⟨x1, m1, r2, t1, m2, m3⟩ := hM
  rw [if_neg (by decide), if_neg (by decide)] at m1
  subst m1
  rcases xg_goes m2 with ⟨q, -⟩ | ⟨-, q, -⟩ | ⟨-, -, q, -⟩ | ⟨-, -, -, q, hg1⟩
  · exact absurd q (by decide)
  · exact absurd q (by decide)
  · exact absurd q (by decide)
  subst q
  subst hg1
  have hR := xg_r 0 hJ.r
  rw [if_neg (by decide), if_neg (by decide), if_neg (by decide), if_neg (by decide), if_neg (by decide), if_neg (by decide), if_neg (by decide), if_pos rfl] at m3
  rw [m3.1, m3.2]
  exact ⟨xg_0 _ _, hR.st0, xJ_gm 0 hJ⟩
theorem pf_about_7 {n : Nat} {g t tz : xk_St} {a : Int32} (hJ : xJ n g t) (hM : relzM_about t 7 a tz) : tz 0 0 = 0 ∧ qzU_about_7 g = a ∧ xJ (n + 1) g tz := by
  obtain ⟨x1, m1, r2, t1, m2, m3⟩ := hM
  rw [if_neg (by decide), if_neg (by decide)] at m1
  subst m1
  rcases xg_goes m2 with ⟨q, -⟩ | ⟨-, q, -⟩ | ⟨-, -, q, -⟩ | ⟨-, -, -, q, hg1⟩
  · exact absurd q (by decide)
  · exact absurd q (by decide)
  · exact absurd q (by decide)
  subst q
  subst hg1
  have hR := xg_r 0 hJ.r
  rw [if_neg (by decide), if_neg (by decide), if_neg (by decide), if_neg (by decide), if_neg (by decide), if_neg (by decide), if_neg (by decide), if_neg (by decide), if_pos rfl] at m3
  rw [m3.1, m3.2]
  exact ⟨xg_0 _ _, hR.st1, xJ_gm 0 hJ⟩
theorem pf_about_8 {n : Nat} {g t tz : xk_St} {a : Int32} (hJ : xJ n g t) (hM : relzM_about t 8 a tz) : tz 0 0 = 0 ∧ qzU_about_8 g = a ∧ xJ (n + 1) g tz := by
  obtain ⟨x1, m1, r2, t1, m2, m3⟩ := hM
  rw [if_neg (by decide), if_neg (by decide)] at m1
  subst m1
  rcases xg_goes m2 with ⟨q, -⟩ | ⟨-, q, -⟩ | ⟨-, -, q, -⟩ | ⟨-, -, -, q, hg1⟩
  · exact absurd q (by decide)
  · exact absurd q (by decide)
  · exact absurd q (by decide)
  subst q
  subst hg1
  have hR := xg_r 0 hJ.r
  rw [if_neg (by decide), if_neg (by decide), if_neg (by decide), if_neg (by decide), if_neg (by decide), if_neg (by decide), if_neg (by decide), if_neg (by decide), if_neg (by decide), if_pos rfl] at m3
  obtain ⟨x3, m4, x4, m5, x5, m6, m7, m8⟩ := m3
  rw [m7, m8]
  refine ⟨xg_0 _ _, ?_, xJ_gm 0 hJ⟩
  show qzU_deadLamps g = _
  unfold qzU_deadLamps
  rw [hR.de0, hR.de1, hR.de2]
  by_cases q1 : (xg t 0) 23 0 = 0 <;> by_cases q2 : (xg t 0) 23 1 = 0 <;> by_cases q3 : (xg t 0) 23 2 = 0 <;> simp only [q1, q2, q3, if_true, if_false] at m4 m5 m6 ⊢ <;> subst m4 <;> subst m5 <;> subst m6 <;> decide
theorem pf_about_9 {n : Nat} {g t tz : xk_St} {a : Int32} (hJ : xJ n g t) (hM : relzM_about t 9 a tz) : tz 0 0 = 0 ∧ qzU_about_9 g = a ∧ xJ (n + 1) g tz := by
  obtain ⟨x1, m1, r2, t1, m2, m3⟩ := hM
  rw [if_neg (by decide), if_neg (by decide)] at m1
  subst m1
  rcases xg_goes m2 with ⟨q, -⟩ | ⟨-, q, -⟩ | ⟨-, -, q, -⟩ | ⟨-, -, -, q, hg1⟩
  · exact absurd q (by decide)
  · exact absurd q (by decide)
  · exact absurd q (by decide)
  subst q
  subst hg1
  have hR := xg_r 0 hJ.r
  rw [if_neg (by decide), if_neg (by decide), if_neg (by decide), if_neg (by decide), if_neg (by decide), if_neg (by decide), if_neg (by decide), if_neg (by decide), if_neg (by decide), if_neg (by decide), if_pos rfl] at m3
  obtain ⟨x3, m4, x4, m5, m7, m8⟩ := m3
  rw [m7, m8]
  refine ⟨xg_0 _ _, ?_, xJ_gm 0 hJ⟩
  show qzU_standingOrders g = _
  unfold qzU_standingOrders
  rw [hR.o0, hR.o1]
  by_cases q1 : (xg t 0) 13 0 = 0 <;> by_cases q2 : (xg t 0) 13 1 = 0 <;> simp only [q1, q2, if_true, if_false] at m4 m5 ⊢ <;> subst m4 <;> subst m5 <;> decide
theorem pf_about_10 {n : Nat} {g t tz : xk_St} {a : Int32} (hJ : xJ n g t) (hM : relzM_about t 10 a tz) : tz 0 0 = 0 ∧ qzU_about_10 g = a ∧ xJ (n + 1) g tz := by
  obtain ⟨x1, m1, r2, t1, m2, m3⟩ := hM
  rw [if_neg (by decide), if_neg (by decide)] at m1
  subst m1
  rcases xg_goes m2 with ⟨q, -⟩ | ⟨-, q, -⟩ | ⟨-, -, q, -⟩ | ⟨-, -, -, q, hg1⟩
  · exact absurd q (by decide)
  · exact absurd q (by decide)
  · exact absurd q (by decide)
  subst q
  subst hg1
  have hR := xg_r 0 hJ.r
  rw [if_neg (by decide), if_neg (by decide), if_neg (by decide), if_neg (by decide), if_neg (by decide), if_neg (by decide), if_neg (by decide), if_neg (by decide), if_neg (by decide), if_neg (by decide), if_neg (by decide)] at m3
  rw [m3.1, m3.2]
  exact ⟨xg_0 _ _, hR.many, xJ_gm 0 hJ⟩
theorem pt_about {n : Nat} {g t tz : xk_St} {k0 a : Int32} (hJ : xJ n g t) (h1 : k0 < 0 ∨ 10 < k0) (hM : relzM_about t k0 a tz) : tz 0 0 = 1 ∧ xJ (n + 1) g tz := by
  obtain ⟨x1, m1, r2, t1, m2, m3⟩ := hM
  have hx : x1 = 0 := by
    by_cases q : k0 < 0
    · rw [if_pos q] at m1; exact m1
    · rw [if_neg q, if_pos (h1.resolve_left q)] at m1; exact m1
  subst hx
  rcases xg_goes m2 with ⟨-, q, hg1⟩ | ⟨q, -⟩ | ⟨q, -⟩ | ⟨q, -⟩
  · rw [if_pos q] at m3
    rw [m3.2, hg1]
    exact ⟨xg_0 _ _, xJ_gm 1 hJ⟩
  · exact absurd rfl q
  · exact absurd rfl q
  · exact absurd rfl q
theorem pf_event_0 {n : Nat} {g t tz : xk_St} {k0 a : Int32} (hJ : xJ n g t) (h01 : ¬ k0 < 0) (hM : relzM_event_ok t k0 0 a tz) : tz 0 0 = 0 ∧ qzU_event_0 g k0 = a ∧ xJ (n + 1) g tz := by
  obtain ⟨x1, m1, r2, t1, m2, m3⟩ := hM
  rw [if_neg (by decide), if_neg (by decide)] at m1
  subst m1
  rcases xg_goes m2 with ⟨q, -⟩ | ⟨-, q, -⟩ | ⟨-, -, q, -⟩ | ⟨-, -, -, q, hg1⟩
  · exact absurd q (by decide)
  · exact absurd q (by decide)
  · exact absurd q (by decide)
  subst q
  subst hg1
  have hR := xg_r 0 hJ.r
  rw [if_neg (by decide)] at m3
  obtain ⟨x2, m4, m5, m6⟩ := m3
  rw [if_pos rfl] at m4
  rw [m5, m6]
  refine ⟨xg_0 _ _, ?_, xJ_gm 0 hJ⟩
  unfold qzU_event_0
  rw [m4, xs_idx h01, hR.jt]
theorem pf_event_1 {n : Nat} {g t tz : xk_St} {k0 a : Int32} (hJ : xJ n g t) (h01 : ¬ k0 < 0) (hM : relzM_event_ok t k0 1 a tz) : tz 0 0 = 0 ∧ qzU_event_1 g k0 = a ∧ xJ (n + 1) g tz := by
  obtain ⟨x1, m1, r2, t1, m2, m3⟩ := hM
  rw [if_neg (by decide), if_neg (by decide)] at m1
  subst m1
  rcases xg_goes m2 with ⟨q, -⟩ | ⟨-, q, -⟩ | ⟨-, -, q, -⟩ | ⟨-, -, -, q, hg1⟩
  · exact absurd q (by decide)
  · exact absurd q (by decide)
  · exact absurd q (by decide)
  subst q
  subst hg1
  have hR := xg_r 0 hJ.r
  rw [if_neg (by decide)] at m3
  obtain ⟨x2, m4, m5, m6⟩ := m3
  rw [if_neg (by decide), if_pos rfl] at m4
  rw [m5, m6]
  refine ⟨xg_0 _ _, ?_, xJ_gm 0 hJ⟩
  unfold qzU_event_1
  rw [m4, xs_idx h01, hR.jk]
theorem pf_event_2 {n : Nat} {g t tz : xk_St} {k0 a : Int32} (hJ : xJ n g t) (h01 : ¬ k0 < 0) (hM : relzM_event_ok t k0 2 a tz) : tz 0 0 = 0 ∧ qzU_event_2 g k0 = a ∧ xJ (n + 1) g tz := by
  obtain ⟨x1, m1, r2, t1, m2, m3⟩ := hM
  rw [if_neg (by decide), if_neg (by decide)] at m1
  subst m1
  rcases xg_goes m2 with ⟨q, -⟩ | ⟨-, q, -⟩ | ⟨-, -, q, -⟩ | ⟨-, -, -, q, hg1⟩
  · exact absurd q (by decide)
  · exact absurd q (by decide)
  · exact absurd q (by decide)
  subst q
  subst hg1
  have hR := xg_r 0 hJ.r
  rw [if_neg (by decide)] at m3
  obtain ⟨x2, m4, m5, m6⟩ := m3
  rw [if_neg (by decide), if_neg (by decide)] at m4
  rw [m5, m6]
  refine ⟨xg_0 _ _, ?_, xJ_gm 0 hJ⟩
  unfold qzU_event_2
  rw [m4, xs_idx h01, hR.jw]
theorem pt_event {n : Nat} {g t tz : xk_St} {k0 k1 a : Int32} (hJ : xJ n g t) (h1 : k1 < 0 ∨ 2 < k1) (hM : relzM_event_ok t k0 k1 a tz) : tz 0 0 = 2 ∧ xJ (n + 1) g tz := by
  obtain ⟨x1, m1, r2, t1, m2, m3⟩ := hM
  have hx : x1 = 0 := by
    by_cases q : k1 < 0
    · rw [if_pos q] at m1; exact m1
    · rw [if_neg q, if_pos (h1.resolve_left q)] at m1; exact m1
  subst hx
  rcases xg_goes m2 with ⟨q, -⟩ | ⟨-, -, q, hg1⟩ | ⟨-, q, -⟩ | ⟨-, q, -⟩
  · exact absurd q (by decide)
  · rw [if_pos q] at m3
    rw [m3.2, hg1]
    exact ⟨xg_0 _ _, xJ_gm 2 hJ⟩
  · exact absurd rfl q
  · exact absurd rfl q
