theorem xo_congr {g g1 : xk_St} (h : ∀ c : Nat, c ∈ [0, 9, 10, 29, 30, 31, 32, 33] → g1 c = g c) : qzU_gatherOutput g1 = qzU_gatherOutput g := by
  unfold qzU_gatherOutput
  rw [h 0 (by decide), h 9 (by decide), h 10 (by decide), h 29 (by decide), h 30 (by decide), h 31 (by decide), h 32 (by decide), h 33 (by decide)]
theorem xk_kept_pa {g : xk_St} {k : Int32} (j : Nat) (hk : xk_p k) (h : xk_kept g) : xk_kept (va_up g 15 (upd (g 15) j k)) := fun i => by
  rw [xv_eq, xv_ne (by decide)]
  refine ⟨?_, (h i).2⟩
  by_cases q : i = j
  · rw [show upd (g 15) j k i = k from if_pos q]; exact hk
  · rw [show upd (g 15) j k i = g 15 i from if_neg q]; exact (h i).1
theorem xk_kept_pb {g : xk_St} {k : Int32} (j : Nat) (hk : xk_p k) (h : xk_kept g) : xk_kept (va_up g 16 (upd (g 16) j k)) := fun i => by
  rw [xv_eq, xv_ne (by decide)]
  refine ⟨(h i).1, ?_⟩
  by_cases q : i = j
  · rw [show upd (g 16) j k i = k from if_pos q]; exact hk
  · rw [show upd (g 16) j k i = g 16 i from if_neg q]; exact (h i).2
theorem xb_neg {a b k x y : Int32} (ha : xk_b a) (hb : b = if a = 0 then 1 else 0) (hk : xk_b k) (h1 : if a = k then (x = 0) else (x = 1)) (h2 : if b = k then (y = 1) else (y = 0)) : x = y := by
  rcases ha with rfl | rfl <;> rcases hk with rfl | rfl <;> simp_all
/-- since (g0, t0): alike again, and what the call may not touch stands as it stood -/
def xS (B : Nat) (g0 t0 g t : xk_St) : Prop := t 0 0 = t0 0 0 ∧ xr g t ∧ xk_cnt B t ∧ t 1 = t0 1 ∧ t 3 = t0 3 ∧ (∀ j : Nat, t0 5 j ≠ 0 → t 5 j ≠ 0) ∧ (∀ c : Nat, c ∈ [11, 16, 17, 18, 19, 22, 23] → t c = t0 c) ∧ (∀ c : Nat, c ∈ [0, 9, 10, 15, 16, 25, 26, 27, 28, 29, 30, 31, 32, 33] → g c = g0 c)
theorem xJ_S {n : Nat} {g0 t0 g t : xk_St} (h : xJ n g0 t0) (hS : xS (26000 * n + 3) g0 t0 g t) : xJ (n + 1) g t := by
  obtain ⟨-, R, C, e1, e3, e5, F, E⟩ := hS
  refine xJ_step h R C (xi_pn_of h.n e1 e3 e5) (fun j => ?_) F ?_ (fun c hc => E c (by revert hc; revert c; decide)) ?_ ?_ (xo_congr (fun c hc => E c (by revert hc; revert c; decide)))
  · rw [E 15 (by decide), E 16 (by decide)]; exact h.p j
  · rw [← R.time, ← h.r.time, E 0 (by decide)]
  · rw [E 0 (by decide)]
  · rw [E 0 (by decide)]
theorem xS_le {A B : Nat} {g0 t0 g t : xk_St} (h : xS A g0 t0 g t) (hAB : A ≤ B) : xS B g0 t0 g t := by
  obtain ⟨e0, R, C, e⟩ := h
  exact ⟨e0, R, xk_cnt_le C hAB, e⟩
theorem xS_dis_0 {B : Nat} {g0 t0 g t gz tz : xk_St} (h : xS B g0 t0 g t) (hB : B < 2147483647) (hU : relzU_disturb_0 g gz) (hM : relzM_disturb_0 t tz) : xS (B + 1) g0 t0 gz tz := by
  obtain ⟨e0, R, C, e1, e3, e5, F, E⟩ := h
  obtain ⟨a, b, c, d, e, -⟩ := sim_dis_0 R C hB hU hM
  have f1 := frzM_disturb_0 _ _ hM
  have f2 := frzU_disturb_0 _ _ hU
  have z : tz 0 0 = t 0 0 := by
    obtain ⟨t3, hM, rfl⟩ := hM
    by_cases q : t 5 0 = 0
    · rw [if_pos q] at hM
      obtain ⟨t1, rfl, t2, h2, rfl⟩ := hM
      rw [xr_nf0 h2 0 (by decide)]; rfl
    · rw [if_neg q] at hM
      rw [hM]
  exact ⟨z.trans e0, a, b, c.trans e1, d.trans e3, fun j hj => e j (e5 j hj), fun c hc => (f1 c (by revert hc; revert c; decide)).trans (F c hc), fun c hc => (f2 c (by revert hc; revert c; decide)).trans (E c hc)⟩
theorem xS_dis_1 {B : Nat} {g0 t0 g t gz tz : xk_St} (h : xS B g0 t0 g t) (hB : B < 2147483647) (hU : relzU_disturb_1 g gz) (hM : relzM_disturb_1 t tz) : xS (B + 1) g0 t0 gz tz := by
  obtain ⟨e0, R, C, e1, e3, e5, F, E⟩ := h
  obtain ⟨a, b, c, d, e, -⟩ := sim_dis_1 R C hB hU hM
  have f1 := frzM_disturb_1 _ _ hM
  have f2 := frzU_disturb_1 _ _ hU
  have z : tz 0 0 = t 0 0 := by
    obtain ⟨t3, hM, rfl⟩ := hM
    by_cases q : t 5 1 = 0
    · rw [if_pos q] at hM
      obtain ⟨t1, rfl, t2, h2, rfl⟩ := hM
      rw [xr_nf0 h2 0 (by decide)]; rfl
    · rw [if_neg q] at hM
      rw [hM]
  exact ⟨z.trans e0, a, b, c.trans e1, d.trans e3, fun j hj => e j (e5 j hj), fun c hc => (f1 c (by revert hc; revert c; decide)).trans (F c hc), fun c hc => (f2 c (by revert hc; revert c; decide)).trans (E c hc)⟩
theorem xS_dis_2 {B : Nat} {g0 t0 g t gz tz : xk_St} (h : xS B g0 t0 g t) (hB : B < 2147483647) (hU : relzU_disturb_2 g gz) (hM : relzM_disturb_2 t tz) : xS (B + 1) g0 t0 gz tz := by
  obtain ⟨e0, R, C, e1, e3, e5, F, E⟩ := h
  obtain ⟨a, b, c, d, e, -⟩ := sim_dis_2 R C hB hU hM
  have f1 := frzM_disturb_2 _ _ hM
  have f2 := frzU_disturb_2 _ _ hU
  have z : tz 0 0 = t 0 0 := by
    obtain ⟨t3, hM, rfl⟩ := hM
    by_cases q : t 5 2 = 0
    · rw [if_pos q] at hM
      obtain ⟨t1, rfl, t2, h2, rfl⟩ := hM
      rw [xr_nf0 h2 0 (by decide)]; rfl
    · rw [if_neg q] at hM
      rw [hM]
  exact ⟨z.trans e0, a, b, c.trans e1, d.trans e3, fun j hj => e j (e5 j hj), fun c hc => (f1 c (by revert hc; revert c; decide)).trans (F c hc), fun c hc => (f2 c (by revert hc; revert c; decide)).trans (E c hc)⟩
theorem xS_dis_3 {B : Nat} {g0 t0 g t gz tz : xk_St} (h : xS B g0 t0 g t) (hB : B < 2147483647) (hU : relzU_disturb_3 g gz) (hM : relzM_disturb_3 t tz) : xS (B + 1) g0 t0 gz tz := by
  obtain ⟨e0, R, C, e1, e3, e5, F, E⟩ := h
  obtain ⟨a, b, c, d, e, -⟩ := sim_dis_3 R C hB hU hM
  have f1 := frzM_disturb_3 _ _ hM
  have f2 := frzU_disturb_3 _ _ hU
  have z : tz 0 0 = t 0 0 := by
    obtain ⟨t3, hM, rfl⟩ := hM
    by_cases q : t 5 3 = 0
    · rw [if_pos q] at hM
      obtain ⟨t1, rfl, t2, h2, rfl⟩ := hM
      rw [xr_nf0 h2 0 (by decide)]; rfl
    · rw [if_neg q] at hM
      rw [hM]
  exact ⟨z.trans e0, a, b, c.trans e1, d.trans e3, fun j hj => e j (e5 j hj), fun c hc => (f1 c (by revert hc; revert c; decide)).trans (F c hc), fun c hc => (f2 c (by revert hc; revert c; decide)).trans (E c hc)⟩
theorem xS_dis_4 {B : Nat} {g0 t0 g t gz tz : xk_St} (h : xS B g0 t0 g t) (hB : B < 2147483647) (hU : relzU_disturb_4 g gz) (hM : relzM_disturb_4 t tz) : xS (B + 1) g0 t0 gz tz := by
  obtain ⟨e0, R, C, e1, e3, e5, F, E⟩ := h
  obtain ⟨a, b, c, d, e, -⟩ := sim_dis_4 R C hB hU hM
  have f1 := frzM_disturb_4 _ _ hM
  have f2 := frzU_disturb_4 _ _ hU
  have z : tz 0 0 = t 0 0 := by
    obtain ⟨t3, hM, rfl⟩ := hM
    by_cases q : t 5 4 = 0
    · rw [if_pos q] at hM
      obtain ⟨t1, rfl, t2, h2, rfl⟩ := hM
      rw [xr_nf0 h2 0 (by decide)]; rfl
    · rw [if_neg q] at hM
      rw [hM]
  exact ⟨z.trans e0, a, b, c.trans e1, d.trans e3, fun j hj => e j (e5 j hj), fun c hc => (f1 c (by revert hc; revert c; decide)).trans (F c hc), fun c hc => (f2 c (by revert hc; revert c; decide)).trans (E c hc)⟩
theorem xS_dis_5 {B : Nat} {g0 t0 g t gz tz : xk_St} (h : xS B g0 t0 g t) (hB : B < 2147483647) (hU : relzU_disturb_5 g gz) (hM : relzM_disturb_5 t tz) : xS (B + 1) g0 t0 gz tz := by
  obtain ⟨e0, R, C, e1, e3, e5, F, E⟩ := h
  obtain ⟨a, b, c, d, e, -⟩ := sim_dis_5 R C hB hU hM
  have f1 := frzM_disturb_5 _ _ hM
  have f2 := frzU_disturb_5 _ _ hU
  have z : tz 0 0 = t 0 0 := by
    obtain ⟨t3, hM, rfl⟩ := hM
    by_cases q : t 5 5 = 0
    · rw [if_pos q] at hM
      obtain ⟨t1, rfl, t2, h2, rfl⟩ := hM
      rw [xr_nf0 h2 0 (by decide)]; rfl
    · rw [if_neg q] at hM
      rw [hM]
  exact ⟨z.trans e0, a, b, c.trans e1, d.trans e3, fun j hj => e j (e5 j hj), fun c hc => (f1 c (by revert hc; revert c; decide)).trans (F c hc), fun c hc => (f2 c (by revert hc; revert c; decide)).trans (E c hc)⟩
theorem pf_pulse_bad {n : Nat} {g t tz : xk_St} {k2 : Int32} (hJ : xJ n g t) (hM : relzM_pulse_bad t k2 tz) : tz 0 0 = 1 ∧ xJ (n + 1) g tz := by
  obtain ⟨x1, -, r2, t1, m1, rfl⟩ := hM
  rw [xg_goes0 m1]
  exact ⟨xg_0 _ _, xJ_gm 1 hJ⟩
theorem pf_pulse_0 {n : Nat} {g gz t tz : xk_St} {k2 : Int32} (hJ : xJ n g t) (hk : k2 = 1 ∨ k2 = -1) (h0 : t 1 0 = 0) (hU : gz = va_up g 15 (upd (g 15) 0 k2)) (hM : relzM_pulse_0_0 t k2 tz) : tz 0 0 = 0 ∧ xJ (n + 1) gz tz := by
  obtain ⟨x1, m1, x2, m2, r2, t1, m3, t3, m4, rfl⟩ := hM
  have hp : xk_p k2 := Or.inr hk
  have hx1 : x1 = 1 := by
    rcases hk with rfl | rfl
    · exact m1
    · exact m1
  rw [if_pos h0] at m2
  subst hx1; subst m2
  rcases xg_goes m3 with ⟨q, -⟩ | ⟨-, q, -⟩ | ⟨-, -, q, -⟩ | ⟨-, -, -, q, hg1⟩
  · exact absurd q (by decide)
  · exact absurd q (by decide)
  · exact absurd q (by decide)
  subst q
  rw [if_neg (by decide)] at m4
  obtain ⟨t2, m5, m6⟩ := m4
  have R : xr (va_up g 15 (upd (g 15) 0 k2)) (va_up (xg t 0) 1 (upd ((xg t 0) 1) 0 k2)) := by
    have hR := xg_r 0 hJ.r
    exact xr.mk hR.b0 hR.a0 hR.d0 hR.k0 hR.b1 hR.a1 hR.d1 hR.k1 hR.b2 hR.a2 hR.d2 hR.k2 hR.b3 hR.a3 hR.d3 hR.k3 hR.b4 hR.a4 hR.d4 hR.k4 hR.b5 hR.a5 hR.d5 hR.k5 (by simp [va_up, upd, hR.p0]) (by simp [va_up, upd, hR.p1]) (by simp [va_up, upd, hR.p2]) (by simp [va_up, upd, hR.p3]) hR.p4 hR.p5 hR.p6 hR.p7 hR.c0 hR.c1 hR.c2 hR.c3 hR.o0 hR.s0 hR.o1 hR.s1 hR.po0 hR.pb0 hR.mo0 hR.ze0 hR.st0 hR.al0 hR.po1 hR.pb1 hR.mo1 hR.ze1 hR.st1 hR.al1 hR.li0 hR.de0 hR.da0 hR.li1 hR.de1 hR.da1 hR.li2 hR.de2 hR.da2 hR.step hR.age hR.quiet hR.many hR.time hR.night hR.bell hR.h0 hR.h1 hR.h2 hR.h3 hR.h4 hR.h5 hR.h6 hR.h7 hR.nc0 hR.nc1 hR.nc2 hR.i0 hR.j0 hR.m0 hR.n0 hR.i1 hR.j1 hR.m1 hR.n1 hR.i2 hR.j2 hR.m2 hR.n2 hR.i3 hR.j3 hR.m3 hR.n3 hR.i4 hR.j4 hR.m4 hR.n4 hR.i5 hR.j5 hR.m5 hR.n5 hR.nu0 hR.nu1 hR.nu2 hR.nu3 hR.nu4 hR.nu5 hR.jt hR.jk hR.jw hR.yh0 hR.yh1 hR.yh2 hR.yh3 hR.yh4 hR.yh5 hR.yh6 hR.yh7 hR.yc0 hR.yc1 hR.yc2 hR.yo0 hR.yo1
  rw [m6, m5, hg1, hU]
  exact ⟨xg_0 t 0, xJ_step (xJ_g 0 hJ) R (xk_cnt_k (by decide) (xk_cnt_le (xg_c 0 hJ.c) (by omega))) (xi_pn_pulse (H := 0) (k := k2) (xJ_g 0 hJ).n xv_eq rfl rfl) (xk_kept_pa 0 hp hJ.p) (fun c hc => xv_ne (by rintro rfl; exact absurd hc (by decide))) rfl (fun c hc => xv_ne (by rintro rfl; exact absurd hc (by decide))) rfl rfl rfl⟩
theorem pt_pulse_0_d {n : Nat} {g t tz : xk_St} {k2 : Int32} (hJ : xJ n g t) (h1 : ¬ k2 = 1) (h2 : ¬ k2 = -1) (hM : relzM_pulse_0_0 t k2 tz) : tz 0 0 = 2 ∧ xJ (n + 1) g tz := by
  obtain ⟨x1, m1, x2, m2, r2, t1, m3, t3, m4, rfl⟩ := hM
  rw [if_neg h1, if_neg h2] at m1
  subst m1
  rcases xg_goes m3 with ⟨q, -⟩ | ⟨-, -, q, hg1⟩ | ⟨-, q, -⟩ | ⟨-, q, -⟩
  · exact absurd q (by decide)
  · rw [if_pos q] at m4
    rw [m4, hg1]
    exact ⟨xg_0 _ _, xJ_gm 2 hJ⟩
  · exact absurd rfl q
  · exact absurd rfl q
theorem pt_pulse_0_k {n : Nat} {g t tz : xk_St} {k2 : Int32} (hJ : xJ n g t) (hk : k2 = 1 ∨ k2 = -1) (h0 : ¬ t 1 0 = 0) (hM : relzM_pulse_0_0 t k2 tz) : tz 0 0 = 3 ∧ xJ (n + 1) g tz := by
  obtain ⟨x1, m1, x2, m2, r2, t1, m3, t3, m4, rfl⟩ := hM
  have hx1 : x1 = 1 := by
    rcases hk with rfl | rfl
    · exact m1
    · exact m1
  rw [if_neg h0] at m2
  subst hx1; subst m2
  rcases xg_goes m3 with ⟨q, -⟩ | ⟨-, q, -⟩ | ⟨-, -, -, q, hg1⟩ | ⟨-, -, q, -⟩
  · exact absurd q (by decide)
  · exact absurd q (by decide)
  · rw [if_pos q] at m4
    rw [m4, hg1]
    exact ⟨xg_0 _ _, xJ_gm 3 hJ⟩
  · exact absurd rfl q
theorem pf_pulse_1 {n : Nat} {g gz t tz : xk_St} {k2 : Int32} (hJ : xJ n g t) (hk : k2 = 1 ∨ k2 = -1) (h0 : t 1 1 = 0) (hU : gz = va_up g 15 (upd (g 15) 1 k2)) (hM : relzM_pulse_0_1 t k2 tz) : tz 0 0 = 0 ∧ xJ (n + 1) gz tz := by
  obtain ⟨x1, m1, x2, m2, r2, t1, m3, t3, m4, rfl⟩ := hM
  have hp : xk_p k2 := Or.inr hk
  have hx1 : x1 = 1 := by
    rcases hk with rfl | rfl
    · exact m1
    · exact m1
  rw [if_pos h0] at m2
  subst hx1; subst m2
  rcases xg_goes m3 with ⟨q, -⟩ | ⟨-, q, -⟩ | ⟨-, -, q, -⟩ | ⟨-, -, -, q, hg1⟩
  · exact absurd q (by decide)
  · exact absurd q (by decide)
  · exact absurd q (by decide)
  subst q
  rw [if_neg (by decide)] at m4
  obtain ⟨t2, m5, m6⟩ := m4
  have R : xr (va_up g 15 (upd (g 15) 1 k2)) (va_up (xg t 0) 1 (upd ((xg t 0) 1) 1 k2)) := by
    have hR := xg_r 0 hJ.r
    exact xr.mk hR.b0 hR.a0 hR.d0 hR.k0 hR.b1 hR.a1 hR.d1 hR.k1 hR.b2 hR.a2 hR.d2 hR.k2 hR.b3 hR.a3 hR.d3 hR.k3 hR.b4 hR.a4 hR.d4 hR.k4 hR.b5 hR.a5 hR.d5 hR.k5 (by simp [va_up, upd, hR.p0]) (by simp [va_up, upd, hR.p1]) (by simp [va_up, upd, hR.p2]) (by simp [va_up, upd, hR.p3]) hR.p4 hR.p5 hR.p6 hR.p7 hR.c0 hR.c1 hR.c2 hR.c3 hR.o0 hR.s0 hR.o1 hR.s1 hR.po0 hR.pb0 hR.mo0 hR.ze0 hR.st0 hR.al0 hR.po1 hR.pb1 hR.mo1 hR.ze1 hR.st1 hR.al1 hR.li0 hR.de0 hR.da0 hR.li1 hR.de1 hR.da1 hR.li2 hR.de2 hR.da2 hR.step hR.age hR.quiet hR.many hR.time hR.night hR.bell hR.h0 hR.h1 hR.h2 hR.h3 hR.h4 hR.h5 hR.h6 hR.h7 hR.nc0 hR.nc1 hR.nc2 hR.i0 hR.j0 hR.m0 hR.n0 hR.i1 hR.j1 hR.m1 hR.n1 hR.i2 hR.j2 hR.m2 hR.n2 hR.i3 hR.j3 hR.m3 hR.n3 hR.i4 hR.j4 hR.m4 hR.n4 hR.i5 hR.j5 hR.m5 hR.n5 hR.nu0 hR.nu1 hR.nu2 hR.nu3 hR.nu4 hR.nu5 hR.jt hR.jk hR.jw hR.yh0 hR.yh1 hR.yh2 hR.yh3 hR.yh4 hR.yh5 hR.yh6 hR.yh7 hR.yc0 hR.yc1 hR.yc2 hR.yo0 hR.yo1
  rw [m6, m5, hg1, hU]
  exact ⟨xg_0 t 0, xJ_step (xJ_g 0 hJ) R (xk_cnt_k (by decide) (xk_cnt_le (xg_c 0 hJ.c) (by omega))) (xi_pn_pulse (H := 1) (k := k2) (xJ_g 0 hJ).n xv_eq rfl rfl) (xk_kept_pa 1 hp hJ.p) (fun c hc => xv_ne (by rintro rfl; exact absurd hc (by decide))) rfl (fun c hc => xv_ne (by rintro rfl; exact absurd hc (by decide))) rfl rfl rfl⟩
theorem pt_pulse_1_d {n : Nat} {g t tz : xk_St} {k2 : Int32} (hJ : xJ n g t) (h1 : ¬ k2 = 1) (h2 : ¬ k2 = -1) (hM : relzM_pulse_0_1 t k2 tz) : tz 0 0 = 2 ∧ xJ (n + 1) g tz := by
  obtain ⟨x1, m1, x2, m2, r2, t1, m3, t3, m4, rfl⟩ := hM
  rw [if_neg h1, if_neg h2] at m1
  subst m1
  rcases xg_goes m3 with ⟨q, -⟩ | ⟨-, -, q, hg1⟩ | ⟨-, q, -⟩ | ⟨-, q, -⟩
  · exact absurd q (by decide)
  · rw [if_pos q] at m4
    rw [m4, hg1]
    exact ⟨xg_0 _ _, xJ_gm 2 hJ⟩
  · exact absurd rfl q
  · exact absurd rfl q
theorem pt_pulse_1_k {n : Nat} {g t tz : xk_St} {k2 : Int32} (hJ : xJ n g t) (hk : k2 = 1 ∨ k2 = -1) (h0 : ¬ t 1 1 = 0) (hM : relzM_pulse_0_1 t k2 tz) : tz 0 0 = 3 ∧ xJ (n + 1) g tz := by
  obtain ⟨x1, m1, x2, m2, r2, t1, m3, t3, m4, rfl⟩ := hM
  have hx1 : x1 = 1 := by
    rcases hk with rfl | rfl
    · exact m1
    · exact m1
  rw [if_neg h0] at m2
  subst hx1; subst m2
  rcases xg_goes m3 with ⟨q, -⟩ | ⟨-, q, -⟩ | ⟨-, -, -, q, hg1⟩ | ⟨-, -, q, -⟩
  · exact absurd q (by decide)
  · exact absurd q (by decide)
  · rw [if_pos q] at m4
    rw [m4, hg1]
    exact ⟨xg_0 _ _, xJ_gm 3 hJ⟩
  · exact absurd rfl q
theorem pf_pulse_2 {n : Nat} {g gz t tz : xk_St} {k2 : Int32} (hJ : xJ n g t) (hk : k2 = 1 ∨ k2 = -1) (h0 : t 1 2 = 0) (hU : gz = va_up g 15 (upd (g 15) 2 k2)) (hM : relzM_pulse_0_2 t k2 tz) : tz 0 0 = 0 ∧ xJ (n + 1) gz tz := by
  obtain ⟨x1, m1, x2, m2, r2, t1, m3, t3, m4, rfl⟩ := hM
  have hp : xk_p k2 := Or.inr hk
  have hx1 : x1 = 1 := by
    rcases hk with rfl | rfl
    · exact m1
    · exact m1
  rw [if_pos h0] at m2
  subst hx1; subst m2
  rcases xg_goes m3 with ⟨q, -⟩ | ⟨-, q, -⟩ | ⟨-, -, q, -⟩ | ⟨-, -, -, q, hg1⟩
  · exact absurd q (by decide)
  · exact absurd q (by decide)
  · exact absurd q (by decide)
  subst q
  rw [if_neg (by decide)] at m4
  obtain ⟨t2, m5, m6⟩ := m4
  have R : xr (va_up g 15 (upd (g 15) 2 k2)) (va_up (xg t 0) 1 (upd ((xg t 0) 1) 2 k2)) := by
    have hR := xg_r 0 hJ.r
    exact xr.mk hR.b0 hR.a0 hR.d0 hR.k0 hR.b1 hR.a1 hR.d1 hR.k1 hR.b2 hR.a2 hR.d2 hR.k2 hR.b3 hR.a3 hR.d3 hR.k3 hR.b4 hR.a4 hR.d4 hR.k4 hR.b5 hR.a5 hR.d5 hR.k5 (by simp [va_up, upd, hR.p0]) (by simp [va_up, upd, hR.p1]) (by simp [va_up, upd, hR.p2]) (by simp [va_up, upd, hR.p3]) hR.p4 hR.p5 hR.p6 hR.p7 hR.c0 hR.c1 hR.c2 hR.c3 hR.o0 hR.s0 hR.o1 hR.s1 hR.po0 hR.pb0 hR.mo0 hR.ze0 hR.st0 hR.al0 hR.po1 hR.pb1 hR.mo1 hR.ze1 hR.st1 hR.al1 hR.li0 hR.de0 hR.da0 hR.li1 hR.de1 hR.da1 hR.li2 hR.de2 hR.da2 hR.step hR.age hR.quiet hR.many hR.time hR.night hR.bell hR.h0 hR.h1 hR.h2 hR.h3 hR.h4 hR.h5 hR.h6 hR.h7 hR.nc0 hR.nc1 hR.nc2 hR.i0 hR.j0 hR.m0 hR.n0 hR.i1 hR.j1 hR.m1 hR.n1 hR.i2 hR.j2 hR.m2 hR.n2 hR.i3 hR.j3 hR.m3 hR.n3 hR.i4 hR.j4 hR.m4 hR.n4 hR.i5 hR.j5 hR.m5 hR.n5 hR.nu0 hR.nu1 hR.nu2 hR.nu3 hR.nu4 hR.nu5 hR.jt hR.jk hR.jw hR.yh0 hR.yh1 hR.yh2 hR.yh3 hR.yh4 hR.yh5 hR.yh6 hR.yh7 hR.yc0 hR.yc1 hR.yc2 hR.yo0 hR.yo1
  rw [m6, m5, hg1, hU]
  exact ⟨xg_0 t 0, xJ_step (xJ_g 0 hJ) R (xk_cnt_k (by decide) (xk_cnt_le (xg_c 0 hJ.c) (by omega))) (xi_pn_pulse (H := 2) (k := k2) (xJ_g 0 hJ).n xv_eq rfl rfl) (xk_kept_pa 2 hp hJ.p) (fun c hc => xv_ne (by rintro rfl; exact absurd hc (by decide))) rfl (fun c hc => xv_ne (by rintro rfl; exact absurd hc (by decide))) rfl rfl rfl⟩
theorem pt_pulse_2_d {n : Nat} {g t tz : xk_St} {k2 : Int32} (hJ : xJ n g t) (h1 : ¬ k2 = 1) (h2 : ¬ k2 = -1) (hM : relzM_pulse_0_2 t k2 tz) : tz 0 0 = 2 ∧ xJ (n + 1) g tz := by
  obtain ⟨x1, m1, x2, m2, r2, t1, m3, t3, m4, rfl⟩ := hM
  rw [if_neg h1, if_neg h2] at m1
  subst m1
  rcases xg_goes m3 with ⟨q, -⟩ | ⟨-, -, q, hg1⟩ | ⟨-, q, -⟩ | ⟨-, q, -⟩
  · exact absurd q (by decide)
  · rw [if_pos q] at m4
    rw [m4, hg1]
    exact ⟨xg_0 _ _, xJ_gm 2 hJ⟩
  · exact absurd rfl q
  · exact absurd rfl q
theorem pt_pulse_2_k {n : Nat} {g t tz : xk_St} {k2 : Int32} (hJ : xJ n g t) (hk : k2 = 1 ∨ k2 = -1) (h0 : ¬ t 1 2 = 0) (hM : relzM_pulse_0_2 t k2 tz) : tz 0 0 = 3 ∧ xJ (n + 1) g tz := by
  obtain ⟨x1, m1, x2, m2, r2, t1, m3, t3, m4, rfl⟩ := hM
  have hx1 : x1 = 1 := by
    rcases hk with rfl | rfl
    · exact m1
    · exact m1
  rw [if_neg h0] at m2
  subst hx1; subst m2
  rcases xg_goes m3 with ⟨q, -⟩ | ⟨-, q, -⟩ | ⟨-, -, -, q, hg1⟩ | ⟨-, -, q, -⟩
  · exact absurd q (by decide)
  · exact absurd q (by decide)
  · rw [if_pos q] at m4
    rw [m4, hg1]
    exact ⟨xg_0 _ _, xJ_gm 3 hJ⟩
  · exact absurd rfl q
theorem pf_pulse_3 {n : Nat} {g gz t tz : xk_St} {k2 : Int32} (hJ : xJ n g t) (hk : k2 = 1 ∨ k2 = -1) (h0 : t 1 3 = 0) (hU : gz = va_up g 15 (upd (g 15) 3 k2)) (hM : relzM_pulse_0_3 t k2 tz) : tz 0 0 = 0 ∧ xJ (n + 1) gz tz := by
  obtain ⟨x1, m1, x2, m2, r2, t1, m3, t3, m4, rfl⟩ := hM
  have hp : xk_p k2 := Or.inr hk
  have hx1 : x1 = 1 := by
    rcases hk with rfl | rfl
    · exact m1
    · exact m1
  rw [if_pos h0] at m2
  subst hx1; subst m2
  rcases xg_goes m3 with ⟨q, -⟩ | ⟨-, q, -⟩ | ⟨-, -, q, -⟩ | ⟨-, -, -, q, hg1⟩
  · exact absurd q (by decide)
  · exact absurd q (by decide)
  · exact absurd q (by decide)
  subst q
  rw [if_neg (by decide)] at m4
  obtain ⟨t2, m5, m6⟩ := m4
  have R : xr (va_up g 15 (upd (g 15) 3 k2)) (va_up (xg t 0) 1 (upd ((xg t 0) 1) 3 k2)) := by
    have hR := xg_r 0 hJ.r
    exact xr.mk hR.b0 hR.a0 hR.d0 hR.k0 hR.b1 hR.a1 hR.d1 hR.k1 hR.b2 hR.a2 hR.d2 hR.k2 hR.b3 hR.a3 hR.d3 hR.k3 hR.b4 hR.a4 hR.d4 hR.k4 hR.b5 hR.a5 hR.d5 hR.k5 (by simp [va_up, upd, hR.p0]) (by simp [va_up, upd, hR.p1]) (by simp [va_up, upd, hR.p2]) (by simp [va_up, upd, hR.p3]) hR.p4 hR.p5 hR.p6 hR.p7 hR.c0 hR.c1 hR.c2 hR.c3 hR.o0 hR.s0 hR.o1 hR.s1 hR.po0 hR.pb0 hR.mo0 hR.ze0 hR.st0 hR.al0 hR.po1 hR.pb1 hR.mo1 hR.ze1 hR.st1 hR.al1 hR.li0 hR.de0 hR.da0 hR.li1 hR.de1 hR.da1 hR.li2 hR.de2 hR.da2 hR.step hR.age hR.quiet hR.many hR.time hR.night hR.bell hR.h0 hR.h1 hR.h2 hR.h3 hR.h4 hR.h5 hR.h6 hR.h7 hR.nc0 hR.nc1 hR.nc2 hR.i0 hR.j0 hR.m0 hR.n0 hR.i1 hR.j1 hR.m1 hR.n1 hR.i2 hR.j2 hR.m2 hR.n2 hR.i3 hR.j3 hR.m3 hR.n3 hR.i4 hR.j4 hR.m4 hR.n4 hR.i5 hR.j5 hR.m5 hR.n5 hR.nu0 hR.nu1 hR.nu2 hR.nu3 hR.nu4 hR.nu5 hR.jt hR.jk hR.jw hR.yh0 hR.yh1 hR.yh2 hR.yh3 hR.yh4 hR.yh5 hR.yh6 hR.yh7 hR.yc0 hR.yc1 hR.yc2 hR.yo0 hR.yo1
  rw [m6, m5, hg1, hU]
  exact ⟨xg_0 t 0, xJ_step (xJ_g 0 hJ) R (xk_cnt_k (by decide) (xk_cnt_le (xg_c 0 hJ.c) (by omega))) (xi_pn_pulse (H := 3) (k := k2) (xJ_g 0 hJ).n xv_eq rfl rfl) (xk_kept_pa 3 hp hJ.p) (fun c hc => xv_ne (by rintro rfl; exact absurd hc (by decide))) rfl (fun c hc => xv_ne (by rintro rfl; exact absurd hc (by decide))) rfl rfl rfl⟩
theorem pt_pulse_3_d {n : Nat} {g t tz : xk_St} {k2 : Int32} (hJ : xJ n g t) (h1 : ¬ k2 = 1) (h2 : ¬ k2 = -1) (hM : relzM_pulse_0_3 t k2 tz) : tz 0 0 = 2 ∧ xJ (n + 1) g tz := by
  obtain ⟨x1, m1, x2, m2, r2, t1, m3, t3, m4, rfl⟩ := hM
  rw [if_neg h1, if_neg h2] at m1
  subst m1
  rcases xg_goes m3 with ⟨q, -⟩ | ⟨-, -, q, hg1⟩ | ⟨-, q, -⟩ | ⟨-, q, -⟩
  · exact absurd q (by decide)
  · rw [if_pos q] at m4
    rw [m4, hg1]
    exact ⟨xg_0 _ _, xJ_gm 2 hJ⟩
  · exact absurd rfl q
  · exact absurd rfl q
theorem pt_pulse_3_k {n : Nat} {g t tz : xk_St} {k2 : Int32} (hJ : xJ n g t) (hk : k2 = 1 ∨ k2 = -1) (h0 : ¬ t 1 3 = 0) (hM : relzM_pulse_0_3 t k2 tz) : tz 0 0 = 3 ∧ xJ (n + 1) g tz := by
  obtain ⟨x1, m1, x2, m2, r2, t1, m3, t3, m4, rfl⟩ := hM
  have hx1 : x1 = 1 := by
    rcases hk with rfl | rfl
    · exact m1
    · exact m1
  rw [if_neg h0] at m2
  subst hx1; subst m2
  rcases xg_goes m3 with ⟨q, -⟩ | ⟨-, q, -⟩ | ⟨-, -, -, q, hg1⟩ | ⟨-, -, q, -⟩
  · exact absurd q (by decide)
  · exact absurd q (by decide)
  · rw [if_pos q] at m4
    rw [m4, hg1]
    exact ⟨xg_0 _ _, xJ_gm 3 hJ⟩
  · exact absurd rfl q
theorem pf_pulse_4 {n : Nat} {g gz t tz : xk_St} {k2 : Int32} (hJ : xJ n g t) (hk : k2 = 1 ∨ k2 = -1) (h0 : t 1 4 = 0) (hU : gz = va_up g 16 (upd (g 16) 0 k2)) (hM : relzM_pulse_1_0 t k2 tz) : tz 0 0 = 0 ∧ xJ (n + 1) gz tz := by
  obtain ⟨x1, m1, x2, m2, r2, t1, m3, t3, m4, rfl⟩ := hM
  have hp : xk_p k2 := Or.inr hk
  have hx1 : x1 = 1 := by
    rcases hk with rfl | rfl
    · exact m1
    · exact m1
  rw [if_pos h0] at m2
  subst hx1; subst m2
  rcases xg_goes m3 with ⟨q, -⟩ | ⟨-, q, -⟩ | ⟨-, -, q, -⟩ | ⟨-, -, -, q, hg1⟩
  · exact absurd q (by decide)
  · exact absurd q (by decide)
  · exact absurd q (by decide)
  subst q
  rw [if_neg (by decide)] at m4
  obtain ⟨t2, m5, m6⟩ := m4
  have R : xr (va_up g 16 (upd (g 16) 0 k2)) (va_up (xg t 0) 1 (upd ((xg t 0) 1) 4 k2)) := by
    have hR := xg_r 0 hJ.r
    exact xr.mk hR.b0 hR.a0 hR.d0 hR.k0 hR.b1 hR.a1 hR.d1 hR.k1 hR.b2 hR.a2 hR.d2 hR.k2 hR.b3 hR.a3 hR.d3 hR.k3 hR.b4 hR.a4 hR.d4 hR.k4 hR.b5 hR.a5 hR.d5 hR.k5 hR.p0 hR.p1 hR.p2 hR.p3 (by simp [va_up, upd, hR.p4]) (by simp [va_up, upd, hR.p5]) (by simp [va_up, upd, hR.p6]) (by simp [va_up, upd, hR.p7]) hR.c0 hR.c1 hR.c2 hR.c3 hR.o0 hR.s0 hR.o1 hR.s1 hR.po0 hR.pb0 hR.mo0 hR.ze0 hR.st0 hR.al0 hR.po1 hR.pb1 hR.mo1 hR.ze1 hR.st1 hR.al1 hR.li0 hR.de0 hR.da0 hR.li1 hR.de1 hR.da1 hR.li2 hR.de2 hR.da2 hR.step hR.age hR.quiet hR.many hR.time hR.night hR.bell hR.h0 hR.h1 hR.h2 hR.h3 hR.h4 hR.h5 hR.h6 hR.h7 hR.nc0 hR.nc1 hR.nc2 hR.i0 hR.j0 hR.m0 hR.n0 hR.i1 hR.j1 hR.m1 hR.n1 hR.i2 hR.j2 hR.m2 hR.n2 hR.i3 hR.j3 hR.m3 hR.n3 hR.i4 hR.j4 hR.m4 hR.n4 hR.i5 hR.j5 hR.m5 hR.n5 hR.nu0 hR.nu1 hR.nu2 hR.nu3 hR.nu4 hR.nu5 hR.jt hR.jk hR.jw hR.yh0 hR.yh1 hR.yh2 hR.yh3 hR.yh4 hR.yh5 hR.yh6 hR.yh7 hR.yc0 hR.yc1 hR.yc2 hR.yo0 hR.yo1
  rw [m6, m5, hg1, hU]
  exact ⟨xg_0 t 0, xJ_step (xJ_g 0 hJ) R (xk_cnt_k (by decide) (xk_cnt_le (xg_c 0 hJ.c) (by omega))) (xi_pn_pulse (H := 4) (k := k2) (xJ_g 0 hJ).n xv_eq rfl rfl) (xk_kept_pb 0 hp hJ.p) (fun c hc => xv_ne (by rintro rfl; exact absurd hc (by decide))) rfl (fun c hc => xv_ne (by rintro rfl; exact absurd hc (by decide))) rfl rfl rfl⟩
theorem pt_pulse_4_d {n : Nat} {g t tz : xk_St} {k2 : Int32} (hJ : xJ n g t) (h1 : ¬ k2 = 1) (h2 : ¬ k2 = -1) (hM : relzM_pulse_1_0 t k2 tz) : tz 0 0 = 2 ∧ xJ (n + 1) g tz := by
  obtain ⟨x1, m1, x2, m2, r2, t1, m3, t3, m4, rfl⟩ := hM
  rw [if_neg h1, if_neg h2] at m1
  subst m1
  rcases xg_goes m3 with ⟨q, -⟩ | ⟨-, -, q, hg1⟩ | ⟨-, q, -⟩ | ⟨-, q, -⟩
  · exact absurd q (by decide)
  · rw [if_pos q] at m4
    rw [m4, hg1]
    exact ⟨xg_0 _ _, xJ_gm 2 hJ⟩
  · exact absurd rfl q
  · exact absurd rfl q
theorem pt_pulse_4_k {n : Nat} {g t tz : xk_St} {k2 : Int32} (hJ : xJ n g t) (hk : k2 = 1 ∨ k2 = -1) (h0 : ¬ t 1 4 = 0) (hM : relzM_pulse_1_0 t k2 tz) : tz 0 0 = 3 ∧ xJ (n + 1) g tz := by
  obtain ⟨x1, m1, x2, m2, r2, t1, m3, t3, m4, rfl⟩ := hM
  have hx1 : x1 = 1 := by
    rcases hk with rfl | rfl
    · exact m1
    · exact m1
  rw [if_neg h0] at m2
  subst hx1; subst m2
  rcases xg_goes m3 with ⟨q, -⟩ | ⟨-, q, -⟩ | ⟨-, -, -, q, hg1⟩ | ⟨-, -, q, -⟩
  · exact absurd q (by decide)
  · exact absurd q (by decide)
  · rw [if_pos q] at m4
    rw [m4, hg1]
    exact ⟨xg_0 _ _, xJ_gm 3 hJ⟩
  · exact absurd rfl q
theorem pf_pulse_5 {n : Nat} {g gz t tz : xk_St} {k2 : Int32} (hJ : xJ n g t) (hk : k2 = 1 ∨ k2 = -1) (h0 : t 1 5 = 0) (hU : gz = va_up g 16 (upd (g 16) 1 k2)) (hM : relzM_pulse_1_1 t k2 tz) : tz 0 0 = 0 ∧ xJ (n + 1) gz tz := by
  obtain ⟨x1, m1, x2, m2, r2, t1, m3, t3, m4, rfl⟩ := hM
  have hp : xk_p k2 := Or.inr hk
  have hx1 : x1 = 1 := by
    rcases hk with rfl | rfl
    · exact m1
    · exact m1
  rw [if_pos h0] at m2
  subst hx1; subst m2
  rcases xg_goes m3 with ⟨q, -⟩ | ⟨-, q, -⟩ | ⟨-, -, q, -⟩ | ⟨-, -, -, q, hg1⟩
  · exact absurd q (by decide)
  · exact absurd q (by decide)
  · exact absurd q (by decide)
  subst q
  rw [if_neg (by decide)] at m4
  obtain ⟨t2, m5, m6⟩ := m4
  have R : xr (va_up g 16 (upd (g 16) 1 k2)) (va_up (xg t 0) 1 (upd ((xg t 0) 1) 5 k2)) := by
    have hR := xg_r 0 hJ.r
    exact xr.mk hR.b0 hR.a0 hR.d0 hR.k0 hR.b1 hR.a1 hR.d1 hR.k1 hR.b2 hR.a2 hR.d2 hR.k2 hR.b3 hR.a3 hR.d3 hR.k3 hR.b4 hR.a4 hR.d4 hR.k4 hR.b5 hR.a5 hR.d5 hR.k5 hR.p0 hR.p1 hR.p2 hR.p3 (by simp [va_up, upd, hR.p4]) (by simp [va_up, upd, hR.p5]) (by simp [va_up, upd, hR.p6]) (by simp [va_up, upd, hR.p7]) hR.c0 hR.c1 hR.c2 hR.c3 hR.o0 hR.s0 hR.o1 hR.s1 hR.po0 hR.pb0 hR.mo0 hR.ze0 hR.st0 hR.al0 hR.po1 hR.pb1 hR.mo1 hR.ze1 hR.st1 hR.al1 hR.li0 hR.de0 hR.da0 hR.li1 hR.de1 hR.da1 hR.li2 hR.de2 hR.da2 hR.step hR.age hR.quiet hR.many hR.time hR.night hR.bell hR.h0 hR.h1 hR.h2 hR.h3 hR.h4 hR.h5 hR.h6 hR.h7 hR.nc0 hR.nc1 hR.nc2 hR.i0 hR.j0 hR.m0 hR.n0 hR.i1 hR.j1 hR.m1 hR.n1 hR.i2 hR.j2 hR.m2 hR.n2 hR.i3 hR.j3 hR.m3 hR.n3 hR.i4 hR.j4 hR.m4 hR.n4 hR.i5 hR.j5 hR.m5 hR.n5 hR.nu0 hR.nu1 hR.nu2 hR.nu3 hR.nu4 hR.nu5 hR.jt hR.jk hR.jw hR.yh0 hR.yh1 hR.yh2 hR.yh3 hR.yh4 hR.yh5 hR.yh6 hR.yh7 hR.yc0 hR.yc1 hR.yc2 hR.yo0 hR.yo1
  rw [m6, m5, hg1, hU]
  exact ⟨xg_0 t 0, xJ_step (xJ_g 0 hJ) R (xk_cnt_k (by decide) (xk_cnt_le (xg_c 0 hJ.c) (by omega))) (xi_pn_pulse (H := 5) (k := k2) (xJ_g 0 hJ).n xv_eq rfl rfl) (xk_kept_pb 1 hp hJ.p) (fun c hc => xv_ne (by rintro rfl; exact absurd hc (by decide))) rfl (fun c hc => xv_ne (by rintro rfl; exact absurd hc (by decide))) rfl rfl rfl⟩
theorem pt_pulse_5_d {n : Nat} {g t tz : xk_St} {k2 : Int32} (hJ : xJ n g t) (h1 : ¬ k2 = 1) (h2 : ¬ k2 = -1) (hM : relzM_pulse_1_1 t k2 tz) : tz 0 0 = 2 ∧ xJ (n + 1) g tz := by
  obtain ⟨x1, m1, x2, m2, r2, t1, m3, t3, m4, rfl⟩ := hM
  rw [if_neg h1, if_neg h2] at m1
  subst m1
  rcases xg_goes m3 with ⟨q, -⟩ | ⟨-, -, q, hg1⟩ | ⟨-, q, -⟩ | ⟨-, q, -⟩
  · exact absurd q (by decide)
  · rw [if_pos q] at m4
    rw [m4, hg1]
    exact ⟨xg_0 _ _, xJ_gm 2 hJ⟩
  · exact absurd rfl q
  · exact absurd rfl q
theorem pt_pulse_5_k {n : Nat} {g t tz : xk_St} {k2 : Int32} (hJ : xJ n g t) (hk : k2 = 1 ∨ k2 = -1) (h0 : ¬ t 1 5 = 0) (hM : relzM_pulse_1_1 t k2 tz) : tz 0 0 = 3 ∧ xJ (n + 1) g tz := by
  obtain ⟨x1, m1, x2, m2, r2, t1, m3, t3, m4, rfl⟩ := hM
  have hx1 : x1 = 1 := by
    rcases hk with rfl | rfl
    · exact m1
    · exact m1
  rw [if_neg h0] at m2
  subst hx1; subst m2
  rcases xg_goes m3 with ⟨q, -⟩ | ⟨-, q, -⟩ | ⟨-, -, -, q, hg1⟩ | ⟨-, -, q, -⟩
  · exact absurd q (by decide)
  · exact absurd q (by decide)
  · rw [if_pos q] at m4
    rw [m4, hg1]
    exact ⟨xg_0 _ _, xJ_gm 3 hJ⟩
  · exact absurd rfl q
theorem pf_pulse_6 {n : Nat} {g gz t tz : xk_St} {k2 : Int32} (hJ : xJ n g t) (hk : k2 = 1 ∨ k2 = -1) (h0 : t 1 6 = 0) (hU : gz = va_up g 16 (upd (g 16) 2 k2)) (hM : relzM_pulse_1_2 t k2 tz) : tz 0 0 = 0 ∧ xJ (n + 1) gz tz := by
  obtain ⟨x1, m1, x2, m2, r2, t1, m3, t3, m4, rfl⟩ := hM
  have hp : xk_p k2 := Or.inr hk
  have hx1 : x1 = 1 := by
    rcases hk with rfl | rfl
    · exact m1
    · exact m1
  rw [if_pos h0] at m2
  subst hx1; subst m2
  rcases xg_goes m3 with ⟨q, -⟩ | ⟨-, q, -⟩ | ⟨-, -, q, -⟩ | ⟨-, -, -, q, hg1⟩
  · exact absurd q (by decide)
  · exact absurd q (by decide)
  · exact absurd q (by decide)
  subst q
  rw [if_neg (by decide)] at m4
  obtain ⟨t2, m5, m6⟩ := m4
  have R : xr (va_up g 16 (upd (g 16) 2 k2)) (va_up (xg t 0) 1 (upd ((xg t 0) 1) 6 k2)) := by
    have hR := xg_r 0 hJ.r
    exact xr.mk hR.b0 hR.a0 hR.d0 hR.k0 hR.b1 hR.a1 hR.d1 hR.k1 hR.b2 hR.a2 hR.d2 hR.k2 hR.b3 hR.a3 hR.d3 hR.k3 hR.b4 hR.a4 hR.d4 hR.k4 hR.b5 hR.a5 hR.d5 hR.k5 hR.p0 hR.p1 hR.p2 hR.p3 (by simp [va_up, upd, hR.p4]) (by simp [va_up, upd, hR.p5]) (by simp [va_up, upd, hR.p6]) (by simp [va_up, upd, hR.p7]) hR.c0 hR.c1 hR.c2 hR.c3 hR.o0 hR.s0 hR.o1 hR.s1 hR.po0 hR.pb0 hR.mo0 hR.ze0 hR.st0 hR.al0 hR.po1 hR.pb1 hR.mo1 hR.ze1 hR.st1 hR.al1 hR.li0 hR.de0 hR.da0 hR.li1 hR.de1 hR.da1 hR.li2 hR.de2 hR.da2 hR.step hR.age hR.quiet hR.many hR.time hR.night hR.bell hR.h0 hR.h1 hR.h2 hR.h3 hR.h4 hR.h5 hR.h6 hR.h7 hR.nc0 hR.nc1 hR.nc2 hR.i0 hR.j0 hR.m0 hR.n0 hR.i1 hR.j1 hR.m1 hR.n1 hR.i2 hR.j2 hR.m2 hR.n2 hR.i3 hR.j3 hR.m3 hR.n3 hR.i4 hR.j4 hR.m4 hR.n4 hR.i5 hR.j5 hR.m5 hR.n5 hR.nu0 hR.nu1 hR.nu2 hR.nu3 hR.nu4 hR.nu5 hR.jt hR.jk hR.jw hR.yh0 hR.yh1 hR.yh2 hR.yh3 hR.yh4 hR.yh5 hR.yh6 hR.yh7 hR.yc0 hR.yc1 hR.yc2 hR.yo0 hR.yo1
  rw [m6, m5, hg1, hU]
  exact ⟨xg_0 t 0, xJ_step (xJ_g 0 hJ) R (xk_cnt_k (by decide) (xk_cnt_le (xg_c 0 hJ.c) (by omega))) (xi_pn_pulse (H := 6) (k := k2) (xJ_g 0 hJ).n xv_eq rfl rfl) (xk_kept_pb 2 hp hJ.p) (fun c hc => xv_ne (by rintro rfl; exact absurd hc (by decide))) rfl (fun c hc => xv_ne (by rintro rfl; exact absurd hc (by decide))) rfl rfl rfl⟩
theorem pt_pulse_6_d {n : Nat} {g t tz : xk_St} {k2 : Int32} (hJ : xJ n g t) (h1 : ¬ k2 = 1) (h2 : ¬ k2 = -1) (hM : relzM_pulse_1_2 t k2 tz) : tz 0 0 = 2 ∧ xJ (n + 1) g tz := by
  obtain ⟨x1, m1, x2, m2, r2, t1, m3, t3, m4, rfl⟩ := hM
  rw [if_neg h1, if_neg h2] at m1
  subst m1
  rcases xg_goes m3 with ⟨q, -⟩ | ⟨-, -, q, hg1⟩ | ⟨-, q, -⟩ | ⟨-, q, -⟩
  · exact absurd q (by decide)
  · rw [if_pos q] at m4
    rw [m4, hg1]
    exact ⟨xg_0 _ _, xJ_gm 2 hJ⟩
  · exact absurd rfl q
  · exact absurd rfl q
theorem pt_pulse_6_k {n : Nat} {g t tz : xk_St} {k2 : Int32} (hJ : xJ n g t) (hk : k2 = 1 ∨ k2 = -1) (h0 : ¬ t 1 6 = 0) (hM : relzM_pulse_1_2 t k2 tz) : tz 0 0 = 3 ∧ xJ (n + 1) g tz := by
  obtain ⟨x1, m1, x2, m2, r2, t1, m3, t3, m4, rfl⟩ := hM
  have hx1 : x1 = 1 := by
    rcases hk with rfl | rfl
    · exact m1
    · exact m1
  rw [if_neg h0] at m2
  subst hx1; subst m2
  rcases xg_goes m3 with ⟨q, -⟩ | ⟨-, q, -⟩ | ⟨-, -, -, q, hg1⟩ | ⟨-, -, q, -⟩
  · exact absurd q (by decide)
  · exact absurd q (by decide)
  · rw [if_pos q] at m4
    rw [m4, hg1]
    exact ⟨xg_0 _ _, xJ_gm 3 hJ⟩
  · exact absurd rfl q
theorem pf_pulse_7 {n : Nat} {g gz t tz : xk_St} {k2 : Int32} (hJ : xJ n g t) (hk : k2 = 1 ∨ k2 = -1) (h0 : t 1 7 = 0) (hU : gz = va_up g 16 (upd (g 16) 3 k2)) (hM : relzM_pulse_1_3 t k2 tz) : tz 0 0 = 0 ∧ xJ (n + 1) gz tz := by
  obtain ⟨x1, m1, x2, m2, r2, t1, m3, t3, m4, rfl⟩ := hM
  have hp : xk_p k2 := Or.inr hk
  have hx1 : x1 = 1 := by
    rcases hk with rfl | rfl
    · exact m1
    · exact m1
  rw [if_pos h0] at m2
  subst hx1; subst m2
  rcases xg_goes m3 with ⟨q, -⟩ | ⟨-, q, -⟩ | ⟨-, -, q, -⟩ | ⟨-, -, -, q, hg1⟩
  · exact absurd q (by decide)
  · exact absurd q (by decide)
  · exact absurd q (by decide)
  subst q
  rw [if_neg (by decide)] at m4
  obtain ⟨t2, m5, m6⟩ := m4
  have R : xr (va_up g 16 (upd (g 16) 3 k2)) (va_up (xg t 0) 1 (upd ((xg t 0) 1) 7 k2)) := by
    have hR := xg_r 0 hJ.r
    exact xr.mk hR.b0 hR.a0 hR.d0 hR.k0 hR.b1 hR.a1 hR.d1 hR.k1 hR.b2 hR.a2 hR.d2 hR.k2 hR.b3 hR.a3 hR.d3 hR.k3 hR.b4 hR.a4 hR.d4 hR.k4 hR.b5 hR.a5 hR.d5 hR.k5 hR.p0 hR.p1 hR.p2 hR.p3 (by simp [va_up, upd, hR.p4]) (by simp [va_up, upd, hR.p5]) (by simp [va_up, upd, hR.p6]) (by simp [va_up, upd, hR.p7]) hR.c0 hR.c1 hR.c2 hR.c3 hR.o0 hR.s0 hR.o1 hR.s1 hR.po0 hR.pb0 hR.mo0 hR.ze0 hR.st0 hR.al0 hR.po1 hR.pb1 hR.mo1 hR.ze1 hR.st1 hR.al1 hR.li0 hR.de0 hR.da0 hR.li1 hR.de1 hR.da1 hR.li2 hR.de2 hR.da2 hR.step hR.age hR.quiet hR.many hR.time hR.night hR.bell hR.h0 hR.h1 hR.h2 hR.h3 hR.h4 hR.h5 hR.h6 hR.h7 hR.nc0 hR.nc1 hR.nc2 hR.i0 hR.j0 hR.m0 hR.n0 hR.i1 hR.j1 hR.m1 hR.n1 hR.i2 hR.j2 hR.m2 hR.n2 hR.i3 hR.j3 hR.m3 hR.n3 hR.i4 hR.j4 hR.m4 hR.n4 hR.i5 hR.j5 hR.m5 hR.n5 hR.nu0 hR.nu1 hR.nu2 hR.nu3 hR.nu4 hR.nu5 hR.jt hR.jk hR.jw hR.yh0 hR.yh1 hR.yh2 hR.yh3 hR.yh4 hR.yh5 hR.yh6 hR.yh7 hR.yc0 hR.yc1 hR.yc2 hR.yo0 hR.yo1
  rw [m6, m5, hg1, hU]
  exact ⟨xg_0 t 0, xJ_step (xJ_g 0 hJ) R (xk_cnt_k (by decide) (xk_cnt_le (xg_c 0 hJ.c) (by omega))) (xi_pn_pulse (H := 7) (k := k2) (xJ_g 0 hJ).n xv_eq rfl rfl) (xk_kept_pb 3 hp hJ.p) (fun c hc => xv_ne (by rintro rfl; exact absurd hc (by decide))) rfl (fun c hc => xv_ne (by rintro rfl; exact absurd hc (by decide))) rfl rfl rfl⟩
theorem pt_pulse_7_d {n : Nat} {g t tz : xk_St} {k2 : Int32} (hJ : xJ n g t) (h1 : ¬ k2 = 1) (h2 : ¬ k2 = -1) (hM : relzM_pulse_1_3 t k2 tz) : tz 0 0 = 2 ∧ xJ (n + 1) g tz := by
  obtain ⟨x1, m1, x2, m2, r2, t1, m3, t3, m4, rfl⟩ := hM
  rw [if_neg h1, if_neg h2] at m1
  subst m1
  rcases xg_goes m3 with ⟨q, -⟩ | ⟨-, -, q, hg1⟩ | ⟨-, q, -⟩ | ⟨-, q, -⟩
  · exact absurd q (by decide)
  · rw [if_pos q] at m4
    rw [m4, hg1]
    exact ⟨xg_0 _ _, xJ_gm 2 hJ⟩
  · exact absurd rfl q
  · exact absurd rfl q
theorem pt_pulse_7_k {n : Nat} {g t tz : xk_St} {k2 : Int32} (hJ : xJ n g t) (hk : k2 = 1 ∨ k2 = -1) (h0 : ¬ t 1 7 = 0) (hM : relzM_pulse_1_3 t k2 tz) : tz 0 0 = 3 ∧ xJ (n + 1) g tz := by
  obtain ⟨x1, m1, x2, m2, r2, t1, m3, t3, m4, rfl⟩ := hM
  have hx1 : x1 = 1 := by
    rcases hk with rfl | rfl
    · exact m1
    · exact m1
  rw [if_neg h0] at m2
  subst hx1; subst m2
  rcases xg_goes m3 with ⟨q, -⟩ | ⟨-, q, -⟩ | ⟨-, -, -, q, hg1⟩ | ⟨-, -, q, -⟩
  · exact absurd q (by decide)
  · exact absurd q (by decide)
  · rw [if_pos q] at m4
    rw [m4, hg1]
    exact ⟨xg_0 _ _, xJ_gm 3 hJ⟩
  · exact absurd rfl q
theorem pt_health_bad {n : Nat} {g t tz : xk_St} {a : Int32} (hJ : xJ n g t) (hM : relzM_health_bad t a tz) : tz 0 0 = 1 ∧ xJ (n + 1) g tz := by
  obtain ⟨r2, t1, m1, -, -, rfl⟩ := hM
  rw [xg_goes0 m1]
  exact ⟨xg_0 _ _, xJ_gm 1 hJ⟩
theorem pt_order_bad {n : Nat} {g t tz : xk_St} {a : Int32} (hJ : xJ n g t) (hM : relzM_order_bad t a tz) : tz 0 0 = 1 ∧ xJ (n + 1) g tz := by
  obtain ⟨r2, t1, m1, -, rfl⟩ := hM
  rw [xg_goes0 m1]
  exact ⟨xg_0 _ _, xJ_gm 1 hJ⟩
theorem pt_cancel_bad {n : Nat} {g t tz : xk_St} {a : Int32} (hJ : xJ n g t) (hM : relzM_cancel_bad t a tz) : tz 0 0 = 1 ∧ xJ (n + 1) g tz := by
  obtain ⟨r2, t1, m1, -, -, rfl⟩ := hM
  rw [xg_goes0 m1]
  exact ⟨xg_0 _ _, xJ_gm 1 hJ⟩
theorem pt_confirm_bad {n : Nat} {g t tz : xk_St} {a : Int32} (hJ : xJ n g t) (hM : relzM_confirm_bad t a tz) : tz 0 0 = 1 ∧ xJ (n + 1) g tz := by
  obtain ⟨r2, t1, m1, -, -, rfl⟩ := hM
  rw [xg_goes0 m1]
  exact ⟨xg_0 _ _, xJ_gm 1 hJ⟩
theorem pt_earliest_bad {n : Nat} {g t tz : xk_St} {a : Int32} (hJ : xJ n g t) (hM : relzM_earliest_bad t a tz) : tz 0 0 = 1 ∧ xJ (n + 1) g tz := by
  obtain ⟨r2, t1, m1, -, rfl⟩ := hM
  rw [xg_goes0 m1]
  exact ⟨xg_0 _ _, xJ_gm 1 hJ⟩
theorem pt_confirm_who {n : Nat} {g t tz : xk_St} {a : Int32} (hJ : xJ n g t) (hM : relzM_confirm_who t a tz) : tz 0 0 = 1 ∧ xJ (n + 1) g tz := by
  obtain ⟨r2, t1, m1, -, -, rfl⟩ := hM
  rw [xg_goes0 m1]
  exact ⟨xg_0 _ _, xJ_gm 1 hJ⟩
theorem pt_current_neg {n : Nat} {g t tz : xk_St} {a : Int32} (hJ : xJ n g t) (hM : relzM_current_neg t a tz) : tz 0 0 = 1 ∧ xJ (n + 1) g tz := by
  obtain ⟨r2, t1, m1, -, -, rfl⟩ := hM
  rw [xg_goes0 m1]
  exact ⟨xg_0 _ _, xJ_gm 1 hJ⟩
theorem pt_current_big {n : Nat} {g t tz : xk_St} {a : Int32} (hJ : xJ n g t) (hM : relzM_current_big t a tz) : tz 0 0 = 1 ∧ xJ (n + 1) g tz := by
  obtain ⟨r2, t1, m1, -, -, rfl⟩ := hM
  rw [xg_goes0 m1]
  exact ⟨xg_0 _ _, xJ_gm 1 hJ⟩
theorem pt_ticks_neg {n : Nat} {g t tz : xk_St} {a : Int32} (hJ : xJ n g t) (hM : relzM_ticks_neg t a tz) : tz 0 0 = 1 ∧ xJ (n + 1) g tz := by
  obtain ⟨r2, t1, m1, -, rfl⟩ := hM
  rw [xg_goes0 m1]
  exact ⟨xg_0 _ _, xJ_gm 1 hJ⟩
theorem pt_ticks_big {n : Nat} {g t tz : xk_St} {a : Int32} (hJ : xJ n g t) (hM : relzM_ticks_big t a tz) : tz 0 0 = 1 ∧ xJ (n + 1) g tz := by
  obtain ⟨r2, t1, m1, -, rfl⟩ := hM
  rw [xg_goes0 m1]
  exact ⟨xg_0 _ _, xJ_gm 1 hJ⟩
theorem pt_ask_bad {n : Nat} {g t tz : xk_St} (hJ : xJ n g t) (hM : relzM_ask_bad t tz) : tz 0 0 = 1 ∧ xJ (n + 1) g tz := by
  obtain ⟨r2, t1, m1, rfl⟩ := hM
  rw [xg_goes0 m1]
  exact ⟨xg_0 _ _, xJ_gm 1 hJ⟩
theorem pt_ask_who {n : Nat} {g t tz : xk_St} (hJ : xJ n g t) (hM : relzM_ask_who t tz) : tz 0 0 = 1 ∧ xJ (n + 1) g tz := by
  obtain ⟨r2, t1, m1, rfl⟩ := hM
  rw [xg_goes0 m1]
  exact ⟨xg_0 _ _, xJ_gm 1 hJ⟩
theorem pt_barrier_bad {n : Nat} {g t tz : xk_St} {k a : Int32} (hJ : xJ n g t) (hM : relzM_barrier_bad t k a tz) : tz 0 0 = 1 ∧ xJ (n + 1) g tz := by
  obtain ⟨x1, -, r2, t1, m1, -, rfl⟩ := hM
  rw [xg_goes0 m1]
  exact ⟨xg_0 _ _, xJ_gm 1 hJ⟩
theorem pt_section_bad {n : Nat} {g t tz : xk_St} {k a : Int32} (hJ : xJ n g t) (hM : relzM_section_bad t k a tz) : tz 0 0 = 1 ∧ xJ (n + 1) g tz := by
  obtain ⟨x1, -, r2, t1, m1, -, rfl⟩ := hM
  rw [xg_goes0 m1]
  exact ⟨xg_0 _ _, xJ_gm 1 hJ⟩
theorem pt_event_neg {n : Nat} {g t tz : xk_St} {k a : Int32} (hJ : xJ n g t) (hM : relzM_event_neg t k a tz) : tz 0 0 = 1 ∧ xJ (n + 1) g tz := by
  obtain ⟨x1, -, r2, t1, m1, -, rfl⟩ := hM
  rw [xg_goes0 m1]
  exact ⟨xg_0 _ _, xJ_gm 1 hJ⟩
theorem pt_event_late {n : Nat} {g t tz : xk_St} {k a : Int32} (hJ : xJ n g t) (hM : relzM_event_late t k a tz) : tz 0 0 = 1 ∧ xJ (n + 1) g tz := by
  obtain ⟨x1, -, r2, t1, m1, -, rfl⟩ := hM
  rw [xg_goes0 m1]
  exact ⟨xg_0 _ _, xJ_gm 1 hJ⟩
theorem pt_event_old {n : Nat} {g t tz : xk_St} {k a : Int32} (hJ : xJ n g t) (hM : relzM_event_old t k a tz) : tz 0 0 = 1 ∧ xJ (n + 1) g tz := by
  obtain ⟨x1, -, r2, t1, m1, -, rfl⟩ := hM
  rw [xg_goes0 m1]
  exact ⟨xg_0 _ _, xJ_gm 1 hJ⟩
theorem pf_health_0 {n : Nat} {g gz t tz : xk_St} {k2 r a : Int32} (hn : n < 512) (hJ : xJ n g t) (hb : xk_b k2) (hU : relzU_health_0_0 g k2 r gz) (hM : relzM_health_0_0 t k2 a tz) : tz 0 0 = 0 ∧ r = a ∧ xJ (n + 1) gz tz := by
  obtain ⟨y1, u1, g1, u2, g3, u3, u4, -, u5⟩ := hU
  obtain ⟨r2, t1, m0, x1, m1, x2, m2, t2, m3, t4, m4, m6, -, m7⟩ := hM
  have m0 := xg_goes1 m0
  subst m0
  have hx2 : x2 = if k2 = 0 then 1 else 0 := xd_pick m2
  have hR := xg_r 0 hJ.r
  have ha : r = a := by
    rw [u4, m6]
    exact xb_neg hR.yh0 hR.h0 hb u1 m1
  have R : xr g1 t2 := by
    subst u2; subst m3
    exact xr.mk hR.b0 hR.a0 hR.d0 hR.k0 hR.b1 hR.a1 hR.d1 hR.k1 hR.b2 hR.a2 hR.d2 hR.k2 hR.b3 hR.a3 hR.d3 hR.k3 hR.b4 hR.a4 hR.d4 hR.k4 hR.b5 hR.a5 hR.d5 hR.k5 hR.p0 hR.p1 hR.p2 hR.p3 hR.p4 hR.p5 hR.p6 hR.p7 hR.c0 hR.c1 hR.c2 hR.c3 hR.o0 hR.s0 hR.o1 hR.s1 hR.po0 hR.pb0 hR.mo0 hR.ze0 hR.st0 hR.al0 hR.po1 hR.pb1 hR.mo1 hR.ze1 hR.st1 hR.al1 hR.li0 hR.de0 hR.da0 hR.li1 hR.de1 hR.da1 hR.li2 hR.de2 hR.da2 hR.step hR.age hR.quiet hR.many hR.time hR.night hR.bell (by simp [va_up, upd, hR.h0, hx2, hb]) (by simp [va_up, upd, hR.h1, hx2, hb]) (by simp [va_up, upd, hR.h2, hx2, hb]) (by simp [va_up, upd, hR.h3, hx2, hb]) hR.h4 hR.h5 hR.h6 hR.h7 hR.nc0 hR.nc1 hR.nc2 hR.i0 hR.j0 hR.m0 hR.n0 hR.i1 hR.j1 hR.m1 hR.n1 hR.i2 hR.j2 hR.m2 hR.n2 hR.i3 hR.j3 hR.m3 hR.n3 hR.i4 hR.j4 hR.m4 hR.n4 hR.i5 hR.j5 hR.m5 hR.n5 hR.nu0 hR.nu1 hR.nu2 hR.nu3 hR.nu4 hR.nu5 hR.jt hR.jk hR.jw (by simp [va_up, upd, hR.yh0, hx2, hb]) (by simp [va_up, upd, hR.yh1, hx2, hb]) (by simp [va_up, upd, hR.yh2, hx2, hb]) (by simp [va_up, upd, hR.yh3, hx2, hb]) hR.yh4 hR.yh5 hR.yh6 hR.yh7 hR.yc0 hR.yc1 hR.yc2 hR.yo0 hR.yo1
  have S0 : xS (26000 * n) g (xg t 0) g1 t2 := by
    refine ⟨?_, R, ?_, ?_, ?_, fun j hj => ?_, fun c hc => ?_, fun c hc => ?_⟩
    · rw [m3]; rfl
    · rw [m3]; exact xk_cnt_k (by decide) (xg_c 0 hJ.c)
    · rw [m3]; rfl
    · rw [m3]; rfl
    · rw [m3]; exact hj
    · rw [m3]; exact xv_ne (by rintro rfl; exact absurd hc (by decide))
    · rw [u2]; exact xv_ne (by rintro rfl; exact absurd hc (by decide))
  have S1 : xS (26000 * n + 3) g (xg t 0) gz tz := by
    by_cases q : k2 = 0
    · rw [if_pos q] at u3 m4
      obtain ⟨g2, ⟨g5, v1, v4⟩, v3⟩ := u3
      obtain ⟨t3, w1, w3⟩ := m4
      subst v4; subst v3; subst w3; subst u5; subst m7
      exact xS_le (xS_dis_0 S0 (by omega) v1 w1) (by omega)
    · rw [if_neg q] at u3 m4
      subst u3; subst m4; subst u5; subst m7
      exact xS_le S0 (by omega)
  exact ⟨S1.1.trans (xg_0 _ _), ha, xJ_S (xJ_g 0 hJ) S1⟩
theorem pf_health_1 {n : Nat} {g gz t tz : xk_St} {k2 r a : Int32} (hn : n < 512) (hJ : xJ n g t) (hb : xk_b k2) (hU : relzU_health_0_1 g k2 r gz) (hM : relzM_health_0_1 t k2 a tz) : tz 0 0 = 0 ∧ r = a ∧ xJ (n + 1) gz tz := by
  obtain ⟨y1, u1, g1, u2, g4, u3, u4, -, u5⟩ := hU
  obtain ⟨r2, t1, m0, x1, m1, x2, m2, t2, m3, t4, m4, t6, m5, m6, -, m7⟩ := hM
  have m0 := xg_goes1 m0
  subst m0
  have hx2 : x2 = if k2 = 0 then 1 else 0 := xd_pick m2
  have hR := xg_r 0 hJ.r
  have ha : r = a := by
    rw [u4, m6]
    exact xb_neg hR.yh1 hR.h1 hb u1 m1
  have R : xr g1 t2 := by
    subst u2; subst m3
    exact xr.mk hR.b0 hR.a0 hR.d0 hR.k0 hR.b1 hR.a1 hR.d1 hR.k1 hR.b2 hR.a2 hR.d2 hR.k2 hR.b3 hR.a3 hR.d3 hR.k3 hR.b4 hR.a4 hR.d4 hR.k4 hR.b5 hR.a5 hR.d5 hR.k5 hR.p0 hR.p1 hR.p2 hR.p3 hR.p4 hR.p5 hR.p6 hR.p7 hR.c0 hR.c1 hR.c2 hR.c3 hR.o0 hR.s0 hR.o1 hR.s1 hR.po0 hR.pb0 hR.mo0 hR.ze0 hR.st0 hR.al0 hR.po1 hR.pb1 hR.mo1 hR.ze1 hR.st1 hR.al1 hR.li0 hR.de0 hR.da0 hR.li1 hR.de1 hR.da1 hR.li2 hR.de2 hR.da2 hR.step hR.age hR.quiet hR.many hR.time hR.night hR.bell (by simp [va_up, upd, hR.h0, hx2, hb]) (by simp [va_up, upd, hR.h1, hx2, hb]) (by simp [va_up, upd, hR.h2, hx2, hb]) (by simp [va_up, upd, hR.h3, hx2, hb]) hR.h4 hR.h5 hR.h6 hR.h7 hR.nc0 hR.nc1 hR.nc2 hR.i0 hR.j0 hR.m0 hR.n0 hR.i1 hR.j1 hR.m1 hR.n1 hR.i2 hR.j2 hR.m2 hR.n2 hR.i3 hR.j3 hR.m3 hR.n3 hR.i4 hR.j4 hR.m4 hR.n4 hR.i5 hR.j5 hR.m5 hR.n5 hR.nu0 hR.nu1 hR.nu2 hR.nu3 hR.nu4 hR.nu5 hR.jt hR.jk hR.jw (by simp [va_up, upd, hR.yh0, hx2, hb]) (by simp [va_up, upd, hR.yh1, hx2, hb]) (by simp [va_up, upd, hR.yh2, hx2, hb]) (by simp [va_up, upd, hR.yh3, hx2, hb]) hR.yh4 hR.yh5 hR.yh6 hR.yh7 hR.yc0 hR.yc1 hR.yc2 hR.yo0 hR.yo1
  have S0 : xS (26000 * n) g (xg t 0) g1 t2 := by
    refine ⟨?_, R, ?_, ?_, ?_, fun j hj => ?_, fun c hc => ?_, fun c hc => ?_⟩
    · rw [m3]; rfl
    · rw [m3]; exact xk_cnt_k (by decide) (xg_c 0 hJ.c)
    · rw [m3]; rfl
    · rw [m3]; rfl
    · rw [m3]; exact hj
    · rw [m3]; exact xv_ne (by rintro rfl; exact absurd hc (by decide))
    · rw [u2]; exact xv_ne (by rintro rfl; exact absurd hc (by decide))
  have S1 : xS (26000 * n + 3) g (xg t 0) gz tz := by
    by_cases q : k2 = 0
    · rw [if_pos q] at u3 m4 m5
      obtain ⟨g2, ⟨g5, v1, v4⟩, g3, ⟨g6, v2, v5⟩, v3⟩ := u3
      obtain ⟨t3, w1, w3⟩ := m4
      obtain ⟨t5, w2, w4⟩ := m5
      subst v4; subst v5; subst v3; subst w3; subst w4; subst u5; subst m7
      exact xS_le (xS_dis_1 (xS_dis_0 S0 (by omega) v1 w1) (by omega) v2 w2) (by omega)
    · rw [if_neg q] at u3 m4 m5
      subst u3; subst m4; subst m5; subst u5; subst m7
      exact xS_le S0 (by omega)
  exact ⟨S1.1.trans (xg_0 _ _), ha, xJ_S (xJ_g 0 hJ) S1⟩
theorem pf_health_2 {n : Nat} {g gz t tz : xk_St} {k2 r a : Int32} (hn : n < 512) (hJ : xJ n g t) (hb : xk_b k2) (hU : relzU_health_0_2 g k2 r gz) (hM : relzM_health_0_2 t k2 a tz) : tz 0 0 = 0 ∧ r = a ∧ xJ (n + 1) gz tz := by
  obtain ⟨y1, u1, g1, u2, g4, u3, u4, -, u5⟩ := hU
  obtain ⟨r2, t1, m0, x1, m1, x2, m2, t2, m3, t4, m4, t6, m5, m6, -, m7⟩ := hM
  have m0 := xg_goes1 m0
  subst m0
  have hx2 : x2 = if k2 = 0 then 1 else 0 := xd_pick m2
  have hR := xg_r 0 hJ.r
  have ha : r = a := by
    rw [u4, m6]
    exact xb_neg hR.yh2 hR.h2 hb u1 m1
  have R : xr g1 t2 := by
    subst u2; subst m3
    exact xr.mk hR.b0 hR.a0 hR.d0 hR.k0 hR.b1 hR.a1 hR.d1 hR.k1 hR.b2 hR.a2 hR.d2 hR.k2 hR.b3 hR.a3 hR.d3 hR.k3 hR.b4 hR.a4 hR.d4 hR.k4 hR.b5 hR.a5 hR.d5 hR.k5 hR.p0 hR.p1 hR.p2 hR.p3 hR.p4 hR.p5 hR.p6 hR.p7 hR.c0 hR.c1 hR.c2 hR.c3 hR.o0 hR.s0 hR.o1 hR.s1 hR.po0 hR.pb0 hR.mo0 hR.ze0 hR.st0 hR.al0 hR.po1 hR.pb1 hR.mo1 hR.ze1 hR.st1 hR.al1 hR.li0 hR.de0 hR.da0 hR.li1 hR.de1 hR.da1 hR.li2 hR.de2 hR.da2 hR.step hR.age hR.quiet hR.many hR.time hR.night hR.bell (by simp [va_up, upd, hR.h0, hx2, hb]) (by simp [va_up, upd, hR.h1, hx2, hb]) (by simp [va_up, upd, hR.h2, hx2, hb]) (by simp [va_up, upd, hR.h3, hx2, hb]) hR.h4 hR.h5 hR.h6 hR.h7 hR.nc0 hR.nc1 hR.nc2 hR.i0 hR.j0 hR.m0 hR.n0 hR.i1 hR.j1 hR.m1 hR.n1 hR.i2 hR.j2 hR.m2 hR.n2 hR.i3 hR.j3 hR.m3 hR.n3 hR.i4 hR.j4 hR.m4 hR.n4 hR.i5 hR.j5 hR.m5 hR.n5 hR.nu0 hR.nu1 hR.nu2 hR.nu3 hR.nu4 hR.nu5 hR.jt hR.jk hR.jw (by simp [va_up, upd, hR.yh0, hx2, hb]) (by simp [va_up, upd, hR.yh1, hx2, hb]) (by simp [va_up, upd, hR.yh2, hx2, hb]) (by simp [va_up, upd, hR.yh3, hx2, hb]) hR.yh4 hR.yh5 hR.yh6 hR.yh7 hR.yc0 hR.yc1 hR.yc2 hR.yo0 hR.yo1
  have S0 : xS (26000 * n) g (xg t 0) g1 t2 := by
    refine ⟨?_, R, ?_, ?_, ?_, fun j hj => ?_, fun c hc => ?_, fun c hc => ?_⟩
    · rw [m3]; rfl
    · rw [m3]; exact xk_cnt_k (by decide) (xg_c 0 hJ.c)
    · rw [m3]; rfl
    · rw [m3]; rfl
    · rw [m3]; exact hj
    · rw [m3]; exact xv_ne (by rintro rfl; exact absurd hc (by decide))
    · rw [u2]; exact xv_ne (by rintro rfl; exact absurd hc (by decide))
  have S1 : xS (26000 * n + 3) g (xg t 0) gz tz := by
    by_cases q : k2 = 0
    · rw [if_pos q] at u3 m4 m5
      obtain ⟨g2, ⟨g5, v1, v4⟩, g3, ⟨g6, v2, v5⟩, v3⟩ := u3
      obtain ⟨t3, w1, w3⟩ := m4
      obtain ⟨t5, w2, w4⟩ := m5
      subst v4; subst v5; subst v3; subst w3; subst w4; subst u5; subst m7
      exact xS_le (xS_dis_2 (xS_dis_1 S0 (by omega) v1 w1) (by omega) v2 w2) (by omega)
    · rw [if_neg q] at u3 m4 m5
      subst u3; subst m4; subst m5; subst u5; subst m7
      exact xS_le S0 (by omega)
  exact ⟨S1.1.trans (xg_0 _ _), ha, xJ_S (xJ_g 0 hJ) S1⟩
theorem pf_health_3 {n : Nat} {g gz t tz : xk_St} {k2 r a : Int32} (hn : n < 512) (hJ : xJ n g t) (hb : xk_b k2) (hU : relzU_health_0_3 g k2 r gz) (hM : relzM_health_0_3 t k2 a tz) : tz 0 0 = 0 ∧ r = a ∧ xJ (n + 1) gz tz := by
  obtain ⟨y1, u1, g1, u2, g3, u3, u4, -, u5⟩ := hU
  obtain ⟨r2, t1, m0, x1, m1, x2, m2, t2, m3, t4, m4, m6, -, m7⟩ := hM
  have m0 := xg_goes1 m0
  subst m0
  have hx2 : x2 = if k2 = 0 then 1 else 0 := xd_pick m2
  have hR := xg_r 0 hJ.r
  have ha : r = a := by
    rw [u4, m6]
    exact xb_neg hR.yh3 hR.h3 hb u1 m1
  have R : xr g1 t2 := by
    subst u2; subst m3
    exact xr.mk hR.b0 hR.a0 hR.d0 hR.k0 hR.b1 hR.a1 hR.d1 hR.k1 hR.b2 hR.a2 hR.d2 hR.k2 hR.b3 hR.a3 hR.d3 hR.k3 hR.b4 hR.a4 hR.d4 hR.k4 hR.b5 hR.a5 hR.d5 hR.k5 hR.p0 hR.p1 hR.p2 hR.p3 hR.p4 hR.p5 hR.p6 hR.p7 hR.c0 hR.c1 hR.c2 hR.c3 hR.o0 hR.s0 hR.o1 hR.s1 hR.po0 hR.pb0 hR.mo0 hR.ze0 hR.st0 hR.al0 hR.po1 hR.pb1 hR.mo1 hR.ze1 hR.st1 hR.al1 hR.li0 hR.de0 hR.da0 hR.li1 hR.de1 hR.da1 hR.li2 hR.de2 hR.da2 hR.step hR.age hR.quiet hR.many hR.time hR.night hR.bell (by simp [va_up, upd, hR.h0, hx2, hb]) (by simp [va_up, upd, hR.h1, hx2, hb]) (by simp [va_up, upd, hR.h2, hx2, hb]) (by simp [va_up, upd, hR.h3, hx2, hb]) hR.h4 hR.h5 hR.h6 hR.h7 hR.nc0 hR.nc1 hR.nc2 hR.i0 hR.j0 hR.m0 hR.n0 hR.i1 hR.j1 hR.m1 hR.n1 hR.i2 hR.j2 hR.m2 hR.n2 hR.i3 hR.j3 hR.m3 hR.n3 hR.i4 hR.j4 hR.m4 hR.n4 hR.i5 hR.j5 hR.m5 hR.n5 hR.nu0 hR.nu1 hR.nu2 hR.nu3 hR.nu4 hR.nu5 hR.jt hR.jk hR.jw (by simp [va_up, upd, hR.yh0, hx2, hb]) (by simp [va_up, upd, hR.yh1, hx2, hb]) (by simp [va_up, upd, hR.yh2, hx2, hb]) (by simp [va_up, upd, hR.yh3, hx2, hb]) hR.yh4 hR.yh5 hR.yh6 hR.yh7 hR.yc0 hR.yc1 hR.yc2 hR.yo0 hR.yo1
  have S0 : xS (26000 * n) g (xg t 0) g1 t2 := by
    refine ⟨?_, R, ?_, ?_, ?_, fun j hj => ?_, fun c hc => ?_, fun c hc => ?_⟩
    · rw [m3]; rfl
    · rw [m3]; exact xk_cnt_k (by decide) (xg_c 0 hJ.c)
    · rw [m3]; rfl
    · rw [m3]; rfl
    · rw [m3]; exact hj
    · rw [m3]; exact xv_ne (by rintro rfl; exact absurd hc (by decide))
    · rw [u2]; exact xv_ne (by rintro rfl; exact absurd hc (by decide))
  have S1 : xS (26000 * n + 3) g (xg t 0) gz tz := by
    by_cases q : k2 = 0
    · rw [if_pos q] at u3 m4
      obtain ⟨g2, ⟨g5, v1, v4⟩, v3⟩ := u3
      obtain ⟨t3, w1, w3⟩ := m4
      subst v4; subst v3; subst w3; subst u5; subst m7
      exact xS_le (xS_dis_2 S0 (by omega) v1 w1) (by omega)
    · rw [if_neg q] at u3 m4
      subst u3; subst m4; subst u5; subst m7
      exact xS_le S0 (by omega)
  exact ⟨S1.1.trans (xg_0 _ _), ha, xJ_S (xJ_g 0 hJ) S1⟩
theorem pf_health_4 {n : Nat} {g gz t tz : xk_St} {k2 r a : Int32} (hn : n < 512) (hJ : xJ n g t) (hb : xk_b k2) (hU : relzU_health_1_0 g k2 r gz) (hM : relzM_health_1_0 t k2 a tz) : tz 0 0 = 0 ∧ r = a ∧ xJ (n + 1) gz tz := by
  obtain ⟨y1, u1, g1, u2, g3, u3, u4, -, u5⟩ := hU
  obtain ⟨r2, t1, m0, x1, m1, x2, m2, t2, m3, t4, m4, m6, -, m7⟩ := hM
  have m0 := xg_goes1 m0
  subst m0
  have hx2 : x2 = if k2 = 0 then 1 else 0 := xd_pick m2
  have hR := xg_r 0 hJ.r
  have ha : r = a := by
    rw [u4, m6]
    exact xb_neg hR.yh4 hR.h4 hb u1 m1
  have R : xr g1 t2 := by
    subst u2; subst m3
    exact xr.mk hR.b0 hR.a0 hR.d0 hR.k0 hR.b1 hR.a1 hR.d1 hR.k1 hR.b2 hR.a2 hR.d2 hR.k2 hR.b3 hR.a3 hR.d3 hR.k3 hR.b4 hR.a4 hR.d4 hR.k4 hR.b5 hR.a5 hR.d5 hR.k5 hR.p0 hR.p1 hR.p2 hR.p3 hR.p4 hR.p5 hR.p6 hR.p7 hR.c0 hR.c1 hR.c2 hR.c3 hR.o0 hR.s0 hR.o1 hR.s1 hR.po0 hR.pb0 hR.mo0 hR.ze0 hR.st0 hR.al0 hR.po1 hR.pb1 hR.mo1 hR.ze1 hR.st1 hR.al1 hR.li0 hR.de0 hR.da0 hR.li1 hR.de1 hR.da1 hR.li2 hR.de2 hR.da2 hR.step hR.age hR.quiet hR.many hR.time hR.night hR.bell hR.h0 hR.h1 hR.h2 hR.h3 (by simp [va_up, upd, hR.h4, hx2, hb]) (by simp [va_up, upd, hR.h5, hx2, hb]) (by simp [va_up, upd, hR.h6, hx2, hb]) (by simp [va_up, upd, hR.h7, hx2, hb]) hR.nc0 hR.nc1 hR.nc2 hR.i0 hR.j0 hR.m0 hR.n0 hR.i1 hR.j1 hR.m1 hR.n1 hR.i2 hR.j2 hR.m2 hR.n2 hR.i3 hR.j3 hR.m3 hR.n3 hR.i4 hR.j4 hR.m4 hR.n4 hR.i5 hR.j5 hR.m5 hR.n5 hR.nu0 hR.nu1 hR.nu2 hR.nu3 hR.nu4 hR.nu5 hR.jt hR.jk hR.jw hR.yh0 hR.yh1 hR.yh2 hR.yh3 (by simp [va_up, upd, hR.yh4, hx2, hb]) (by simp [va_up, upd, hR.yh5, hx2, hb]) (by simp [va_up, upd, hR.yh6, hx2, hb]) (by simp [va_up, upd, hR.yh7, hx2, hb]) hR.yc0 hR.yc1 hR.yc2 hR.yo0 hR.yo1
  have S0 : xS (26000 * n) g (xg t 0) g1 t2 := by
    refine ⟨?_, R, ?_, ?_, ?_, fun j hj => ?_, fun c hc => ?_, fun c hc => ?_⟩
    · rw [m3]; rfl
    · rw [m3]; exact xk_cnt_k (by decide) (xg_c 0 hJ.c)
    · rw [m3]; rfl
    · rw [m3]; rfl
    · rw [m3]; exact hj
    · rw [m3]; exact xv_ne (by rintro rfl; exact absurd hc (by decide))
    · rw [u2]; exact xv_ne (by rintro rfl; exact absurd hc (by decide))
  have S1 : xS (26000 * n + 3) g (xg t 0) gz tz := by
    by_cases q : k2 = 0
    · rw [if_pos q] at u3 m4
      obtain ⟨g2, ⟨g5, v1, v4⟩, v3⟩ := u3
      obtain ⟨t3, w1, w3⟩ := m4
      subst v4; subst v3; subst w3; subst u5; subst m7
      exact xS_le (xS_dis_3 S0 (by omega) v1 w1) (by omega)
    · rw [if_neg q] at u3 m4
      subst u3; subst m4; subst u5; subst m7
      exact xS_le S0 (by omega)
  exact ⟨S1.1.trans (xg_0 _ _), ha, xJ_S (xJ_g 0 hJ) S1⟩
theorem pf_health_5 {n : Nat} {g gz t tz : xk_St} {k2 r a : Int32} (hn : n < 512) (hJ : xJ n g t) (hb : xk_b k2) (hU : relzU_health_1_1 g k2 r gz) (hM : relzM_health_1_1 t k2 a tz) : tz 0 0 = 0 ∧ r = a ∧ xJ (n + 1) gz tz := by
  obtain ⟨y1, u1, g1, u2, g4, u3, u4, -, u5⟩ := hU
  obtain ⟨r2, t1, m0, x1, m1, x2, m2, t2, m3, t4, m4, t6, m5, m6, -, m7⟩ := hM
  have m0 := xg_goes1 m0
  subst m0
  have hx2 : x2 = if k2 = 0 then 1 else 0 := xd_pick m2
  have hR := xg_r 0 hJ.r
  have ha : r = a := by
    rw [u4, m6]
    exact xb_neg hR.yh5 hR.h5 hb u1 m1
  have R : xr g1 t2 := by
    subst u2; subst m3
    exact xr.mk hR.b0 hR.a0 hR.d0 hR.k0 hR.b1 hR.a1 hR.d1 hR.k1 hR.b2 hR.a2 hR.d2 hR.k2 hR.b3 hR.a3 hR.d3 hR.k3 hR.b4 hR.a4 hR.d4 hR.k4 hR.b5 hR.a5 hR.d5 hR.k5 hR.p0 hR.p1 hR.p2 hR.p3 hR.p4 hR.p5 hR.p6 hR.p7 hR.c0 hR.c1 hR.c2 hR.c3 hR.o0 hR.s0 hR.o1 hR.s1 hR.po0 hR.pb0 hR.mo0 hR.ze0 hR.st0 hR.al0 hR.po1 hR.pb1 hR.mo1 hR.ze1 hR.st1 hR.al1 hR.li0 hR.de0 hR.da0 hR.li1 hR.de1 hR.da1 hR.li2 hR.de2 hR.da2 hR.step hR.age hR.quiet hR.many hR.time hR.night hR.bell hR.h0 hR.h1 hR.h2 hR.h3 (by simp [va_up, upd, hR.h4, hx2, hb]) (by simp [va_up, upd, hR.h5, hx2, hb]) (by simp [va_up, upd, hR.h6, hx2, hb]) (by simp [va_up, upd, hR.h7, hx2, hb]) hR.nc0 hR.nc1 hR.nc2 hR.i0 hR.j0 hR.m0 hR.n0 hR.i1 hR.j1 hR.m1 hR.n1 hR.i2 hR.j2 hR.m2 hR.n2 hR.i3 hR.j3 hR.m3 hR.n3 hR.i4 hR.j4 hR.m4 hR.n4 hR.i5 hR.j5 hR.m5 hR.n5 hR.nu0 hR.nu1 hR.nu2 hR.nu3 hR.nu4 hR.nu5 hR.jt hR.jk hR.jw hR.yh0 hR.yh1 hR.yh2 hR.yh3 (by simp [va_up, upd, hR.yh4, hx2, hb]) (by simp [va_up, upd, hR.yh5, hx2, hb]) (by simp [va_up, upd, hR.yh6, hx2, hb]) (by simp [va_up, upd, hR.yh7, hx2, hb]) hR.yc0 hR.yc1 hR.yc2 hR.yo0 hR.yo1
  have S0 : xS (26000 * n) g (xg t 0) g1 t2 := by
    refine ⟨?_, R, ?_, ?_, ?_, fun j hj => ?_, fun c hc => ?_, fun c hc => ?_⟩
    · rw [m3]; rfl
    · rw [m3]; exact xk_cnt_k (by decide) (xg_c 0 hJ.c)
    · rw [m3]; rfl
    · rw [m3]; rfl
    · rw [m3]; exact hj
    · rw [m3]; exact xv_ne (by rintro rfl; exact absurd hc (by decide))
    · rw [u2]; exact xv_ne (by rintro rfl; exact absurd hc (by decide))
  have S1 : xS (26000 * n + 3) g (xg t 0) gz tz := by
    by_cases q : k2 = 0
    · rw [if_pos q] at u3 m4 m5
      obtain ⟨g2, ⟨g5, v1, v4⟩, g3, ⟨g6, v2, v5⟩, v3⟩ := u3
      obtain ⟨t3, w1, w3⟩ := m4
      obtain ⟨t5, w2, w4⟩ := m5
      subst v4; subst v5; subst v3; subst w3; subst w4; subst u5; subst m7
      exact xS_le (xS_dis_4 (xS_dis_3 S0 (by omega) v1 w1) (by omega) v2 w2) (by omega)
    · rw [if_neg q] at u3 m4 m5
      subst u3; subst m4; subst m5; subst u5; subst m7
      exact xS_le S0 (by omega)
  exact ⟨S1.1.trans (xg_0 _ _), ha, xJ_S (xJ_g 0 hJ) S1⟩
theorem pf_health_6 {n : Nat} {g gz t tz : xk_St} {k2 r a : Int32} (hn : n < 512) (hJ : xJ n g t) (hb : xk_b k2) (hU : relzU_health_1_2 g k2 r gz) (hM : relzM_health_1_2 t k2 a tz) : tz 0 0 = 0 ∧ r = a ∧ xJ (n + 1) gz tz := by
  obtain ⟨y1, u1, g1, u2, g4, u3, u4, -, u5⟩ := hU
  obtain ⟨r2, t1, m0, x1, m1, x2, m2, t2, m3, t4, m4, t6, m5, m6, -, m7⟩ := hM
  have m0 := xg_goes1 m0
  subst m0
  have hx2 : x2 = if k2 = 0 then 1 else 0 := xd_pick m2
  have hR := xg_r 0 hJ.r
  have ha : r = a := by
    rw [u4, m6]
    exact xb_neg hR.yh6 hR.h6 hb u1 m1
  have R : xr g1 t2 := by
    subst u2; subst m3
    exact xr.mk hR.b0 hR.a0 hR.d0 hR.k0 hR.b1 hR.a1 hR.d1 hR.k1 hR.b2 hR.a2 hR.d2 hR.k2 hR.b3 hR.a3 hR.d3 hR.k3 hR.b4 hR.a4 hR.d4 hR.k4 hR.b5 hR.a5 hR.d5 hR.k5 hR.p0 hR.p1 hR.p2 hR.p3 hR.p4 hR.p5 hR.p6 hR.p7 hR.c0 hR.c1 hR.c2 hR.c3 hR.o0 hR.s0 hR.o1 hR.s1 hR.po0 hR.pb0 hR.mo0 hR.ze0 hR.st0 hR.al0 hR.po1 hR.pb1 hR.mo1 hR.ze1 hR.st1 hR.al1 hR.li0 hR.de0 hR.da0 hR.li1 hR.de1 hR.da1 hR.li2 hR.de2 hR.da2 hR.step hR.age hR.quiet hR.many hR.time hR.night hR.bell hR.h0 hR.h1 hR.h2 hR.h3 (by simp [va_up, upd, hR.h4, hx2, hb]) (by simp [va_up, upd, hR.h5, hx2, hb]) (by simp [va_up, upd, hR.h6, hx2, hb]) (by simp [va_up, upd, hR.h7, hx2, hb]) hR.nc0 hR.nc1 hR.nc2 hR.i0 hR.j0 hR.m0 hR.n0 hR.i1 hR.j1 hR.m1 hR.n1 hR.i2 hR.j2 hR.m2 hR.n2 hR.i3 hR.j3 hR.m3 hR.n3 hR.i4 hR.j4 hR.m4 hR.n4 hR.i5 hR.j5 hR.m5 hR.n5 hR.nu0 hR.nu1 hR.nu2 hR.nu3 hR.nu4 hR.nu5 hR.jt hR.jk hR.jw hR.yh0 hR.yh1 hR.yh2 hR.yh3 (by simp [va_up, upd, hR.yh4, hx2, hb]) (by simp [va_up, upd, hR.yh5, hx2, hb]) (by simp [va_up, upd, hR.yh6, hx2, hb]) (by simp [va_up, upd, hR.yh7, hx2, hb]) hR.yc0 hR.yc1 hR.yc2 hR.yo0 hR.yo1
  have S0 : xS (26000 * n) g (xg t 0) g1 t2 := by
    refine ⟨?_, R, ?_, ?_, ?_, fun j hj => ?_, fun c hc => ?_, fun c hc => ?_⟩
    · rw [m3]; rfl
    · rw [m3]; exact xk_cnt_k (by decide) (xg_c 0 hJ.c)
    · rw [m3]; rfl
    · rw [m3]; rfl
    · rw [m3]; exact hj
    · rw [m3]; exact xv_ne (by rintro rfl; exact absurd hc (by decide))
    · rw [u2]; exact xv_ne (by rintro rfl; exact absurd hc (by decide))
  have S1 : xS (26000 * n + 3) g (xg t 0) gz tz := by
    by_cases q : k2 = 0
    · rw [if_pos q] at u3 m4 m5
      obtain ⟨g2, ⟨g5, v1, v4⟩, g3, ⟨g6, v2, v5⟩, v3⟩ := u3
      obtain ⟨t3, w1, w3⟩ := m4
      obtain ⟨t5, w2, w4⟩ := m5
      subst v4; subst v5; subst v3; subst w3; subst w4; subst u5; subst m7
      exact xS_le (xS_dis_5 (xS_dis_4 S0 (by omega) v1 w1) (by omega) v2 w2) (by omega)
    · rw [if_neg q] at u3 m4 m5
      subst u3; subst m4; subst m5; subst u5; subst m7
      exact xS_le S0 (by omega)
  exact ⟨S1.1.trans (xg_0 _ _), ha, xJ_S (xJ_g 0 hJ) S1⟩
theorem pf_health_7 {n : Nat} {g gz t tz : xk_St} {k2 r a : Int32} (hn : n < 512) (hJ : xJ n g t) (hb : xk_b k2) (hU : relzU_health_1_3 g k2 r gz) (hM : relzM_health_1_3 t k2 a tz) : tz 0 0 = 0 ∧ r = a ∧ xJ (n + 1) gz tz := by
  obtain ⟨y1, u1, g1, u2, g3, u3, u4, -, u5⟩ := hU
  obtain ⟨r2, t1, m0, x1, m1, x2, m2, t2, m3, t4, m4, m6, -, m7⟩ := hM
  have m0 := xg_goes1 m0
  subst m0
  have hx2 : x2 = if k2 = 0 then 1 else 0 := xd_pick m2
  have hR := xg_r 0 hJ.r
  have ha : r = a := by
    rw [u4, m6]
    exact xb_neg hR.yh7 hR.h7 hb u1 m1
  have R : xr g1 t2 := by
    subst u2; subst m3
    exact xr.mk hR.b0 hR.a0 hR.d0 hR.k0 hR.b1 hR.a1 hR.d1 hR.k1 hR.b2 hR.a2 hR.d2 hR.k2 hR.b3 hR.a3 hR.d3 hR.k3 hR.b4 hR.a4 hR.d4 hR.k4 hR.b5 hR.a5 hR.d5 hR.k5 hR.p0 hR.p1 hR.p2 hR.p3 hR.p4 hR.p5 hR.p6 hR.p7 hR.c0 hR.c1 hR.c2 hR.c3 hR.o0 hR.s0 hR.o1 hR.s1 hR.po0 hR.pb0 hR.mo0 hR.ze0 hR.st0 hR.al0 hR.po1 hR.pb1 hR.mo1 hR.ze1 hR.st1 hR.al1 hR.li0 hR.de0 hR.da0 hR.li1 hR.de1 hR.da1 hR.li2 hR.de2 hR.da2 hR.step hR.age hR.quiet hR.many hR.time hR.night hR.bell hR.h0 hR.h1 hR.h2 hR.h3 (by simp [va_up, upd, hR.h4, hx2, hb]) (by simp [va_up, upd, hR.h5, hx2, hb]) (by simp [va_up, upd, hR.h6, hx2, hb]) (by simp [va_up, upd, hR.h7, hx2, hb]) hR.nc0 hR.nc1 hR.nc2 hR.i0 hR.j0 hR.m0 hR.n0 hR.i1 hR.j1 hR.m1 hR.n1 hR.i2 hR.j2 hR.m2 hR.n2 hR.i3 hR.j3 hR.m3 hR.n3 hR.i4 hR.j4 hR.m4 hR.n4 hR.i5 hR.j5 hR.m5 hR.n5 hR.nu0 hR.nu1 hR.nu2 hR.nu3 hR.nu4 hR.nu5 hR.jt hR.jk hR.jw hR.yh0 hR.yh1 hR.yh2 hR.yh3 (by simp [va_up, upd, hR.yh4, hx2, hb]) (by simp [va_up, upd, hR.yh5, hx2, hb]) (by simp [va_up, upd, hR.yh6, hx2, hb]) (by simp [va_up, upd, hR.yh7, hx2, hb]) hR.yc0 hR.yc1 hR.yc2 hR.yo0 hR.yo1
  have S0 : xS (26000 * n) g (xg t 0) g1 t2 := by
    refine ⟨?_, R, ?_, ?_, ?_, fun j hj => ?_, fun c hc => ?_, fun c hc => ?_⟩
    · rw [m3]; rfl
    · rw [m3]; exact xk_cnt_k (by decide) (xg_c 0 hJ.c)
    · rw [m3]; rfl
    · rw [m3]; rfl
    · rw [m3]; exact hj
    · rw [m3]; exact xv_ne (by rintro rfl; exact absurd hc (by decide))
    · rw [u2]; exact xv_ne (by rintro rfl; exact absurd hc (by decide))
  have S1 : xS (26000 * n + 3) g (xg t 0) gz tz := by
    by_cases q : k2 = 0
    · rw [if_pos q] at u3 m4
      obtain ⟨g2, ⟨g5, v1, v4⟩, v3⟩ := u3
      obtain ⟨t3, w1, w3⟩ := m4
      subst v4; subst v3; subst w3; subst u5; subst m7
      exact xS_le (xS_dis_5 S0 (by omega) v1 w1) (by omega)
    · rw [if_neg q] at u3 m4
      subst u3; subst m4; subst u5; subst m7
      exact xS_le S0 (by omega)
  exact ⟨S1.1.trans (xg_0 _ _), ha, xJ_S (xJ_g 0 hJ) S1⟩
theorem pf_barrier_0 {n : Nat} {g gz t tz : xk_St} {k1 r a : Int32} (hJ : xJ n g t) (h1 : ¬ k1 < 0) (h2 : ¬ 100 < k1) (hU : relzU_barrier_0 g k1 r gz) (hM : relzM_barrier_0 t k1 a tz) : tz 0 0 = 0 ∧ r = a ∧ xJ (n + 1) gz tz := by
  obtain ⟨g1, u1, u2, u3⟩ := hU
  obtain ⟨x1, m1, r1, t1, m2, m3⟩ := hM
  rw [if_neg h1, if_neg h2] at m1
  subst m1
  rcases xg_goes m2 with ⟨q, -⟩ | ⟨-, q, -⟩ | ⟨-, -, q, -⟩ | ⟨-, -, -, q, hg1⟩
  · exact absurd q (by decide)
  · exact absurd q (by decide)
  · exact absurd q (by decide)
  subst q
  rw [if_neg (by decide)] at m3
  obtain ⟨t2, m4, m5, m6⟩ := m3
  subst hg1
  have hR := xg_r 0 hJ.r
  have R : xr (va_up g 29 (upd (g 29) 0 k1)) (va_up (xg t 0) 14 (upd ((xg t 0) 14) 0 k1)) := by
    exact xr.mk hR.b0 hR.a0 hR.d0 hR.k0 hR.b1 hR.a1 hR.d1 hR.k1 hR.b2 hR.a2 hR.d2 hR.k2 hR.b3 hR.a3 hR.d3 hR.k3 hR.b4 hR.a4 hR.d4 hR.k4 hR.b5 hR.a5 hR.d5 hR.k5 hR.p0 hR.p1 hR.p2 hR.p3 hR.p4 hR.p5 hR.p6 hR.p7 hR.c0 hR.c1 hR.c2 hR.c3 hR.o0 hR.s0 hR.o1 hR.s1 (by simp [va_up, upd, hR.po0]) hR.pb0 hR.mo0 hR.ze0 hR.st0 hR.al0 hR.po1 hR.pb1 hR.mo1 hR.ze1 hR.st1 hR.al1 hR.li0 hR.de0 hR.da0 hR.li1 hR.de1 hR.da1 hR.li2 hR.de2 hR.da2 hR.step hR.age hR.quiet hR.many hR.time hR.night hR.bell hR.h0 hR.h1 hR.h2 hR.h3 hR.h4 hR.h5 hR.h6 hR.h7 hR.nc0 hR.nc1 hR.nc2 hR.i0 hR.j0 hR.m0 hR.n0 hR.i1 hR.j1 hR.m1 hR.n1 hR.i2 hR.j2 hR.m2 hR.n2 hR.i3 hR.j3 hR.m3 hR.n3 hR.i4 hR.j4 hR.m4 hR.n4 hR.i5 hR.j5 hR.m5 hR.n5 hR.nu0 hR.nu1 hR.nu2 hR.nu3 hR.nu4 hR.nu5 hR.jt hR.jk hR.jw hR.yh0 hR.yh1 hR.yh2 hR.yh3 hR.yh4 hR.yh5 hR.yh6 hR.yh7 hR.yc0 hR.yc1 hR.yc2 hR.yo0 hR.yo1
  refine ⟨?_, ?_, ?_⟩
  · rw [m6, m4]; exact xg_0 t 0
  · rw [u2, m5]; exact hR.po0
  · rw [u3, u1, m6, m4]
    exact xJ_step (xJ_g 0 hJ) R (xk_cnt_k (by decide) (xk_cnt_le (xg_c 0 hJ.c) (by omega))) (xi_pn_of (xJ_g 0 hJ).n rfl rfl (fun _ q => q)) (xk_kept_up hJ.p (by decide) (by decide)) (fun c hc => xv_ne (by rintro rfl; exact absurd hc (by decide))) rfl (fun c hc => xv_ne (by rintro rfl; exact absurd hc (by decide))) rfl rfl (by simp [qzU_gatherOutput, va_up, upd])
theorem pt_barrier_0 {n : Nat} {g t tz : xk_St} {k1 a : Int32} (hJ : xJ n g t) (h1 : k1 < 0 ∨ 100 < k1) (hM : relzM_barrier_0 t k1 a tz) : tz 0 0 = 2 ∧ xJ (n + 1) g tz := by
  obtain ⟨x1, m1, r1, t1, m2, m3⟩ := hM
  have hx : x1 = 0 := by
    by_cases q : k1 < 0
    · rw [if_pos q] at m1; exact m1
    · rw [if_neg q, if_pos (h1.resolve_left q)] at m1; exact m1
  subst hx
  rcases xg_goes m2 with ⟨q, -⟩ | ⟨-, -, q, hg1⟩ | ⟨-, q, -⟩ | ⟨-, q, -⟩
  · exact absurd q (by decide)
  · rw [if_pos q] at m3
    rw [m3.2, hg1]
    exact ⟨xg_0 _ _, xJ_gm 2 hJ⟩
  · exact absurd rfl q
  · exact absurd rfl q
theorem pf_barrier_1 {n : Nat} {g gz t tz : xk_St} {k1 r a : Int32} (hJ : xJ n g t) (h1 : ¬ k1 < 0) (h2 : ¬ 100 < k1) (hU : relzU_barrier_1 g k1 r gz) (hM : relzM_barrier_1 t k1 a tz) : tz 0 0 = 0 ∧ r = a ∧ xJ (n + 1) gz tz := by
  obtain ⟨g1, u1, u2, u3⟩ := hU
  obtain ⟨x1, m1, r1, t1, m2, m3⟩ := hM
  rw [if_neg h1, if_neg h2] at m1
  subst m1
  rcases xg_goes m2 with ⟨q, -⟩ | ⟨-, q, -⟩ | ⟨-, -, q, -⟩ | ⟨-, -, -, q, hg1⟩
  · exact absurd q (by decide)
  · exact absurd q (by decide)
  · exact absurd q (by decide)
  subst q
  rw [if_neg (by decide)] at m3
  obtain ⟨t2, m4, m5, m6⟩ := m3
  subst hg1
  have hR := xg_r 0 hJ.r
  have R : xr (va_up g 30 (upd (g 30) 0 k1)) (va_up (xg t 0) 14 (upd ((xg t 0) 14) 1 k1)) := by
    exact xr.mk hR.b0 hR.a0 hR.d0 hR.k0 hR.b1 hR.a1 hR.d1 hR.k1 hR.b2 hR.a2 hR.d2 hR.k2 hR.b3 hR.a3 hR.d3 hR.k3 hR.b4 hR.a4 hR.d4 hR.k4 hR.b5 hR.a5 hR.d5 hR.k5 hR.p0 hR.p1 hR.p2 hR.p3 hR.p4 hR.p5 hR.p6 hR.p7 hR.c0 hR.c1 hR.c2 hR.c3 hR.o0 hR.s0 hR.o1 hR.s1 hR.po0 hR.pb0 hR.mo0 hR.ze0 hR.st0 hR.al0 (by simp [va_up, upd, hR.po1]) hR.pb1 hR.mo1 hR.ze1 hR.st1 hR.al1 hR.li0 hR.de0 hR.da0 hR.li1 hR.de1 hR.da1 hR.li2 hR.de2 hR.da2 hR.step hR.age hR.quiet hR.many hR.time hR.night hR.bell hR.h0 hR.h1 hR.h2 hR.h3 hR.h4 hR.h5 hR.h6 hR.h7 hR.nc0 hR.nc1 hR.nc2 hR.i0 hR.j0 hR.m0 hR.n0 hR.i1 hR.j1 hR.m1 hR.n1 hR.i2 hR.j2 hR.m2 hR.n2 hR.i3 hR.j3 hR.m3 hR.n3 hR.i4 hR.j4 hR.m4 hR.n4 hR.i5 hR.j5 hR.m5 hR.n5 hR.nu0 hR.nu1 hR.nu2 hR.nu3 hR.nu4 hR.nu5 hR.jt hR.jk hR.jw hR.yh0 hR.yh1 hR.yh2 hR.yh3 hR.yh4 hR.yh5 hR.yh6 hR.yh7 hR.yc0 hR.yc1 hR.yc2 hR.yo0 hR.yo1
  refine ⟨?_, ?_, ?_⟩
  · rw [m6, m4]; exact xg_0 t 0
  · rw [u2, m5]; exact hR.po1
  · rw [u3, u1, m6, m4]
    exact xJ_step (xJ_g 0 hJ) R (xk_cnt_k (by decide) (xk_cnt_le (xg_c 0 hJ.c) (by omega))) (xi_pn_of (xJ_g 0 hJ).n rfl rfl (fun _ q => q)) (xk_kept_up hJ.p (by decide) (by decide)) (fun c hc => xv_ne (by rintro rfl; exact absurd hc (by decide))) rfl (fun c hc => xv_ne (by rintro rfl; exact absurd hc (by decide))) rfl rfl (by simp [qzU_gatherOutput, va_up, upd])
theorem pt_barrier_1 {n : Nat} {g t tz : xk_St} {k1 a : Int32} (hJ : xJ n g t) (h1 : k1 < 0 ∨ 100 < k1) (hM : relzM_barrier_1 t k1 a tz) : tz 0 0 = 2 ∧ xJ (n + 1) g tz := by
  obtain ⟨x1, m1, r1, t1, m2, m3⟩ := hM
  have hx : x1 = 0 := by
    by_cases q : k1 < 0
    · rw [if_pos q] at m1; exact m1
    · rw [if_neg q, if_pos (h1.resolve_left q)] at m1; exact m1
  subst hx
  rcases xg_goes m2 with ⟨q, -⟩ | ⟨-, -, q, hg1⟩ | ⟨-, q, -⟩ | ⟨-, q, -⟩
  · exact absurd q (by decide)
  · rw [if_pos q] at m3
    rw [m3.2, hg1]
    exact ⟨xg_0 _ _, xJ_gm 2 hJ⟩
  · exact absurd rfl q
  · exact absurd rfl q
theorem pf_current_0 {n : Nat} {g gz t tz : xk_St} {k1 r a : Int32} (hJ : xJ n g t) (hb : xk_b k1) (hU : relzU_current_0 g k1 r gz) (hM : relzM_current_0 t k1 a tz) : tz 0 0 = 0 ∧ r = a ∧ xJ (n + 1) gz tz := by
  obtain ⟨y1, u1, g1, u2, u3, -, u4⟩ := hU
  obtain ⟨r1, t1, m1, x1, m2, x2, m3, t2, m4, m5, -, m6⟩ := hM
  have m1 := xg_goes1 m1
  subst m1
  have hR := xg_r 0 hJ.r
  have hx2 : x2 = if k1 = 0 then 1 else 0 := xd_pick m3
  have R : xr (va_up g 31 (upd (g 31) 0 k1)) (va_up (xg t 0) 20 (upd ((xg t 0) 20) 0 x2)) := by
    exact xr.mk hR.b0 hR.a0 hR.d0 hR.k0 hR.b1 hR.a1 hR.d1 hR.k1 hR.b2 hR.a2 hR.d2 hR.k2 hR.b3 hR.a3 hR.d3 hR.k3 hR.b4 hR.a4 hR.d4 hR.k4 hR.b5 hR.a5 hR.d5 hR.k5 hR.p0 hR.p1 hR.p2 hR.p3 hR.p4 hR.p5 hR.p6 hR.p7 hR.c0 hR.c1 hR.c2 hR.c3 hR.o0 hR.s0 hR.o1 hR.s1 hR.po0 hR.pb0 hR.mo0 hR.ze0 hR.st0 hR.al0 hR.po1 hR.pb1 hR.mo1 hR.ze1 hR.st1 hR.al1 hR.li0 hR.de0 hR.da0 hR.li1 hR.de1 hR.da1 hR.li2 hR.de2 hR.da2 hR.step hR.age hR.quiet hR.many hR.time hR.night hR.bell hR.h0 hR.h1 hR.h2 hR.h3 hR.h4 hR.h5 hR.h6 hR.h7 (by simp [va_up, upd, hR.nc0, hx2, hb]) hR.nc1 hR.nc2 hR.i0 hR.j0 hR.m0 hR.n0 hR.i1 hR.j1 hR.m1 hR.n1 hR.i2 hR.j2 hR.m2 hR.n2 hR.i3 hR.j3 hR.m3 hR.n3 hR.i4 hR.j4 hR.m4 hR.n4 hR.i5 hR.j5 hR.m5 hR.n5 hR.nu0 hR.nu1 hR.nu2 hR.nu3 hR.nu4 hR.nu5 hR.jt hR.jk hR.jw hR.yh0 hR.yh1 hR.yh2 hR.yh3 hR.yh4 hR.yh5 hR.yh6 hR.yh7 (by simp [va_up, upd, hR.yc0, hx2, hb]) hR.yc1 hR.yc2 hR.yo0 hR.yo1
  refine ⟨?_, ?_, ?_⟩
  · rw [m6, m4]; exact xg_0 t 0
  · rw [u3, m5]; exact xb_neg hR.yc0 hR.nc0 hb u1 m2
  · rw [u4, u2, m6, m4]
    exact xJ_step (xJ_g 0 hJ) R (xk_cnt_k (by decide) (xk_cnt_le (xg_c 0 hJ.c) (by omega))) (xi_pn_of (xJ_g 0 hJ).n rfl rfl (fun _ q => q)) (xk_kept_up hJ.p (by decide) (by decide)) (fun c hc => xv_ne (by rintro rfl; exact absurd hc (by decide))) rfl (fun c hc => xv_ne (by rintro rfl; exact absurd hc (by decide))) rfl rfl (by simp [qzU_gatherOutput, va_up, upd])
theorem pf_current_1 {n : Nat} {g gz t tz : xk_St} {k1 r a : Int32} (hJ : xJ n g t) (hb : xk_b k1) (hU : relzU_current_1 g k1 r gz) (hM : relzM_current_1 t k1 a tz) : tz 0 0 = 0 ∧ r = a ∧ xJ (n + 1) gz tz := by
  obtain ⟨y1, u1, g1, u2, u3, -, u4⟩ := hU
  obtain ⟨r1, t1, m1, x1, m2, x2, m3, t2, m4, m5, -, m6⟩ := hM
  have m1 := xg_goes1 m1
  subst m1
  have hR := xg_r 0 hJ.r
  have hx2 : x2 = if k1 = 0 then 1 else 0 := xd_pick m3
  have R : xr (va_up g 32 (upd (g 32) 0 k1)) (va_up (xg t 0) 20 (upd ((xg t 0) 20) 1 x2)) := by
    exact xr.mk hR.b0 hR.a0 hR.d0 hR.k0 hR.b1 hR.a1 hR.d1 hR.k1 hR.b2 hR.a2 hR.d2 hR.k2 hR.b3 hR.a3 hR.d3 hR.k3 hR.b4 hR.a4 hR.d4 hR.k4 hR.b5 hR.a5 hR.d5 hR.k5 hR.p0 hR.p1 hR.p2 hR.p3 hR.p4 hR.p5 hR.p6 hR.p7 hR.c0 hR.c1 hR.c2 hR.c3 hR.o0 hR.s0 hR.o1 hR.s1 hR.po0 hR.pb0 hR.mo0 hR.ze0 hR.st0 hR.al0 hR.po1 hR.pb1 hR.mo1 hR.ze1 hR.st1 hR.al1 hR.li0 hR.de0 hR.da0 hR.li1 hR.de1 hR.da1 hR.li2 hR.de2 hR.da2 hR.step hR.age hR.quiet hR.many hR.time hR.night hR.bell hR.h0 hR.h1 hR.h2 hR.h3 hR.h4 hR.h5 hR.h6 hR.h7 hR.nc0 (by simp [va_up, upd, hR.nc1, hx2, hb]) hR.nc2 hR.i0 hR.j0 hR.m0 hR.n0 hR.i1 hR.j1 hR.m1 hR.n1 hR.i2 hR.j2 hR.m2 hR.n2 hR.i3 hR.j3 hR.m3 hR.n3 hR.i4 hR.j4 hR.m4 hR.n4 hR.i5 hR.j5 hR.m5 hR.n5 hR.nu0 hR.nu1 hR.nu2 hR.nu3 hR.nu4 hR.nu5 hR.jt hR.jk hR.jw hR.yh0 hR.yh1 hR.yh2 hR.yh3 hR.yh4 hR.yh5 hR.yh6 hR.yh7 hR.yc0 (by simp [va_up, upd, hR.yc1, hx2, hb]) hR.yc2 hR.yo0 hR.yo1
  refine ⟨?_, ?_, ?_⟩
  · rw [m6, m4]; exact xg_0 t 0
  · rw [u3, m5]; exact xb_neg hR.yc1 hR.nc1 hb u1 m2
  · rw [u4, u2, m6, m4]
    exact xJ_step (xJ_g 0 hJ) R (xk_cnt_k (by decide) (xk_cnt_le (xg_c 0 hJ.c) (by omega))) (xi_pn_of (xJ_g 0 hJ).n rfl rfl (fun _ q => q)) (xk_kept_up hJ.p (by decide) (by decide)) (fun c hc => xv_ne (by rintro rfl; exact absurd hc (by decide))) rfl (fun c hc => xv_ne (by rintro rfl; exact absurd hc (by decide))) rfl rfl (by simp [qzU_gatherOutput, va_up, upd])
theorem pf_current_2 {n : Nat} {g gz t tz : xk_St} {k1 r a : Int32} (hJ : xJ n g t) (hb : xk_b k1) (hU : relzU_current_2 g k1 r gz) (hM : relzM_current_2 t k1 a tz) : tz 0 0 = 0 ∧ r = a ∧ xJ (n + 1) gz tz := by
  obtain ⟨y1, u1, g1, u2, u3, -, u4⟩ := hU
  obtain ⟨r1, t1, m1, x1, m2, x2, m3, t2, m4, m5, -, m6⟩ := hM
  have m1 := xg_goes1 m1
  subst m1
  have hR := xg_r 0 hJ.r
  have hx2 : x2 = if k1 = 0 then 1 else 0 := xd_pick m3
  have R : xr (va_up g 33 (upd (g 33) 0 k1)) (va_up (xg t 0) 20 (upd ((xg t 0) 20) 2 x2)) := by
    exact xr.mk hR.b0 hR.a0 hR.d0 hR.k0 hR.b1 hR.a1 hR.d1 hR.k1 hR.b2 hR.a2 hR.d2 hR.k2 hR.b3 hR.a3 hR.d3 hR.k3 hR.b4 hR.a4 hR.d4 hR.k4 hR.b5 hR.a5 hR.d5 hR.k5 hR.p0 hR.p1 hR.p2 hR.p3 hR.p4 hR.p5 hR.p6 hR.p7 hR.c0 hR.c1 hR.c2 hR.c3 hR.o0 hR.s0 hR.o1 hR.s1 hR.po0 hR.pb0 hR.mo0 hR.ze0 hR.st0 hR.al0 hR.po1 hR.pb1 hR.mo1 hR.ze1 hR.st1 hR.al1 hR.li0 hR.de0 hR.da0 hR.li1 hR.de1 hR.da1 hR.li2 hR.de2 hR.da2 hR.step hR.age hR.quiet hR.many hR.time hR.night hR.bell hR.h0 hR.h1 hR.h2 hR.h3 hR.h4 hR.h5 hR.h6 hR.h7 hR.nc0 hR.nc1 (by simp [va_up, upd, hR.nc2, hx2, hb]) hR.i0 hR.j0 hR.m0 hR.n0 hR.i1 hR.j1 hR.m1 hR.n1 hR.i2 hR.j2 hR.m2 hR.n2 hR.i3 hR.j3 hR.m3 hR.n3 hR.i4 hR.j4 hR.m4 hR.n4 hR.i5 hR.j5 hR.m5 hR.n5 hR.nu0 hR.nu1 hR.nu2 hR.nu3 hR.nu4 hR.nu5 hR.jt hR.jk hR.jw hR.yh0 hR.yh1 hR.yh2 hR.yh3 hR.yh4 hR.yh5 hR.yh6 hR.yh7 hR.yc0 hR.yc1 (by simp [va_up, upd, hR.yc2, hx2, hb]) hR.yo0 hR.yo1
  refine ⟨?_, ?_, ?_⟩
  · rw [m6, m4]; exact xg_0 t 0
  · rw [u3, m5]; exact xb_neg hR.yc2 hR.nc2 hb u1 m2
  · rw [u4, u2, m6, m4]
    exact xJ_step (xJ_g 0 hJ) R (xk_cnt_k (by decide) (xk_cnt_le (xg_c 0 hJ.c) (by omega))) (xi_pn_of (xJ_g 0 hJ).n rfl rfl (fun _ q => q)) (xk_kept_up hJ.p (by decide) (by decide)) (fun c hc => xv_ne (by rintro rfl; exact absurd hc (by decide))) rfl (fun c hc => xv_ne (by rintro rfl; exact absurd hc (by decide))) rfl rfl (by simp [qzU_gatherOutput, va_up, upd])
theorem pf_night {n : Nat} {g gz t tz : xk_St} {k0 r a : Int32} (hJ : xJ n g t) (hU : relzU_night g k0 r gz) (hM : relzM_night t k0 a tz) : r = a ∧ xJ (n + 1) gz tz := by
  obtain ⟨y1, u1, g1, u2, u3, -, u4⟩ := hU
  obtain ⟨t1, m1, x1, m2, t2, m3, m4, -, m5⟩ := hM
  have m1 : t1 = xg t 0 := m1
  subst m1
  have hR := xg_r 0 hJ.r
  have R : xr (va_up g 0 (upd (g 0) 7 k0)) (va_up (xg t 0) 0 (upd ((xg t 0) 0) 24 k0)) := by
    exact xr.mk hR.b0 hR.a0 hR.d0 hR.k0 hR.b1 hR.a1 hR.d1 hR.k1 hR.b2 hR.a2 hR.d2 hR.k2 hR.b3 hR.a3 hR.d3 hR.k3 hR.b4 hR.a4 hR.d4 hR.k4 hR.b5 hR.a5 hR.d5 hR.k5 hR.p0 hR.p1 hR.p2 hR.p3 hR.p4 hR.p5 hR.p6 hR.p7 hR.c0 hR.c1 hR.c2 hR.c3 hR.o0 hR.s0 hR.o1 hR.s1 hR.po0 hR.pb0 hR.mo0 hR.ze0 hR.st0 hR.al0 hR.po1 hR.pb1 hR.mo1 hR.ze1 hR.st1 hR.al1 hR.li0 hR.de0 hR.da0 hR.li1 hR.de1 hR.da1 hR.li2 hR.de2 hR.da2 hR.step hR.age hR.quiet hR.many hR.time (by simp [va_up, upd, hR.night]) hR.bell hR.h0 hR.h1 hR.h2 hR.h3 hR.h4 hR.h5 hR.h6 hR.h7 hR.nc0 hR.nc1 hR.nc2 hR.i0 hR.j0 hR.m0 hR.n0 hR.i1 hR.j1 hR.m1 hR.n1 hR.i2 hR.j2 hR.m2 hR.n2 hR.i3 hR.j3 hR.m3 hR.n3 hR.i4 hR.j4 hR.m4 hR.n4 hR.i5 hR.j5 hR.m5 hR.n5 hR.nu0 hR.nu1 hR.nu2 hR.nu3 hR.nu4 hR.nu5 hR.jt hR.jk hR.jw hR.yh0 hR.yh1 hR.yh2 hR.yh3 hR.yh4 hR.yh5 hR.yh6 hR.yh7 hR.yc0 hR.yc1 hR.yc2 hR.yo0 hR.yo1
  refine ⟨?_, ?_⟩
  · rw [u3, m4]
    rw [hR.night] at u1
    by_cases q : (xg t 0) 0 24 = k0
    · rw [if_pos q] at u1 m2; rw [u1, m2]
    · rw [if_neg q] at u1 m2; rw [u1, m2]
  · rw [u4, u2, m5, m3]
    exact xJ_step (xJ_g 0 hJ) R (xk_cnt_f (by decide) (xk_cnt_le (xg_c 0 hJ.c) (by omega))) (xi_pn_of (xJ_g 0 hJ).n rfl rfl (fun _ q => q)) (xk_kept_up hJ.p (by decide) (by decide)) (fun c hc => xv_ne (by rintro rfl; exact absurd hc (by decide))) rfl (fun c hc => xv_ne (by rintro rfl; exact absurd hc (by decide))) rfl rfl (by simp [qzU_gatherOutput, va_up, upd])
theorem pf_order_0 {n : Nat} {g gz t tz : xk_St} {r a : Int32} (hn : n < 512) (hJ : xJ n g t) (hU : relzU_order_0 g r gz) (hM : relzM_order_0 t a tz) : tz 0 0 = 0 ∧ r = a ∧ xJ (n + 1) gz tz := by
  obtain ⟨r2, t1, m1, x1, m2, t4, m3, m4, m6⟩ := hM
  have m1 := xg_goes1 m1
  subst m1
  have hR := xg_r 0 hJ.r
  have e1 : qzK_isDisturbed (g 19 3) (g 20 3) (g 21 3) = qzM_anyDisturbed_0 (xg t 0) := by unfold qzK_isDisturbed qzM_anyDisturbed_0; rw [hR.d0, hR.d1, hR.d2]
  have hsame : ∀ x : Int32, ¬ x = 0 → x1 = x → r = x → gz = g → tz 0 0 = 0 ∧ r = a ∧ xJ (n + 1) gz tz := by
    intro x hx h1 h2 h3
    subst h1
    rw [if_neg hx] at m3
    rw [h3, m6, m3, m4, h2]
    exact ⟨xg_0 _ _, rfl, xJ_gm 0 hJ⟩
  unfold relzU_order_0 at hU
  rw [hR.o0, e1] at hU
  by_cases c1 : (xg t 0) 13 0 = 0
  · rw [if_pos c1] at hU m2
    by_cases c2 : qzM_anyDisturbed_0 (xg t 0) = 0
    · rw [if_pos c2] at hU m2
      have hd : (xg t 0) 5 1 = 0 := by
        unfold qzM_anyDisturbed_0 at c2
        by_cases q1 : (xg t 0) 5 0 = 0
        · rw [if_pos q1] at c2
          by_cases q2 : (xg t 0) 5 1 = 0
          · exact q2
          · rw [if_neg q2] at c2; exact absurd c2 (by decide)
        · rw [if_neg q1] at c2; exact absurd c2 (by decide)
      have e2 : qzS_state (g 20 1) (g 20 3) = 1 ↔ qzM_isFree_1 (xg t 0) = 0 := by
        unfold qzS_state qzM_isFree_1
        rw [hR.d1, hR.b1, if_pos hd, if_pos hd]
        by_cases q : (xg t 0) 3 1 = 0
        · rw [if_pos q, if_pos q]; decide
        · rw [if_neg q, if_neg q]; decide
      by_cases c3 : qzM_isFree_1 (xg t 0) = 0
      · rw [if_pos c3] at m2
        rw [if_pos (e2.mpr c3)] at hU
        exact hsame 3 (by decide) m2 hU.1 hU.2
      · rw [if_neg c3] at m2
        rw [if_neg (mt e2.mp c3)] at hU
        have e3 : qzU_isAlarmed g = 0 ↔ ((xg t 0) 19 0 = 0 ∧ (xg t 0) 19 1 = 0) := by
          unfold qzU_isAlarmed
          rw [hR.al0, hR.al1]
          by_cases q1 : (xg t 0) 19 0 = 0
          · rw [if_pos q1]
            by_cases q2 : (xg t 0) 19 1 = 0
            · rw [if_pos q2]; exact ⟨fun _ => ⟨q1, q2⟩, fun _ => rfl⟩
            · rw [if_neg q2]; exact ⟨fun h => absurd h (by decide), fun h => absurd h.2 q2⟩
          · rw [if_neg q1]; exact ⟨fun h => absurd h (by decide), fun h => absurd h.1 q1⟩
        by_cases c4 : qzU_isAlarmed g = 0
        · rw [if_pos c4] at hU
          rw [if_pos (e3.mp c4).1, if_pos (e3.mp c4).2] at m2
          subst m2
          rw [if_pos rfl] at m3
          obtain ⟨g1, u1, g2, u2, u3, u4⟩ := hU
          obtain ⟨t2, w1, t3, m5, w2⟩ := m3
          subst w1; subst u1
          have R : xr (va_up g 9 (upd (g 9) 4 1)) (va_up (xg t 0) 13 (upd ((xg t 0) 13) 0 1)) := by
            exact xr.mk hR.b0 hR.a0 hR.d0 hR.k0 hR.b1 hR.a1 hR.d1 hR.k1 hR.b2 hR.a2 hR.d2 hR.k2 hR.b3 hR.a3 hR.d3 hR.k3 hR.b4 hR.a4 hR.d4 hR.k4 hR.b5 hR.a5 hR.d5 hR.k5 hR.p0 hR.p1 hR.p2 hR.p3 hR.p4 hR.p5 hR.p6 hR.p7 hR.c0 hR.c1 hR.c2 hR.c3 (by simp [va_up, upd, hR.o0, xk_b]) hR.s0 hR.o1 hR.s1 hR.po0 hR.pb0 hR.mo0 hR.ze0 hR.st0 hR.al0 hR.po1 hR.pb1 hR.mo1 hR.ze1 hR.st1 hR.al1 hR.li0 hR.de0 hR.da0 hR.li1 hR.de1 hR.da1 hR.li2 hR.de2 hR.da2 hR.step hR.age hR.quiet hR.many hR.time hR.night hR.bell hR.h0 hR.h1 hR.h2 hR.h3 hR.h4 hR.h5 hR.h6 hR.h7 hR.nc0 hR.nc1 hR.nc2 hR.i0 hR.j0 hR.m0 hR.n0 hR.i1 hR.j1 hR.m1 hR.n1 hR.i2 hR.j2 hR.m2 hR.n2 hR.i3 hR.j3 hR.m3 hR.n3 hR.i4 hR.j4 hR.m4 hR.n4 hR.i5 hR.j5 hR.m5 hR.n5 hR.nu0 hR.nu1 hR.nu2 hR.nu3 hR.nu4 hR.nu5 hR.jt hR.jk hR.jw hR.yh0 hR.yh1 hR.yh2 hR.yh3 hR.yh4 hR.yh5 hR.yh6 hR.yh7 hR.yc0 hR.yc1 hR.yc2 (by simp [va_up, upd, hR.yo0, xk_b]) hR.yo1
          have hB2 : xk_cnt (26000 * n) (va_up (xg t 0) 13 (upd ((xg t 0) 13) 0 1)) := xk_cnt_k (by decide) (xg_c 0 hJ.c)
          have R3 := xr_note R hB2 (by omega) m5
          have hkp : xk_kept (va_up (va_up (va_up (va_up (va_up g 9 (upd (g 9) 4 1)) 5 (upd ((va_up g 9 (upd (g 9) 4 1)) 5) 3 (qzJ_add_a3 ((va_up g 9 (upd (g 9) 4 1)) 5 3)))) 6 (qzJ_add_b ((va_up g 9 (upd (g 9) 4 1)) 5 3) ((va_up g 9 (upd (g 9) 4 1)) 6) ((va_up g 9 (upd (g 9) 4 1)) 0 5))) 7 (qzJ_add_c ((va_up g 9 (upd (g 9) 4 1)) 5 3) ((va_up g 9 (upd (g 9) 4 1)) 7) 8)) 8 (qzJ_add_d ((va_up g 9 (upd (g 9) 4 1)) 5 3) ((va_up g 9 (upd (g 9) 4 1)) 8) 0)) := xk_kept_up (xk_kept_up (xk_kept_up (xk_kept_up (xk_kept_up hJ.p (by decide) (by decide)) (by decide) (by decide)) (by decide) (by decide)) (by decide) (by decide)) (by decide) (by decide)
          refine ⟨?_, ?_, ?_⟩
          · rw [m6, w2, xr_nf0 m5 0 (by decide)]; exact xg_0 t 0
          · rw [u3, m4]
          · rw [u4, u2, m6, w2]
            exact xJ_step (xJ_g 0 hJ) R3 (xk_cnt_le (xr_nc hB2 m5) (by omega)) (xi_pn_of (xJ_g 0 hJ).n (funext (fun j => xr_nf m5 1 j (by decide) (by decide) (by decide) (by decide))) (funext (fun j => xr_nf m5 3 j (by decide) (by decide) (by decide) (by decide))) (fun j q => by rw [xr_nf m5 5 j (by decide) (by decide) (by decide) (by decide)]; exact q)) hkp (fun c hc => funext (fun j => (xr_nf m5 c j (by rintro rfl; exact absurd hc (by decide)) (by rintro rfl; exact absurd hc (by decide)) (by rintro rfl; exact absurd hc (by decide)) (by rintro rfl; exact absurd hc (by decide))).trans (congrFun (xv_ne (by rintro rfl; exact absurd hc (by decide))) j))) ((xr_nf0 m5 27 (by decide)).trans rfl) (fun c hc => by simp only [List.mem_cons, List.not_mem_nil, or_false] at hc; rcases hc with rfl | rfl | rfl | rfl <;> rfl) rfl rfl (by simp [qzU_gatherOutput, va_up, upd])
        · rw [if_neg c4] at hU
          have hx : x1 = 4 := by
            by_cases q1 : (xg t 0) 19 0 = 0
            · rw [if_pos q1] at m2
              by_cases q2 : (xg t 0) 19 1 = 0
              · exact absurd (e3.mpr ⟨q1, q2⟩) c4
              · rw [if_neg q2] at m2; exact m2
            · rw [if_neg q1] at m2; exact m2
          exact hsame 4 (by decide) hx hU.1 hU.2
    · rw [if_neg c2] at hU m2
      exact hsame 2 (by decide) m2 hU.1 hU.2
  · rw [if_neg c1] at hU m2
    exact hsame 1 (by decide) m2 hU.1 hU.2
theorem pf_cancel_0 {n : Nat} {g gz t tz : xk_St} {r a : Int32} (hJ : xJ n g t) (hU : relzU_cancel_0 g r gz) (hM : relzM_cancel_0 t a tz) : tz 0 0 = 0 ∧ r = a ∧ xJ (n + 1) gz tz := by
  obtain ⟨g1, u1, u2, -, u3⟩ := hU
  obtain ⟨r2, t1, m1, t2, m2, m3, -, m4⟩ := hM
  have m1 := xg_goes1 m1
  subst m1
  have hR := xg_r 0 hJ.r
  have R : xr (va_up g 9 (upd (g 9) 4 0)) (va_up (xg t 0) 13 (upd ((xg t 0) 13) 0 0)) := by
    exact xr.mk hR.b0 hR.a0 hR.d0 hR.k0 hR.b1 hR.a1 hR.d1 hR.k1 hR.b2 hR.a2 hR.d2 hR.k2 hR.b3 hR.a3 hR.d3 hR.k3 hR.b4 hR.a4 hR.d4 hR.k4 hR.b5 hR.a5 hR.d5 hR.k5 hR.p0 hR.p1 hR.p2 hR.p3 hR.p4 hR.p5 hR.p6 hR.p7 hR.c0 hR.c1 hR.c2 hR.c3 (by simp [va_up, upd, hR.o0, xk_b]) hR.s0 hR.o1 hR.s1 hR.po0 hR.pb0 hR.mo0 hR.ze0 hR.st0 hR.al0 hR.po1 hR.pb1 hR.mo1 hR.ze1 hR.st1 hR.al1 hR.li0 hR.de0 hR.da0 hR.li1 hR.de1 hR.da1 hR.li2 hR.de2 hR.da2 hR.step hR.age hR.quiet hR.many hR.time hR.night hR.bell hR.h0 hR.h1 hR.h2 hR.h3 hR.h4 hR.h5 hR.h6 hR.h7 hR.nc0 hR.nc1 hR.nc2 hR.i0 hR.j0 hR.m0 hR.n0 hR.i1 hR.j1 hR.m1 hR.n1 hR.i2 hR.j2 hR.m2 hR.n2 hR.i3 hR.j3 hR.m3 hR.n3 hR.i4 hR.j4 hR.m4 hR.n4 hR.i5 hR.j5 hR.m5 hR.n5 hR.nu0 hR.nu1 hR.nu2 hR.nu3 hR.nu4 hR.nu5 hR.jt hR.jk hR.jw hR.yh0 hR.yh1 hR.yh2 hR.yh3 hR.yh4 hR.yh5 hR.yh6 hR.yh7 hR.yc0 hR.yc1 hR.yc2 (by simp [va_up, upd, hR.yo0, xk_b]) hR.yo1
  refine ⟨?_, ?_, ?_⟩
  · rw [m4, m2]; exact xg_0 t 0
  · rw [u2, m3]; exact hR.o0
  · rw [u3, u1, m4, m2]
    exact xJ_step (xJ_g 0 hJ) R (xk_cnt_k (by decide) (xk_cnt_le (xg_c 0 hJ.c) (by omega))) (xi_pn_of (xJ_g 0 hJ).n rfl rfl (fun _ q => q)) (xk_kept_up hJ.p (by decide) (by decide)) (fun c hc => xv_ne (by rintro rfl; exact absurd hc (by decide))) rfl (fun c hc => xv_ne (by rintro rfl; exact absurd hc (by decide))) rfl rfl (by simp [qzU_gatherOutput, va_up, upd])
theorem pf_order_1 {n : Nat} {g gz t tz : xk_St} {r a : Int32} (hn : n < 512) (hJ : xJ n g t) (hU : relzU_order_1 g r gz) (hM : relzM_order_1 t a tz) : tz 0 0 = 0 ∧ r = a ∧ xJ (n + 1) gz tz := by
  obtain ⟨r2, t1, m1, x1, m2, t4, m3, m4, m6⟩ := hM
  have m1 := xg_goes1 m1
  subst m1
  have hR := xg_r 0 hJ.r
  have e1 : qzK_isDisturbed (g 22 3) (g 23 3) (g 24 3) = qzM_anyDisturbed_1 (xg t 0) := by unfold qzK_isDisturbed qzM_anyDisturbed_1; rw [hR.d3, hR.d4, hR.d5]
  have hsame : ∀ x : Int32, ¬ x = 0 → x1 = x → r = x → gz = g → tz 0 0 = 0 ∧ r = a ∧ xJ (n + 1) gz tz := by
    intro x hx h1 h2 h3
    subst h1
    rw [if_neg hx] at m3
    rw [h3, m6, m3, m4, h2]
    exact ⟨xg_0 _ _, rfl, xJ_gm 0 hJ⟩
  unfold relzU_order_1 at hU
  rw [hR.o1, e1] at hU
  by_cases c1 : (xg t 0) 13 1 = 0
  · rw [if_pos c1] at hU m2
    by_cases c2 : qzM_anyDisturbed_1 (xg t 0) = 0
    · rw [if_pos c2] at hU m2
      have hd : (xg t 0) 5 4 = 0 := by
        unfold qzM_anyDisturbed_1 at c2
        by_cases q1 : (xg t 0) 5 3 = 0
        · rw [if_pos q1] at c2
          by_cases q2 : (xg t 0) 5 4 = 0
          · exact q2
          · rw [if_neg q2] at c2; exact absurd c2 (by decide)
        · rw [if_neg q1] at c2; exact absurd c2 (by decide)
      have e2 : qzS_state (g 23 1) (g 23 3) = 1 ↔ qzM_isFree_4 (xg t 0) = 0 := by
        unfold qzS_state qzM_isFree_4
        rw [hR.d4, hR.b4, if_pos hd, if_pos hd]
        by_cases q : (xg t 0) 3 4 = 0
        · rw [if_pos q, if_pos q]; decide
        · rw [if_neg q, if_neg q]; decide
      by_cases c3 : qzM_isFree_4 (xg t 0) = 0
      · rw [if_pos c3] at m2
        rw [if_pos (e2.mpr c3)] at hU
        exact hsame 3 (by decide) m2 hU.1 hU.2
      · rw [if_neg c3] at m2
        rw [if_neg (mt e2.mp c3)] at hU
        have e3 : qzU_isAlarmed g = 0 ↔ ((xg t 0) 19 0 = 0 ∧ (xg t 0) 19 1 = 0) := by
          unfold qzU_isAlarmed
          rw [hR.al0, hR.al1]
          by_cases q1 : (xg t 0) 19 0 = 0
          · rw [if_pos q1]
            by_cases q2 : (xg t 0) 19 1 = 0
            · rw [if_pos q2]; exact ⟨fun _ => ⟨q1, q2⟩, fun _ => rfl⟩
            · rw [if_neg q2]; exact ⟨fun h => absurd h (by decide), fun h => absurd h.2 q2⟩
          · rw [if_neg q1]; exact ⟨fun h => absurd h (by decide), fun h => absurd h.1 q1⟩
        by_cases c4 : qzU_isAlarmed g = 0
        · rw [if_pos c4] at hU
          rw [if_pos (e3.mp c4).1, if_pos (e3.mp c4).2] at m2
          subst m2
          rw [if_pos rfl] at m3
          obtain ⟨g1, u1, g2, u2, u3, u4⟩ := hU
          obtain ⟨t2, w1, t3, m5, w2⟩ := m3
          subst w1; subst u1
          have R : xr (va_up g 10 (upd (g 10) 4 1)) (va_up (xg t 0) 13 (upd ((xg t 0) 13) 1 1)) := by
            exact xr.mk hR.b0 hR.a0 hR.d0 hR.k0 hR.b1 hR.a1 hR.d1 hR.k1 hR.b2 hR.a2 hR.d2 hR.k2 hR.b3 hR.a3 hR.d3 hR.k3 hR.b4 hR.a4 hR.d4 hR.k4 hR.b5 hR.a5 hR.d5 hR.k5 hR.p0 hR.p1 hR.p2 hR.p3 hR.p4 hR.p5 hR.p6 hR.p7 hR.c0 hR.c1 hR.c2 hR.c3 hR.o0 hR.s0 (by simp [va_up, upd, hR.o1, xk_b]) hR.s1 hR.po0 hR.pb0 hR.mo0 hR.ze0 hR.st0 hR.al0 hR.po1 hR.pb1 hR.mo1 hR.ze1 hR.st1 hR.al1 hR.li0 hR.de0 hR.da0 hR.li1 hR.de1 hR.da1 hR.li2 hR.de2 hR.da2 hR.step hR.age hR.quiet hR.many hR.time hR.night hR.bell hR.h0 hR.h1 hR.h2 hR.h3 hR.h4 hR.h5 hR.h6 hR.h7 hR.nc0 hR.nc1 hR.nc2 hR.i0 hR.j0 hR.m0 hR.n0 hR.i1 hR.j1 hR.m1 hR.n1 hR.i2 hR.j2 hR.m2 hR.n2 hR.i3 hR.j3 hR.m3 hR.n3 hR.i4 hR.j4 hR.m4 hR.n4 hR.i5 hR.j5 hR.m5 hR.n5 hR.nu0 hR.nu1 hR.nu2 hR.nu3 hR.nu4 hR.nu5 hR.jt hR.jk hR.jw hR.yh0 hR.yh1 hR.yh2 hR.yh3 hR.yh4 hR.yh5 hR.yh6 hR.yh7 hR.yc0 hR.yc1 hR.yc2 hR.yo0 (by simp [va_up, upd, hR.yo1, xk_b])
          have hB2 : xk_cnt (26000 * n) (va_up (xg t 0) 13 (upd ((xg t 0) 13) 1 1)) := xk_cnt_k (by decide) (xg_c 0 hJ.c)
          have R3 := xr_note R hB2 (by omega) m5
          have hkp : xk_kept (va_up (va_up (va_up (va_up (va_up g 10 (upd (g 10) 4 1)) 5 (upd ((va_up g 10 (upd (g 10) 4 1)) 5) 3 (qzJ_add_a3 ((va_up g 10 (upd (g 10) 4 1)) 5 3)))) 6 (qzJ_add_b ((va_up g 10 (upd (g 10) 4 1)) 5 3) ((va_up g 10 (upd (g 10) 4 1)) 6) ((va_up g 10 (upd (g 10) 4 1)) 0 5))) 7 (qzJ_add_c ((va_up g 10 (upd (g 10) 4 1)) 5 3) ((va_up g 10 (upd (g 10) 4 1)) 7) 8)) 8 (qzJ_add_d ((va_up g 10 (upd (g 10) 4 1)) 5 3) ((va_up g 10 (upd (g 10) 4 1)) 8) 1)) := xk_kept_up (xk_kept_up (xk_kept_up (xk_kept_up (xk_kept_up hJ.p (by decide) (by decide)) (by decide) (by decide)) (by decide) (by decide)) (by decide) (by decide)) (by decide) (by decide)
          refine ⟨?_, ?_, ?_⟩
          · rw [m6, w2, xr_nf0 m5 0 (by decide)]; exact xg_0 t 0
          · rw [u3, m4]
          · rw [u4, u2, m6, w2]
            exact xJ_step (xJ_g 0 hJ) R3 (xk_cnt_le (xr_nc hB2 m5) (by omega)) (xi_pn_of (xJ_g 0 hJ).n (funext (fun j => xr_nf m5 1 j (by decide) (by decide) (by decide) (by decide))) (funext (fun j => xr_nf m5 3 j (by decide) (by decide) (by decide) (by decide))) (fun j q => by rw [xr_nf m5 5 j (by decide) (by decide) (by decide) (by decide)]; exact q)) hkp (fun c hc => funext (fun j => (xr_nf m5 c j (by rintro rfl; exact absurd hc (by decide)) (by rintro rfl; exact absurd hc (by decide)) (by rintro rfl; exact absurd hc (by decide)) (by rintro rfl; exact absurd hc (by decide))).trans (congrFun (xv_ne (by rintro rfl; exact absurd hc (by decide))) j))) ((xr_nf0 m5 27 (by decide)).trans rfl) (fun c hc => by simp only [List.mem_cons, List.not_mem_nil, or_false] at hc; rcases hc with rfl | rfl | rfl | rfl <;> rfl) rfl rfl (by simp [qzU_gatherOutput, va_up, upd])
        · rw [if_neg c4] at hU
          have hx : x1 = 4 := by
            by_cases q1 : (xg t 0) 19 0 = 0
            · rw [if_pos q1] at m2
              by_cases q2 : (xg t 0) 19 1 = 0
              · exact absurd (e3.mpr ⟨q1, q2⟩) c4
              · rw [if_neg q2] at m2; exact m2
            · rw [if_neg q1] at m2; exact m2
          exact hsame 4 (by decide) hx hU.1 hU.2
    · rw [if_neg c2] at hU m2
      exact hsame 2 (by decide) m2 hU.1 hU.2
  · rw [if_neg c1] at hU m2
    exact hsame 1 (by decide) m2 hU.1 hU.2
theorem pf_cancel_1 {n : Nat} {g gz t tz : xk_St} {r a : Int32} (hJ : xJ n g t) (hU : relzU_cancel_1 g r gz) (hM : relzM_cancel_1 t a tz) : tz 0 0 = 0 ∧ r = a ∧ xJ (n + 1) gz tz := by
  obtain ⟨g1, u1, u2, -, u3⟩ := hU
  obtain ⟨r2, t1, m1, t2, m2, m3, -, m4⟩ := hM
  have m1 := xg_goes1 m1
  subst m1
  have hR := xg_r 0 hJ.r
  have R : xr (va_up g 10 (upd (g 10) 4 0)) (va_up (xg t 0) 13 (upd ((xg t 0) 13) 1 0)) := by
    exact xr.mk hR.b0 hR.a0 hR.d0 hR.k0 hR.b1 hR.a1 hR.d1 hR.k1 hR.b2 hR.a2 hR.d2 hR.k2 hR.b3 hR.a3 hR.d3 hR.k3 hR.b4 hR.a4 hR.d4 hR.k4 hR.b5 hR.a5 hR.d5 hR.k5 hR.p0 hR.p1 hR.p2 hR.p3 hR.p4 hR.p5 hR.p6 hR.p7 hR.c0 hR.c1 hR.c2 hR.c3 hR.o0 hR.s0 (by simp [va_up, upd, hR.o1, xk_b]) hR.s1 hR.po0 hR.pb0 hR.mo0 hR.ze0 hR.st0 hR.al0 hR.po1 hR.pb1 hR.mo1 hR.ze1 hR.st1 hR.al1 hR.li0 hR.de0 hR.da0 hR.li1 hR.de1 hR.da1 hR.li2 hR.de2 hR.da2 hR.step hR.age hR.quiet hR.many hR.time hR.night hR.bell hR.h0 hR.h1 hR.h2 hR.h3 hR.h4 hR.h5 hR.h6 hR.h7 hR.nc0 hR.nc1 hR.nc2 hR.i0 hR.j0 hR.m0 hR.n0 hR.i1 hR.j1 hR.m1 hR.n1 hR.i2 hR.j2 hR.m2 hR.n2 hR.i3 hR.j3 hR.m3 hR.n3 hR.i4 hR.j4 hR.m4 hR.n4 hR.i5 hR.j5 hR.m5 hR.n5 hR.nu0 hR.nu1 hR.nu2 hR.nu3 hR.nu4 hR.nu5 hR.jt hR.jk hR.jw hR.yh0 hR.yh1 hR.yh2 hR.yh3 hR.yh4 hR.yh5 hR.yh6 hR.yh7 hR.yc0 hR.yc1 hR.yc2 hR.yo0 (by simp [va_up, upd, hR.yo1, xk_b])
  refine ⟨?_, ?_, ?_⟩
  · rw [m4, m2]; exact xg_0 t 0
  · rw [u2, m3]; exact hR.o1
  · rw [u3, u1, m4, m2]
    exact xJ_step (xJ_g 0 hJ) R (xk_cnt_k (by decide) (xk_cnt_le (xg_c 0 hJ.c) (by omega))) (xi_pn_of (xJ_g 0 hJ).n rfl rfl (fun _ q => q)) (xk_kept_up hJ.p (by decide) (by decide)) (fun c hc => xv_ne (by rintro rfl; exact absurd hc (by decide))) rfl (fun c hc => xv_ne (by rintro rfl; exact absurd hc (by decide))) rfl rfl (by simp [qzU_gatherOutput, va_up, upd])
