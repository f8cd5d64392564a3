theorem sim_use_0 {g g3 t t3 : xk_St} {B : Nat} (hR : xr g t) (hB : xk_cnt B t) (hB2 : B < 2147483647)
    (hU : if (g 9 4) = 0 then (g3 = g) else (if (g 20 1) ≤ 0 then (g3 = g) else (if (g 20 2) = 0 then (∃ (g1 : xk_St), g1 = va_up g 9 (upd (g 9) 4 0) ∧ (∃ (g2 : xk_St), g2 = va_up (va_up (va_up (va_up g1 5 (upd (g1 5) 3 (qzJ_add_a3 (g1 5 3)))) 6 (qzJ_add_b (g1 5 3) (g1 6) (g1 0 5))) 7 (qzJ_add_c (g1 5 3) (g1 7) 9)) 8 (qzJ_add_d (g1 5 3) (g1 8) 0) ∧ (g3 = g2))) else (g3 = g))))
    (hM : if ((t 13) 0) = 0 then (t3 = t) else (if ((t 3) 1) ≤ 0 then (t3 = t) else (if ((t 4) 1) = 0 then (∃ (t1 : xk_St), t1 = va_up t 13 (upd (t 13) 0 0) ∧ (∃ (t2 : xk_St), relzM_note t1 9 0 t2 ∧ (t3 = t2))) else (t3 = t)))) : xr g3 t3 ∧ xk_cnt (B + 1) t3 := by
  rw [hR.o0, hR.b1, hR.a1] at hU
  by_cases c1 : t 13 0 = 0
  · rw [if_pos c1] at hU hM
    subst hU; subst hM
    exact ⟨hR, xk_cnt_le hB (by omega)⟩
  · rw [if_neg c1] at hU hM
    by_cases c2 : t 3 1 ≤ 0
    · rw [if_pos c2] at hU hM
      subst hU; subst hM
      exact ⟨hR, xk_cnt_le hB (by omega)⟩
    · rw [if_neg c2] at hU hM
      by_cases c3 : t 4 1 = 0
      · rw [if_pos c3] at hU hM
        obtain ⟨g1, h4, g2, rfl, rfl⟩ := hU
        obtain ⟨t1, h5, t2, h6, rfl⟩ := hM
        have hB4 : xk_cnt B t1 := by subst h5; exact xk_cnt_k (by decide) hB
        have hR2 : xr g1 t1 := by
          subst h4; subst h5
          have eb0 := hR.b0; have ea0 := hR.a0; have ed0 := hR.d0; have ek0 := hR.k0; have eb1 := hR.b1; have ea1 := hR.a1; have ed1 := hR.d1; have ek1 := hR.k1; have eb2 := hR.b2; have ea2 := hR.a2; have ed2 := hR.d2; have ek2 := hR.k2; have eb3 := hR.b3; have ea3 := hR.a3; have ed3 := hR.d3; have ek3 := hR.k3; have eb4 := hR.b4; have ea4 := hR.a4; have ed4 := hR.d4; have ek4 := hR.k4; have eb5 := hR.b5; have ea5 := hR.a5; have ed5 := hR.d5; have ek5 := hR.k5; have ep0 := hR.p0; have ep1 := hR.p1; have ep2 := hR.p2; have ep3 := hR.p3; have ep4 := hR.p4; have ep5 := hR.p5; have ep6 := hR.p6; have ep7 := hR.p7; have ec0 := hR.c0; have ec1 := hR.c1; have ec2 := hR.c2; have ec3 := hR.c3; have eo0 := hR.o0; have es0 := hR.s0; have eo1 := hR.o1; have es1 := hR.s1; have epo0 := hR.po0; have epb0 := hR.pb0; have emo0 := hR.mo0; have eze0 := hR.ze0; have est0 := hR.st0; have eal0 := hR.al0; have epo1 := hR.po1; have epb1 := hR.pb1; have emo1 := hR.mo1; have eze1 := hR.ze1; have est1 := hR.st1; have eal1 := hR.al1; have eli0 := hR.li0; have ede0 := hR.de0; have eda0 := hR.da0; have eli1 := hR.li1; have ede1 := hR.de1; have eda1 := hR.da1; have eli2 := hR.li2; have ede2 := hR.de2; have eda2 := hR.da2; have estep := hR.step; have eage := hR.age; have equiet := hR.quiet; have emany := hR.many; have etime := hR.time; have enight := hR.night; have ebell := hR.bell; have eh0 := hR.h0; have eh1 := hR.h1; have eh2 := hR.h2; have eh3 := hR.h3; have eh4 := hR.h4; have eh5 := hR.h5; have eh6 := hR.h6; have eh7 := hR.h7; have enc0 := hR.nc0; have enc1 := hR.nc1; have enc2 := hR.nc2; have ei0 := hR.i0; have ej0 := hR.j0; have em0 := hR.m0; have en0 := hR.n0; have ei1 := hR.i1; have ej1 := hR.j1; have em1 := hR.m1; have en1 := hR.n1; have ei2 := hR.i2; have ej2 := hR.j2; have em2 := hR.m2; have en2 := hR.n2; have ei3 := hR.i3; have ej3 := hR.j3; have em3 := hR.m3; have en3 := hR.n3; have ei4 := hR.i4; have ej4 := hR.j4; have em4 := hR.m4; have en4 := hR.n4; have ei5 := hR.i5; have ej5 := hR.j5; have em5 := hR.m5; have en5 := hR.n5; have enu0 := hR.nu0; have enu1 := hR.nu1; have enu2 := hR.nu2; have enu3 := hR.nu3; have enu4 := hR.nu4; have enu5 := hR.nu5; have ejt := hR.jt; have ejk := hR.jk; have ejw := hR.jw; have eyh0 := hR.yh0; have eyh1 := hR.yh1; have eyh2 := hR.yh2; have eyh3 := hR.yh3; have eyh4 := hR.yh4; have eyh5 := hR.yh5; have eyh6 := hR.yh6; have eyh7 := hR.yh7; have eyc0 := hR.yc0; have eyc1 := hR.yc1; have eyc2 := hR.yc2; have eyo0 := hR.yo0; have eyo1 := hR.yo1
          refine xr.mk ?_ ?_ ?_ ?_ ?_ ?_ ?_ ?_ ?_ ?_ ?_ ?_ ?_ ?_ ?_ ?_ ?_ ?_ ?_ ?_ ?_ ?_ ?_ ?_ ?_ ?_ ?_ ?_ ?_ ?_ ?_ ?_ ?_ ?_ ?_ ?_ ?_ ?_ ?_ ?_ ?_ ?_ ?_ ?_ ?_ ?_ ?_ ?_ ?_ ?_ ?_ ?_ ?_ ?_ ?_ ?_ ?_ ?_ ?_ ?_ ?_ ?_ ?_ ?_ ?_ ?_ ?_ ?_ ?_ ?_ ?_ ?_ ?_ ?_ ?_ ?_ ?_ ?_ ?_ ?_ ?_ ?_ ?_ ?_ ?_ ?_ ?_ ?_ ?_ ?_ ?_ ?_ ?_ ?_ ?_ ?_ ?_ ?_ ?_ ?_ ?_ ?_ ?_ ?_ ?_ ?_ ?_ ?_ ?_ ?_ ?_ ?_ ?_ ?_ ?_ ?_ ?_ ?_ ?_ ?_ ?_ ?_ ?_ ?_ ?_
          all_goals first | (simp only [va_up, upd]; simp; assumption) | skip
          all_goals first | (simp [va_up, upd, xk_b]; done) | skip
          all_goals first | (with_reducible assumption) | skip
        exact ⟨xr_note hR2 hB4 (by omega) h6, xr_nc hB4 h6⟩
      · rw [if_neg c3] at hU hM
        subst hU; subst hM
        exact ⟨hR, xk_cnt_le hB (by omega)⟩
theorem sim_use_1 {g g3 t t3 : xk_St} {B : Nat} (hR : xr g t) (hB : xk_cnt B t) (hB2 : B < 2147483647)
    (hU : if (g 10 4) = 0 then (g3 = g) else (if (g 23 1) ≤ 0 then (g3 = g) else (if (g 23 2) = 0 then (∃ (g1 : xk_St), g1 = va_up g 10 (upd (g 10) 4 0) ∧ (∃ (g2 : xk_St), g2 = va_up (va_up (va_up (va_up g1 5 (upd (g1 5) 3 (qzJ_add_a3 (g1 5 3)))) 6 (qzJ_add_b (g1 5 3) (g1 6) (g1 0 5))) 7 (qzJ_add_c (g1 5 3) (g1 7) 9)) 8 (qzJ_add_d (g1 5 3) (g1 8) 1) ∧ (g3 = g2))) else (g3 = g))))
    (hM : if ((t 13) 1) = 0 then (t3 = t) else (if ((t 3) 4) ≤ 0 then (t3 = t) else (if ((t 4) 4) = 0 then (∃ (t1 : xk_St), t1 = va_up t 13 (upd (t 13) 1 0) ∧ (∃ (t2 : xk_St), relzM_note t1 9 1 t2 ∧ (t3 = t2))) else (t3 = t)))) : xr g3 t3 ∧ xk_cnt (B + 1) t3 := by
  rw [hR.o1, hR.b4, hR.a4] at hU
  by_cases c1 : t 13 1 = 0
  · rw [if_pos c1] at hU hM
    subst hU; subst hM
    exact ⟨hR, xk_cnt_le hB (by omega)⟩
  · rw [if_neg c1] at hU hM
    by_cases c2 : t 3 4 ≤ 0
    · rw [if_pos c2] at hU hM
      subst hU; subst hM
      exact ⟨hR, xk_cnt_le hB (by omega)⟩
    · rw [if_neg c2] at hU hM
      by_cases c3 : t 4 4 = 0
      · rw [if_pos c3] at hU hM
        obtain ⟨g1, h4, g2, rfl, rfl⟩ := hU
        obtain ⟨t1, h5, t2, h6, rfl⟩ := hM
        have hB4 : xk_cnt B t1 := by subst h5; exact xk_cnt_k (by decide) hB
        have hR2 : xr g1 t1 := by
          subst h4; subst h5
          have eb0 := hR.b0; have ea0 := hR.a0; have ed0 := hR.d0; have ek0 := hR.k0; have eb1 := hR.b1; have ea1 := hR.a1; have ed1 := hR.d1; have ek1 := hR.k1; have eb2 := hR.b2; have ea2 := hR.a2; have ed2 := hR.d2; have ek2 := hR.k2; have eb3 := hR.b3; have ea3 := hR.a3; have ed3 := hR.d3; have ek3 := hR.k3; have eb4 := hR.b4; have ea4 := hR.a4; have ed4 := hR.d4; have ek4 := hR.k4; have eb5 := hR.b5; have ea5 := hR.a5; have ed5 := hR.d5; have ek5 := hR.k5; have ep0 := hR.p0; have ep1 := hR.p1; have ep2 := hR.p2; have ep3 := hR.p3; have ep4 := hR.p4; have ep5 := hR.p5; have ep6 := hR.p6; have ep7 := hR.p7; have ec0 := hR.c0; have ec1 := hR.c1; have ec2 := hR.c2; have ec3 := hR.c3; have eo0 := hR.o0; have es0 := hR.s0; have eo1 := hR.o1; have es1 := hR.s1; have epo0 := hR.po0; have epb0 := hR.pb0; have emo0 := hR.mo0; have eze0 := hR.ze0; have est0 := hR.st0; have eal0 := hR.al0; have epo1 := hR.po1; have epb1 := hR.pb1; have emo1 := hR.mo1; have eze1 := hR.ze1; have est1 := hR.st1; have eal1 := hR.al1; have eli0 := hR.li0; have ede0 := hR.de0; have eda0 := hR.da0; have eli1 := hR.li1; have ede1 := hR.de1; have eda1 := hR.da1; have eli2 := hR.li2; have ede2 := hR.de2; have eda2 := hR.da2; have estep := hR.step; have eage := hR.age; have equiet := hR.quiet; have emany := hR.many; have etime := hR.time; have enight := hR.night; have ebell := hR.bell; have eh0 := hR.h0; have eh1 := hR.h1; have eh2 := hR.h2; have eh3 := hR.h3; have eh4 := hR.h4; have eh5 := hR.h5; have eh6 := hR.h6; have eh7 := hR.h7; have enc0 := hR.nc0; have enc1 := hR.nc1; have enc2 := hR.nc2; have ei0 := hR.i0; have ej0 := hR.j0; have em0 := hR.m0; have en0 := hR.n0; have ei1 := hR.i1; have ej1 := hR.j1; have em1 := hR.m1; have en1 := hR.n1; have ei2 := hR.i2; have ej2 := hR.j2; have em2 := hR.m2; have en2 := hR.n2; have ei3 := hR.i3; have ej3 := hR.j3; have em3 := hR.m3; have en3 := hR.n3; have ei4 := hR.i4; have ej4 := hR.j4; have em4 := hR.m4; have en4 := hR.n4; have ei5 := hR.i5; have ej5 := hR.j5; have em5 := hR.m5; have en5 := hR.n5; have enu0 := hR.nu0; have enu1 := hR.nu1; have enu2 := hR.nu2; have enu3 := hR.nu3; have enu4 := hR.nu4; have enu5 := hR.nu5; have ejt := hR.jt; have ejk := hR.jk; have ejw := hR.jw; have eyh0 := hR.yh0; have eyh1 := hR.yh1; have eyh2 := hR.yh2; have eyh3 := hR.yh3; have eyh4 := hR.yh4; have eyh5 := hR.yh5; have eyh6 := hR.yh6; have eyh7 := hR.yh7; have eyc0 := hR.yc0; have eyc1 := hR.yc1; have eyc2 := hR.yc2; have eyo0 := hR.yo0; have eyo1 := hR.yo1
          refine xr.mk ?_ ?_ ?_ ?_ ?_ ?_ ?_ ?_ ?_ ?_ ?_ ?_ ?_ ?_ ?_ ?_ ?_ ?_ ?_ ?_ ?_ ?_ ?_ ?_ ?_ ?_ ?_ ?_ ?_ ?_ ?_ ?_ ?_ ?_ ?_ ?_ ?_ ?_ ?_ ?_ ?_ ?_ ?_ ?_ ?_ ?_ ?_ ?_ ?_ ?_ ?_ ?_ ?_ ?_ ?_ ?_ ?_ ?_ ?_ ?_ ?_ ?_ ?_ ?_ ?_ ?_ ?_ ?_ ?_ ?_ ?_ ?_ ?_ ?_ ?_ ?_ ?_ ?_ ?_ ?_ ?_ ?_ ?_ ?_ ?_ ?_ ?_ ?_ ?_ ?_ ?_ ?_ ?_ ?_ ?_ ?_ ?_ ?_ ?_ ?_ ?_ ?_ ?_ ?_ ?_ ?_ ?_ ?_ ?_ ?_ ?_ ?_ ?_ ?_ ?_ ?_ ?_ ?_ ?_ ?_ ?_ ?_ ?_ ?_ ?_
          all_goals first | (simp only [va_up, upd]; simp; assumption) | skip
          all_goals first | (simp [va_up, upd, xk_b]; done) | skip
          all_goals first | (with_reducible assumption) | skip
        exact ⟨xr_note hR2 hB4 (by omega) h6, xr_nc hB4 h6⟩
      · rw [if_neg c3] at hU hM
        subst hU; subst hM
        exact ⟨hR, xk_cnt_le hB (by omega)⟩
theorem sim_useOrders {g gz t tz : xk_St} {B : Nat} (hR : xr g t) (hB : xk_cnt B t) (hB2 : B + 2 < 2147483647) (hU : relzU_useUpOrders g gz) (hM : relzM_useOrders t tz) : xr gz tz ∧ xk_cnt (B + 2) tz := by
  obtain ⟨g3, u3, g6, u6, rfl⟩ := hU
  obtain ⟨t3, m3, t6, m6, rfl⟩ := hM
  obtain ⟨R1, B1⟩ := sim_use_0 hR hB (by omega) u3 m3
  exact sim_use_1 R1 B1 (by omega) u6 m6
