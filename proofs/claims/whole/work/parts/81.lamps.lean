def xi_lp (T : Nat) (t : xk_St) (k : Nat) : Prop := ∃ n : Nat, n ≤ T ∧ t 22 k = nI n ∧ t 23 k = if n < 3 then 0 else 1
theorem sim_lamp_0 {g g1 g3 t t6 : xk_St} {n B : Nat} (hR : xr g t) (hB : xk_cnt B t) (hB2 : B < 2147483647) (hn : t 22 0 = nI n) (hb : n < 1000000) (hd : t 23 0 = if n < 3 then 0 else 1)
    (h1 : g1 = va_up g 31 (upd (upd (g 31) 2 (qzP_dies_a2 (g 31 0) (g 31 1) (g 31 2) (g 31 3))) 3 (qzP_dies_a3 (g 31 0) (g 31 1) (g 31 3))))
    (h2 : if (qzP_dies (g 31 0) (g 31 1) (g 31 3)) = 0 then (g3 = g1) else (∃ (g2 : xk_St), g2 = va_up (va_up (va_up (va_up g1 5 (upd (g1 5) 3 (qzJ_add_a3 (g1 5 3)))) 6 (qzJ_add_b (g1 5 3) (g1 6) (g1 0 5))) 7 (qzJ_add_c (g1 5 3) (g1 7) 7)) 8 (qzJ_add_d (g1 5 3) (g1 8) 0) ∧ (g3 = g2)))
    (h3 : if ((t 21) 0) = 0 then (t6 = t) else (if ((t 20) 0) = 0 then (∃ (t1 : xk_St), t1 = va_up t 22 (upd (t 22) 0 0) ∧ (∃ (t2 : xk_St), t2 = va_up t1 23 (upd (t1 23) 0 0) ∧ (t6 = t2))) else (∃ (t3 : xk_St), t3 = va_up t 22 (upd (t 22) 0 (((t 22) 0) + 1)) ∧ (if ((t3 22) 0) < 3 then (t6 = t3) else (if ((t3 23) 0) = 0 then (∃ (t4 : xk_St), t4 = va_up t3 23 (upd (t3 23) 0 1) ∧ (∃ (t5 : xk_St), relzM_note t4 7 0 t5 ∧ (t6 = t5))) else (t6 = t3)))))) : xr g3 t6 ∧ xi_lp (n + 1) t6 0 ∧ (∀ j : Nat, j ≠ 0 → t6 22 j = t 22 j ∧ t6 23 j = t 23 j) ∧ xk_cnt (B + 1) t6 := by
  have f3 : g 31 3 = nI n := hR.da0.trans hn
  have e3 : nI n + 1 = nI (n + 1) := nI_1 n
  by_cases c1 : t 21 0 = 0
  · have c2 : g 31 1 = 0 := hR.li0.trans c1
    rw [if_pos c1] at h3
    simp only [qzP_dies, qzP_dies_a2, qzP_dies_a3, if_pos c2] at h1 h2
    rw [if_pos trivial] at h2
    subst h1; subst h2; subst h3
    refine ⟨?_, ⟨n, by omega, ?_, ?_⟩, fun j hj => ?_, ?_⟩
    · have eb0 := hR.b0; have ea0 := hR.a0; have ed0 := hR.d0; have ek0 := hR.k0; have eb1 := hR.b1; have ea1 := hR.a1; have ed1 := hR.d1; have ek1 := hR.k1; have eb2 := hR.b2; have ea2 := hR.a2; have ed2 := hR.d2; have ek2 := hR.k2; have eb3 := hR.b3; have ea3 := hR.a3; have ed3 := hR.d3; have ek3 := hR.k3; have eb4 := hR.b4; have ea4 := hR.a4; have ed4 := hR.d4; have ek4 := hR.k4; have eb5 := hR.b5; have ea5 := hR.a5; have ed5 := hR.d5; have ek5 := hR.k5; have ep0 := hR.p0; have ep1 := hR.p1; have ep2 := hR.p2; have ep3 := hR.p3; have ep4 := hR.p4; have ep5 := hR.p5; have ep6 := hR.p6; have ep7 := hR.p7; have ec0 := hR.c0; have ec1 := hR.c1; have ec2 := hR.c2; have ec3 := hR.c3; have eo0 := hR.o0; have es0 := hR.s0; have eo1 := hR.o1; have es1 := hR.s1; have epo0 := hR.po0; have epb0 := hR.pb0; have emo0 := hR.mo0; have eze0 := hR.ze0; have est0 := hR.st0; have eal0 := hR.al0; have epo1 := hR.po1; have epb1 := hR.pb1; have emo1 := hR.mo1; have eze1 := hR.ze1; have est1 := hR.st1; have eal1 := hR.al1; have eli0 := hR.li0; have ede0 := hR.de0; have eda0 := hR.da0; have eli1 := hR.li1; have ede1 := hR.de1; have eda1 := hR.da1; have eli2 := hR.li2; have ede2 := hR.de2; have eda2 := hR.da2; have estep := hR.step; have eage := hR.age; have equiet := hR.quiet; have emany := hR.many; have etime := hR.time; have enight := hR.night; have ebell := hR.bell; have eh0 := hR.h0; have eh1 := hR.h1; have eh2 := hR.h2; have eh3 := hR.h3; have eh4 := hR.h4; have eh5 := hR.h5; have eh6 := hR.h6; have eh7 := hR.h7; have enc0 := hR.nc0; have enc1 := hR.nc1; have enc2 := hR.nc2; have ei0 := hR.i0; have ej0 := hR.j0; have em0 := hR.m0; have en0 := hR.n0; have ei1 := hR.i1; have ej1 := hR.j1; have em1 := hR.m1; have en1 := hR.n1; have ei2 := hR.i2; have ej2 := hR.j2; have em2 := hR.m2; have en2 := hR.n2; have ei3 := hR.i3; have ej3 := hR.j3; have em3 := hR.m3; have en3 := hR.n3; have ei4 := hR.i4; have ej4 := hR.j4; have em4 := hR.m4; have en4 := hR.n4; have ei5 := hR.i5; have ej5 := hR.j5; have em5 := hR.m5; have en5 := hR.n5; have enu0 := hR.nu0; have enu1 := hR.nu1; have enu2 := hR.nu2; have enu3 := hR.nu3; have enu4 := hR.nu4; have enu5 := hR.nu5; have ejt := hR.jt; have ejk := hR.jk; have ejw := hR.jw
      refine xr.mk ?_ ?_ ?_ ?_ ?_ ?_ ?_ ?_ ?_ ?_ ?_ ?_ ?_ ?_ ?_ ?_ ?_ ?_ ?_ ?_ ?_ ?_ ?_ ?_ ?_ ?_ ?_ ?_ ?_ ?_ ?_ ?_ ?_ ?_ ?_ ?_ ?_ ?_ ?_ ?_ ?_ ?_ ?_ ?_ ?_ ?_ ?_ ?_ ?_ ?_ ?_ ?_ ?_ ?_ ?_ ?_ ?_ ?_ ?_ ?_ ?_ ?_ ?_ ?_ ?_ ?_ ?_ ?_ ?_ ?_ ?_ ?_ ?_ ?_ ?_ ?_ ?_ ?_ ?_ ?_ ?_ ?_ ?_ ?_ ?_ ?_ ?_ ?_ ?_ ?_ ?_ ?_ ?_ ?_ ?_ ?_ ?_ ?_ ?_ ?_ ?_ ?_ ?_ ?_ ?_ ?_ ?_ ?_ ?_ ?_ ?_ ?_
      all_goals first | (simp only [va_up, upd]; simp; assumption) | skip
      all_goals first | (simp [va_up, upd, ]; done) | skip
    · simp [va_up, upd, hn, e3, nI_0]
    · simp [va_up, upd, hd]; try omega
    · simp [va_up, upd, hj]
    · exact xk_cnt_le hB (by omega)
  · have c2 : ¬ g 31 1 = 0 := by rw [hR.li0]; exact c1
    rw [if_neg c1] at h3
    simp only [qzP_dies, qzP_dies_a2, qzP_dies_a3, if_neg c2] at h1 h2
    by_cases c0 : g 31 0 = 0
    · have c4 : ¬ t 20 0 = 0 := by rw [hR.nc0, if_pos c0]; decide
      rw [if_neg c4] at h3
      simp only [if_pos c0, f3, e3] at h1 h2
      obtain ⟨t3, rfl, h3⟩ := h3
      have q1 : (va_up t 22 (upd (t 22) 0 (t 22 0 + 1))) 22 0 = nI (n + 1) := by simp [va_up, upd, hn, e3]
      have q2 : (va_up t 22 (upd (t 22) 0 (t 22 0 + 1))) 23 0 = if n < 3 then 0 else 1 := by simp [va_up, upd, hd]
      rw [q1, q2] at h3
      have q3 : (nI (n + 1) < 3) ↔ n + 1 < 3 := nI_ltI (b := 3) (by omega) (by decide)
      have q4 : (nI (n + 1) = 3) ↔ n + 1 = 3 := nI_eq (b := 3) (by omega) (by decide)
      rcases Nat.lt_trichotomy (n + 1) 3 with r | r | r
      · rw [if_pos (q3.mpr r)] at h3
        simp only [if_neg (mt q4.mp (by omega))] at h1 h2
        rw [if_pos trivial] at h2
        rw [if_pos (by omega)] at hd
        subst h1; subst h2; subst h3
        refine ⟨?_, ⟨n + 1, by omega, ?_, ?_⟩, fun j hj => ?_, ?_⟩
        · have eb0 := hR.b0; have ea0 := hR.a0; have ed0 := hR.d0; have ek0 := hR.k0; have eb1 := hR.b1; have ea1 := hR.a1; have ed1 := hR.d1; have ek1 := hR.k1; have eb2 := hR.b2; have ea2 := hR.a2; have ed2 := hR.d2; have ek2 := hR.k2; have eb3 := hR.b3; have ea3 := hR.a3; have ed3 := hR.d3; have ek3 := hR.k3; have eb4 := hR.b4; have ea4 := hR.a4; have ed4 := hR.d4; have ek4 := hR.k4; have eb5 := hR.b5; have ea5 := hR.a5; have ed5 := hR.d5; have ek5 := hR.k5; have ep0 := hR.p0; have ep1 := hR.p1; have ep2 := hR.p2; have ep3 := hR.p3; have ep4 := hR.p4; have ep5 := hR.p5; have ep6 := hR.p6; have ep7 := hR.p7; have ec0 := hR.c0; have ec1 := hR.c1; have ec2 := hR.c2; have ec3 := hR.c3; have eo0 := hR.o0; have es0 := hR.s0; have eo1 := hR.o1; have es1 := hR.s1; have epo0 := hR.po0; have epb0 := hR.pb0; have emo0 := hR.mo0; have eze0 := hR.ze0; have est0 := hR.st0; have eal0 := hR.al0; have epo1 := hR.po1; have epb1 := hR.pb1; have emo1 := hR.mo1; have eze1 := hR.ze1; have est1 := hR.st1; have eal1 := hR.al1; have eli0 := hR.li0; have ede0 := hR.de0; have eda0 := hR.da0; have eli1 := hR.li1; have ede1 := hR.de1; have eda1 := hR.da1; have eli2 := hR.li2; have ede2 := hR.de2; have eda2 := hR.da2; have estep := hR.step; have eage := hR.age; have equiet := hR.quiet; have emany := hR.many; have etime := hR.time; have enight := hR.night; have ebell := hR.bell; have eh0 := hR.h0; have eh1 := hR.h1; have eh2 := hR.h2; have eh3 := hR.h3; have eh4 := hR.h4; have eh5 := hR.h5; have eh6 := hR.h6; have eh7 := hR.h7; have enc0 := hR.nc0; have enc1 := hR.nc1; have enc2 := hR.nc2; have ei0 := hR.i0; have ej0 := hR.j0; have em0 := hR.m0; have en0 := hR.n0; have ei1 := hR.i1; have ej1 := hR.j1; have em1 := hR.m1; have en1 := hR.n1; have ei2 := hR.i2; have ej2 := hR.j2; have em2 := hR.m2; have en2 := hR.n2; have ei3 := hR.i3; have ej3 := hR.j3; have em3 := hR.m3; have en3 := hR.n3; have ei4 := hR.i4; have ej4 := hR.j4; have em4 := hR.m4; have en4 := hR.n4; have ei5 := hR.i5; have ej5 := hR.j5; have em5 := hR.m5; have en5 := hR.n5; have enu0 := hR.nu0; have enu1 := hR.nu1; have enu2 := hR.nu2; have enu3 := hR.nu3; have enu4 := hR.nu4; have enu5 := hR.nu5; have ejt := hR.jt; have ejk := hR.jk; have ejw := hR.jw
          refine xr.mk ?_ ?_ ?_ ?_ ?_ ?_ ?_ ?_ ?_ ?_ ?_ ?_ ?_ ?_ ?_ ?_ ?_ ?_ ?_ ?_ ?_ ?_ ?_ ?_ ?_ ?_ ?_ ?_ ?_ ?_ ?_ ?_ ?_ ?_ ?_ ?_ ?_ ?_ ?_ ?_ ?_ ?_ ?_ ?_ ?_ ?_ ?_ ?_ ?_ ?_ ?_ ?_ ?_ ?_ ?_ ?_ ?_ ?_ ?_ ?_ ?_ ?_ ?_ ?_ ?_ ?_ ?_ ?_ ?_ ?_ ?_ ?_ ?_ ?_ ?_ ?_ ?_ ?_ ?_ ?_ ?_ ?_ ?_ ?_ ?_ ?_ ?_ ?_ ?_ ?_ ?_ ?_ ?_ ?_ ?_ ?_ ?_ ?_ ?_ ?_ ?_ ?_ ?_ ?_ ?_ ?_ ?_ ?_ ?_ ?_ ?_ ?_
          all_goals first | (simp only [va_up, upd]; simp; assumption) | skip
          all_goals first | (simp [va_up, upd, hn, e3]; done) | skip
        · simp [va_up, upd, hn, e3, nI_0]
        · simp [va_up, upd, hd]; try omega
        · simp [va_up, upd, hj]
        · exact xk_cnt_le (xk_cnt_k (by decide) hB) (by omega)
      · rw [if_neg (mt q3.mp (by omega)), if_pos (by rw [if_pos (by omega)])] at h3
        simp only [if_pos (q4.mpr r)] at h1 h2
        rw [if_neg (by decide)] at h2
        obtain ⟨t4, h4, t5, h5, rfl⟩ := h3
        obtain ⟨g2, rfl, rfl⟩ := h2
        have hB4 : xk_cnt B t4 := by subst h4; exact xk_cnt_k (by decide) (xk_cnt_k (by decide) hB)
        have hR2 : xr g1 t4 := by
          subst h1; subst h4
          have eb0 := hR.b0; have ea0 := hR.a0; have ed0 := hR.d0; have ek0 := hR.k0; have eb1 := hR.b1; have ea1 := hR.a1; have ed1 := hR.d1; have ek1 := hR.k1; have eb2 := hR.b2; have ea2 := hR.a2; have ed2 := hR.d2; have ek2 := hR.k2; have eb3 := hR.b3; have ea3 := hR.a3; have ed3 := hR.d3; have ek3 := hR.k3; have eb4 := hR.b4; have ea4 := hR.a4; have ed4 := hR.d4; have ek4 := hR.k4; have eb5 := hR.b5; have ea5 := hR.a5; have ed5 := hR.d5; have ek5 := hR.k5; have ep0 := hR.p0; have ep1 := hR.p1; have ep2 := hR.p2; have ep3 := hR.p3; have ep4 := hR.p4; have ep5 := hR.p5; have ep6 := hR.p6; have ep7 := hR.p7; have ec0 := hR.c0; have ec1 := hR.c1; have ec2 := hR.c2; have ec3 := hR.c3; have eo0 := hR.o0; have es0 := hR.s0; have eo1 := hR.o1; have es1 := hR.s1; have epo0 := hR.po0; have epb0 := hR.pb0; have emo0 := hR.mo0; have eze0 := hR.ze0; have est0 := hR.st0; have eal0 := hR.al0; have epo1 := hR.po1; have epb1 := hR.pb1; have emo1 := hR.mo1; have eze1 := hR.ze1; have est1 := hR.st1; have eal1 := hR.al1; have eli0 := hR.li0; have ede0 := hR.de0; have eda0 := hR.da0; have eli1 := hR.li1; have ede1 := hR.de1; have eda1 := hR.da1; have eli2 := hR.li2; have ede2 := hR.de2; have eda2 := hR.da2; have estep := hR.step; have eage := hR.age; have equiet := hR.quiet; have emany := hR.many; have etime := hR.time; have enight := hR.night; have ebell := hR.bell; have eh0 := hR.h0; have eh1 := hR.h1; have eh2 := hR.h2; have eh3 := hR.h3; have eh4 := hR.h4; have eh5 := hR.h5; have eh6 := hR.h6; have eh7 := hR.h7; have enc0 := hR.nc0; have enc1 := hR.nc1; have enc2 := hR.nc2; have ei0 := hR.i0; have ej0 := hR.j0; have em0 := hR.m0; have en0 := hR.n0; have ei1 := hR.i1; have ej1 := hR.j1; have em1 := hR.m1; have en1 := hR.n1; have ei2 := hR.i2; have ej2 := hR.j2; have em2 := hR.m2; have en2 := hR.n2; have ei3 := hR.i3; have ej3 := hR.j3; have em3 := hR.m3; have en3 := hR.n3; have ei4 := hR.i4; have ej4 := hR.j4; have em4 := hR.m4; have en4 := hR.n4; have ei5 := hR.i5; have ej5 := hR.j5; have em5 := hR.m5; have en5 := hR.n5; have enu0 := hR.nu0; have enu1 := hR.nu1; have enu2 := hR.nu2; have enu3 := hR.nu3; have enu4 := hR.nu4; have enu5 := hR.nu5; have ejt := hR.jt; have ejk := hR.jk; have ejw := hR.jw
          refine xr.mk ?_ ?_ ?_ ?_ ?_ ?_ ?_ ?_ ?_ ?_ ?_ ?_ ?_ ?_ ?_ ?_ ?_ ?_ ?_ ?_ ?_ ?_ ?_ ?_ ?_ ?_ ?_ ?_ ?_ ?_ ?_ ?_ ?_ ?_ ?_ ?_ ?_ ?_ ?_ ?_ ?_ ?_ ?_ ?_ ?_ ?_ ?_ ?_ ?_ ?_ ?_ ?_ ?_ ?_ ?_ ?_ ?_ ?_ ?_ ?_ ?_ ?_ ?_ ?_ ?_ ?_ ?_ ?_ ?_ ?_ ?_ ?_ ?_ ?_ ?_ ?_ ?_ ?_ ?_ ?_ ?_ ?_ ?_ ?_ ?_ ?_ ?_ ?_ ?_ ?_ ?_ ?_ ?_ ?_ ?_ ?_ ?_ ?_ ?_ ?_ ?_ ?_ ?_ ?_ ?_ ?_ ?_ ?_ ?_ ?_ ?_ ?_
          all_goals first | (simp only [va_up, upd]; simp; assumption) | skip
          all_goals first | (simp [va_up, upd, hn, e3]; done) | skip
        refine ⟨xr_note hR2 hB4 (by omega) h5, ⟨n + 1, by omega, ?_, ?_⟩, fun j hj => ?_, xr_nc hB4 h5⟩
        · rw [xr_nf h5 22 0 (by decide) (by decide) (by decide) (by decide)]; subst h4; simp [va_up, upd, hn, e3]
        · rw [xr_nf h5 23 0 (by decide) (by decide) (by decide) (by decide), if_neg (by omega)]; subst h4; simp [va_up, upd]
        · rw [xr_nf h5 22 j (by decide) (by decide) (by decide) (by decide), xr_nf h5 23 j (by decide) (by decide) (by decide) (by decide)]; subst h4; simp [va_up, upd, hj]
      · rw [if_neg (mt q3.mp (by omega)), if_neg (by rw [if_neg (by omega)]; decide)] at h3
        simp only [if_neg (mt q4.mp (by omega))] at h1 h2
        rw [if_pos trivial] at h2
        rw [if_neg (by omega)] at hd
        subst h1; subst h2; subst h3
        refine ⟨?_, ⟨n + 1, by omega, ?_, ?_⟩, fun j hj => ?_, ?_⟩
        · have eb0 := hR.b0; have ea0 := hR.a0; have ed0 := hR.d0; have ek0 := hR.k0; have eb1 := hR.b1; have ea1 := hR.a1; have ed1 := hR.d1; have ek1 := hR.k1; have eb2 := hR.b2; have ea2 := hR.a2; have ed2 := hR.d2; have ek2 := hR.k2; have eb3 := hR.b3; have ea3 := hR.a3; have ed3 := hR.d3; have ek3 := hR.k3; have eb4 := hR.b4; have ea4 := hR.a4; have ed4 := hR.d4; have ek4 := hR.k4; have eb5 := hR.b5; have ea5 := hR.a5; have ed5 := hR.d5; have ek5 := hR.k5; have ep0 := hR.p0; have ep1 := hR.p1; have ep2 := hR.p2; have ep3 := hR.p3; have ep4 := hR.p4; have ep5 := hR.p5; have ep6 := hR.p6; have ep7 := hR.p7; have ec0 := hR.c0; have ec1 := hR.c1; have ec2 := hR.c2; have ec3 := hR.c3; have eo0 := hR.o0; have es0 := hR.s0; have eo1 := hR.o1; have es1 := hR.s1; have epo0 := hR.po0; have epb0 := hR.pb0; have emo0 := hR.mo0; have eze0 := hR.ze0; have est0 := hR.st0; have eal0 := hR.al0; have epo1 := hR.po1; have epb1 := hR.pb1; have emo1 := hR.mo1; have eze1 := hR.ze1; have est1 := hR.st1; have eal1 := hR.al1; have eli0 := hR.li0; have ede0 := hR.de0; have eda0 := hR.da0; have eli1 := hR.li1; have ede1 := hR.de1; have eda1 := hR.da1; have eli2 := hR.li2; have ede2 := hR.de2; have eda2 := hR.da2; have estep := hR.step; have eage := hR.age; have equiet := hR.quiet; have emany := hR.many; have etime := hR.time; have enight := hR.night; have ebell := hR.bell; have eh0 := hR.h0; have eh1 := hR.h1; have eh2 := hR.h2; have eh3 := hR.h3; have eh4 := hR.h4; have eh5 := hR.h5; have eh6 := hR.h6; have eh7 := hR.h7; have enc0 := hR.nc0; have enc1 := hR.nc1; have enc2 := hR.nc2; have ei0 := hR.i0; have ej0 := hR.j0; have em0 := hR.m0; have en0 := hR.n0; have ei1 := hR.i1; have ej1 := hR.j1; have em1 := hR.m1; have en1 := hR.n1; have ei2 := hR.i2; have ej2 := hR.j2; have em2 := hR.m2; have en2 := hR.n2; have ei3 := hR.i3; have ej3 := hR.j3; have em3 := hR.m3; have en3 := hR.n3; have ei4 := hR.i4; have ej4 := hR.j4; have em4 := hR.m4; have en4 := hR.n4; have ei5 := hR.i5; have ej5 := hR.j5; have em5 := hR.m5; have en5 := hR.n5; have enu0 := hR.nu0; have enu1 := hR.nu1; have enu2 := hR.nu2; have enu3 := hR.nu3; have enu4 := hR.nu4; have enu5 := hR.nu5; have ejt := hR.jt; have ejk := hR.jk; have ejw := hR.jw
          refine xr.mk ?_ ?_ ?_ ?_ ?_ ?_ ?_ ?_ ?_ ?_ ?_ ?_ ?_ ?_ ?_ ?_ ?_ ?_ ?_ ?_ ?_ ?_ ?_ ?_ ?_ ?_ ?_ ?_ ?_ ?_ ?_ ?_ ?_ ?_ ?_ ?_ ?_ ?_ ?_ ?_ ?_ ?_ ?_ ?_ ?_ ?_ ?_ ?_ ?_ ?_ ?_ ?_ ?_ ?_ ?_ ?_ ?_ ?_ ?_ ?_ ?_ ?_ ?_ ?_ ?_ ?_ ?_ ?_ ?_ ?_ ?_ ?_ ?_ ?_ ?_ ?_ ?_ ?_ ?_ ?_ ?_ ?_ ?_ ?_ ?_ ?_ ?_ ?_ ?_ ?_ ?_ ?_ ?_ ?_ ?_ ?_ ?_ ?_ ?_ ?_ ?_ ?_ ?_ ?_ ?_ ?_ ?_ ?_ ?_ ?_ ?_ ?_
          all_goals first | (simp only [va_up, upd]; simp; assumption) | skip
          all_goals first | (simp [va_up, upd, hn, e3]; done) | skip
        · simp [va_up, upd, hn, e3, nI_0]
        · simp [va_up, upd, hd]; try omega
        · simp [va_up, upd, hj]
        · exact xk_cnt_le (xk_cnt_k (by decide) hB) (by omega)
    · have c4 : t 20 0 = 0 := by rw [hR.nc0, if_neg c0]
      rw [if_pos c4] at h3
      simp only [if_neg c0] at h1 h2
      rw [if_pos trivial] at h2
      obtain ⟨t1, rfl, t2, rfl, rfl⟩ := h3
      subst h1; subst h2
      refine ⟨?_, ⟨0, by omega, ?_, ?_⟩, fun j hj => ?_, ?_⟩
      · have eb0 := hR.b0; have ea0 := hR.a0; have ed0 := hR.d0; have ek0 := hR.k0; have eb1 := hR.b1; have ea1 := hR.a1; have ed1 := hR.d1; have ek1 := hR.k1; have eb2 := hR.b2; have ea2 := hR.a2; have ed2 := hR.d2; have ek2 := hR.k2; have eb3 := hR.b3; have ea3 := hR.a3; have ed3 := hR.d3; have ek3 := hR.k3; have eb4 := hR.b4; have ea4 := hR.a4; have ed4 := hR.d4; have ek4 := hR.k4; have eb5 := hR.b5; have ea5 := hR.a5; have ed5 := hR.d5; have ek5 := hR.k5; have ep0 := hR.p0; have ep1 := hR.p1; have ep2 := hR.p2; have ep3 := hR.p3; have ep4 := hR.p4; have ep5 := hR.p5; have ep6 := hR.p6; have ep7 := hR.p7; have ec0 := hR.c0; have ec1 := hR.c1; have ec2 := hR.c2; have ec3 := hR.c3; have eo0 := hR.o0; have es0 := hR.s0; have eo1 := hR.o1; have es1 := hR.s1; have epo0 := hR.po0; have epb0 := hR.pb0; have emo0 := hR.mo0; have eze0 := hR.ze0; have est0 := hR.st0; have eal0 := hR.al0; have epo1 := hR.po1; have epb1 := hR.pb1; have emo1 := hR.mo1; have eze1 := hR.ze1; have est1 := hR.st1; have eal1 := hR.al1; have eli0 := hR.li0; have ede0 := hR.de0; have eda0 := hR.da0; have eli1 := hR.li1; have ede1 := hR.de1; have eda1 := hR.da1; have eli2 := hR.li2; have ede2 := hR.de2; have eda2 := hR.da2; have estep := hR.step; have eage := hR.age; have equiet := hR.quiet; have emany := hR.many; have etime := hR.time; have enight := hR.night; have ebell := hR.bell; have eh0 := hR.h0; have eh1 := hR.h1; have eh2 := hR.h2; have eh3 := hR.h3; have eh4 := hR.h4; have eh5 := hR.h5; have eh6 := hR.h6; have eh7 := hR.h7; have enc0 := hR.nc0; have enc1 := hR.nc1; have enc2 := hR.nc2; have ei0 := hR.i0; have ej0 := hR.j0; have em0 := hR.m0; have en0 := hR.n0; have ei1 := hR.i1; have ej1 := hR.j1; have em1 := hR.m1; have en1 := hR.n1; have ei2 := hR.i2; have ej2 := hR.j2; have em2 := hR.m2; have en2 := hR.n2; have ei3 := hR.i3; have ej3 := hR.j3; have em3 := hR.m3; have en3 := hR.n3; have ei4 := hR.i4; have ej4 := hR.j4; have em4 := hR.m4; have en4 := hR.n4; have ei5 := hR.i5; have ej5 := hR.j5; have em5 := hR.m5; have en5 := hR.n5; have enu0 := hR.nu0; have enu1 := hR.nu1; have enu2 := hR.nu2; have enu3 := hR.nu3; have enu4 := hR.nu4; have enu5 := hR.nu5; have ejt := hR.jt; have ejk := hR.jk; have ejw := hR.jw
        refine xr.mk ?_ ?_ ?_ ?_ ?_ ?_ ?_ ?_ ?_ ?_ ?_ ?_ ?_ ?_ ?_ ?_ ?_ ?_ ?_ ?_ ?_ ?_ ?_ ?_ ?_ ?_ ?_ ?_ ?_ ?_ ?_ ?_ ?_ ?_ ?_ ?_ ?_ ?_ ?_ ?_ ?_ ?_ ?_ ?_ ?_ ?_ ?_ ?_ ?_ ?_ ?_ ?_ ?_ ?_ ?_ ?_ ?_ ?_ ?_ ?_ ?_ ?_ ?_ ?_ ?_ ?_ ?_ ?_ ?_ ?_ ?_ ?_ ?_ ?_ ?_ ?_ ?_ ?_ ?_ ?_ ?_ ?_ ?_ ?_ ?_ ?_ ?_ ?_ ?_ ?_ ?_ ?_ ?_ ?_ ?_ ?_ ?_ ?_ ?_ ?_ ?_ ?_ ?_ ?_ ?_ ?_ ?_ ?_ ?_ ?_ ?_ ?_
        all_goals first | (simp only [va_up, upd]; simp; assumption) | skip
        all_goals first | (simp [va_up, upd, ]; done) | skip
      · simp [va_up, upd, hn, e3, nI_0]
      · simp [va_up, upd, hd]; try omega
      · simp [va_up, upd, hj]
      · exact xk_cnt_le (xk_cnt_k (by decide) (xk_cnt_k (by decide) hB)) (by omega)
theorem sim_lamp_1 {g g1 g3 t t6 : xk_St} {n B : Nat} (hR : xr g t) (hB : xk_cnt B t) (hB2 : B < 2147483647) (hn : t 22 1 = nI n) (hb : n < 1000000) (hd : t 23 1 = if n < 3 then 0 else 1)
    (h1 : g1 = va_up g 32 (upd (upd (g 32) 2 (qzP_dies_a2 (g 32 0) (g 32 1) (g 32 2) (g 32 3))) 3 (qzP_dies_a3 (g 32 0) (g 32 1) (g 32 3))))
    (h2 : if (qzP_dies (g 32 0) (g 32 1) (g 32 3)) = 0 then (g3 = g1) else (∃ (g2 : xk_St), g2 = va_up (va_up (va_up (va_up g1 5 (upd (g1 5) 3 (qzJ_add_a3 (g1 5 3)))) 6 (qzJ_add_b (g1 5 3) (g1 6) (g1 0 5))) 7 (qzJ_add_c (g1 5 3) (g1 7) 7)) 8 (qzJ_add_d (g1 5 3) (g1 8) 1) ∧ (g3 = g2)))
    (h3 : if ((t 21) 1) = 0 then (t6 = t) else (if ((t 20) 1) = 0 then (∃ (t1 : xk_St), t1 = va_up t 22 (upd (t 22) 1 0) ∧ (∃ (t2 : xk_St), t2 = va_up t1 23 (upd (t1 23) 1 0) ∧ (t6 = t2))) else (∃ (t3 : xk_St), t3 = va_up t 22 (upd (t 22) 1 (((t 22) 1) + 1)) ∧ (if ((t3 22) 1) < 3 then (t6 = t3) else (if ((t3 23) 1) = 0 then (∃ (t4 : xk_St), t4 = va_up t3 23 (upd (t3 23) 1 1) ∧ (∃ (t5 : xk_St), relzM_note t4 7 1 t5 ∧ (t6 = t5))) else (t6 = t3)))))) : xr g3 t6 ∧ xi_lp (n + 1) t6 1 ∧ (∀ j : Nat, j ≠ 1 → t6 22 j = t 22 j ∧ t6 23 j = t 23 j) ∧ xk_cnt (B + 1) t6 := by
  have f3 : g 32 3 = nI n := hR.da1.trans hn
  have e3 : nI n + 1 = nI (n + 1) := nI_1 n
  by_cases c1 : t 21 1 = 0
  · have c2 : g 32 1 = 0 := hR.li1.trans c1
    rw [if_pos c1] at h3
    simp only [qzP_dies, qzP_dies_a2, qzP_dies_a3, if_pos c2] at h1 h2
    rw [if_pos trivial] at h2
    subst h1; subst h2; subst h3
    refine ⟨?_, ⟨n, by omega, ?_, ?_⟩, fun j hj => ?_, ?_⟩
    · have eb0 := hR.b0; have ea0 := hR.a0; have ed0 := hR.d0; have ek0 := hR.k0; have eb1 := hR.b1; have ea1 := hR.a1; have ed1 := hR.d1; have ek1 := hR.k1; have eb2 := hR.b2; have ea2 := hR.a2; have ed2 := hR.d2; have ek2 := hR.k2; have eb3 := hR.b3; have ea3 := hR.a3; have ed3 := hR.d3; have ek3 := hR.k3; have eb4 := hR.b4; have ea4 := hR.a4; have ed4 := hR.d4; have ek4 := hR.k4; have eb5 := hR.b5; have ea5 := hR.a5; have ed5 := hR.d5; have ek5 := hR.k5; have ep0 := hR.p0; have ep1 := hR.p1; have ep2 := hR.p2; have ep3 := hR.p3; have ep4 := hR.p4; have ep5 := hR.p5; have ep6 := hR.p6; have ep7 := hR.p7; have ec0 := hR.c0; have ec1 := hR.c1; have ec2 := hR.c2; have ec3 := hR.c3; have eo0 := hR.o0; have es0 := hR.s0; have eo1 := hR.o1; have es1 := hR.s1; have epo0 := hR.po0; have epb0 := hR.pb0; have emo0 := hR.mo0; have eze0 := hR.ze0; have est0 := hR.st0; have eal0 := hR.al0; have epo1 := hR.po1; have epb1 := hR.pb1; have emo1 := hR.mo1; have eze1 := hR.ze1; have est1 := hR.st1; have eal1 := hR.al1; have eli0 := hR.li0; have ede0 := hR.de0; have eda0 := hR.da0; have eli1 := hR.li1; have ede1 := hR.de1; have eda1 := hR.da1; have eli2 := hR.li2; have ede2 := hR.de2; have eda2 := hR.da2; have estep := hR.step; have eage := hR.age; have equiet := hR.quiet; have emany := hR.many; have etime := hR.time; have enight := hR.night; have ebell := hR.bell; have eh0 := hR.h0; have eh1 := hR.h1; have eh2 := hR.h2; have eh3 := hR.h3; have eh4 := hR.h4; have eh5 := hR.h5; have eh6 := hR.h6; have eh7 := hR.h7; have enc0 := hR.nc0; have enc1 := hR.nc1; have enc2 := hR.nc2; have ei0 := hR.i0; have ej0 := hR.j0; have em0 := hR.m0; have en0 := hR.n0; have ei1 := hR.i1; have ej1 := hR.j1; have em1 := hR.m1; have en1 := hR.n1; have ei2 := hR.i2; have ej2 := hR.j2; have em2 := hR.m2; have en2 := hR.n2; have ei3 := hR.i3; have ej3 := hR.j3; have em3 := hR.m3; have en3 := hR.n3; have ei4 := hR.i4; have ej4 := hR.j4; have em4 := hR.m4; have en4 := hR.n4; have ei5 := hR.i5; have ej5 := hR.j5; have em5 := hR.m5; have en5 := hR.n5; have enu0 := hR.nu0; have enu1 := hR.nu1; have enu2 := hR.nu2; have enu3 := hR.nu3; have enu4 := hR.nu4; have enu5 := hR.nu5; have ejt := hR.jt; have ejk := hR.jk; have ejw := hR.jw
      refine xr.mk ?_ ?_ ?_ ?_ ?_ ?_ ?_ ?_ ?_ ?_ ?_ ?_ ?_ ?_ ?_ ?_ ?_ ?_ ?_ ?_ ?_ ?_ ?_ ?_ ?_ ?_ ?_ ?_ ?_ ?_ ?_ ?_ ?_ ?_ ?_ ?_ ?_ ?_ ?_ ?_ ?_ ?_ ?_ ?_ ?_ ?_ ?_ ?_ ?_ ?_ ?_ ?_ ?_ ?_ ?_ ?_ ?_ ?_ ?_ ?_ ?_ ?_ ?_ ?_ ?_ ?_ ?_ ?_ ?_ ?_ ?_ ?_ ?_ ?_ ?_ ?_ ?_ ?_ ?_ ?_ ?_ ?_ ?_ ?_ ?_ ?_ ?_ ?_ ?_ ?_ ?_ ?_ ?_ ?_ ?_ ?_ ?_ ?_ ?_ ?_ ?_ ?_ ?_ ?_ ?_ ?_ ?_ ?_ ?_ ?_ ?_ ?_
      all_goals first | (simp only [va_up, upd]; simp; assumption) | skip
      all_goals first | (simp [va_up, upd, ]; done) | skip
    · simp [va_up, upd, hn, e3, nI_0]
    · simp [va_up, upd, hd]; try omega
    · simp [va_up, upd, hj]
    · exact xk_cnt_le hB (by omega)
  · have c2 : ¬ g 32 1 = 0 := by rw [hR.li1]; exact c1
    rw [if_neg c1] at h3
    simp only [qzP_dies, qzP_dies_a2, qzP_dies_a3, if_neg c2] at h1 h2
    by_cases c0 : g 32 0 = 0
    · have c4 : ¬ t 20 1 = 0 := by rw [hR.nc1, if_pos c0]; decide
      rw [if_neg c4] at h3
      simp only [if_pos c0, f3, e3] at h1 h2
      obtain ⟨t3, rfl, h3⟩ := h3
      have q1 : (va_up t 22 (upd (t 22) 1 (t 22 1 + 1))) 22 1 = nI (n + 1) := by simp [va_up, upd, hn, e3]
      have q2 : (va_up t 22 (upd (t 22) 1 (t 22 1 + 1))) 23 1 = if n < 3 then 0 else 1 := by simp [va_up, upd, hd]
      rw [q1, q2] at h3
      have q3 : (nI (n + 1) < 3) ↔ n + 1 < 3 := nI_ltI (b := 3) (by omega) (by decide)
      have q4 : (nI (n + 1) = 3) ↔ n + 1 = 3 := nI_eq (b := 3) (by omega) (by decide)
      rcases Nat.lt_trichotomy (n + 1) 3 with r | r | r
      · rw [if_pos (q3.mpr r)] at h3
        simp only [if_neg (mt q4.mp (by omega))] at h1 h2
        rw [if_pos trivial] at h2
        rw [if_pos (by omega)] at hd
        subst h1; subst h2; subst h3
        refine ⟨?_, ⟨n + 1, by omega, ?_, ?_⟩, fun j hj => ?_, ?_⟩
        · have eb0 := hR.b0; have ea0 := hR.a0; have ed0 := hR.d0; have ek0 := hR.k0; have eb1 := hR.b1; have ea1 := hR.a1; have ed1 := hR.d1; have ek1 := hR.k1; have eb2 := hR.b2; have ea2 := hR.a2; have ed2 := hR.d2; have ek2 := hR.k2; have eb3 := hR.b3; have ea3 := hR.a3; have ed3 := hR.d3; have ek3 := hR.k3; have eb4 := hR.b4; have ea4 := hR.a4; have ed4 := hR.d4; have ek4 := hR.k4; have eb5 := hR.b5; have ea5 := hR.a5; have ed5 := hR.d5; have ek5 := hR.k5; have ep0 := hR.p0; have ep1 := hR.p1; have ep2 := hR.p2; have ep3 := hR.p3; have ep4 := hR.p4; have ep5 := hR.p5; have ep6 := hR.p6; have ep7 := hR.p7; have ec0 := hR.c0; have ec1 := hR.c1; have ec2 := hR.c2; have ec3 := hR.c3; have eo0 := hR.o0; have es0 := hR.s0; have eo1 := hR.o1; have es1 := hR.s1; have epo0 := hR.po0; have epb0 := hR.pb0; have emo0 := hR.mo0; have eze0 := hR.ze0; have est0 := hR.st0; have eal0 := hR.al0; have epo1 := hR.po1; have epb1 := hR.pb1; have emo1 := hR.mo1; have eze1 := hR.ze1; have est1 := hR.st1; have eal1 := hR.al1; have eli0 := hR.li0; have ede0 := hR.de0; have eda0 := hR.da0; have eli1 := hR.li1; have ede1 := hR.de1; have eda1 := hR.da1; have eli2 := hR.li2; have ede2 := hR.de2; have eda2 := hR.da2; have estep := hR.step; have eage := hR.age; have equiet := hR.quiet; have emany := hR.many; have etime := hR.time; have enight := hR.night; have ebell := hR.bell; have eh0 := hR.h0; have eh1 := hR.h1; have eh2 := hR.h2; have eh3 := hR.h3; have eh4 := hR.h4; have eh5 := hR.h5; have eh6 := hR.h6; have eh7 := hR.h7; have enc0 := hR.nc0; have enc1 := hR.nc1; have enc2 := hR.nc2; have ei0 := hR.i0; have ej0 := hR.j0; have em0 := hR.m0; have en0 := hR.n0; have ei1 := hR.i1; have ej1 := hR.j1; have em1 := hR.m1; have en1 := hR.n1; have ei2 := hR.i2; have ej2 := hR.j2; have em2 := hR.m2; have en2 := hR.n2; have ei3 := hR.i3; have ej3 := hR.j3; have em3 := hR.m3; have en3 := hR.n3; have ei4 := hR.i4; have ej4 := hR.j4; have em4 := hR.m4; have en4 := hR.n4; have ei5 := hR.i5; have ej5 := hR.j5; have em5 := hR.m5; have en5 := hR.n5; have enu0 := hR.nu0; have enu1 := hR.nu1; have enu2 := hR.nu2; have enu3 := hR.nu3; have enu4 := hR.nu4; have enu5 := hR.nu5; have ejt := hR.jt; have ejk := hR.jk; have ejw := hR.jw
          refine xr.mk ?_ ?_ ?_ ?_ ?_ ?_ ?_ ?_ ?_ ?_ ?_ ?_ ?_ ?_ ?_ ?_ ?_ ?_ ?_ ?_ ?_ ?_ ?_ ?_ ?_ ?_ ?_ ?_ ?_ ?_ ?_ ?_ ?_ ?_ ?_ ?_ ?_ ?_ ?_ ?_ ?_ ?_ ?_ ?_ ?_ ?_ ?_ ?_ ?_ ?_ ?_ ?_ ?_ ?_ ?_ ?_ ?_ ?_ ?_ ?_ ?_ ?_ ?_ ?_ ?_ ?_ ?_ ?_ ?_ ?_ ?_ ?_ ?_ ?_ ?_ ?_ ?_ ?_ ?_ ?_ ?_ ?_ ?_ ?_ ?_ ?_ ?_ ?_ ?_ ?_ ?_ ?_ ?_ ?_ ?_ ?_ ?_ ?_ ?_ ?_ ?_ ?_ ?_ ?_ ?_ ?_ ?_ ?_ ?_ ?_ ?_ ?_
          all_goals first | (simp only [va_up, upd]; simp; assumption) | skip
          all_goals first | (simp [va_up, upd, hn, e3]; done) | skip
        · simp [va_up, upd, hn, e3, nI_0]
        · simp [va_up, upd, hd]; try omega
        · simp [va_up, upd, hj]
        · exact xk_cnt_le (xk_cnt_k (by decide) hB) (by omega)
      · rw [if_neg (mt q3.mp (by omega)), if_pos (by rw [if_pos (by omega)])] at h3
        simp only [if_pos (q4.mpr r)] at h1 h2
        rw [if_neg (by decide)] at h2
        obtain ⟨t4, h4, t5, h5, rfl⟩ := h3
        obtain ⟨g2, rfl, rfl⟩ := h2
        have hB4 : xk_cnt B t4 := by subst h4; exact xk_cnt_k (by decide) (xk_cnt_k (by decide) hB)
        have hR2 : xr g1 t4 := by
          subst h1; subst h4
          have eb0 := hR.b0; have ea0 := hR.a0; have ed0 := hR.d0; have ek0 := hR.k0; have eb1 := hR.b1; have ea1 := hR.a1; have ed1 := hR.d1; have ek1 := hR.k1; have eb2 := hR.b2; have ea2 := hR.a2; have ed2 := hR.d2; have ek2 := hR.k2; have eb3 := hR.b3; have ea3 := hR.a3; have ed3 := hR.d3; have ek3 := hR.k3; have eb4 := hR.b4; have ea4 := hR.a4; have ed4 := hR.d4; have ek4 := hR.k4; have eb5 := hR.b5; have ea5 := hR.a5; have ed5 := hR.d5; have ek5 := hR.k5; have ep0 := hR.p0; have ep1 := hR.p1; have ep2 := hR.p2; have ep3 := hR.p3; have ep4 := hR.p4; have ep5 := hR.p5; have ep6 := hR.p6; have ep7 := hR.p7; have ec0 := hR.c0; have ec1 := hR.c1; have ec2 := hR.c2; have ec3 := hR.c3; have eo0 := hR.o0; have es0 := hR.s0; have eo1 := hR.o1; have es1 := hR.s1; have epo0 := hR.po0; have epb0 := hR.pb0; have emo0 := hR.mo0; have eze0 := hR.ze0; have est0 := hR.st0; have eal0 := hR.al0; have epo1 := hR.po1; have epb1 := hR.pb1; have emo1 := hR.mo1; have eze1 := hR.ze1; have est1 := hR.st1; have eal1 := hR.al1; have eli0 := hR.li0; have ede0 := hR.de0; have eda0 := hR.da0; have eli1 := hR.li1; have ede1 := hR.de1; have eda1 := hR.da1; have eli2 := hR.li2; have ede2 := hR.de2; have eda2 := hR.da2; have estep := hR.step; have eage := hR.age; have equiet := hR.quiet; have emany := hR.many; have etime := hR.time; have enight := hR.night; have ebell := hR.bell; have eh0 := hR.h0; have eh1 := hR.h1; have eh2 := hR.h2; have eh3 := hR.h3; have eh4 := hR.h4; have eh5 := hR.h5; have eh6 := hR.h6; have eh7 := hR.h7; have enc0 := hR.nc0; have enc1 := hR.nc1; have enc2 := hR.nc2; have ei0 := hR.i0; have ej0 := hR.j0; have em0 := hR.m0; have en0 := hR.n0; have ei1 := hR.i1; have ej1 := hR.j1; have em1 := hR.m1; have en1 := hR.n1; have ei2 := hR.i2; have ej2 := hR.j2; have em2 := hR.m2; have en2 := hR.n2; have ei3 := hR.i3; have ej3 := hR.j3; have em3 := hR.m3; have en3 := hR.n3; have ei4 := hR.i4; have ej4 := hR.j4; have em4 := hR.m4; have en4 := hR.n4; have ei5 := hR.i5; have ej5 := hR.j5; have em5 := hR.m5; have en5 := hR.n5; have enu0 := hR.nu0; have enu1 := hR.nu1; have enu2 := hR.nu2; have enu3 := hR.nu3; have enu4 := hR.nu4; have enu5 := hR.nu5; have ejt := hR.jt; have ejk := hR.jk; have ejw := hR.jw
          refine xr.mk ?_ ?_ ?_ ?_ ?_ ?_ ?_ ?_ ?_ ?_ ?_ ?_ ?_ ?_ ?_ ?_ ?_ ?_ ?_ ?_ ?_ ?_ ?_ ?_ ?_ ?_ ?_ ?_ ?_ ?_ ?_ ?_ ?_ ?_ ?_ ?_ ?_ ?_ ?_ ?_ ?_ ?_ ?_ ?_ ?_ ?_ ?_ ?_ ?_ ?_ ?_ ?_ ?_ ?_ ?_ ?_ ?_ ?_ ?_ ?_ ?_ ?_ ?_ ?_ ?_ ?_ ?_ ?_ ?_ ?_ ?_ ?_ ?_ ?_ ?_ ?_ ?_ ?_ ?_ ?_ ?_ ?_ ?_ ?_ ?_ ?_ ?_ ?_ ?_ ?_ ?_ ?_ ?_ ?_ ?_ ?_ ?_ ?_ ?_ ?_ ?_ ?_ ?_ ?_ ?_ ?_ ?_ ?_ ?_ ?_ ?_ ?_
          all_goals first | (simp only [va_up, upd]; simp; assumption) | skip
          all_goals first | (simp [va_up, upd, hn, e3]; done) | skip
        refine ⟨xr_note hR2 hB4 (by omega) h5, ⟨n + 1, by omega, ?_, ?_⟩, fun j hj => ?_, xr_nc hB4 h5⟩
        · rw [xr_nf h5 22 1 (by decide) (by decide) (by decide) (by decide)]; subst h4; simp [va_up, upd, hn, e3]
        · rw [xr_nf h5 23 1 (by decide) (by decide) (by decide) (by decide), if_neg (by omega)]; subst h4; simp [va_up, upd]
        · rw [xr_nf h5 22 j (by decide) (by decide) (by decide) (by decide), xr_nf h5 23 j (by decide) (by decide) (by decide) (by decide)]; subst h4; simp [va_up, upd, hj]
      · rw [if_neg (mt q3.mp (by omega)), if_neg (by rw [if_neg (by omega)]; decide)] at h3
        simp only [if_neg (mt q4.mp (by omega))] at h1 h2
        rw [if_pos trivial] at h2
        rw [if_neg (by omega)] at hd
        subst h1; subst h2; subst h3
        refine ⟨?_, ⟨n + 1, by omega, ?_, ?_⟩, fun j hj => ?_, ?_⟩
        · have eb0 := hR.b0; have ea0 := hR.a0; have ed0 := hR.d0; have ek0 := hR.k0; have eb1 := hR.b1; have ea1 := hR.a1; have ed1 := hR.d1; have ek1 := hR.k1; have eb2 := hR.b2; have ea2 := hR.a2; have ed2 := hR.d2; have ek2 := hR.k2; have eb3 := hR.b3; have ea3 := hR.a3; have ed3 := hR.d3; have ek3 := hR.k3; have eb4 := hR.b4; have ea4 := hR.a4; have ed4 := hR.d4; have ek4 := hR.k4; have eb5 := hR.b5; have ea5 := hR.a5; have ed5 := hR.d5; have ek5 := hR.k5; have ep0 := hR.p0; have ep1 := hR.p1; have ep2 := hR.p2; have ep3 := hR.p3; have ep4 := hR.p4; have ep5 := hR.p5; have ep6 := hR.p6; have ep7 := hR.p7; have ec0 := hR.c0; have ec1 := hR.c1; have ec2 := hR.c2; have ec3 := hR.c3; have eo0 := hR.o0; have es0 := hR.s0; have eo1 := hR.o1; have es1 := hR.s1; have epo0 := hR.po0; have epb0 := hR.pb0; have emo0 := hR.mo0; have eze0 := hR.ze0; have est0 := hR.st0; have eal0 := hR.al0; have epo1 := hR.po1; have epb1 := hR.pb1; have emo1 := hR.mo1; have eze1 := hR.ze1; have est1 := hR.st1; have eal1 := hR.al1; have eli0 := hR.li0; have ede0 := hR.de0; have eda0 := hR.da0; have eli1 := hR.li1; have ede1 := hR.de1; have eda1 := hR.da1; have eli2 := hR.li2; have ede2 := hR.de2; have eda2 := hR.da2; have estep := hR.step; have eage := hR.age; have equiet := hR.quiet; have emany := hR.many; have etime := hR.time; have enight := hR.night; have ebell := hR.bell; have eh0 := hR.h0; have eh1 := hR.h1; have eh2 := hR.h2; have eh3 := hR.h3; have eh4 := hR.h4; have eh5 := hR.h5; have eh6 := hR.h6; have eh7 := hR.h7; have enc0 := hR.nc0; have enc1 := hR.nc1; have enc2 := hR.nc2; have ei0 := hR.i0; have ej0 := hR.j0; have em0 := hR.m0; have en0 := hR.n0; have ei1 := hR.i1; have ej1 := hR.j1; have em1 := hR.m1; have en1 := hR.n1; have ei2 := hR.i2; have ej2 := hR.j2; have em2 := hR.m2; have en2 := hR.n2; have ei3 := hR.i3; have ej3 := hR.j3; have em3 := hR.m3; have en3 := hR.n3; have ei4 := hR.i4; have ej4 := hR.j4; have em4 := hR.m4; have en4 := hR.n4; have ei5 := hR.i5; have ej5 := hR.j5; have em5 := hR.m5; have en5 := hR.n5; have enu0 := hR.nu0; have enu1 := hR.nu1; have enu2 := hR.nu2; have enu3 := hR.nu3; have enu4 := hR.nu4; have enu5 := hR.nu5; have ejt := hR.jt; have ejk := hR.jk; have ejw := hR.jw
          refine xr.mk ?_ ?_ ?_ ?_ ?_ ?_ ?_ ?_ ?_ ?_ ?_ ?_ ?_ ?_ ?_ ?_ ?_ ?_ ?_ ?_ ?_ ?_ ?_ ?_ ?_ ?_ ?_ ?_ ?_ ?_ ?_ ?_ ?_ ?_ ?_ ?_ ?_ ?_ ?_ ?_ ?_ ?_ ?_ ?_ ?_ ?_ ?_ ?_ ?_ ?_ ?_ ?_ ?_ ?_ ?_ ?_ ?_ ?_ ?_ ?_ ?_ ?_ ?_ ?_ ?_ ?_ ?_ ?_ ?_ ?_ ?_ ?_ ?_ ?_ ?_ ?_ ?_ ?_ ?_ ?_ ?_ ?_ ?_ ?_ ?_ ?_ ?_ ?_ ?_ ?_ ?_ ?_ ?_ ?_ ?_ ?_ ?_ ?_ ?_ ?_ ?_ ?_ ?_ ?_ ?_ ?_ ?_ ?_ ?_ ?_ ?_ ?_
          all_goals first | (simp only [va_up, upd]; simp; assumption) | skip
          all_goals first | (simp [va_up, upd, hn, e3]; done) | skip
        · simp [va_up, upd, hn, e3, nI_0]
        · simp [va_up, upd, hd]; try omega
        · simp [va_up, upd, hj]
        · exact xk_cnt_le (xk_cnt_k (by decide) hB) (by omega)
    · have c4 : t 20 1 = 0 := by rw [hR.nc1, if_neg c0]
      rw [if_pos c4] at h3
      simp only [if_neg c0] at h1 h2
      rw [if_pos trivial] at h2
      obtain ⟨t1, rfl, t2, rfl, rfl⟩ := h3
      subst h1; subst h2
      refine ⟨?_, ⟨0, by omega, ?_, ?_⟩, fun j hj => ?_, ?_⟩
      · have eb0 := hR.b0; have ea0 := hR.a0; have ed0 := hR.d0; have ek0 := hR.k0; have eb1 := hR.b1; have ea1 := hR.a1; have ed1 := hR.d1; have ek1 := hR.k1; have eb2 := hR.b2; have ea2 := hR.a2; have ed2 := hR.d2; have ek2 := hR.k2; have eb3 := hR.b3; have ea3 := hR.a3; have ed3 := hR.d3; have ek3 := hR.k3; have eb4 := hR.b4; have ea4 := hR.a4; have ed4 := hR.d4; have ek4 := hR.k4; have eb5 := hR.b5; have ea5 := hR.a5; have ed5 := hR.d5; have ek5 := hR.k5; have ep0 := hR.p0; have ep1 := hR.p1; have ep2 := hR.p2; have ep3 := hR.p3; have ep4 := hR.p4; have ep5 := hR.p5; have ep6 := hR.p6; have ep7 := hR.p7; have ec0 := hR.c0; have ec1 := hR.c1; have ec2 := hR.c2; have ec3 := hR.c3; have eo0 := hR.o0; have es0 := hR.s0; have eo1 := hR.o1; have es1 := hR.s1; have epo0 := hR.po0; have epb0 := hR.pb0; have emo0 := hR.mo0; have eze0 := hR.ze0; have est0 := hR.st0; have eal0 := hR.al0; have epo1 := hR.po1; have epb1 := hR.pb1; have emo1 := hR.mo1; have eze1 := hR.ze1; have est1 := hR.st1; have eal1 := hR.al1; have eli0 := hR.li0; have ede0 := hR.de0; have eda0 := hR.da0; have eli1 := hR.li1; have ede1 := hR.de1; have eda1 := hR.da1; have eli2 := hR.li2; have ede2 := hR.de2; have eda2 := hR.da2; have estep := hR.step; have eage := hR.age; have equiet := hR.quiet; have emany := hR.many; have etime := hR.time; have enight := hR.night; have ebell := hR.bell; have eh0 := hR.h0; have eh1 := hR.h1; have eh2 := hR.h2; have eh3 := hR.h3; have eh4 := hR.h4; have eh5 := hR.h5; have eh6 := hR.h6; have eh7 := hR.h7; have enc0 := hR.nc0; have enc1 := hR.nc1; have enc2 := hR.nc2; have ei0 := hR.i0; have ej0 := hR.j0; have em0 := hR.m0; have en0 := hR.n0; have ei1 := hR.i1; have ej1 := hR.j1; have em1 := hR.m1; have en1 := hR.n1; have ei2 := hR.i2; have ej2 := hR.j2; have em2 := hR.m2; have en2 := hR.n2; have ei3 := hR.i3; have ej3 := hR.j3; have em3 := hR.m3; have en3 := hR.n3; have ei4 := hR.i4; have ej4 := hR.j4; have em4 := hR.m4; have en4 := hR.n4; have ei5 := hR.i5; have ej5 := hR.j5; have em5 := hR.m5; have en5 := hR.n5; have enu0 := hR.nu0; have enu1 := hR.nu1; have enu2 := hR.nu2; have enu3 := hR.nu3; have enu4 := hR.nu4; have enu5 := hR.nu5; have ejt := hR.jt; have ejk := hR.jk; have ejw := hR.jw
        refine xr.mk ?_ ?_ ?_ ?_ ?_ ?_ ?_ ?_ ?_ ?_ ?_ ?_ ?_ ?_ ?_ ?_ ?_ ?_ ?_ ?_ ?_ ?_ ?_ ?_ ?_ ?_ ?_ ?_ ?_ ?_ ?_ ?_ ?_ ?_ ?_ ?_ ?_ ?_ ?_ ?_ ?_ ?_ ?_ ?_ ?_ ?_ ?_ ?_ ?_ ?_ ?_ ?_ ?_ ?_ ?_ ?_ ?_ ?_ ?_ ?_ ?_ ?_ ?_ ?_ ?_ ?_ ?_ ?_ ?_ ?_ ?_ ?_ ?_ ?_ ?_ ?_ ?_ ?_ ?_ ?_ ?_ ?_ ?_ ?_ ?_ ?_ ?_ ?_ ?_ ?_ ?_ ?_ ?_ ?_ ?_ ?_ ?_ ?_ ?_ ?_ ?_ ?_ ?_ ?_ ?_ ?_ ?_ ?_ ?_ ?_ ?_ ?_
        all_goals first | (simp only [va_up, upd]; simp; assumption) | skip
        all_goals first | (simp [va_up, upd, ]; done) | skip
      · simp [va_up, upd, hn, e3, nI_0]
      · simp [va_up, upd, hd]; try omega
      · simp [va_up, upd, hj]
      · exact xk_cnt_le (xk_cnt_k (by decide) (xk_cnt_k (by decide) hB)) (by omega)
theorem sim_lamp_2 {g g1 g3 t t6 : xk_St} {n B : Nat} (hR : xr g t) (hB : xk_cnt B t) (hB2 : B < 2147483647) (hn : t 22 2 = nI n) (hb : n < 1000000) (hd : t 23 2 = if n < 3 then 0 else 1)
    (h1 : g1 = va_up g 33 (upd (upd (g 33) 2 (qzP_dies_a2 (g 33 0) (g 33 1) (g 33 2) (g 33 3))) 3 (qzP_dies_a3 (g 33 0) (g 33 1) (g 33 3))))
    (h2 : if (qzP_dies (g 33 0) (g 33 1) (g 33 3)) = 0 then (g3 = g1) else (∃ (g2 : xk_St), g2 = va_up (va_up (va_up (va_up g1 5 (upd (g1 5) 3 (qzJ_add_a3 (g1 5 3)))) 6 (qzJ_add_b (g1 5 3) (g1 6) (g1 0 5))) 7 (qzJ_add_c (g1 5 3) (g1 7) 7)) 8 (qzJ_add_d (g1 5 3) (g1 8) 2) ∧ (g3 = g2)))
    (h3 : if ((t 21) 2) = 0 then (t6 = t) else (if ((t 20) 2) = 0 then (∃ (t1 : xk_St), t1 = va_up t 22 (upd (t 22) 2 0) ∧ (∃ (t2 : xk_St), t2 = va_up t1 23 (upd (t1 23) 2 0) ∧ (t6 = t2))) else (∃ (t3 : xk_St), t3 = va_up t 22 (upd (t 22) 2 (((t 22) 2) + 1)) ∧ (if ((t3 22) 2) < 3 then (t6 = t3) else (if ((t3 23) 2) = 0 then (∃ (t4 : xk_St), t4 = va_up t3 23 (upd (t3 23) 2 1) ∧ (∃ (t5 : xk_St), relzM_note t4 7 2 t5 ∧ (t6 = t5))) else (t6 = t3)))))) : xr g3 t6 ∧ xi_lp (n + 1) t6 2 ∧ (∀ j : Nat, j ≠ 2 → t6 22 j = t 22 j ∧ t6 23 j = t 23 j) ∧ xk_cnt (B + 1) t6 := by
  have f3 : g 33 3 = nI n := hR.da2.trans hn
  have e3 : nI n + 1 = nI (n + 1) := nI_1 n
  by_cases c1 : t 21 2 = 0
  · have c2 : g 33 1 = 0 := hR.li2.trans c1
    rw [if_pos c1] at h3
    simp only [qzP_dies, qzP_dies_a2, qzP_dies_a3, if_pos c2] at h1 h2
    rw [if_pos trivial] at h2
    subst h1; subst h2; subst h3
    refine ⟨?_, ⟨n, by omega, ?_, ?_⟩, fun j hj => ?_, ?_⟩
    · have eb0 := hR.b0; have ea0 := hR.a0; have ed0 := hR.d0; have ek0 := hR.k0; have eb1 := hR.b1; have ea1 := hR.a1; have ed1 := hR.d1; have ek1 := hR.k1; have eb2 := hR.b2; have ea2 := hR.a2; have ed2 := hR.d2; have ek2 := hR.k2; have eb3 := hR.b3; have ea3 := hR.a3; have ed3 := hR.d3; have ek3 := hR.k3; have eb4 := hR.b4; have ea4 := hR.a4; have ed4 := hR.d4; have ek4 := hR.k4; have eb5 := hR.b5; have ea5 := hR.a5; have ed5 := hR.d5; have ek5 := hR.k5; have ep0 := hR.p0; have ep1 := hR.p1; have ep2 := hR.p2; have ep3 := hR.p3; have ep4 := hR.p4; have ep5 := hR.p5; have ep6 := hR.p6; have ep7 := hR.p7; have ec0 := hR.c0; have ec1 := hR.c1; have ec2 := hR.c2; have ec3 := hR.c3; have eo0 := hR.o0; have es0 := hR.s0; have eo1 := hR.o1; have es1 := hR.s1; have epo0 := hR.po0; have epb0 := hR.pb0; have emo0 := hR.mo0; have eze0 := hR.ze0; have est0 := hR.st0; have eal0 := hR.al0; have epo1 := hR.po1; have epb1 := hR.pb1; have emo1 := hR.mo1; have eze1 := hR.ze1; have est1 := hR.st1; have eal1 := hR.al1; have eli0 := hR.li0; have ede0 := hR.de0; have eda0 := hR.da0; have eli1 := hR.li1; have ede1 := hR.de1; have eda1 := hR.da1; have eli2 := hR.li2; have ede2 := hR.de2; have eda2 := hR.da2; have estep := hR.step; have eage := hR.age; have equiet := hR.quiet; have emany := hR.many; have etime := hR.time; have enight := hR.night; have ebell := hR.bell; have eh0 := hR.h0; have eh1 := hR.h1; have eh2 := hR.h2; have eh3 := hR.h3; have eh4 := hR.h4; have eh5 := hR.h5; have eh6 := hR.h6; have eh7 := hR.h7; have enc0 := hR.nc0; have enc1 := hR.nc1; have enc2 := hR.nc2; have ei0 := hR.i0; have ej0 := hR.j0; have em0 := hR.m0; have en0 := hR.n0; have ei1 := hR.i1; have ej1 := hR.j1; have em1 := hR.m1; have en1 := hR.n1; have ei2 := hR.i2; have ej2 := hR.j2; have em2 := hR.m2; have en2 := hR.n2; have ei3 := hR.i3; have ej3 := hR.j3; have em3 := hR.m3; have en3 := hR.n3; have ei4 := hR.i4; have ej4 := hR.j4; have em4 := hR.m4; have en4 := hR.n4; have ei5 := hR.i5; have ej5 := hR.j5; have em5 := hR.m5; have en5 := hR.n5; have enu0 := hR.nu0; have enu1 := hR.nu1; have enu2 := hR.nu2; have enu3 := hR.nu3; have enu4 := hR.nu4; have enu5 := hR.nu5; have ejt := hR.jt; have ejk := hR.jk; have ejw := hR.jw
      refine xr.mk ?_ ?_ ?_ ?_ ?_ ?_ ?_ ?_ ?_ ?_ ?_ ?_ ?_ ?_ ?_ ?_ ?_ ?_ ?_ ?_ ?_ ?_ ?_ ?_ ?_ ?_ ?_ ?_ ?_ ?_ ?_ ?_ ?_ ?_ ?_ ?_ ?_ ?_ ?_ ?_ ?_ ?_ ?_ ?_ ?_ ?_ ?_ ?_ ?_ ?_ ?_ ?_ ?_ ?_ ?_ ?_ ?_ ?_ ?_ ?_ ?_ ?_ ?_ ?_ ?_ ?_ ?_ ?_ ?_ ?_ ?_ ?_ ?_ ?_ ?_ ?_ ?_ ?_ ?_ ?_ ?_ ?_ ?_ ?_ ?_ ?_ ?_ ?_ ?_ ?_ ?_ ?_ ?_ ?_ ?_ ?_ ?_ ?_ ?_ ?_ ?_ ?_ ?_ ?_ ?_ ?_ ?_ ?_ ?_ ?_ ?_ ?_
      all_goals first | (simp only [va_up, upd]; simp; assumption) | skip
      all_goals first | (simp [va_up, upd, ]; done) | skip
    · simp [va_up, upd, hn, e3, nI_0]
    · simp [va_up, upd, hd]; try omega
    · simp [va_up, upd, hj]
    · exact xk_cnt_le hB (by omega)
  · have c2 : ¬ g 33 1 = 0 := by rw [hR.li2]; exact c1
    rw [if_neg c1] at h3
    simp only [qzP_dies, qzP_dies_a2, qzP_dies_a3, if_neg c2] at h1 h2
    by_cases c0 : g 33 0 = 0
    · have c4 : ¬ t 20 2 = 0 := by rw [hR.nc2, if_pos c0]; decide
      rw [if_neg c4] at h3
      simp only [if_pos c0, f3, e3] at h1 h2
      obtain ⟨t3, rfl, h3⟩ := h3
      have q1 : (va_up t 22 (upd (t 22) 2 (t 22 2 + 1))) 22 2 = nI (n + 1) := by simp [va_up, upd, hn, e3]
      have q2 : (va_up t 22 (upd (t 22) 2 (t 22 2 + 1))) 23 2 = if n < 3 then 0 else 1 := by simp [va_up, upd, hd]
      rw [q1, q2] at h3
      have q3 : (nI (n + 1) < 3) ↔ n + 1 < 3 := nI_ltI (b := 3) (by omega) (by decide)
      have q4 : (nI (n + 1) = 3) ↔ n + 1 = 3 := nI_eq (b := 3) (by omega) (by decide)
      rcases Nat.lt_trichotomy (n + 1) 3 with r | r | r
      · rw [if_pos (q3.mpr r)] at h3
        simp only [if_neg (mt q4.mp (by omega))] at h1 h2
        rw [if_pos trivial] at h2
        rw [if_pos (by omega)] at hd
        subst h1; subst h2; subst h3
        refine ⟨?_, ⟨n + 1, by omega, ?_, ?_⟩, fun j hj => ?_, ?_⟩
        · have eb0 := hR.b0; have ea0 := hR.a0; have ed0 := hR.d0; have ek0 := hR.k0; have eb1 := hR.b1; have ea1 := hR.a1; have ed1 := hR.d1; have ek1 := hR.k1; have eb2 := hR.b2; have ea2 := hR.a2; have ed2 := hR.d2; have ek2 := hR.k2; have eb3 := hR.b3; have ea3 := hR.a3; have ed3 := hR.d3; have ek3 := hR.k3; have eb4 := hR.b4; have ea4 := hR.a4; have ed4 := hR.d4; have ek4 := hR.k4; have eb5 := hR.b5; have ea5 := hR.a5; have ed5 := hR.d5; have ek5 := hR.k5; have ep0 := hR.p0; have ep1 := hR.p1; have ep2 := hR.p2; have ep3 := hR.p3; have ep4 := hR.p4; have ep5 := hR.p5; have ep6 := hR.p6; have ep7 := hR.p7; have ec0 := hR.c0; have ec1 := hR.c1; have ec2 := hR.c2; have ec3 := hR.c3; have eo0 := hR.o0; have es0 := hR.s0; have eo1 := hR.o1; have es1 := hR.s1; have epo0 := hR.po0; have epb0 := hR.pb0; have emo0 := hR.mo0; have eze0 := hR.ze0; have est0 := hR.st0; have eal0 := hR.al0; have epo1 := hR.po1; have epb1 := hR.pb1; have emo1 := hR.mo1; have eze1 := hR.ze1; have est1 := hR.st1; have eal1 := hR.al1; have eli0 := hR.li0; have ede0 := hR.de0; have eda0 := hR.da0; have eli1 := hR.li1; have ede1 := hR.de1; have eda1 := hR.da1; have eli2 := hR.li2; have ede2 := hR.de2; have eda2 := hR.da2; have estep := hR.step; have eage := hR.age; have equiet := hR.quiet; have emany := hR.many; have etime := hR.time; have enight := hR.night; have ebell := hR.bell; have eh0 := hR.h0; have eh1 := hR.h1; have eh2 := hR.h2; have eh3 := hR.h3; have eh4 := hR.h4; have eh5 := hR.h5; have eh6 := hR.h6; have eh7 := hR.h7; have enc0 := hR.nc0; have enc1 := hR.nc1; have enc2 := hR.nc2; have ei0 := hR.i0; have ej0 := hR.j0; have em0 := hR.m0; have en0 := hR.n0; have ei1 := hR.i1; have ej1 := hR.j1; have em1 := hR.m1; have en1 := hR.n1; have ei2 := hR.i2; have ej2 := hR.j2; have em2 := hR.m2; have en2 := hR.n2; have ei3 := hR.i3; have ej3 := hR.j3; have em3 := hR.m3; have en3 := hR.n3; have ei4 := hR.i4; have ej4 := hR.j4; have em4 := hR.m4; have en4 := hR.n4; have ei5 := hR.i5; have ej5 := hR.j5; have em5 := hR.m5; have en5 := hR.n5; have enu0 := hR.nu0; have enu1 := hR.nu1; have enu2 := hR.nu2; have enu3 := hR.nu3; have enu4 := hR.nu4; have enu5 := hR.nu5; have ejt := hR.jt; have ejk := hR.jk; have ejw := hR.jw
          refine xr.mk ?_ ?_ ?_ ?_ ?_ ?_ ?_ ?_ ?_ ?_ ?_ ?_ ?_ ?_ ?_ ?_ ?_ ?_ ?_ ?_ ?_ ?_ ?_ ?_ ?_ ?_ ?_ ?_ ?_ ?_ ?_ ?_ ?_ ?_ ?_ ?_ ?_ ?_ ?_ ?_ ?_ ?_ ?_ ?_ ?_ ?_ ?_ ?_ ?_ ?_ ?_ ?_ ?_ ?_ ?_ ?_ ?_ ?_ ?_ ?_ ?_ ?_ ?_ ?_ ?_ ?_ ?_ ?_ ?_ ?_ ?_ ?_ ?_ ?_ ?_ ?_ ?_ ?_ ?_ ?_ ?_ ?_ ?_ ?_ ?_ ?_ ?_ ?_ ?_ ?_ ?_ ?_ ?_ ?_ ?_ ?_ ?_ ?_ ?_ ?_ ?_ ?_ ?_ ?_ ?_ ?_ ?_ ?_ ?_ ?_ ?_ ?_
          all_goals first | (simp only [va_up, upd]; simp; assumption) | skip
          all_goals first | (simp [va_up, upd, hn, e3]; done) | skip
        · simp [va_up, upd, hn, e3, nI_0]
        · simp [va_up, upd, hd]; try omega
        · simp [va_up, upd, hj]
        · exact xk_cnt_le (xk_cnt_k (by decide) hB) (by omega)
      · rw [if_neg (mt q3.mp (by omega)), if_pos (by rw [if_pos (by omega)])] at h3
        simp only [if_pos (q4.mpr r)] at h1 h2
        rw [if_neg (by decide)] at h2
        obtain ⟨t4, h4, t5, h5, rfl⟩ := h3
        obtain ⟨g2, rfl, rfl⟩ := h2
        have hB4 : xk_cnt B t4 := by subst h4; exact xk_cnt_k (by decide) (xk_cnt_k (by decide) hB)
        have hR2 : xr g1 t4 := by
          subst h1; subst h4
          have eb0 := hR.b0; have ea0 := hR.a0; have ed0 := hR.d0; have ek0 := hR.k0; have eb1 := hR.b1; have ea1 := hR.a1; have ed1 := hR.d1; have ek1 := hR.k1; have eb2 := hR.b2; have ea2 := hR.a2; have ed2 := hR.d2; have ek2 := hR.k2; have eb3 := hR.b3; have ea3 := hR.a3; have ed3 := hR.d3; have ek3 := hR.k3; have eb4 := hR.b4; have ea4 := hR.a4; have ed4 := hR.d4; have ek4 := hR.k4; have eb5 := hR.b5; have ea5 := hR.a5; have ed5 := hR.d5; have ek5 := hR.k5; have ep0 := hR.p0; have ep1 := hR.p1; have ep2 := hR.p2; have ep3 := hR.p3; have ep4 := hR.p4; have ep5 := hR.p5; have ep6 := hR.p6; have ep7 := hR.p7; have ec0 := hR.c0; have ec1 := hR.c1; have ec2 := hR.c2; have ec3 := hR.c3; have eo0 := hR.o0; have es0 := hR.s0; have eo1 := hR.o1; have es1 := hR.s1; have epo0 := hR.po0; have epb0 := hR.pb0; have emo0 := hR.mo0; have eze0 := hR.ze0; have est0 := hR.st0; have eal0 := hR.al0; have epo1 := hR.po1; have epb1 := hR.pb1; have emo1 := hR.mo1; have eze1 := hR.ze1; have est1 := hR.st1; have eal1 := hR.al1; have eli0 := hR.li0; have ede0 := hR.de0; have eda0 := hR.da0; have eli1 := hR.li1; have ede1 := hR.de1; have eda1 := hR.da1; have eli2 := hR.li2; have ede2 := hR.de2; have eda2 := hR.da2; have estep := hR.step; have eage := hR.age; have equiet := hR.quiet; have emany := hR.many; have etime := hR.time; have enight := hR.night; have ebell := hR.bell; have eh0 := hR.h0; have eh1 := hR.h1; have eh2 := hR.h2; have eh3 := hR.h3; have eh4 := hR.h4; have eh5 := hR.h5; have eh6 := hR.h6; have eh7 := hR.h7; have enc0 := hR.nc0; have enc1 := hR.nc1; have enc2 := hR.nc2; have ei0 := hR.i0; have ej0 := hR.j0; have em0 := hR.m0; have en0 := hR.n0; have ei1 := hR.i1; have ej1 := hR.j1; have em1 := hR.m1; have en1 := hR.n1; have ei2 := hR.i2; have ej2 := hR.j2; have em2 := hR.m2; have en2 := hR.n2; have ei3 := hR.i3; have ej3 := hR.j3; have em3 := hR.m3; have en3 := hR.n3; have ei4 := hR.i4; have ej4 := hR.j4; have em4 := hR.m4; have en4 := hR.n4; have ei5 := hR.i5; have ej5 := hR.j5; have em5 := hR.m5; have en5 := hR.n5; have enu0 := hR.nu0; have enu1 := hR.nu1; have enu2 := hR.nu2; have enu3 := hR.nu3; have enu4 := hR.nu4; have enu5 := hR.nu5; have ejt := hR.jt; have ejk := hR.jk; have ejw := hR.jw
          refine xr.mk ?_ ?_ ?_ ?_ ?_ ?_ ?_ ?_ ?_ ?_ ?_ ?_ ?_ ?_ ?_ ?_ ?_ ?_ ?_ ?_ ?_ ?_ ?_ ?_ ?_ ?_ ?_ ?_ ?_ ?_ ?_ ?_ ?_ ?_ ?_ ?_ ?_ ?_ ?_ ?_ ?_ ?_ ?_ ?_ ?_ ?_ ?_ ?_ ?_ ?_ ?_ ?_ ?_ ?_ ?_ ?_ ?_ ?_ ?_ ?_ ?_ ?_ ?_ ?_ ?_ ?_ ?_ ?_ ?_ ?_ ?_ ?_ ?_ ?_ ?_ ?_ ?_ ?_ ?_ ?_ ?_ ?_ ?_ ?_ ?_ ?_ ?_ ?_ ?_ ?_ ?_ ?_ ?_ ?_ ?_ ?_ ?_ ?_ ?_ ?_ ?_ ?_ ?_ ?_ ?_ ?_ ?_ ?_ ?_ ?_ ?_ ?_
          all_goals first | (simp only [va_up, upd]; simp; assumption) | skip
          all_goals first | (simp [va_up, upd, hn, e3]; done) | skip
        refine ⟨xr_note hR2 hB4 (by omega) h5, ⟨n + 1, by omega, ?_, ?_⟩, fun j hj => ?_, xr_nc hB4 h5⟩
        · rw [xr_nf h5 22 2 (by decide) (by decide) (by decide) (by decide)]; subst h4; simp [va_up, upd, hn, e3]
        · rw [xr_nf h5 23 2 (by decide) (by decide) (by decide) (by decide), if_neg (by omega)]; subst h4; simp [va_up, upd]
        · rw [xr_nf h5 22 j (by decide) (by decide) (by decide) (by decide), xr_nf h5 23 j (by decide) (by decide) (by decide) (by decide)]; subst h4; simp [va_up, upd, hj]
      · rw [if_neg (mt q3.mp (by omega)), if_neg (by rw [if_neg (by omega)]; decide)] at h3
        simp only [if_neg (mt q4.mp (by omega))] at h1 h2
        rw [if_pos trivial] at h2
        rw [if_neg (by omega)] at hd
        subst h1; subst h2; subst h3
        refine ⟨?_, ⟨n + 1, by omega, ?_, ?_⟩, fun j hj => ?_, ?_⟩
        · have eb0 := hR.b0; have ea0 := hR.a0; have ed0 := hR.d0; have ek0 := hR.k0; have eb1 := hR.b1; have ea1 := hR.a1; have ed1 := hR.d1; have ek1 := hR.k1; have eb2 := hR.b2; have ea2 := hR.a2; have ed2 := hR.d2; have ek2 := hR.k2; have eb3 := hR.b3; have ea3 := hR.a3; have ed3 := hR.d3; have ek3 := hR.k3; have eb4 := hR.b4; have ea4 := hR.a4; have ed4 := hR.d4; have ek4 := hR.k4; have eb5 := hR.b5; have ea5 := hR.a5; have ed5 := hR.d5; have ek5 := hR.k5; have ep0 := hR.p0; have ep1 := hR.p1; have ep2 := hR.p2; have ep3 := hR.p3; have ep4 := hR.p4; have ep5 := hR.p5; have ep6 := hR.p6; have ep7 := hR.p7; have ec0 := hR.c0; have ec1 := hR.c1; have ec2 := hR.c2; have ec3 := hR.c3; have eo0 := hR.o0; have es0 := hR.s0; have eo1 := hR.o1; have es1 := hR.s1; have epo0 := hR.po0; have epb0 := hR.pb0; have emo0 := hR.mo0; have eze0 := hR.ze0; have est0 := hR.st0; have eal0 := hR.al0; have epo1 := hR.po1; have epb1 := hR.pb1; have emo1 := hR.mo1; have eze1 := hR.ze1; have est1 := hR.st1; have eal1 := hR.al1; have eli0 := hR.li0; have ede0 := hR.de0; have eda0 := hR.da0; have eli1 := hR.li1; have ede1 := hR.de1; have eda1 := hR.da1; have eli2 := hR.li2; have ede2 := hR.de2; have eda2 := hR.da2; have estep := hR.step; have eage := hR.age; have equiet := hR.quiet; have emany := hR.many; have etime := hR.time; have enight := hR.night; have ebell := hR.bell; have eh0 := hR.h0; have eh1 := hR.h1; have eh2 := hR.h2; have eh3 := hR.h3; have eh4 := hR.h4; have eh5 := hR.h5; have eh6 := hR.h6; have eh7 := hR.h7; have enc0 := hR.nc0; have enc1 := hR.nc1; have enc2 := hR.nc2; have ei0 := hR.i0; have ej0 := hR.j0; have em0 := hR.m0; have en0 := hR.n0; have ei1 := hR.i1; have ej1 := hR.j1; have em1 := hR.m1; have en1 := hR.n1; have ei2 := hR.i2; have ej2 := hR.j2; have em2 := hR.m2; have en2 := hR.n2; have ei3 := hR.i3; have ej3 := hR.j3; have em3 := hR.m3; have en3 := hR.n3; have ei4 := hR.i4; have ej4 := hR.j4; have em4 := hR.m4; have en4 := hR.n4; have ei5 := hR.i5; have ej5 := hR.j5; have em5 := hR.m5; have en5 := hR.n5; have enu0 := hR.nu0; have enu1 := hR.nu1; have enu2 := hR.nu2; have enu3 := hR.nu3; have enu4 := hR.nu4; have enu5 := hR.nu5; have ejt := hR.jt; have ejk := hR.jk; have ejw := hR.jw
          refine xr.mk ?_ ?_ ?_ ?_ ?_ ?_ ?_ ?_ ?_ ?_ ?_ ?_ ?_ ?_ ?_ ?_ ?_ ?_ ?_ ?_ ?_ ?_ ?_ ?_ ?_ ?_ ?_ ?_ ?_ ?_ ?_ ?_ ?_ ?_ ?_ ?_ ?_ ?_ ?_ ?_ ?_ ?_ ?_ ?_ ?_ ?_ ?_ ?_ ?_ ?_ ?_ ?_ ?_ ?_ ?_ ?_ ?_ ?_ ?_ ?_ ?_ ?_ ?_ ?_ ?_ ?_ ?_ ?_ ?_ ?_ ?_ ?_ ?_ ?_ ?_ ?_ ?_ ?_ ?_ ?_ ?_ ?_ ?_ ?_ ?_ ?_ ?_ ?_ ?_ ?_ ?_ ?_ ?_ ?_ ?_ ?_ ?_ ?_ ?_ ?_ ?_ ?_ ?_ ?_ ?_ ?_ ?_ ?_ ?_ ?_ ?_ ?_
          all_goals first | (simp only [va_up, upd]; simp; assumption) | skip
          all_goals first | (simp [va_up, upd, hn, e3]; done) | skip
        · simp [va_up, upd, hn, e3, nI_0]
        · simp [va_up, upd, hd]; try omega
        · simp [va_up, upd, hj]
        · exact xk_cnt_le (xk_cnt_k (by decide) hB) (by omega)
    · have c4 : t 20 2 = 0 := by rw [hR.nc2, if_neg c0]
      rw [if_pos c4] at h3
      simp only [if_neg c0] at h1 h2
      rw [if_pos trivial] at h2
      obtain ⟨t1, rfl, t2, rfl, rfl⟩ := h3
      subst h1; subst h2
      refine ⟨?_, ⟨0, by omega, ?_, ?_⟩, fun j hj => ?_, ?_⟩
      · have eb0 := hR.b0; have ea0 := hR.a0; have ed0 := hR.d0; have ek0 := hR.k0; have eb1 := hR.b1; have ea1 := hR.a1; have ed1 := hR.d1; have ek1 := hR.k1; have eb2 := hR.b2; have ea2 := hR.a2; have ed2 := hR.d2; have ek2 := hR.k2; have eb3 := hR.b3; have ea3 := hR.a3; have ed3 := hR.d3; have ek3 := hR.k3; have eb4 := hR.b4; have ea4 := hR.a4; have ed4 := hR.d4; have ek4 := hR.k4; have eb5 := hR.b5; have ea5 := hR.a5; have ed5 := hR.d5; have ek5 := hR.k5; have ep0 := hR.p0; have ep1 := hR.p1; have ep2 := hR.p2; have ep3 := hR.p3; have ep4 := hR.p4; have ep5 := hR.p5; have ep6 := hR.p6; have ep7 := hR.p7; have ec0 := hR.c0; have ec1 := hR.c1; have ec2 := hR.c2; have ec3 := hR.c3; have eo0 := hR.o0; have es0 := hR.s0; have eo1 := hR.o1; have es1 := hR.s1; have epo0 := hR.po0; have epb0 := hR.pb0; have emo0 := hR.mo0; have eze0 := hR.ze0; have est0 := hR.st0; have eal0 := hR.al0; have epo1 := hR.po1; have epb1 := hR.pb1; have emo1 := hR.mo1; have eze1 := hR.ze1; have est1 := hR.st1; have eal1 := hR.al1; have eli0 := hR.li0; have ede0 := hR.de0; have eda0 := hR.da0; have eli1 := hR.li1; have ede1 := hR.de1; have eda1 := hR.da1; have eli2 := hR.li2; have ede2 := hR.de2; have eda2 := hR.da2; have estep := hR.step; have eage := hR.age; have equiet := hR.quiet; have emany := hR.many; have etime := hR.time; have enight := hR.night; have ebell := hR.bell; have eh0 := hR.h0; have eh1 := hR.h1; have eh2 := hR.h2; have eh3 := hR.h3; have eh4 := hR.h4; have eh5 := hR.h5; have eh6 := hR.h6; have eh7 := hR.h7; have enc0 := hR.nc0; have enc1 := hR.nc1; have enc2 := hR.nc2; have ei0 := hR.i0; have ej0 := hR.j0; have em0 := hR.m0; have en0 := hR.n0; have ei1 := hR.i1; have ej1 := hR.j1; have em1 := hR.m1; have en1 := hR.n1; have ei2 := hR.i2; have ej2 := hR.j2; have em2 := hR.m2; have en2 := hR.n2; have ei3 := hR.i3; have ej3 := hR.j3; have em3 := hR.m3; have en3 := hR.n3; have ei4 := hR.i4; have ej4 := hR.j4; have em4 := hR.m4; have en4 := hR.n4; have ei5 := hR.i5; have ej5 := hR.j5; have em5 := hR.m5; have en5 := hR.n5; have enu0 := hR.nu0; have enu1 := hR.nu1; have enu2 := hR.nu2; have enu3 := hR.nu3; have enu4 := hR.nu4; have enu5 := hR.nu5; have ejt := hR.jt; have ejk := hR.jk; have ejw := hR.jw
        refine xr.mk ?_ ?_ ?_ ?_ ?_ ?_ ?_ ?_ ?_ ?_ ?_ ?_ ?_ ?_ ?_ ?_ ?_ ?_ ?_ ?_ ?_ ?_ ?_ ?_ ?_ ?_ ?_ ?_ ?_ ?_ ?_ ?_ ?_ ?_ ?_ ?_ ?_ ?_ ?_ ?_ ?_ ?_ ?_ ?_ ?_ ?_ ?_ ?_ ?_ ?_ ?_ ?_ ?_ ?_ ?_ ?_ ?_ ?_ ?_ ?_ ?_ ?_ ?_ ?_ ?_ ?_ ?_ ?_ ?_ ?_ ?_ ?_ ?_ ?_ ?_ ?_ ?_ ?_ ?_ ?_ ?_ ?_ ?_ ?_ ?_ ?_ ?_ ?_ ?_ ?_ ?_ ?_ ?_ ?_ ?_ ?_ ?_ ?_ ?_ ?_ ?_ ?_ ?_ ?_ ?_ ?_ ?_ ?_ ?_ ?_ ?_ ?_
        all_goals first | (simp only [va_up, upd]; simp; assumption) | skip
        all_goals first | (simp [va_up, upd, ]; done) | skip
      · simp [va_up, upd, hn, e3, nI_0]
      · simp [va_up, upd, hd]; try omega
      · simp [va_up, upd, hj]
      · exact xk_cnt_le (xk_cnt_k (by decide) (xk_cnt_k (by decide) hB)) (by omega)
theorem sim_watchLamps {g gz t tz : xk_St} {T B : Nat} (hR : xr g t) (hB : xk_cnt B t) (hB2 : B + 3 < 2147483647) (hT : T < 999999) (hi : ∀ k : Nat, k < 3 → xi_lp T t k) (hU : relzU_watchLamps g gz) (hM : relzM_watchLamps t tz) : xr gz tz ∧ (∀ k : Nat, k < 3 → xi_lp (T + 1) tz k) ∧ xk_cnt (B + 3) tz := by
  obtain ⟨g1, u1, g3, u3, g4, u4, g6, u6, g7, u7, g9, u9, rfl⟩ := hU
  obtain ⟨t6, m6, t12, m12, t18, m18, rfl⟩ := hM
  obtain ⟨n0, l0, a0, b0⟩ := hi 0 (by decide)
  obtain ⟨n1, l1, a1, b1⟩ := hi 1 (by decide)
  obtain ⟨n2, l2, a2, b2⟩ := hi 2 (by decide)
  obtain ⟨R1, ⟨p0, q0, x0, y0⟩, k0, B1⟩ := sim_lamp_0 hR hB (by omega) a0 (by omega) b0 u1 u3 m6
  obtain ⟨R2, ⟨p1, q1, x1, y1⟩, k1, B2⟩ := sim_lamp_1 R1 B1 (by omega) ((k0 1 (by decide)).1.trans a1) (by omega) ((k0 1 (by decide)).2.trans b1) u4 u6 m12
  obtain ⟨R3, ⟨p2, q2, x2, y2⟩, k2, B3⟩ := sim_lamp_2 R2 B2 (by omega) ((k1 2 (by decide)).1.trans ((k0 2 (by decide)).1.trans a2)) (by omega) ((k1 2 (by decide)).2.trans ((k0 2 (by decide)).2.trans b2)) u7 u9 m18
  refine ⟨R3, fun k hk => ?_, B3⟩
  rcases (show k = 0 ∨ k = 1 ∨ k = 2 from by omega) with rfl | rfl | rfl
  · exact ⟨p0, by omega, ((k2 0 (by decide)).1.trans (k1 0 (by decide)).1).trans x0, ((k2 0 (by decide)).2.trans (k1 0 (by decide)).2).trans y0⟩
  · exact ⟨p1, by omega, (k2 1 (by decide)).1.trans x1, (k2 1 (by decide)).2.trans y1⟩
  · exact ⟨p2, by omega, x2, y2⟩
