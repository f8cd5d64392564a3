def xi_ba (t : xk_St) (b : Nat) : Prop := (t 19 b = 0 ∧ ∃ n : Nat, n ≤ 60 ∧ t 18 b = nI n) ∨ (t 19 b = 1 ∧ t 16 b = 0 ∧ ∃ n : Nat, n ≤ 61 ∧ t 18 b = nI n)
def xi_bb (t : xk_St) (b : Nat) : Prop := (t 19 b = 0 ∧ ∃ n : Nat, n ≤ 60 ∧ t 18 b = nI n) ∨ (t 19 b = 1 ∧ ∃ n : Nat, n ≤ 61 ∧ t 18 b = nI n)
theorem sim_bar_0 {g g1 g3 t t1 t2 t5 t6 t7 : xk_St} {x1 x2 x3 x4 : Int32} {B : Nat} (hR : xr g t) (hB : xk_cnt B t) (hB2 : B < 2147483647) (hi : xi_ba t 0)
    (h1 : g1 = va_up g 29 (upd (upd (upd (upd (g 29) 1 (qzB_startsAlarm_a1 (g 29 0))) 3 (qzB_startsAlarm_a3 (g 29 0) (g 29 3))) 4 (qzB_startsAlarm_a4 (g 29 0) (g 29 1) (g 29 2) (g 29 4))) 5 (qzB_startsAlarm_a5 (g 29 0) (g 29 1) (g 29 2) (g 29 4) (g 29 5))))
    (h2 : if (qzB_startsAlarm (g 29 0) (g 29 1) (g 29 2) (g 29 4)) = 0 then (g3 = g1) else (∃ (g2 : xk_St), g2 = va_up (va_up (va_up (va_up g1 5 (upd (g1 5) 3 (qzJ_add_a3 (g1 5 3)))) 6 (qzJ_add_b (g1 5 3) (g1 6) (g1 0 5))) 7 (qzJ_add_c (g1 5 3) (g1 7) 6)) 8 (qzJ_add_d (g1 5 3) (g1 8) 0) ∧ (g3 = g2)))
    (m1 : if ((t 14) 0) = ((t 15) 0) then (x1 = 1) else (x1 = 0)) (m2 : if ((t 14) 0) = 0 then (x2 = ((t 17) 0) + 1) else (x2 = 0)) (m3 : t1 = va_up t 17 (upd (t 17) 0 x2))
    (m4 : if ((t1 16) 0) = 0 then (x3 = 0) else (if x1 = 0 then (x3 = 0) else (x3 = ((t1 18) 0) + 1))) (m5 : t2 = va_up t1 18 (upd (t1 18) 0 x3))
    (m6 : if ((t2 18) 0) < 61 then (t5 = t2) else (if ((t2 19) 0) = 0 then (∃ (t3 : xk_St), t3 = va_up t2 19 (upd (t2 19) 0 1) ∧ (∃ (t4 : xk_St), relzM_note t3 6 0 t4 ∧ (t5 = t4))) else (t5 = t2)))
    (m7 : if ((t5 19) 0) = 0 then (x4 = 0) else (if x1 = 0 then (x4 = 0) else (x4 = 1))) (m8 : t6 = va_up t5 19 (upd (t5 19) 0 x4)) (m9 : t7 = va_up t6 15 (upd (t6 15) 0 ((t6 14) 0))) :
    xr g3 t7 ∧ xi_bb t7 0 ∧ (∀ c j : Nat, j ≠ 0 → c ≠ 0 ∧ c ≠ 25 ∧ c ≠ 26 ∧ c ≠ 27 → t7 c j = t c j) ∧ xk_cnt (B + 1) t7 := by
  have hm := xr_idx hB (by omega)
  have hx2 : x2 = if t 14 0 = 0 then t 17 0 + 1 else 0 := by
    by_cases q : t 14 0 = 0
    · rw [if_pos q] at m2 ⊢; exact m2
    · rw [if_neg q] at m2 ⊢; exact m2
  subst hx2
  subst m3
  simp only [qzB_startsAlarm, qzB_startsAlarm_a1, qzB_startsAlarm_a3, qzB_startsAlarm_a4, qzB_startsAlarm_a5, hR.po0, hR.pb0, hR.mo0, hR.ze0, hR.st0, hR.al0] at h1 h2
  have w1 : ∀ j : Nat, (va_up t 17 (upd (t 17) 0 (if t 14 0 = 0 then t 17 0 + 1 else 0))) 16 j = t 16 j := fun j => by simp [va_up]
  have w2 : ∀ j : Nat, (va_up t 17 (upd (t 17) 0 (if t 14 0 = 0 then t 17 0 + 1 else 0))) 18 j = t 18 j := fun j => by simp [va_up]
  rw [w1, w2] at m4
  by_cases c1 : t 16 0 = 0
  · rw [if_pos c1] at m4
    subst m4
    subst m5
    rw [if_pos (by simp [va_up, upd])] at m6
    subst m6
    simp only [c1, if_true, show ¬ ((0 : Int32) = 61) from by decide, if_false] at h1 h2
    have w3 : (va_up (va_up t 17 (upd (t 17) 0 (if t 14 0 = 0 then t 17 0 + 1 else 0))) 18 (upd ((va_up t 17 (upd (t 17) 0 (if t 14 0 = 0 then t 17 0 + 1 else 0))) 18) 0 0)) 19 0 = t 19 0 := by simp [va_up]
    rw [w3] at m7
    have hx4 : x4 = if t 14 0 = t 15 0 then t 19 0 else 0 := by
      by_cases q : t 14 0 = t 15 0
      · rw [if_pos q] at m1 ⊢
        subst m1
        rcases hi with ⟨h, -⟩ | ⟨h, -⟩
        · rw [h]; rw [if_pos h] at m7; exact m7
        · rw [h]; rw [if_neg (by rw [h]; decide), if_neg (by decide)] at m7; exact m7
      · rw [if_neg q] at m1 ⊢
        subst m1
        by_cases q2 : t 19 0 = 0
        · rw [if_pos q2] at m7; exact m7
        · rw [if_neg q2, if_pos rfl] at m7; exact m7
    have hx5 : x4 = 0 ∨ x4 = 1 := by
      rw [hx4]
      by_cases q : t 14 0 = t 15 0
      · rw [if_pos q]
        rcases hi with ⟨h, -⟩ | ⟨h, -⟩
        · exact Or.inl h
        · exact Or.inr h
      · rw [if_neg q]; exact Or.inl rfl
    have hq : (if (if t 14 0 = t 15 0 then 0 else 1 : Int32) = 0 then t 19 0 else 0) = x4 := by
      rw [hx4]
      by_cases q : t 14 0 = t 15 0
      · rw [if_pos q, if_pos q, if_pos rfl]
      · rw [if_neg q, if_neg q, if_neg (by decide)]
    rw [hq] at h1
    subst h1; subst h2; subst m8; subst m9
    refine ⟨?_, ?_, fun c j hj h9 => ?_, ?_⟩
    · have eb0 := hR.b0; have ea0 := hR.a0; have ed0 := hR.d0; have ek0 := hR.k0; have eb1 := hR.b1; have ea1 := hR.a1; have ed1 := hR.d1; have ek1 := hR.k1; have eb2 := hR.b2; have ea2 := hR.a2; have ed2 := hR.d2; have ek2 := hR.k2; have eb3 := hR.b3; have ea3 := hR.a3; have ed3 := hR.d3; have ek3 := hR.k3; have eb4 := hR.b4; have ea4 := hR.a4; have ed4 := hR.d4; have ek4 := hR.k4; have eb5 := hR.b5; have ea5 := hR.a5; have ed5 := hR.d5; have ek5 := hR.k5; have ep0 := hR.p0; have ep1 := hR.p1; have ep2 := hR.p2; have ep3 := hR.p3; have ep4 := hR.p4; have ep5 := hR.p5; have ep6 := hR.p6; have ep7 := hR.p7; have ec0 := hR.c0; have ec1 := hR.c1; have ec2 := hR.c2; have ec3 := hR.c3; have eo0 := hR.o0; have es0 := hR.s0; have eo1 := hR.o1; have es1 := hR.s1; have epo0 := hR.po0; have epb0 := hR.pb0; have emo0 := hR.mo0; have eze0 := hR.ze0; have est0 := hR.st0; have eal0 := hR.al0; have epo1 := hR.po1; have epb1 := hR.pb1; have emo1 := hR.mo1; have eze1 := hR.ze1; have est1 := hR.st1; have eal1 := hR.al1; have eli0 := hR.li0; have ede0 := hR.de0; have eda0 := hR.da0; have eli1 := hR.li1; have ede1 := hR.de1; have eda1 := hR.da1; have eli2 := hR.li2; have ede2 := hR.de2; have eda2 := hR.da2; have estep := hR.step; have eage := hR.age; have equiet := hR.quiet; have emany := hR.many; have etime := hR.time; have enight := hR.night; have ebell := hR.bell; have eh0 := hR.h0; have eh1 := hR.h1; have eh2 := hR.h2; have eh3 := hR.h3; have eh4 := hR.h4; have eh5 := hR.h5; have eh6 := hR.h6; have eh7 := hR.h7; have enc0 := hR.nc0; have enc1 := hR.nc1; have enc2 := hR.nc2; have ei0 := hR.i0; have ej0 := hR.j0; have em0 := hR.m0; have en0 := hR.n0; have ei1 := hR.i1; have ej1 := hR.j1; have em1 := hR.m1; have en1 := hR.n1; have ei2 := hR.i2; have ej2 := hR.j2; have em2 := hR.m2; have en2 := hR.n2; have ei3 := hR.i3; have ej3 := hR.j3; have em3 := hR.m3; have en3 := hR.n3; have ei4 := hR.i4; have ej4 := hR.j4; have em4 := hR.m4; have en4 := hR.n4; have ei5 := hR.i5; have ej5 := hR.j5; have em5 := hR.m5; have en5 := hR.n5; have enu0 := hR.nu0; have enu1 := hR.nu1; have enu2 := hR.nu2; have enu3 := hR.nu3; have enu4 := hR.nu4; have enu5 := hR.nu5; have ejt := hR.jt; have ejk := hR.jk; have ejw := hR.jw; have eyh0 := hR.yh0; have eyh1 := hR.yh1; have eyh2 := hR.yh2; have eyh3 := hR.yh3; have eyh4 := hR.yh4; have eyh5 := hR.yh5; have eyh6 := hR.yh6; have eyh7 := hR.yh7; have eyc0 := hR.yc0; have eyc1 := hR.yc1; have eyc2 := hR.yc2; have eyo0 := hR.yo0; have eyo1 := hR.yo1
      refine xr.mk ?_ ?_ ?_ ?_ ?_ ?_ ?_ ?_ ?_ ?_ ?_ ?_ ?_ ?_ ?_ ?_ ?_ ?_ ?_ ?_ ?_ ?_ ?_ ?_ ?_ ?_ ?_ ?_ ?_ ?_ ?_ ?_ ?_ ?_ ?_ ?_ ?_ ?_ ?_ ?_ ?_ ?_ ?_ ?_ ?_ ?_ ?_ ?_ ?_ ?_ ?_ ?_ ?_ ?_ ?_ ?_ ?_ ?_ ?_ ?_ ?_ ?_ ?_ ?_ ?_ ?_ ?_ ?_ ?_ ?_ ?_ ?_ ?_ ?_ ?_ ?_ ?_ ?_ ?_ ?_ ?_ ?_ ?_ ?_ ?_ ?_ ?_ ?_ ?_ ?_ ?_ ?_ ?_ ?_ ?_ ?_ ?_ ?_ ?_ ?_ ?_ ?_ ?_ ?_ ?_ ?_ ?_ ?_ ?_ ?_ ?_ ?_ ?_ ?_ ?_ ?_ ?_ ?_ ?_ ?_ ?_ ?_ ?_ ?_ ?_
      all_goals first | (simp only [va_up, upd]; simp; assumption) | skip
      all_goals first | (simp [va_up, upd, ]; done) | skip
      all_goals first | (with_reducible assumption) | skip
    · rcases hx5 with h | h
      · exact Or.inl ⟨by simp [va_up, upd, h], 0, by omega, by simp [va_up, upd, nI_0]⟩
      · exact Or.inr ⟨by simp [va_up, upd, h], 0, by omega, by simp [va_up, upd, nI_0]⟩
    · obtain ⟨d1, d2, d3, d4⟩ := h9; repeat first | rw [xr_upd hj] | rw [xr_upc d1] | rw [xr_upc d2] | rw [xr_upc d3] | rw [xr_upc d4]
    · exact xk_cnt_le (xk_cnt_k (by decide) (xk_cnt_k (by decide) (xk_cnt_k (by decide) (xk_cnt_k (by decide) hB)))) (by omega)
  · rcases hi with ⟨ha, n, hn, hs⟩ | ⟨-, h, -⟩
    · rw [if_neg c1] at m4
      simp only [if_neg c1, ha, hs] at h1 h2
      by_cases q : t 14 0 = t 15 0
      · rw [if_pos q] at m1
        subst m1
        rw [if_neg (by decide), hs] at m4
        rw [nI_1] at m4
        subst m4
        simp only [if_pos q, if_true, nI_1] at h1 h2
        subst m5
        have w4 : ∀ F : Nat → Int32, (va_up (va_up t 17 (upd (t 17) 0 (if t 14 0 = 0 then t 17 0 + 1 else 0))) 18 (upd F 0 (nI (n + 1)))) 18 0 = nI (n + 1) := fun F => by simp [va_up, upd]
        have w5 : ∀ F : Nat → Int32, (va_up (va_up t 17 (upd (t 17) 0 (if t 14 0 = 0 then t 17 0 + 1 else 0))) 18 F) 19 0 = 0 := fun F => by simp [va_up, ha]
        rw [w4, w5] at m6
        have q3 : (nI (n + 1) < 61) ↔ n + 1 < 61 := nI_ltI (b := 61) (by omega) (by decide)
        have q4 : (nI (n + 1) = 61) ↔ n + 1 = 61 := nI_eq (b := 61) (by omega) (by decide)
        by_cases r : n + 1 = 61
        · rw [if_neg (mt q3.mp (by omega)), if_pos rfl] at m6
          simp only [if_pos (q4.mpr r)] at h1 h2
          rw [if_neg (by decide)] at h2
          obtain ⟨g2, rfl, rfl⟩ := h2
          obtain ⟨t3, rfl, t4, hno, rfl⟩ := m6
          have hcn := xr_nc (B := B) (xk_cnt_k (by decide) (xk_cnt_k (by decide) (xk_cnt_k (by decide) hB))) hno
          have w6 : t5 19 0 = 1 := by rw [xr_nf hno 19 0 (by decide) (by decide) (by decide) (by decide)]; simp [va_up, upd]
          rw [w6, if_neg (by decide), if_neg (by decide)] at m7
          subst m7
          obtain ⟨s1, rfl, s2, rfl, s3, rfl, s4, rfl, rfl⟩ := hno
          subst h1; subst m8; subst m9
          refine ⟨?_, ?_, fun c j hj h9 => ?_, ?_⟩
          · have eb0 := hR.b0; have ea0 := hR.a0; have ed0 := hR.d0; have ek0 := hR.k0; have eb1 := hR.b1; have ea1 := hR.a1; have ed1 := hR.d1; have ek1 := hR.k1; have eb2 := hR.b2; have ea2 := hR.a2; have ed2 := hR.d2; have ek2 := hR.k2; have eb3 := hR.b3; have ea3 := hR.a3; have ed3 := hR.d3; have ek3 := hR.k3; have eb4 := hR.b4; have ea4 := hR.a4; have ed4 := hR.d4; have ek4 := hR.k4; have eb5 := hR.b5; have ea5 := hR.a5; have ed5 := hR.d5; have ek5 := hR.k5; have ep0 := hR.p0; have ep1 := hR.p1; have ep2 := hR.p2; have ep3 := hR.p3; have ep4 := hR.p4; have ep5 := hR.p5; have ep6 := hR.p6; have ep7 := hR.p7; have ec0 := hR.c0; have ec1 := hR.c1; have ec2 := hR.c2; have ec3 := hR.c3; have eo0 := hR.o0; have es0 := hR.s0; have eo1 := hR.o1; have es1 := hR.s1; have epo0 := hR.po0; have epb0 := hR.pb0; have emo0 := hR.mo0; have eze0 := hR.ze0; have est0 := hR.st0; have eal0 := hR.al0; have epo1 := hR.po1; have epb1 := hR.pb1; have emo1 := hR.mo1; have eze1 := hR.ze1; have est1 := hR.st1; have eal1 := hR.al1; have eli0 := hR.li0; have ede0 := hR.de0; have eda0 := hR.da0; have eli1 := hR.li1; have ede1 := hR.de1; have eda1 := hR.da1; have eli2 := hR.li2; have ede2 := hR.de2; have eda2 := hR.da2; have estep := hR.step; have eage := hR.age; have equiet := hR.quiet; have emany := hR.many; have etime := hR.time; have enight := hR.night; have ebell := hR.bell; have eh0 := hR.h0; have eh1 := hR.h1; have eh2 := hR.h2; have eh3 := hR.h3; have eh4 := hR.h4; have eh5 := hR.h5; have eh6 := hR.h6; have eh7 := hR.h7; have enc0 := hR.nc0; have enc1 := hR.nc1; have enc2 := hR.nc2; have ei0 := hR.i0; have ej0 := hR.j0; have em0 := hR.m0; have en0 := hR.n0; have ei1 := hR.i1; have ej1 := hR.j1; have em1 := hR.m1; have en1 := hR.n1; have ei2 := hR.i2; have ej2 := hR.j2; have em2 := hR.m2; have en2 := hR.n2; have ei3 := hR.i3; have ej3 := hR.j3; have em3 := hR.m3; have en3 := hR.n3; have ei4 := hR.i4; have ej4 := hR.j4; have em4 := hR.m4; have en4 := hR.n4; have ei5 := hR.i5; have ej5 := hR.j5; have em5 := hR.m5; have en5 := hR.n5; have enu0 := hR.nu0; have enu1 := hR.nu1; have enu2 := hR.nu2; have enu3 := hR.nu3; have enu4 := hR.nu4; have enu5 := hR.nu5; have ejt := hR.jt; have ejk := hR.jk; have ejw := hR.jw; have eyh0 := hR.yh0; have eyh1 := hR.yh1; have eyh2 := hR.yh2; have eyh3 := hR.yh3; have eyh4 := hR.yh4; have eyh5 := hR.yh5; have eyh6 := hR.yh6; have eyh7 := hR.yh7; have eyc0 := hR.yc0; have eyc1 := hR.yc1; have eyc2 := hR.yc2; have eyo0 := hR.yo0; have eyo1 := hR.yo1
            refine xr.mk ?_ ?_ ?_ ?_ ?_ ?_ ?_ ?_ ?_ ?_ ?_ ?_ ?_ ?_ ?_ ?_ ?_ ?_ ?_ ?_ ?_ ?_ ?_ ?_ ?_ ?_ ?_ ?_ ?_ ?_ ?_ ?_ ?_ ?_ ?_ ?_ ?_ ?_ ?_ ?_ ?_ ?_ ?_ ?_ ?_ ?_ ?_ ?_ ?_ ?_ ?_ ?_ ?_ ?_ ?_ ?_ ?_ ?_ ?_ ?_ ?_ ?_ ?_ ?_ ?_ ?_ ?_ ?_ ?_ ?_ ?_ ?_ ?_ ?_ ?_ ?_ ?_ ?_ ?_ ?_ ?_ ?_ ?_ ?_ ?_ ?_ ?_ ?_ ?_ ?_ ?_ ?_ ?_ ?_ ?_ ?_ ?_ ?_ ?_ ?_ ?_ ?_ ?_ ?_ ?_ ?_ ?_ ?_ ?_ ?_ ?_ ?_ ?_ ?_ ?_ ?_ ?_ ?_ ?_ ?_ ?_ ?_ ?_ ?_ ?_
            all_goals first | (simp only [va_up, upd]; simp; assumption) | skip
            all_goals first | (simp [va_up, upd, qzJ_add_a3, qzJ_add_b, qzJ_add_c, qzJ_add_d, emany, etime, ejt, ejk, ejw, hm]; done) | skip
            all_goals first | (with_reducible assumption) | skip
          · exact Or.inr ⟨by simp [va_up, upd], n + 1, by omega, by simp [va_up, upd]⟩
          · obtain ⟨d1, d2, d3, d4⟩ := h9; repeat first | rw [xr_upd hj] | rw [xr_upc d1] | rw [xr_upc d2] | rw [xr_upc d3] | rw [xr_upc d4]
          · exact xk_cnt_k (by decide) (xk_cnt_k (by decide) hcn)
        · rw [if_pos (q3.mpr (by omega))] at m6
          simp only [if_neg (mt q4.mp r)] at h1 h2
          rw [if_pos trivial] at h2
          subst m6
          rw [w5, if_pos rfl] at m7
          subst m7
          subst h1; subst h2; subst m8; subst m9
          refine ⟨?_, ?_, fun c j hj h9 => ?_, ?_⟩
          · have eb0 := hR.b0; have ea0 := hR.a0; have ed0 := hR.d0; have ek0 := hR.k0; have eb1 := hR.b1; have ea1 := hR.a1; have ed1 := hR.d1; have ek1 := hR.k1; have eb2 := hR.b2; have ea2 := hR.a2; have ed2 := hR.d2; have ek2 := hR.k2; have eb3 := hR.b3; have ea3 := hR.a3; have ed3 := hR.d3; have ek3 := hR.k3; have eb4 := hR.b4; have ea4 := hR.a4; have ed4 := hR.d4; have ek4 := hR.k4; have eb5 := hR.b5; have ea5 := hR.a5; have ed5 := hR.d5; have ek5 := hR.k5; have ep0 := hR.p0; have ep1 := hR.p1; have ep2 := hR.p2; have ep3 := hR.p3; have ep4 := hR.p4; have ep5 := hR.p5; have ep6 := hR.p6; have ep7 := hR.p7; have ec0 := hR.c0; have ec1 := hR.c1; have ec2 := hR.c2; have ec3 := hR.c3; have eo0 := hR.o0; have es0 := hR.s0; have eo1 := hR.o1; have es1 := hR.s1; have epo0 := hR.po0; have epb0 := hR.pb0; have emo0 := hR.mo0; have eze0 := hR.ze0; have est0 := hR.st0; have eal0 := hR.al0; have epo1 := hR.po1; have epb1 := hR.pb1; have emo1 := hR.mo1; have eze1 := hR.ze1; have est1 := hR.st1; have eal1 := hR.al1; have eli0 := hR.li0; have ede0 := hR.de0; have eda0 := hR.da0; have eli1 := hR.li1; have ede1 := hR.de1; have eda1 := hR.da1; have eli2 := hR.li2; have ede2 := hR.de2; have eda2 := hR.da2; have estep := hR.step; have eage := hR.age; have equiet := hR.quiet; have emany := hR.many; have etime := hR.time; have enight := hR.night; have ebell := hR.bell; have eh0 := hR.h0; have eh1 := hR.h1; have eh2 := hR.h2; have eh3 := hR.h3; have eh4 := hR.h4; have eh5 := hR.h5; have eh6 := hR.h6; have eh7 := hR.h7; have enc0 := hR.nc0; have enc1 := hR.nc1; have enc2 := hR.nc2; have ei0 := hR.i0; have ej0 := hR.j0; have em0 := hR.m0; have en0 := hR.n0; have ei1 := hR.i1; have ej1 := hR.j1; have em1 := hR.m1; have en1 := hR.n1; have ei2 := hR.i2; have ej2 := hR.j2; have em2 := hR.m2; have en2 := hR.n2; have ei3 := hR.i3; have ej3 := hR.j3; have em3 := hR.m3; have en3 := hR.n3; have ei4 := hR.i4; have ej4 := hR.j4; have em4 := hR.m4; have en4 := hR.n4; have ei5 := hR.i5; have ej5 := hR.j5; have em5 := hR.m5; have en5 := hR.n5; have enu0 := hR.nu0; have enu1 := hR.nu1; have enu2 := hR.nu2; have enu3 := hR.nu3; have enu4 := hR.nu4; have enu5 := hR.nu5; have ejt := hR.jt; have ejk := hR.jk; have ejw := hR.jw; have eyh0 := hR.yh0; have eyh1 := hR.yh1; have eyh2 := hR.yh2; have eyh3 := hR.yh3; have eyh4 := hR.yh4; have eyh5 := hR.yh5; have eyh6 := hR.yh6; have eyh7 := hR.yh7; have eyc0 := hR.yc0; have eyc1 := hR.yc1; have eyc2 := hR.yc2; have eyo0 := hR.yo0; have eyo1 := hR.yo1
            refine xr.mk ?_ ?_ ?_ ?_ ?_ ?_ ?_ ?_ ?_ ?_ ?_ ?_ ?_ ?_ ?_ ?_ ?_ ?_ ?_ ?_ ?_ ?_ ?_ ?_ ?_ ?_ ?_ ?_ ?_ ?_ ?_ ?_ ?_ ?_ ?_ ?_ ?_ ?_ ?_ ?_ ?_ ?_ ?_ ?_ ?_ ?_ ?_ ?_ ?_ ?_ ?_ ?_ ?_ ?_ ?_ ?_ ?_ ?_ ?_ ?_ ?_ ?_ ?_ ?_ ?_ ?_ ?_ ?_ ?_ ?_ ?_ ?_ ?_ ?_ ?_ ?_ ?_ ?_ ?_ ?_ ?_ ?_ ?_ ?_ ?_ ?_ ?_ ?_ ?_ ?_ ?_ ?_ ?_ ?_ ?_ ?_ ?_ ?_ ?_ ?_ ?_ ?_ ?_ ?_ ?_ ?_ ?_ ?_ ?_ ?_ ?_ ?_ ?_ ?_ ?_ ?_ ?_ ?_ ?_ ?_ ?_ ?_ ?_ ?_ ?_
            all_goals first | (simp only [va_up, upd]; simp; assumption) | skip
            all_goals first | (simp [va_up, upd, ]; done) | skip
            all_goals first | (with_reducible assumption) | skip
          · exact Or.inl ⟨by simp [va_up, upd], n + 1, by omega, by simp [va_up, upd]⟩
          · obtain ⟨d1, d2, d3, d4⟩ := h9; repeat first | rw [xr_upd hj] | rw [xr_upc d1] | rw [xr_upc d2] | rw [xr_upc d3] | rw [xr_upc d4]
          · exact xk_cnt_le (xk_cnt_k (by decide) (xk_cnt_k (by decide) (xk_cnt_k (by decide) (xk_cnt_k (by decide) hB)))) (by omega)
      · rw [if_neg q] at m1
        subst m1
        rw [if_pos rfl] at m4
        subst m4
        subst m5
        simp only [if_neg q] at h1 h2
        rw [if_pos (by simp [va_up, upd])] at m6
        subst m6
        rw [if_pos (by simp [va_up, ha])] at m7
        subst m7
        simp at h1 h2
        subst h1; subst h2; subst m8; subst m9
        refine ⟨?_, ?_, fun c j hj h9 => ?_, ?_⟩
        · have eb0 := hR.b0; have ea0 := hR.a0; have ed0 := hR.d0; have ek0 := hR.k0; have eb1 := hR.b1; have ea1 := hR.a1; have ed1 := hR.d1; have ek1 := hR.k1; have eb2 := hR.b2; have ea2 := hR.a2; have ed2 := hR.d2; have ek2 := hR.k2; have eb3 := hR.b3; have ea3 := hR.a3; have ed3 := hR.d3; have ek3 := hR.k3; have eb4 := hR.b4; have ea4 := hR.a4; have ed4 := hR.d4; have ek4 := hR.k4; have eb5 := hR.b5; have ea5 := hR.a5; have ed5 := hR.d5; have ek5 := hR.k5; have ep0 := hR.p0; have ep1 := hR.p1; have ep2 := hR.p2; have ep3 := hR.p3; have ep4 := hR.p4; have ep5 := hR.p5; have ep6 := hR.p6; have ep7 := hR.p7; have ec0 := hR.c0; have ec1 := hR.c1; have ec2 := hR.c2; have ec3 := hR.c3; have eo0 := hR.o0; have es0 := hR.s0; have eo1 := hR.o1; have es1 := hR.s1; have epo0 := hR.po0; have epb0 := hR.pb0; have emo0 := hR.mo0; have eze0 := hR.ze0; have est0 := hR.st0; have eal0 := hR.al0; have epo1 := hR.po1; have epb1 := hR.pb1; have emo1 := hR.mo1; have eze1 := hR.ze1; have est1 := hR.st1; have eal1 := hR.al1; have eli0 := hR.li0; have ede0 := hR.de0; have eda0 := hR.da0; have eli1 := hR.li1; have ede1 := hR.de1; have eda1 := hR.da1; have eli2 := hR.li2; have ede2 := hR.de2; have eda2 := hR.da2; have estep := hR.step; have eage := hR.age; have equiet := hR.quiet; have emany := hR.many; have etime := hR.time; have enight := hR.night; have ebell := hR.bell; have eh0 := hR.h0; have eh1 := hR.h1; have eh2 := hR.h2; have eh3 := hR.h3; have eh4 := hR.h4; have eh5 := hR.h5; have eh6 := hR.h6; have eh7 := hR.h7; have enc0 := hR.nc0; have enc1 := hR.nc1; have enc2 := hR.nc2; have ei0 := hR.i0; have ej0 := hR.j0; have em0 := hR.m0; have en0 := hR.n0; have ei1 := hR.i1; have ej1 := hR.j1; have em1 := hR.m1; have en1 := hR.n1; have ei2 := hR.i2; have ej2 := hR.j2; have em2 := hR.m2; have en2 := hR.n2; have ei3 := hR.i3; have ej3 := hR.j3; have em3 := hR.m3; have en3 := hR.n3; have ei4 := hR.i4; have ej4 := hR.j4; have em4 := hR.m4; have en4 := hR.n4; have ei5 := hR.i5; have ej5 := hR.j5; have em5 := hR.m5; have en5 := hR.n5; have enu0 := hR.nu0; have enu1 := hR.nu1; have enu2 := hR.nu2; have enu3 := hR.nu3; have enu4 := hR.nu4; have enu5 := hR.nu5; have ejt := hR.jt; have ejk := hR.jk; have ejw := hR.jw; have eyh0 := hR.yh0; have eyh1 := hR.yh1; have eyh2 := hR.yh2; have eyh3 := hR.yh3; have eyh4 := hR.yh4; have eyh5 := hR.yh5; have eyh6 := hR.yh6; have eyh7 := hR.yh7; have eyc0 := hR.yc0; have eyc1 := hR.yc1; have eyc2 := hR.yc2; have eyo0 := hR.yo0; have eyo1 := hR.yo1
          refine xr.mk ?_ ?_ ?_ ?_ ?_ ?_ ?_ ?_ ?_ ?_ ?_ ?_ ?_ ?_ ?_ ?_ ?_ ?_ ?_ ?_ ?_ ?_ ?_ ?_ ?_ ?_ ?_ ?_ ?_ ?_ ?_ ?_ ?_ ?_ ?_ ?_ ?_ ?_ ?_ ?_ ?_ ?_ ?_ ?_ ?_ ?_ ?_ ?_ ?_ ?_ ?_ ?_ ?_ ?_ ?_ ?_ ?_ ?_ ?_ ?_ ?_ ?_ ?_ ?_ ?_ ?_ ?_ ?_ ?_ ?_ ?_ ?_ ?_ ?_ ?_ ?_ ?_ ?_ ?_ ?_ ?_ ?_ ?_ ?_ ?_ ?_ ?_ ?_ ?_ ?_ ?_ ?_ ?_ ?_ ?_ ?_ ?_ ?_ ?_ ?_ ?_ ?_ ?_ ?_ ?_ ?_ ?_ ?_ ?_ ?_ ?_ ?_ ?_ ?_ ?_ ?_ ?_ ?_ ?_ ?_ ?_ ?_ ?_ ?_ ?_
          all_goals first | (simp only [va_up, upd]; simp; assumption) | skip
          all_goals first | (simp [va_up, upd, ]; done) | skip
          all_goals first | (with_reducible assumption) | skip
        · exact Or.inl ⟨by simp [va_up, upd], 0, by omega, by simp [va_up, upd, nI_0]⟩
        · obtain ⟨d1, d2, d3, d4⟩ := h9; repeat first | rw [xr_upd hj] | rw [xr_upc d1] | rw [xr_upc d2] | rw [xr_upc d3] | rw [xr_upc d4]
        · exact xk_cnt_le (xk_cnt_k (by decide) (xk_cnt_k (by decide) (xk_cnt_k (by decide) (xk_cnt_k (by decide) hB)))) (by omega)
    · exact absurd h c1
theorem sim_bar_1 {g g1 g3 t t1 t2 t5 t6 t7 : xk_St} {x1 x2 x3 x4 : Int32} {B : Nat} (hR : xr g t) (hB : xk_cnt B t) (hB2 : B < 2147483647) (hi : xi_ba t 1)
    (h1 : g1 = va_up g 30 (upd (upd (upd (upd (g 30) 1 (qzB_startsAlarm_a1 (g 30 0))) 3 (qzB_startsAlarm_a3 (g 30 0) (g 30 3))) 4 (qzB_startsAlarm_a4 (g 30 0) (g 30 1) (g 30 2) (g 30 4))) 5 (qzB_startsAlarm_a5 (g 30 0) (g 30 1) (g 30 2) (g 30 4) (g 30 5))))
    (h2 : if (qzB_startsAlarm (g 30 0) (g 30 1) (g 30 2) (g 30 4)) = 0 then (g3 = g1) else (∃ (g2 : xk_St), g2 = va_up (va_up (va_up (va_up g1 5 (upd (g1 5) 3 (qzJ_add_a3 (g1 5 3)))) 6 (qzJ_add_b (g1 5 3) (g1 6) (g1 0 5))) 7 (qzJ_add_c (g1 5 3) (g1 7) 6)) 8 (qzJ_add_d (g1 5 3) (g1 8) 1) ∧ (g3 = g2)))
    (m1 : if ((t 14) 1) = ((t 15) 1) then (x1 = 1) else (x1 = 0)) (m2 : if ((t 14) 1) = 0 then (x2 = ((t 17) 1) + 1) else (x2 = 0)) (m3 : t1 = va_up t 17 (upd (t 17) 1 x2))
    (m4 : if ((t1 16) 1) = 0 then (x3 = 0) else (if x1 = 0 then (x3 = 0) else (x3 = ((t1 18) 1) + 1))) (m5 : t2 = va_up t1 18 (upd (t1 18) 1 x3))
    (m6 : if ((t2 18) 1) < 61 then (t5 = t2) else (if ((t2 19) 1) = 0 then (∃ (t3 : xk_St), t3 = va_up t2 19 (upd (t2 19) 1 1) ∧ (∃ (t4 : xk_St), relzM_note t3 6 1 t4 ∧ (t5 = t4))) else (t5 = t2)))
    (m7 : if ((t5 19) 1) = 0 then (x4 = 0) else (if x1 = 0 then (x4 = 0) else (x4 = 1))) (m8 : t6 = va_up t5 19 (upd (t5 19) 1 x4)) (m9 : t7 = va_up t6 15 (upd (t6 15) 1 ((t6 14) 1))) :
    xr g3 t7 ∧ xi_bb t7 1 ∧ (∀ c j : Nat, j ≠ 1 → c ≠ 0 ∧ c ≠ 25 ∧ c ≠ 26 ∧ c ≠ 27 → t7 c j = t c j) ∧ xk_cnt (B + 1) t7 := by
  have hm := xr_idx hB (by omega)
  have hx2 : x2 = if t 14 1 = 0 then t 17 1 + 1 else 0 := by
    by_cases q : t 14 1 = 0
    · rw [if_pos q] at m2 ⊢; exact m2
    · rw [if_neg q] at m2 ⊢; exact m2
  subst hx2
  subst m3
  simp only [qzB_startsAlarm, qzB_startsAlarm_a1, qzB_startsAlarm_a3, qzB_startsAlarm_a4, qzB_startsAlarm_a5, hR.po1, hR.pb1, hR.mo1, hR.ze1, hR.st1, hR.al1] at h1 h2
  have w1 : ∀ j : Nat, (va_up t 17 (upd (t 17) 1 (if t 14 1 = 0 then t 17 1 + 1 else 0))) 16 j = t 16 j := fun j => by simp [va_up]
  have w2 : ∀ j : Nat, (va_up t 17 (upd (t 17) 1 (if t 14 1 = 0 then t 17 1 + 1 else 0))) 18 j = t 18 j := fun j => by simp [va_up]
  rw [w1, w2] at m4
  by_cases c1 : t 16 1 = 0
  · rw [if_pos c1] at m4
    subst m4
    subst m5
    rw [if_pos (by simp [va_up, upd])] at m6
    subst m6
    simp only [c1, if_true, show ¬ ((0 : Int32) = 61) from by decide, if_false] at h1 h2
    have w3 : (va_up (va_up t 17 (upd (t 17) 1 (if t 14 1 = 0 then t 17 1 + 1 else 0))) 18 (upd ((va_up t 17 (upd (t 17) 1 (if t 14 1 = 0 then t 17 1 + 1 else 0))) 18) 1 0)) 19 1 = t 19 1 := by simp [va_up]
    rw [w3] at m7
    have hx4 : x4 = if t 14 1 = t 15 1 then t 19 1 else 0 := by
      by_cases q : t 14 1 = t 15 1
      · rw [if_pos q] at m1 ⊢
        subst m1
        rcases hi with ⟨h, -⟩ | ⟨h, -⟩
        · rw [h]; rw [if_pos h] at m7; exact m7
        · rw [h]; rw [if_neg (by rw [h]; decide), if_neg (by decide)] at m7; exact m7
      · rw [if_neg q] at m1 ⊢
        subst m1
        by_cases q2 : t 19 1 = 0
        · rw [if_pos q2] at m7; exact m7
        · rw [if_neg q2, if_pos rfl] at m7; exact m7
    have hx5 : x4 = 0 ∨ x4 = 1 := by
      rw [hx4]
      by_cases q : t 14 1 = t 15 1
      · rw [if_pos q]
        rcases hi with ⟨h, -⟩ | ⟨h, -⟩
        · exact Or.inl h
        · exact Or.inr h
      · rw [if_neg q]; exact Or.inl rfl
    have hq : (if (if t 14 1 = t 15 1 then 0 else 1 : Int32) = 0 then t 19 1 else 0) = x4 := by
      rw [hx4]
      by_cases q : t 14 1 = t 15 1
      · rw [if_pos q, if_pos q, if_pos rfl]
      · rw [if_neg q, if_neg q, if_neg (by decide)]
    rw [hq] at h1
    subst h1; subst h2; subst m8; subst m9
    refine ⟨?_, ?_, fun c j hj h9 => ?_, ?_⟩
    · have eb0 := hR.b0; have ea0 := hR.a0; have ed0 := hR.d0; have ek0 := hR.k0; have eb1 := hR.b1; have ea1 := hR.a1; have ed1 := hR.d1; have ek1 := hR.k1; have eb2 := hR.b2; have ea2 := hR.a2; have ed2 := hR.d2; have ek2 := hR.k2; have eb3 := hR.b3; have ea3 := hR.a3; have ed3 := hR.d3; have ek3 := hR.k3; have eb4 := hR.b4; have ea4 := hR.a4; have ed4 := hR.d4; have ek4 := hR.k4; have eb5 := hR.b5; have ea5 := hR.a5; have ed5 := hR.d5; have ek5 := hR.k5; have ep0 := hR.p0; have ep1 := hR.p1; have ep2 := hR.p2; have ep3 := hR.p3; have ep4 := hR.p4; have ep5 := hR.p5; have ep6 := hR.p6; have ep7 := hR.p7; have ec0 := hR.c0; have ec1 := hR.c1; have ec2 := hR.c2; have ec3 := hR.c3; have eo0 := hR.o0; have es0 := hR.s0; have eo1 := hR.o1; have es1 := hR.s1; have epo0 := hR.po0; have epb0 := hR.pb0; have emo0 := hR.mo0; have eze0 := hR.ze0; have est0 := hR.st0; have eal0 := hR.al0; have epo1 := hR.po1; have epb1 := hR.pb1; have emo1 := hR.mo1; have eze1 := hR.ze1; have est1 := hR.st1; have eal1 := hR.al1; have eli0 := hR.li0; have ede0 := hR.de0; have eda0 := hR.da0; have eli1 := hR.li1; have ede1 := hR.de1; have eda1 := hR.da1; have eli2 := hR.li2; have ede2 := hR.de2; have eda2 := hR.da2; have estep := hR.step; have eage := hR.age; have equiet := hR.quiet; have emany := hR.many; have etime := hR.time; have enight := hR.night; have ebell := hR.bell; have eh0 := hR.h0; have eh1 := hR.h1; have eh2 := hR.h2; have eh3 := hR.h3; have eh4 := hR.h4; have eh5 := hR.h5; have eh6 := hR.h6; have eh7 := hR.h7; have enc0 := hR.nc0; have enc1 := hR.nc1; have enc2 := hR.nc2; have ei0 := hR.i0; have ej0 := hR.j0; have em0 := hR.m0; have en0 := hR.n0; have ei1 := hR.i1; have ej1 := hR.j1; have em1 := hR.m1; have en1 := hR.n1; have ei2 := hR.i2; have ej2 := hR.j2; have em2 := hR.m2; have en2 := hR.n2; have ei3 := hR.i3; have ej3 := hR.j3; have em3 := hR.m3; have en3 := hR.n3; have ei4 := hR.i4; have ej4 := hR.j4; have em4 := hR.m4; have en4 := hR.n4; have ei5 := hR.i5; have ej5 := hR.j5; have em5 := hR.m5; have en5 := hR.n5; have enu0 := hR.nu0; have enu1 := hR.nu1; have enu2 := hR.nu2; have enu3 := hR.nu3; have enu4 := hR.nu4; have enu5 := hR.nu5; have ejt := hR.jt; have ejk := hR.jk; have ejw := hR.jw; have eyh0 := hR.yh0; have eyh1 := hR.yh1; have eyh2 := hR.yh2; have eyh3 := hR.yh3; have eyh4 := hR.yh4; have eyh5 := hR.yh5; have eyh6 := hR.yh6; have eyh7 := hR.yh7; have eyc0 := hR.yc0; have eyc1 := hR.yc1; have eyc2 := hR.yc2; have eyo0 := hR.yo0; have eyo1 := hR.yo1
      refine xr.mk ?_ ?_ ?_ ?_ ?_ ?_ ?_ ?_ ?_ ?_ ?_ ?_ ?_ ?_ ?_ ?_ ?_ ?_ ?_ ?_ ?_ ?_ ?_ ?_ ?_ ?_ ?_ ?_ ?_ ?_ ?_ ?_ ?_ ?_ ?_ ?_ ?_ ?_ ?_ ?_ ?_ ?_ ?_ ?_ ?_ ?_ ?_ ?_ ?_ ?_ ?_ ?_ ?_ ?_ ?_ ?_ ?_ ?_ ?_ ?_ ?_ ?_ ?_ ?_ ?_ ?_ ?_ ?_ ?_ ?_ ?_ ?_ ?_ ?_ ?_ ?_ ?_ ?_ ?_ ?_ ?_ ?_ ?_ ?_ ?_ ?_ ?_ ?_ ?_ ?_ ?_ ?_ ?_ ?_ ?_ ?_ ?_ ?_ ?_ ?_ ?_ ?_ ?_ ?_ ?_ ?_ ?_ ?_ ?_ ?_ ?_ ?_ ?_ ?_ ?_ ?_ ?_ ?_ ?_ ?_ ?_ ?_ ?_ ?_ ?_
      all_goals first | (simp only [va_up, upd]; simp; assumption) | skip
      all_goals first | (simp [va_up, upd, ]; done) | skip
      all_goals first | (with_reducible assumption) | skip
    · rcases hx5 with h | h
      · exact Or.inl ⟨by simp [va_up, upd, h], 0, by omega, by simp [va_up, upd, nI_0]⟩
      · exact Or.inr ⟨by simp [va_up, upd, h], 0, by omega, by simp [va_up, upd, nI_0]⟩
    · obtain ⟨d1, d2, d3, d4⟩ := h9; repeat first | rw [xr_upd hj] | rw [xr_upc d1] | rw [xr_upc d2] | rw [xr_upc d3] | rw [xr_upc d4]
    · exact xk_cnt_le (xk_cnt_k (by decide) (xk_cnt_k (by decide) (xk_cnt_k (by decide) (xk_cnt_k (by decide) hB)))) (by omega)
  · rcases hi with ⟨ha, n, hn, hs⟩ | ⟨-, h, -⟩
    · rw [if_neg c1] at m4
      simp only [if_neg c1, ha, hs] at h1 h2
      by_cases q : t 14 1 = t 15 1
      · rw [if_pos q] at m1
        subst m1
        rw [if_neg (by decide), hs] at m4
        rw [nI_1] at m4
        subst m4
        simp only [if_pos q, if_true, nI_1] at h1 h2
        subst m5
        have w4 : ∀ F : Nat → Int32, (va_up (va_up t 17 (upd (t 17) 1 (if t 14 1 = 0 then t 17 1 + 1 else 0))) 18 (upd F 1 (nI (n + 1)))) 18 1 = nI (n + 1) := fun F => by simp [va_up, upd]
        have w5 : ∀ F : Nat → Int32, (va_up (va_up t 17 (upd (t 17) 1 (if t 14 1 = 0 then t 17 1 + 1 else 0))) 18 F) 19 1 = 0 := fun F => by simp [va_up, ha]
        rw [w4, w5] at m6
        have q3 : (nI (n + 1) < 61) ↔ n + 1 < 61 := nI_ltI (b := 61) (by omega) (by decide)
        have q4 : (nI (n + 1) = 61) ↔ n + 1 = 61 := nI_eq (b := 61) (by omega) (by decide)
        by_cases r : n + 1 = 61
        · rw [if_neg (mt q3.mp (by omega)), if_pos rfl] at m6
          simp only [if_pos (q4.mpr r)] at h1 h2
          rw [if_neg (by decide)] at h2
          obtain ⟨g2, rfl, rfl⟩ := h2
          obtain ⟨t3, rfl, t4, hno, rfl⟩ := m6
          have hcn := xr_nc (B := B) (xk_cnt_k (by decide) (xk_cnt_k (by decide) (xk_cnt_k (by decide) hB))) hno
          have w6 : t5 19 1 = 1 := by rw [xr_nf hno 19 1 (by decide) (by decide) (by decide) (by decide)]; simp [va_up, upd]
          rw [w6, if_neg (by decide), if_neg (by decide)] at m7
          subst m7
          obtain ⟨s1, rfl, s2, rfl, s3, rfl, s4, rfl, rfl⟩ := hno
          subst h1; subst m8; subst m9
          refine ⟨?_, ?_, fun c j hj h9 => ?_, ?_⟩
          · have eb0 := hR.b0; have ea0 := hR.a0; have ed0 := hR.d0; have ek0 := hR.k0; have eb1 := hR.b1; have ea1 := hR.a1; have ed1 := hR.d1; have ek1 := hR.k1; have eb2 := hR.b2; have ea2 := hR.a2; have ed2 := hR.d2; have ek2 := hR.k2; have eb3 := hR.b3; have ea3 := hR.a3; have ed3 := hR.d3; have ek3 := hR.k3; have eb4 := hR.b4; have ea4 := hR.a4; have ed4 := hR.d4; have ek4 := hR.k4; have eb5 := hR.b5; have ea5 := hR.a5; have ed5 := hR.d5; have ek5 := hR.k5; have ep0 := hR.p0; have ep1 := hR.p1; have ep2 := hR.p2; have ep3 := hR.p3; have ep4 := hR.p4; have ep5 := hR.p5; have ep6 := hR.p6; have ep7 := hR.p7; have ec0 := hR.c0; have ec1 := hR.c1; have ec2 := hR.c2; have ec3 := hR.c3; have eo0 := hR.o0; have es0 := hR.s0; have eo1 := hR.o1; have es1 := hR.s1; have epo0 := hR.po0; have epb0 := hR.pb0; have emo0 := hR.mo0; have eze0 := hR.ze0; have est0 := hR.st0; have eal0 := hR.al0; have epo1 := hR.po1; have epb1 := hR.pb1; have emo1 := hR.mo1; have eze1 := hR.ze1; have est1 := hR.st1; have eal1 := hR.al1; have eli0 := hR.li0; have ede0 := hR.de0; have eda0 := hR.da0; have eli1 := hR.li1; have ede1 := hR.de1; have eda1 := hR.da1; have eli2 := hR.li2; have ede2 := hR.de2; have eda2 := hR.da2; have estep := hR.step; have eage := hR.age; have equiet := hR.quiet; have emany := hR.many; have etime := hR.time; have enight := hR.night; have ebell := hR.bell; have eh0 := hR.h0; have eh1 := hR.h1; have eh2 := hR.h2; have eh3 := hR.h3; have eh4 := hR.h4; have eh5 := hR.h5; have eh6 := hR.h6; have eh7 := hR.h7; have enc0 := hR.nc0; have enc1 := hR.nc1; have enc2 := hR.nc2; have ei0 := hR.i0; have ej0 := hR.j0; have em0 := hR.m0; have en0 := hR.n0; have ei1 := hR.i1; have ej1 := hR.j1; have em1 := hR.m1; have en1 := hR.n1; have ei2 := hR.i2; have ej2 := hR.j2; have em2 := hR.m2; have en2 := hR.n2; have ei3 := hR.i3; have ej3 := hR.j3; have em3 := hR.m3; have en3 := hR.n3; have ei4 := hR.i4; have ej4 := hR.j4; have em4 := hR.m4; have en4 := hR.n4; have ei5 := hR.i5; have ej5 := hR.j5; have em5 := hR.m5; have en5 := hR.n5; have enu0 := hR.nu0; have enu1 := hR.nu1; have enu2 := hR.nu2; have enu3 := hR.nu3; have enu4 := hR.nu4; have enu5 := hR.nu5; have ejt := hR.jt; have ejk := hR.jk; have ejw := hR.jw; have eyh0 := hR.yh0; have eyh1 := hR.yh1; have eyh2 := hR.yh2; have eyh3 := hR.yh3; have eyh4 := hR.yh4; have eyh5 := hR.yh5; have eyh6 := hR.yh6; have eyh7 := hR.yh7; have eyc0 := hR.yc0; have eyc1 := hR.yc1; have eyc2 := hR.yc2; have eyo0 := hR.yo0; have eyo1 := hR.yo1
            refine xr.mk ?_ ?_ ?_ ?_ ?_ ?_ ?_ ?_ ?_ ?_ ?_ ?_ ?_ ?_ ?_ ?_ ?_ ?_ ?_ ?_ ?_ ?_ ?_ ?_ ?_ ?_ ?_ ?_ ?_ ?_ ?_ ?_ ?_ ?_ ?_ ?_ ?_ ?_ ?_ ?_ ?_ ?_ ?_ ?_ ?_ ?_ ?_ ?_ ?_ ?_ ?_ ?_ ?_ ?_ ?_ ?_ ?_ ?_ ?_ ?_ ?_ ?_ ?_ ?_ ?_ ?_ ?_ ?_ ?_ ?_ ?_ ?_ ?_ ?_ ?_ ?_ ?_ ?_ ?_ ?_ ?_ ?_ ?_ ?_ ?_ ?_ ?_ ?_ ?_ ?_ ?_ ?_ ?_ ?_ ?_ ?_ ?_ ?_ ?_ ?_ ?_ ?_ ?_ ?_ ?_ ?_ ?_ ?_ ?_ ?_ ?_ ?_ ?_ ?_ ?_ ?_ ?_ ?_ ?_ ?_ ?_ ?_ ?_ ?_ ?_
            all_goals first | (simp only [va_up, upd]; simp; assumption) | skip
            all_goals first | (simp [va_up, upd, qzJ_add_a3, qzJ_add_b, qzJ_add_c, qzJ_add_d, emany, etime, ejt, ejk, ejw, hm]; done) | skip
            all_goals first | (with_reducible assumption) | skip
          · exact Or.inr ⟨by simp [va_up, upd], n + 1, by omega, by simp [va_up, upd]⟩
          · obtain ⟨d1, d2, d3, d4⟩ := h9; repeat first | rw [xr_upd hj] | rw [xr_upc d1] | rw [xr_upc d2] | rw [xr_upc d3] | rw [xr_upc d4]
          · exact xk_cnt_k (by decide) (xk_cnt_k (by decide) hcn)
        · rw [if_pos (q3.mpr (by omega))] at m6
          simp only [if_neg (mt q4.mp r)] at h1 h2
          rw [if_pos trivial] at h2
          subst m6
          rw [w5, if_pos rfl] at m7
          subst m7
          subst h1; subst h2; subst m8; subst m9
          refine ⟨?_, ?_, fun c j hj h9 => ?_, ?_⟩
          · have eb0 := hR.b0; have ea0 := hR.a0; have ed0 := hR.d0; have ek0 := hR.k0; have eb1 := hR.b1; have ea1 := hR.a1; have ed1 := hR.d1; have ek1 := hR.k1; have eb2 := hR.b2; have ea2 := hR.a2; have ed2 := hR.d2; have ek2 := hR.k2; have eb3 := hR.b3; have ea3 := hR.a3; have ed3 := hR.d3; have ek3 := hR.k3; have eb4 := hR.b4; have ea4 := hR.a4; have ed4 := hR.d4; have ek4 := hR.k4; have eb5 := hR.b5; have ea5 := hR.a5; have ed5 := hR.d5; have ek5 := hR.k5; have ep0 := hR.p0; have ep1 := hR.p1; have ep2 := hR.p2; have ep3 := hR.p3; have ep4 := hR.p4; have ep5 := hR.p5; have ep6 := hR.p6; have ep7 := hR.p7; have ec0 := hR.c0; have ec1 := hR.c1; have ec2 := hR.c2; have ec3 := hR.c3; have eo0 := hR.o0; have es0 := hR.s0; have eo1 := hR.o1; have es1 := hR.s1; have epo0 := hR.po0; have epb0 := hR.pb0; have emo0 := hR.mo0; have eze0 := hR.ze0; have est0 := hR.st0; have eal0 := hR.al0; have epo1 := hR.po1; have epb1 := hR.pb1; have emo1 := hR.mo1; have eze1 := hR.ze1; have est1 := hR.st1; have eal1 := hR.al1; have eli0 := hR.li0; have ede0 := hR.de0; have eda0 := hR.da0; have eli1 := hR.li1; have ede1 := hR.de1; have eda1 := hR.da1; have eli2 := hR.li2; have ede2 := hR.de2; have eda2 := hR.da2; have estep := hR.step; have eage := hR.age; have equiet := hR.quiet; have emany := hR.many; have etime := hR.time; have enight := hR.night; have ebell := hR.bell; have eh0 := hR.h0; have eh1 := hR.h1; have eh2 := hR.h2; have eh3 := hR.h3; have eh4 := hR.h4; have eh5 := hR.h5; have eh6 := hR.h6; have eh7 := hR.h7; have enc0 := hR.nc0; have enc1 := hR.nc1; have enc2 := hR.nc2; have ei0 := hR.i0; have ej0 := hR.j0; have em0 := hR.m0; have en0 := hR.n0; have ei1 := hR.i1; have ej1 := hR.j1; have em1 := hR.m1; have en1 := hR.n1; have ei2 := hR.i2; have ej2 := hR.j2; have em2 := hR.m2; have en2 := hR.n2; have ei3 := hR.i3; have ej3 := hR.j3; have em3 := hR.m3; have en3 := hR.n3; have ei4 := hR.i4; have ej4 := hR.j4; have em4 := hR.m4; have en4 := hR.n4; have ei5 := hR.i5; have ej5 := hR.j5; have em5 := hR.m5; have en5 := hR.n5; have enu0 := hR.nu0; have enu1 := hR.nu1; have enu2 := hR.nu2; have enu3 := hR.nu3; have enu4 := hR.nu4; have enu5 := hR.nu5; have ejt := hR.jt; have ejk := hR.jk; have ejw := hR.jw; have eyh0 := hR.yh0; have eyh1 := hR.yh1; have eyh2 := hR.yh2; have eyh3 := hR.yh3; have eyh4 := hR.yh4; have eyh5 := hR.yh5; have eyh6 := hR.yh6; have eyh7 := hR.yh7; have eyc0 := hR.yc0; have eyc1 := hR.yc1; have eyc2 := hR.yc2; have eyo0 := hR.yo0; have eyo1 := hR.yo1
            refine xr.mk ?_ ?_ ?_ ?_ ?_ ?_ ?_ ?_ ?_ ?_ ?_ ?_ ?_ ?_ ?_ ?_ ?_ ?_ ?_ ?_ ?_ ?_ ?_ ?_ ?_ ?_ ?_ ?_ ?_ ?_ ?_ ?_ ?_ ?_ ?_ ?_ ?_ ?_ ?_ ?_ ?_ ?_ ?_ ?_ ?_ ?_ ?_ ?_ ?_ ?_ ?_ ?_ ?_ ?_ ?_ ?_ ?_ ?_ ?_ ?_ ?_ ?_ ?_ ?_ ?_ ?_ ?_ ?_ ?_ ?_ ?_ ?_ ?_ ?_ ?_ ?_ ?_ ?_ ?_ ?_ ?_ ?_ ?_ ?_ ?_ ?_ ?_ ?_ ?_ ?_ ?_ ?_ ?_ ?_ ?_ ?_ ?_ ?_ ?_ ?_ ?_ ?_ ?_ ?_ ?_ ?_ ?_ ?_ ?_ ?_ ?_ ?_ ?_ ?_ ?_ ?_ ?_ ?_ ?_ ?_ ?_ ?_ ?_ ?_ ?_
            all_goals first | (simp only [va_up, upd]; simp; assumption) | skip
            all_goals first | (simp [va_up, upd, ]; done) | skip
            all_goals first | (with_reducible assumption) | skip
          · exact Or.inl ⟨by simp [va_up, upd], n + 1, by omega, by simp [va_up, upd]⟩
          · obtain ⟨d1, d2, d3, d4⟩ := h9; repeat first | rw [xr_upd hj] | rw [xr_upc d1] | rw [xr_upc d2] | rw [xr_upc d3] | rw [xr_upc d4]
          · exact xk_cnt_le (xk_cnt_k (by decide) (xk_cnt_k (by decide) (xk_cnt_k (by decide) (xk_cnt_k (by decide) hB)))) (by omega)
      · rw [if_neg q] at m1
        subst m1
        rw [if_pos rfl] at m4
        subst m4
        subst m5
        simp only [if_neg q] at h1 h2
        rw [if_pos (by simp [va_up, upd])] at m6
        subst m6
        rw [if_pos (by simp [va_up, ha])] at m7
        subst m7
        simp at h1 h2
        subst h1; subst h2; subst m8; subst m9
        refine ⟨?_, ?_, fun c j hj h9 => ?_, ?_⟩
        · have eb0 := hR.b0; have ea0 := hR.a0; have ed0 := hR.d0; have ek0 := hR.k0; have eb1 := hR.b1; have ea1 := hR.a1; have ed1 := hR.d1; have ek1 := hR.k1; have eb2 := hR.b2; have ea2 := hR.a2; have ed2 := hR.d2; have ek2 := hR.k2; have eb3 := hR.b3; have ea3 := hR.a3; have ed3 := hR.d3; have ek3 := hR.k3; have eb4 := hR.b4; have ea4 := hR.a4; have ed4 := hR.d4; have ek4 := hR.k4; have eb5 := hR.b5; have ea5 := hR.a5; have ed5 := hR.d5; have ek5 := hR.k5; have ep0 := hR.p0; have ep1 := hR.p1; have ep2 := hR.p2; have ep3 := hR.p3; have ep4 := hR.p4; have ep5 := hR.p5; have ep6 := hR.p6; have ep7 := hR.p7; have ec0 := hR.c0; have ec1 := hR.c1; have ec2 := hR.c2; have ec3 := hR.c3; have eo0 := hR.o0; have es0 := hR.s0; have eo1 := hR.o1; have es1 := hR.s1; have epo0 := hR.po0; have epb0 := hR.pb0; have emo0 := hR.mo0; have eze0 := hR.ze0; have est0 := hR.st0; have eal0 := hR.al0; have epo1 := hR.po1; have epb1 := hR.pb1; have emo1 := hR.mo1; have eze1 := hR.ze1; have est1 := hR.st1; have eal1 := hR.al1; have eli0 := hR.li0; have ede0 := hR.de0; have eda0 := hR.da0; have eli1 := hR.li1; have ede1 := hR.de1; have eda1 := hR.da1; have eli2 := hR.li2; have ede2 := hR.de2; have eda2 := hR.da2; have estep := hR.step; have eage := hR.age; have equiet := hR.quiet; have emany := hR.many; have etime := hR.time; have enight := hR.night; have ebell := hR.bell; have eh0 := hR.h0; have eh1 := hR.h1; have eh2 := hR.h2; have eh3 := hR.h3; have eh4 := hR.h4; have eh5 := hR.h5; have eh6 := hR.h6; have eh7 := hR.h7; have enc0 := hR.nc0; have enc1 := hR.nc1; have enc2 := hR.nc2; have ei0 := hR.i0; have ej0 := hR.j0; have em0 := hR.m0; have en0 := hR.n0; have ei1 := hR.i1; have ej1 := hR.j1; have em1 := hR.m1; have en1 := hR.n1; have ei2 := hR.i2; have ej2 := hR.j2; have em2 := hR.m2; have en2 := hR.n2; have ei3 := hR.i3; have ej3 := hR.j3; have em3 := hR.m3; have en3 := hR.n3; have ei4 := hR.i4; have ej4 := hR.j4; have em4 := hR.m4; have en4 := hR.n4; have ei5 := hR.i5; have ej5 := hR.j5; have em5 := hR.m5; have en5 := hR.n5; have enu0 := hR.nu0; have enu1 := hR.nu1; have enu2 := hR.nu2; have enu3 := hR.nu3; have enu4 := hR.nu4; have enu5 := hR.nu5; have ejt := hR.jt; have ejk := hR.jk; have ejw := hR.jw; have eyh0 := hR.yh0; have eyh1 := hR.yh1; have eyh2 := hR.yh2; have eyh3 := hR.yh3; have eyh4 := hR.yh4; have eyh5 := hR.yh5; have eyh6 := hR.yh6; have eyh7 := hR.yh7; have eyc0 := hR.yc0; have eyc1 := hR.yc1; have eyc2 := hR.yc2; have eyo0 := hR.yo0; have eyo1 := hR.yo1
          refine xr.mk ?_ ?_ ?_ ?_ ?_ ?_ ?_ ?_ ?_ ?_ ?_ ?_ ?_ ?_ ?_ ?_ ?_ ?_ ?_ ?_ ?_ ?_ ?_ ?_ ?_ ?_ ?_ ?_ ?_ ?_ ?_ ?_ ?_ ?_ ?_ ?_ ?_ ?_ ?_ ?_ ?_ ?_ ?_ ?_ ?_ ?_ ?_ ?_ ?_ ?_ ?_ ?_ ?_ ?_ ?_ ?_ ?_ ?_ ?_ ?_ ?_ ?_ ?_ ?_ ?_ ?_ ?_ ?_ ?_ ?_ ?_ ?_ ?_ ?_ ?_ ?_ ?_ ?_ ?_ ?_ ?_ ?_ ?_ ?_ ?_ ?_ ?_ ?_ ?_ ?_ ?_ ?_ ?_ ?_ ?_ ?_ ?_ ?_ ?_ ?_ ?_ ?_ ?_ ?_ ?_ ?_ ?_ ?_ ?_ ?_ ?_ ?_ ?_ ?_ ?_ ?_ ?_ ?_ ?_ ?_ ?_ ?_ ?_ ?_ ?_
          all_goals first | (simp only [va_up, upd]; simp; assumption) | skip
          all_goals first | (simp [va_up, upd, ]; done) | skip
          all_goals first | (with_reducible assumption) | skip
        · exact Or.inl ⟨by simp [va_up, upd], 0, by omega, by simp [va_up, upd, nI_0]⟩
        · obtain ⟨d1, d2, d3, d4⟩ := h9; repeat first | rw [xr_upd hj] | rw [xr_upc d1] | rw [xr_upc d2] | rw [xr_upc d3] | rw [xr_upc d4]
        · exact xk_cnt_le (xk_cnt_k (by decide) (xk_cnt_k (by decide) (xk_cnt_k (by decide) (xk_cnt_k (by decide) hB)))) (by omega)
    · exact absurd h c1
theorem sim_watchBarriers {g gz t tz : xk_St} {B : Nat} (hR : xr g t) (hB : xk_cnt B t) (hB2 : B + 2 < 2147483647) (hi : ∀ b : Nat, b < 2 → xi_ba t b) (hU : relzU_watchBarriers g gz) (hM : relzM_watchBarriers t tz) : xr gz tz ∧ (∀ b : Nat, b < 2 → xi_bb tz b) ∧ xk_cnt (B + 2) tz ∧ gz 0 9 = qzM_isProved tz := by
  obtain ⟨g1, u1, g3, u3, g4, u4, g6, u6, y1, u7, g7, rfl, rfl⟩ := hU
  obtain ⟨x1, m1, x2, m2, t1, m3, x3, m4, t2, m5, t5, m6, x4, m7, t6, m8, t7, m9, x5, n1, x6, n2, t8, n3, x7, n4, t9, n5, t12, n6, x8, n7, t13, n8, t14, n9, rfl⟩ := hM
  obtain ⟨R1, i1, k1, B1⟩ := sim_bar_0 hR hB (by omega) (hi 0 (by decide)) u1 u3 m1 m2 m3 m4 m5 m6 m7 m8 m9
  have h1 : xi_ba t7 1 := by
    have h9 := hi 1 (by decide)
    unfold xi_ba at h9 ⊢
    rw [k1 19 1 (by decide) (by decide), k1 18 1 (by decide) (by decide), k1 16 1 (by decide) (by decide)]
    exact h9
  obtain ⟨R2, i2, k2, B2⟩ := sim_bar_1 R1 B1 (by omega) h1 u4 u6 n1 n2 n3 n4 n5 n6 n7 n8 n9
  have h0 : xi_bb tz 0 := by
    unfold xi_bb at i1 ⊢
    rw [k2 19 0 (by decide) (by decide), k2 18 0 (by decide) (by decide)]
    exact i1
  have hy : y1 = qzM_isProved tz := by
    rw [R2.ze0, R2.ze1] at u7
    unfold qzM_isProved
    by_cases q1 : tz 17 0 < 5
    · rw [if_pos q1] at u7 ⊢; exact u7
    · rw [if_neg q1] at u7 ⊢
      by_cases q2 : tz 17 1 < 5
      · rw [if_pos q2] at u7 ⊢; exact u7
      · rw [if_neg q2] at u7 ⊢; exact u7
  refine ⟨?_, fun b hb => ?_, B2, by simp [va_up, upd, hy]⟩
  · have hR := R2
    have eb0 := hR.b0; have ea0 := hR.a0; have ed0 := hR.d0; have ek0 := hR.k0; have eb1 := hR.b1; have ea1 := hR.a1; have ed1 := hR.d1; have ek1 := hR.k1; have eb2 := hR.b2; have ea2 := hR.a2; have ed2 := hR.d2; have ek2 := hR.k2; have eb3 := hR.b3; have ea3 := hR.a3; have ed3 := hR.d3; have ek3 := hR.k3; have eb4 := hR.b4; have ea4 := hR.a4; have ed4 := hR.d4; have ek4 := hR.k4; have eb5 := hR.b5; have ea5 := hR.a5; have ed5 := hR.d5; have ek5 := hR.k5; have ep0 := hR.p0; have ep1 := hR.p1; have ep2 := hR.p2; have ep3 := hR.p3; have ep4 := hR.p4; have ep5 := hR.p5; have ep6 := hR.p6; have ep7 := hR.p7; have ec0 := hR.c0; have ec1 := hR.c1; have ec2 := hR.c2; have ec3 := hR.c3; have eo0 := hR.o0; have es0 := hR.s0; have eo1 := hR.o1; have es1 := hR.s1; have epo0 := hR.po0; have epb0 := hR.pb0; have emo0 := hR.mo0; have eze0 := hR.ze0; have est0 := hR.st0; have eal0 := hR.al0; have epo1 := hR.po1; have epb1 := hR.pb1; have emo1 := hR.mo1; have eze1 := hR.ze1; have est1 := hR.st1; have eal1 := hR.al1; have eli0 := hR.li0; have ede0 := hR.de0; have eda0 := hR.da0; have eli1 := hR.li1; have ede1 := hR.de1; have eda1 := hR.da1; have eli2 := hR.li2; have ede2 := hR.de2; have eda2 := hR.da2; have estep := hR.step; have eage := hR.age; have equiet := hR.quiet; have emany := hR.many; have etime := hR.time; have enight := hR.night; have ebell := hR.bell; have eh0 := hR.h0; have eh1 := hR.h1; have eh2 := hR.h2; have eh3 := hR.h3; have eh4 := hR.h4; have eh5 := hR.h5; have eh6 := hR.h6; have eh7 := hR.h7; have enc0 := hR.nc0; have enc1 := hR.nc1; have enc2 := hR.nc2; have ei0 := hR.i0; have ej0 := hR.j0; have em0 := hR.m0; have en0 := hR.n0; have ei1 := hR.i1; have ej1 := hR.j1; have em1 := hR.m1; have en1 := hR.n1; have ei2 := hR.i2; have ej2 := hR.j2; have em2 := hR.m2; have en2 := hR.n2; have ei3 := hR.i3; have ej3 := hR.j3; have em3 := hR.m3; have en3 := hR.n3; have ei4 := hR.i4; have ej4 := hR.j4; have em4 := hR.m4; have en4 := hR.n4; have ei5 := hR.i5; have ej5 := hR.j5; have em5 := hR.m5; have en5 := hR.n5; have enu0 := hR.nu0; have enu1 := hR.nu1; have enu2 := hR.nu2; have enu3 := hR.nu3; have enu4 := hR.nu4; have enu5 := hR.nu5; have ejt := hR.jt; have ejk := hR.jk; have ejw := hR.jw; have eyh0 := hR.yh0; have eyh1 := hR.yh1; have eyh2 := hR.yh2; have eyh3 := hR.yh3; have eyh4 := hR.yh4; have eyh5 := hR.yh5; have eyh6 := hR.yh6; have eyh7 := hR.yh7; have eyc0 := hR.yc0; have eyc1 := hR.yc1; have eyc2 := hR.yc2; have eyo0 := hR.yo0; have eyo1 := hR.yo1
    refine xr.mk ?_ ?_ ?_ ?_ ?_ ?_ ?_ ?_ ?_ ?_ ?_ ?_ ?_ ?_ ?_ ?_ ?_ ?_ ?_ ?_ ?_ ?_ ?_ ?_ ?_ ?_ ?_ ?_ ?_ ?_ ?_ ?_ ?_ ?_ ?_ ?_ ?_ ?_ ?_ ?_ ?_ ?_ ?_ ?_ ?_ ?_ ?_ ?_ ?_ ?_ ?_ ?_ ?_ ?_ ?_ ?_ ?_ ?_ ?_ ?_ ?_ ?_ ?_ ?_ ?_ ?_ ?_ ?_ ?_ ?_ ?_ ?_ ?_ ?_ ?_ ?_ ?_ ?_ ?_ ?_ ?_ ?_ ?_ ?_ ?_ ?_ ?_ ?_ ?_ ?_ ?_ ?_ ?_ ?_ ?_ ?_ ?_ ?_ ?_ ?_ ?_ ?_ ?_ ?_ ?_ ?_ ?_ ?_ ?_ ?_ ?_ ?_ ?_ ?_ ?_ ?_ ?_ ?_ ?_ ?_ ?_ ?_ ?_ ?_ ?_
    all_goals first | (simp only [va_up, upd]; simp; assumption) | skip
    all_goals first | (simp [va_up, upd, ]; done) | skip
    all_goals first | (with_reducible assumption) | skip
  · rcases (show b = 0 ∨ b = 1 from by omega) with rfl | rfl
    · exact h0
    · exact i2
