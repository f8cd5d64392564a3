def xi_co (t : xk_St) (e : Nat) : Prop := t 11 e = -1 ∨ ∃ n : Nat, n ≤ 214 ∧ t 11 e = nI n
theorem xr_max {n : Nat} (h : n ≤ 214) : (if nI n ≤ 0 then (0 : Int32) else nI n - 1) = Int32.ofNat (n - 1) := by
  rcases Nat.eq_zero_or_pos n with h0 | h0
  · subst h0; decide
  · obtain ⟨k, rfl⟩ : ∃ k, n = k + 1 := ⟨n - 1, by omega⟩
    rw [if_neg (nI_nle (by omega) (by omega)), nI_pred]; rfl
theorem xr_mx {x : Int32} (hi : x = -1 ∨ ∃ n : Nat, n ≤ 214 ∧ x = nI n) (h : ¬ x = -1) : (if x - 1 < 0 then (0 : Int32) else x - 1) = (if x ≤ 0 then 0 else x - 1) := by
  rcases hi with hi | ⟨n, h1, rfl⟩
  · exact absurd hi h
  · rcases Nat.eq_zero_or_pos n with h0 | h0
    · subst h0; decide
    · obtain ⟨k, rfl⟩ : ∃ k, n = k + 1 := ⟨n - 1, by omega⟩
      rw [if_neg (nI_nle (by omega) (by omega)), nI_pred, if_neg (nI_pos (by omega))]
theorem sim_com_0 {g g1 t t5 : xk_St} (hR : xr g t) (hi : xi_co t 0) (he : g 25 2 = t 12 0)
    (hU : g1 = va_up g 25 (upd (upd (g 25) 1 (qzE_follow_a1 (g 25 1) (g 25 2) (g 19 1) (g 19 2))) 2 qzE_follow_a2))
    (hM : if ((t 12) 0) = 0 then (if ((t 11) 0) = (-1) then (t5 = t) else (∃ (x : Int32), (if ((t 3) 0) = 0 then (x = (-1)) else (if ((t 11) 0) ≤ 0 then (x = 0) else (x = ((t 11) 0) - 1))) ∧ (∃ (t1 : xk_St), t1 = va_up t 11 (upd (t 11) 0 x) ∧ (t5 = t1)))) else (if ((t 4) 0) = 0 then (if ((t 11) 0) = (-1) then (∃ (t4 : xk_St), t4 = va_up t 11 (upd (t 11) 0 214) ∧ (t5 = t4)) else (∃ (x : Int32), (if ((t 3) 0) = 0 then (x = (-1)) else (if ((t 11) 0) ≤ 0 then (x = 0) else (x = ((t 11) 0) - 1))) ∧ (∃ (t1 : xk_St), t1 = va_up t 11 (upd (t 11) 0 x) ∧ (t5 = t1)))) else (if ((t 11) 0) = (-1) then (t5 = t) else (∃ (x : Int32), (if ((t 3) 0) = 0 then (x = (-1)) else (if ((t 11) 0) ≤ 0 then (x = 0) else (x = ((t 11) 0) - 1))) ∧ (∃ (t1 : xk_St), t1 = va_up t 11 (upd (t 11) 0 x) ∧ (t5 = t1)))))) : xr g1 t5 ∧ xi_co t5 0 ∧ (∀ j : Nat, j ≠ 0 → t5 11 j = t 11 j) ∧ (∀ c j : Nat, c ≠ 11 → t5 c j = t c j) ∧ (∀ c j : Nat, c ≠ 25 → g1 c j = g c j) ∧ g1 25 2 = 0 := by
  rw [he, hR.c0, hR.b0, hR.a0] at hU
  have hseg : ∀ {t5 : xk_St}, ¬ t 11 0 = -1 → (∃ (x : Int32), (if ((t 3) 0) = 0 then (x = (-1)) else (if ((t 11) 0) ≤ 0 then (x = 0) else (x = ((t 11) 0) - 1))) ∧ (∃ (t1 : xk_St), t1 = va_up t 11 (upd (t 11) 0 x) ∧ (t5 = t1))) → g1 = va_up g 25 (upd (upd (g 25) 1 (if t 3 0 = 0 then -1 else (if t 11 0 ≤ 0 then 0 else t 11 0 - 1))) 2 0) → xr g1 t5 ∧ xi_co t5 0 ∧ (∀ j : Nat, j ≠ 0 → t5 11 j = t 11 j) ∧ (∀ c j : Nat, c ≠ 11 → t5 c j = t c j) ∧ (∀ c j : Nat, c ≠ 25 → g1 c j = g c j) ∧ g1 25 2 = 0 := by
    intro t5 hne hs hu
    obtain ⟨x, hx, t1, rfl, rfl⟩ := hs
    have hx' : x = (if t 3 0 = 0 then -1 else (if t 11 0 ≤ 0 then 0 else t 11 0 - 1)) := by
      by_cases q1 : t 3 0 = 0
      · rw [if_pos q1] at hx ⊢; exact hx
      · rw [if_neg q1] at hx ⊢
        by_cases q2 : t 11 0 ≤ 0
        · rw [if_pos q2] at hx ⊢; exact hx
        · rw [if_neg q2] at hx ⊢; exact hx
    have hco : x = -1 ∨ ∃ n : Nat, n ≤ 214 ∧ x = nI n := by
      rcases hi with hi | ⟨n, h1, h2⟩
      · exact absurd hi hne
      · rw [hx']
        by_cases q1 : t 3 0 = 0
        · rw [if_pos q1]; exact Or.inl rfl
        · rw [if_neg q1, h2, xr_max h1]; exact Or.inr ⟨n - 1, by omega, rfl⟩
    rw [← hx'] at hu
    subst hu
    refine ⟨?_, ?_, fun j hj => by simp [va_up, upd, hj], fun c j hc => by simp [va_up, upd, hc], fun c j hc => by simp [va_up, upd, hc], by simp [va_up, upd]⟩
    · skip
      have eb0 := hR.b0; have ea0 := hR.a0; have ed0 := hR.d0; have ek0 := hR.k0; have eb1 := hR.b1; have ea1 := hR.a1; have ed1 := hR.d1; have ek1 := hR.k1; have eb2 := hR.b2; have ea2 := hR.a2; have ed2 := hR.d2; have ek2 := hR.k2; have eb3 := hR.b3; have ea3 := hR.a3; have ed3 := hR.d3; have ek3 := hR.k3; have eb4 := hR.b4; have ea4 := hR.a4; have ed4 := hR.d4; have ek4 := hR.k4; have eb5 := hR.b5; have ea5 := hR.a5; have ed5 := hR.d5; have ek5 := hR.k5; have ep0 := hR.p0; have ep1 := hR.p1; have ep2 := hR.p2; have ep3 := hR.p3; have ep4 := hR.p4; have ep5 := hR.p5; have ep6 := hR.p6; have ep7 := hR.p7; have ec0 := hR.c0; have ec1 := hR.c1; have ec2 := hR.c2; have ec3 := hR.c3; have eo0 := hR.o0; have es0 := hR.s0; have eo1 := hR.o1; have es1 := hR.s1; have epo0 := hR.po0; have epb0 := hR.pb0; have emo0 := hR.mo0; have eze0 := hR.ze0; have est0 := hR.st0; have eal0 := hR.al0; have epo1 := hR.po1; have epb1 := hR.pb1; have emo1 := hR.mo1; have eze1 := hR.ze1; have est1 := hR.st1; have eal1 := hR.al1; have eli0 := hR.li0; have ede0 := hR.de0; have eda0 := hR.da0; have eli1 := hR.li1; have ede1 := hR.de1; have eda1 := hR.da1; have eli2 := hR.li2; have ede2 := hR.de2; have eda2 := hR.da2; have estep := hR.step; have eage := hR.age; have equiet := hR.quiet; have emany := hR.many; have etime := hR.time; have enight := hR.night; have ebell := hR.bell; have eh0 := hR.h0; have eh1 := hR.h1; have eh2 := hR.h2; have eh3 := hR.h3; have eh4 := hR.h4; have eh5 := hR.h5; have eh6 := hR.h6; have eh7 := hR.h7; have enc0 := hR.nc0; have enc1 := hR.nc1; have enc2 := hR.nc2; have ei0 := hR.i0; have ej0 := hR.j0; have em0 := hR.m0; have en0 := hR.n0; have ei1 := hR.i1; have ej1 := hR.j1; have em1 := hR.m1; have en1 := hR.n1; have ei2 := hR.i2; have ej2 := hR.j2; have em2 := hR.m2; have en2 := hR.n2; have ei3 := hR.i3; have ej3 := hR.j3; have em3 := hR.m3; have en3 := hR.n3; have ei4 := hR.i4; have ej4 := hR.j4; have em4 := hR.m4; have en4 := hR.n4; have ei5 := hR.i5; have ej5 := hR.j5; have em5 := hR.m5; have en5 := hR.n5; have enu0 := hR.nu0; have enu1 := hR.nu1; have enu2 := hR.nu2; have enu3 := hR.nu3; have enu4 := hR.nu4; have enu5 := hR.nu5; have ejt := hR.jt; have ejk := hR.jk; have ejw := hR.jw; have eyh0 := hR.yh0; have eyh1 := hR.yh1; have eyh2 := hR.yh2; have eyh3 := hR.yh3; have eyh4 := hR.yh4; have eyh5 := hR.yh5; have eyh6 := hR.yh6; have eyh7 := hR.yh7; have eyc0 := hR.yc0; have eyc1 := hR.yc1; have eyc2 := hR.yc2; have eyo0 := hR.yo0; have eyo1 := hR.yo1
      refine xr.mk ?_ ?_ ?_ ?_ ?_ ?_ ?_ ?_ ?_ ?_ ?_ ?_ ?_ ?_ ?_ ?_ ?_ ?_ ?_ ?_ ?_ ?_ ?_ ?_ ?_ ?_ ?_ ?_ ?_ ?_ ?_ ?_ ?_ ?_ ?_ ?_ ?_ ?_ ?_ ?_ ?_ ?_ ?_ ?_ ?_ ?_ ?_ ?_ ?_ ?_ ?_ ?_ ?_ ?_ ?_ ?_ ?_ ?_ ?_ ?_ ?_ ?_ ?_ ?_ ?_ ?_ ?_ ?_ ?_ ?_ ?_ ?_ ?_ ?_ ?_ ?_ ?_ ?_ ?_ ?_ ?_ ?_ ?_ ?_ ?_ ?_ ?_ ?_ ?_ ?_ ?_ ?_ ?_ ?_ ?_ ?_ ?_ ?_ ?_ ?_ ?_ ?_ ?_ ?_ ?_ ?_ ?_ ?_ ?_ ?_ ?_ ?_ ?_ ?_ ?_ ?_ ?_ ?_ ?_ ?_ ?_ ?_ ?_ ?_ ?_
      all_goals first | (simp only [va_up, upd]; simp; assumption) | skip
      all_goals first | (simp [va_up, upd, ]; done) | skip
      all_goals first | (with_reducible assumption) | skip
    · rcases hco with h | ⟨n, h1, h2⟩
      · exact Or.inl (by simp [va_up, upd, h])
      · exact Or.inr ⟨n, h1, by simp [va_up, upd, h2]⟩
  have hstay : t5 = t → g1 = va_up g 25 (upd (upd (g 25) 1 (t 11 0)) 2 0) → xr g1 t5 ∧ xi_co t5 0 ∧ (∀ j : Nat, j ≠ 0 → t5 11 j = t 11 j) ∧ (∀ c j : Nat, c ≠ 11 → t5 c j = t c j) ∧ (∀ c j : Nat, c ≠ 25 → g1 c j = g c j) ∧ g1 25 2 = 0 := by
    intro h1 hu
    subst h1; subst hu
    refine ⟨?_, hi, fun _ _ => rfl, fun _ _ _ => rfl, fun c j hc => by simp [va_up, upd, hc], by simp [va_up, upd]⟩
    have eb0 := hR.b0; have ea0 := hR.a0; have ed0 := hR.d0; have ek0 := hR.k0; have eb1 := hR.b1; have ea1 := hR.a1; have ed1 := hR.d1; have ek1 := hR.k1; have eb2 := hR.b2; have ea2 := hR.a2; have ed2 := hR.d2; have ek2 := hR.k2; have eb3 := hR.b3; have ea3 := hR.a3; have ed3 := hR.d3; have ek3 := hR.k3; have eb4 := hR.b4; have ea4 := hR.a4; have ed4 := hR.d4; have ek4 := hR.k4; have eb5 := hR.b5; have ea5 := hR.a5; have ed5 := hR.d5; have ek5 := hR.k5; have ep0 := hR.p0; have ep1 := hR.p1; have ep2 := hR.p2; have ep3 := hR.p3; have ep4 := hR.p4; have ep5 := hR.p5; have ep6 := hR.p6; have ep7 := hR.p7; have ec0 := hR.c0; have ec1 := hR.c1; have ec2 := hR.c2; have ec3 := hR.c3; have eo0 := hR.o0; have es0 := hR.s0; have eo1 := hR.o1; have es1 := hR.s1; have epo0 := hR.po0; have epb0 := hR.pb0; have emo0 := hR.mo0; have eze0 := hR.ze0; have est0 := hR.st0; have eal0 := hR.al0; have epo1 := hR.po1; have epb1 := hR.pb1; have emo1 := hR.mo1; have eze1 := hR.ze1; have est1 := hR.st1; have eal1 := hR.al1; have eli0 := hR.li0; have ede0 := hR.de0; have eda0 := hR.da0; have eli1 := hR.li1; have ede1 := hR.de1; have eda1 := hR.da1; have eli2 := hR.li2; have ede2 := hR.de2; have eda2 := hR.da2; have estep := hR.step; have eage := hR.age; have equiet := hR.quiet; have emany := hR.many; have etime := hR.time; have enight := hR.night; have ebell := hR.bell; have eh0 := hR.h0; have eh1 := hR.h1; have eh2 := hR.h2; have eh3 := hR.h3; have eh4 := hR.h4; have eh5 := hR.h5; have eh6 := hR.h6; have eh7 := hR.h7; have enc0 := hR.nc0; have enc1 := hR.nc1; have enc2 := hR.nc2; have ei0 := hR.i0; have ej0 := hR.j0; have em0 := hR.m0; have en0 := hR.n0; have ei1 := hR.i1; have ej1 := hR.j1; have em1 := hR.m1; have en1 := hR.n1; have ei2 := hR.i2; have ej2 := hR.j2; have em2 := hR.m2; have en2 := hR.n2; have ei3 := hR.i3; have ej3 := hR.j3; have em3 := hR.m3; have en3 := hR.n3; have ei4 := hR.i4; have ej4 := hR.j4; have em4 := hR.m4; have en4 := hR.n4; have ei5 := hR.i5; have ej5 := hR.j5; have em5 := hR.m5; have en5 := hR.n5; have enu0 := hR.nu0; have enu1 := hR.nu1; have enu2 := hR.nu2; have enu3 := hR.nu3; have enu4 := hR.nu4; have enu5 := hR.nu5; have ejt := hR.jt; have ejk := hR.jk; have ejw := hR.jw; have eyh0 := hR.yh0; have eyh1 := hR.yh1; have eyh2 := hR.yh2; have eyh3 := hR.yh3; have eyh4 := hR.yh4; have eyh5 := hR.yh5; have eyh6 := hR.yh6; have eyh7 := hR.yh7; have eyc0 := hR.yc0; have eyc1 := hR.yc1; have eyc2 := hR.yc2; have eyo0 := hR.yo0; have eyo1 := hR.yo1
    refine xr.mk ?_ ?_ ?_ ?_ ?_ ?_ ?_ ?_ ?_ ?_ ?_ ?_ ?_ ?_ ?_ ?_ ?_ ?_ ?_ ?_ ?_ ?_ ?_ ?_ ?_ ?_ ?_ ?_ ?_ ?_ ?_ ?_ ?_ ?_ ?_ ?_ ?_ ?_ ?_ ?_ ?_ ?_ ?_ ?_ ?_ ?_ ?_ ?_ ?_ ?_ ?_ ?_ ?_ ?_ ?_ ?_ ?_ ?_ ?_ ?_ ?_ ?_ ?_ ?_ ?_ ?_ ?_ ?_ ?_ ?_ ?_ ?_ ?_ ?_ ?_ ?_ ?_ ?_ ?_ ?_ ?_ ?_ ?_ ?_ ?_ ?_ ?_ ?_ ?_ ?_ ?_ ?_ ?_ ?_ ?_ ?_ ?_ ?_ ?_ ?_ ?_ ?_ ?_ ?_ ?_ ?_ ?_ ?_ ?_ ?_ ?_ ?_ ?_ ?_ ?_ ?_ ?_ ?_ ?_ ?_ ?_ ?_ ?_ ?_ ?_
    all_goals first | (simp only [va_up, upd]; simp; assumption) | skip
    all_goals first | (simp [va_up, upd, ]; done) | skip
    all_goals first | (with_reducible assumption) | skip
  by_cases c1 : t 12 0 = 0
  · rw [if_pos c1] at hM
    by_cases c2 : t 11 0 = -1
    · rw [if_pos c2] at hM
      exact hstay hM (by rw [hU]; simp [qzE_follow_a1, qzE_follow_a2, c1, c2])
    · rw [if_neg c2] at hM
      exact hseg c2 hM (by rw [hU]; simp [qzE_follow_a1, qzE_follow_a2, c1, c2, xr_mx hi c2])
  · rw [if_neg c1] at hM
    by_cases c3 : t 4 0 = 0
    · rw [if_pos c3] at hM
      by_cases c2 : t 11 0 = -1
      · rw [if_pos c2] at hM
        obtain ⟨t4, rfl, rfl⟩ := hM
        have hu : g1 = va_up g 25 (upd (upd (g 25) 1 214) 2 0) := by rw [hU]; simp [qzE_follow_a1, qzE_follow_a2, c1, c2, c3]
        subst hu
        refine ⟨?_, Or.inr ⟨214, by omega, by simp [va_up, upd]; decide⟩, fun j hj => by simp [va_up, upd, hj], fun c j hc => by simp [va_up, upd, hc], fun c j hc => by simp [va_up, upd, hc], by simp [va_up, upd]⟩
        have eb0 := hR.b0; have ea0 := hR.a0; have ed0 := hR.d0; have ek0 := hR.k0; have eb1 := hR.b1; have ea1 := hR.a1; have ed1 := hR.d1; have ek1 := hR.k1; have eb2 := hR.b2; have ea2 := hR.a2; have ed2 := hR.d2; have ek2 := hR.k2; have eb3 := hR.b3; have ea3 := hR.a3; have ed3 := hR.d3; have ek3 := hR.k3; have eb4 := hR.b4; have ea4 := hR.a4; have ed4 := hR.d4; have ek4 := hR.k4; have eb5 := hR.b5; have ea5 := hR.a5; have ed5 := hR.d5; have ek5 := hR.k5; have ep0 := hR.p0; have ep1 := hR.p1; have ep2 := hR.p2; have ep3 := hR.p3; have ep4 := hR.p4; have ep5 := hR.p5; have ep6 := hR.p6; have ep7 := hR.p7; have ec0 := hR.c0; have ec1 := hR.c1; have ec2 := hR.c2; have ec3 := hR.c3; have eo0 := hR.o0; have es0 := hR.s0; have eo1 := hR.o1; have es1 := hR.s1; have epo0 := hR.po0; have epb0 := hR.pb0; have emo0 := hR.mo0; have eze0 := hR.ze0; have est0 := hR.st0; have eal0 := hR.al0; have epo1 := hR.po1; have epb1 := hR.pb1; have emo1 := hR.mo1; have eze1 := hR.ze1; have est1 := hR.st1; have eal1 := hR.al1; have eli0 := hR.li0; have ede0 := hR.de0; have eda0 := hR.da0; have eli1 := hR.li1; have ede1 := hR.de1; have eda1 := hR.da1; have eli2 := hR.li2; have ede2 := hR.de2; have eda2 := hR.da2; have estep := hR.step; have eage := hR.age; have equiet := hR.quiet; have emany := hR.many; have etime := hR.time; have enight := hR.night; have ebell := hR.bell; have eh0 := hR.h0; have eh1 := hR.h1; have eh2 := hR.h2; have eh3 := hR.h3; have eh4 := hR.h4; have eh5 := hR.h5; have eh6 := hR.h6; have eh7 := hR.h7; have enc0 := hR.nc0; have enc1 := hR.nc1; have enc2 := hR.nc2; have ei0 := hR.i0; have ej0 := hR.j0; have em0 := hR.m0; have en0 := hR.n0; have ei1 := hR.i1; have ej1 := hR.j1; have em1 := hR.m1; have en1 := hR.n1; have ei2 := hR.i2; have ej2 := hR.j2; have em2 := hR.m2; have en2 := hR.n2; have ei3 := hR.i3; have ej3 := hR.j3; have em3 := hR.m3; have en3 := hR.n3; have ei4 := hR.i4; have ej4 := hR.j4; have em4 := hR.m4; have en4 := hR.n4; have ei5 := hR.i5; have ej5 := hR.j5; have em5 := hR.m5; have en5 := hR.n5; have enu0 := hR.nu0; have enu1 := hR.nu1; have enu2 := hR.nu2; have enu3 := hR.nu3; have enu4 := hR.nu4; have enu5 := hR.nu5; have ejt := hR.jt; have ejk := hR.jk; have ejw := hR.jw; have eyh0 := hR.yh0; have eyh1 := hR.yh1; have eyh2 := hR.yh2; have eyh3 := hR.yh3; have eyh4 := hR.yh4; have eyh5 := hR.yh5; have eyh6 := hR.yh6; have eyh7 := hR.yh7; have eyc0 := hR.yc0; have eyc1 := hR.yc1; have eyc2 := hR.yc2; have eyo0 := hR.yo0; have eyo1 := hR.yo1
        refine xr.mk ?_ ?_ ?_ ?_ ?_ ?_ ?_ ?_ ?_ ?_ ?_ ?_ ?_ ?_ ?_ ?_ ?_ ?_ ?_ ?_ ?_ ?_ ?_ ?_ ?_ ?_ ?_ ?_ ?_ ?_ ?_ ?_ ?_ ?_ ?_ ?_ ?_ ?_ ?_ ?_ ?_ ?_ ?_ ?_ ?_ ?_ ?_ ?_ ?_ ?_ ?_ ?_ ?_ ?_ ?_ ?_ ?_ ?_ ?_ ?_ ?_ ?_ ?_ ?_ ?_ ?_ ?_ ?_ ?_ ?_ ?_ ?_ ?_ ?_ ?_ ?_ ?_ ?_ ?_ ?_ ?_ ?_ ?_ ?_ ?_ ?_ ?_ ?_ ?_ ?_ ?_ ?_ ?_ ?_ ?_ ?_ ?_ ?_ ?_ ?_ ?_ ?_ ?_ ?_ ?_ ?_ ?_ ?_ ?_ ?_ ?_ ?_ ?_ ?_ ?_ ?_ ?_ ?_ ?_ ?_ ?_ ?_ ?_ ?_ ?_
        all_goals first | (simp only [va_up, upd]; simp; assumption) | skip
        all_goals first | (simp [va_up, upd, ]; done) | skip
        all_goals first | (with_reducible assumption) | skip
      · rw [if_neg c2] at hM
        exact hseg c2 hM (by rw [hU]; simp [qzE_follow_a1, qzE_follow_a2, c1, c2, c3, xr_mx hi c2])
    · rw [if_neg c3] at hM
      by_cases c2 : t 11 0 = -1
      · rw [if_pos c2] at hM
        exact hstay hM (by rw [hU]; simp [qzE_follow_a1, qzE_follow_a2, c1, c2, c3])
      · rw [if_neg c2] at hM
        exact hseg c2 hM (by rw [hU]; simp [qzE_follow_a1, qzE_follow_a2, c1, c2, c3, xr_mx hi c2])
theorem sim_com_1 {g g1 t t5 : xk_St} (hR : xr g t) (hi : xi_co t 1) (he : g 26 2 = t 12 1)
    (hU : g1 = va_up g 26 (upd (upd (g 26) 1 (qzE_follow_a1 (g 26 1) (g 26 2) (g 21 1) (g 21 2))) 2 qzE_follow_a2))
    (hM : if ((t 12) 1) = 0 then (if ((t 11) 1) = (-1) then (t5 = t) else (∃ (x : Int32), (if ((t 3) 2) = 0 then (x = (-1)) else (if ((t 11) 1) ≤ 0 then (x = 0) else (x = ((t 11) 1) - 1))) ∧ (∃ (t1 : xk_St), t1 = va_up t 11 (upd (t 11) 1 x) ∧ (t5 = t1)))) else (if ((t 4) 2) = 0 then (if ((t 11) 1) = (-1) then (∃ (t4 : xk_St), t4 = va_up t 11 (upd (t 11) 1 214) ∧ (t5 = t4)) else (∃ (x : Int32), (if ((t 3) 2) = 0 then (x = (-1)) else (if ((t 11) 1) ≤ 0 then (x = 0) else (x = ((t 11) 1) - 1))) ∧ (∃ (t1 : xk_St), t1 = va_up t 11 (upd (t 11) 1 x) ∧ (t5 = t1)))) else (if ((t 11) 1) = (-1) then (t5 = t) else (∃ (x : Int32), (if ((t 3) 2) = 0 then (x = (-1)) else (if ((t 11) 1) ≤ 0 then (x = 0) else (x = ((t 11) 1) - 1))) ∧ (∃ (t1 : xk_St), t1 = va_up t 11 (upd (t 11) 1 x) ∧ (t5 = t1)))))) : xr g1 t5 ∧ xi_co t5 1 ∧ (∀ j : Nat, j ≠ 1 → t5 11 j = t 11 j) ∧ (∀ c j : Nat, c ≠ 11 → t5 c j = t c j) ∧ (∀ c j : Nat, c ≠ 26 → g1 c j = g c j) ∧ g1 26 2 = 0 := by
  rw [he, hR.c1, hR.b2, hR.a2] at hU
  have hseg : ∀ {t5 : xk_St}, ¬ t 11 1 = -1 → (∃ (x : Int32), (if ((t 3) 2) = 0 then (x = (-1)) else (if ((t 11) 1) ≤ 0 then (x = 0) else (x = ((t 11) 1) - 1))) ∧ (∃ (t1 : xk_St), t1 = va_up t 11 (upd (t 11) 1 x) ∧ (t5 = t1))) → g1 = va_up g 26 (upd (upd (g 26) 1 (if t 3 2 = 0 then -1 else (if t 11 1 ≤ 0 then 0 else t 11 1 - 1))) 2 0) → xr g1 t5 ∧ xi_co t5 1 ∧ (∀ j : Nat, j ≠ 1 → t5 11 j = t 11 j) ∧ (∀ c j : Nat, c ≠ 11 → t5 c j = t c j) ∧ (∀ c j : Nat, c ≠ 26 → g1 c j = g c j) ∧ g1 26 2 = 0 := by
    intro t5 hne hs hu
    obtain ⟨x, hx, t1, rfl, rfl⟩ := hs
    have hx' : x = (if t 3 2 = 0 then -1 else (if t 11 1 ≤ 0 then 0 else t 11 1 - 1)) := by
      by_cases q1 : t 3 2 = 0
      · rw [if_pos q1] at hx ⊢; exact hx
      · rw [if_neg q1] at hx ⊢
        by_cases q2 : t 11 1 ≤ 0
        · rw [if_pos q2] at hx ⊢; exact hx
        · rw [if_neg q2] at hx ⊢; exact hx
    have hco : x = -1 ∨ ∃ n : Nat, n ≤ 214 ∧ x = nI n := by
      rcases hi with hi | ⟨n, h1, h2⟩
      · exact absurd hi hne
      · rw [hx']
        by_cases q1 : t 3 2 = 0
        · rw [if_pos q1]; exact Or.inl rfl
        · rw [if_neg q1, h2, xr_max h1]; exact Or.inr ⟨n - 1, by omega, rfl⟩
    rw [← hx'] at hu
    subst hu
    refine ⟨?_, ?_, fun j hj => by simp [va_up, upd, hj], fun c j hc => by simp [va_up, upd, hc], fun c j hc => by simp [va_up, upd, hc], by simp [va_up, upd]⟩
    · skip
      have eb0 := hR.b0; have ea0 := hR.a0; have ed0 := hR.d0; have ek0 := hR.k0; have eb1 := hR.b1; have ea1 := hR.a1; have ed1 := hR.d1; have ek1 := hR.k1; have eb2 := hR.b2; have ea2 := hR.a2; have ed2 := hR.d2; have ek2 := hR.k2; have eb3 := hR.b3; have ea3 := hR.a3; have ed3 := hR.d3; have ek3 := hR.k3; have eb4 := hR.b4; have ea4 := hR.a4; have ed4 := hR.d4; have ek4 := hR.k4; have eb5 := hR.b5; have ea5 := hR.a5; have ed5 := hR.d5; have ek5 := hR.k5; have ep0 := hR.p0; have ep1 := hR.p1; have ep2 := hR.p2; have ep3 := hR.p3; have ep4 := hR.p4; have ep5 := hR.p5; have ep6 := hR.p6; have ep7 := hR.p7; have ec0 := hR.c0; have ec1 := hR.c1; have ec2 := hR.c2; have ec3 := hR.c3; have eo0 := hR.o0; have es0 := hR.s0; have eo1 := hR.o1; have es1 := hR.s1; have epo0 := hR.po0; have epb0 := hR.pb0; have emo0 := hR.mo0; have eze0 := hR.ze0; have est0 := hR.st0; have eal0 := hR.al0; have epo1 := hR.po1; have epb1 := hR.pb1; have emo1 := hR.mo1; have eze1 := hR.ze1; have est1 := hR.st1; have eal1 := hR.al1; have eli0 := hR.li0; have ede0 := hR.de0; have eda0 := hR.da0; have eli1 := hR.li1; have ede1 := hR.de1; have eda1 := hR.da1; have eli2 := hR.li2; have ede2 := hR.de2; have eda2 := hR.da2; have estep := hR.step; have eage := hR.age; have equiet := hR.quiet; have emany := hR.many; have etime := hR.time; have enight := hR.night; have ebell := hR.bell; have eh0 := hR.h0; have eh1 := hR.h1; have eh2 := hR.h2; have eh3 := hR.h3; have eh4 := hR.h4; have eh5 := hR.h5; have eh6 := hR.h6; have eh7 := hR.h7; have enc0 := hR.nc0; have enc1 := hR.nc1; have enc2 := hR.nc2; have ei0 := hR.i0; have ej0 := hR.j0; have em0 := hR.m0; have en0 := hR.n0; have ei1 := hR.i1; have ej1 := hR.j1; have em1 := hR.m1; have en1 := hR.n1; have ei2 := hR.i2; have ej2 := hR.j2; have em2 := hR.m2; have en2 := hR.n2; have ei3 := hR.i3; have ej3 := hR.j3; have em3 := hR.m3; have en3 := hR.n3; have ei4 := hR.i4; have ej4 := hR.j4; have em4 := hR.m4; have en4 := hR.n4; have ei5 := hR.i5; have ej5 := hR.j5; have em5 := hR.m5; have en5 := hR.n5; have enu0 := hR.nu0; have enu1 := hR.nu1; have enu2 := hR.nu2; have enu3 := hR.nu3; have enu4 := hR.nu4; have enu5 := hR.nu5; have ejt := hR.jt; have ejk := hR.jk; have ejw := hR.jw; have eyh0 := hR.yh0; have eyh1 := hR.yh1; have eyh2 := hR.yh2; have eyh3 := hR.yh3; have eyh4 := hR.yh4; have eyh5 := hR.yh5; have eyh6 := hR.yh6; have eyh7 := hR.yh7; have eyc0 := hR.yc0; have eyc1 := hR.yc1; have eyc2 := hR.yc2; have eyo0 := hR.yo0; have eyo1 := hR.yo1
      refine xr.mk ?_ ?_ ?_ ?_ ?_ ?_ ?_ ?_ ?_ ?_ ?_ ?_ ?_ ?_ ?_ ?_ ?_ ?_ ?_ ?_ ?_ ?_ ?_ ?_ ?_ ?_ ?_ ?_ ?_ ?_ ?_ ?_ ?_ ?_ ?_ ?_ ?_ ?_ ?_ ?_ ?_ ?_ ?_ ?_ ?_ ?_ ?_ ?_ ?_ ?_ ?_ ?_ ?_ ?_ ?_ ?_ ?_ ?_ ?_ ?_ ?_ ?_ ?_ ?_ ?_ ?_ ?_ ?_ ?_ ?_ ?_ ?_ ?_ ?_ ?_ ?_ ?_ ?_ ?_ ?_ ?_ ?_ ?_ ?_ ?_ ?_ ?_ ?_ ?_ ?_ ?_ ?_ ?_ ?_ ?_ ?_ ?_ ?_ ?_ ?_ ?_ ?_ ?_ ?_ ?_ ?_ ?_ ?_ ?_ ?_ ?_ ?_ ?_ ?_ ?_ ?_ ?_ ?_ ?_ ?_ ?_ ?_ ?_ ?_ ?_
      all_goals first | (simp only [va_up, upd]; simp; assumption) | skip
      all_goals first | (simp [va_up, upd, ]; done) | skip
      all_goals first | (with_reducible assumption) | skip
    · rcases hco with h | ⟨n, h1, h2⟩
      · exact Or.inl (by simp [va_up, upd, h])
      · exact Or.inr ⟨n, h1, by simp [va_up, upd, h2]⟩
  have hstay : t5 = t → g1 = va_up g 26 (upd (upd (g 26) 1 (t 11 1)) 2 0) → xr g1 t5 ∧ xi_co t5 1 ∧ (∀ j : Nat, j ≠ 1 → t5 11 j = t 11 j) ∧ (∀ c j : Nat, c ≠ 11 → t5 c j = t c j) ∧ (∀ c j : Nat, c ≠ 26 → g1 c j = g c j) ∧ g1 26 2 = 0 := by
    intro h1 hu
    subst h1; subst hu
    refine ⟨?_, hi, fun _ _ => rfl, fun _ _ _ => rfl, fun c j hc => by simp [va_up, upd, hc], by simp [va_up, upd]⟩
    have eb0 := hR.b0; have ea0 := hR.a0; have ed0 := hR.d0; have ek0 := hR.k0; have eb1 := hR.b1; have ea1 := hR.a1; have ed1 := hR.d1; have ek1 := hR.k1; have eb2 := hR.b2; have ea2 := hR.a2; have ed2 := hR.d2; have ek2 := hR.k2; have eb3 := hR.b3; have ea3 := hR.a3; have ed3 := hR.d3; have ek3 := hR.k3; have eb4 := hR.b4; have ea4 := hR.a4; have ed4 := hR.d4; have ek4 := hR.k4; have eb5 := hR.b5; have ea5 := hR.a5; have ed5 := hR.d5; have ek5 := hR.k5; have ep0 := hR.p0; have ep1 := hR.p1; have ep2 := hR.p2; have ep3 := hR.p3; have ep4 := hR.p4; have ep5 := hR.p5; have ep6 := hR.p6; have ep7 := hR.p7; have ec0 := hR.c0; have ec1 := hR.c1; have ec2 := hR.c2; have ec3 := hR.c3; have eo0 := hR.o0; have es0 := hR.s0; have eo1 := hR.o1; have es1 := hR.s1; have epo0 := hR.po0; have epb0 := hR.pb0; have emo0 := hR.mo0; have eze0 := hR.ze0; have est0 := hR.st0; have eal0 := hR.al0; have epo1 := hR.po1; have epb1 := hR.pb1; have emo1 := hR.mo1; have eze1 := hR.ze1; have est1 := hR.st1; have eal1 := hR.al1; have eli0 := hR.li0; have ede0 := hR.de0; have eda0 := hR.da0; have eli1 := hR.li1; have ede1 := hR.de1; have eda1 := hR.da1; have eli2 := hR.li2; have ede2 := hR.de2; have eda2 := hR.da2; have estep := hR.step; have eage := hR.age; have equiet := hR.quiet; have emany := hR.many; have etime := hR.time; have enight := hR.night; have ebell := hR.bell; have eh0 := hR.h0; have eh1 := hR.h1; have eh2 := hR.h2; have eh3 := hR.h3; have eh4 := hR.h4; have eh5 := hR.h5; have eh6 := hR.h6; have eh7 := hR.h7; have enc0 := hR.nc0; have enc1 := hR.nc1; have enc2 := hR.nc2; have ei0 := hR.i0; have ej0 := hR.j0; have em0 := hR.m0; have en0 := hR.n0; have ei1 := hR.i1; have ej1 := hR.j1; have em1 := hR.m1; have en1 := hR.n1; have ei2 := hR.i2; have ej2 := hR.j2; have em2 := hR.m2; have en2 := hR.n2; have ei3 := hR.i3; have ej3 := hR.j3; have em3 := hR.m3; have en3 := hR.n3; have ei4 := hR.i4; have ej4 := hR.j4; have em4 := hR.m4; have en4 := hR.n4; have ei5 := hR.i5; have ej5 := hR.j5; have em5 := hR.m5; have en5 := hR.n5; have enu0 := hR.nu0; have enu1 := hR.nu1; have enu2 := hR.nu2; have enu3 := hR.nu3; have enu4 := hR.nu4; have enu5 := hR.nu5; have ejt := hR.jt; have ejk := hR.jk; have ejw := hR.jw; have eyh0 := hR.yh0; have eyh1 := hR.yh1; have eyh2 := hR.yh2; have eyh3 := hR.yh3; have eyh4 := hR.yh4; have eyh5 := hR.yh5; have eyh6 := hR.yh6; have eyh7 := hR.yh7; have eyc0 := hR.yc0; have eyc1 := hR.yc1; have eyc2 := hR.yc2; have eyo0 := hR.yo0; have eyo1 := hR.yo1
    refine xr.mk ?_ ?_ ?_ ?_ ?_ ?_ ?_ ?_ ?_ ?_ ?_ ?_ ?_ ?_ ?_ ?_ ?_ ?_ ?_ ?_ ?_ ?_ ?_ ?_ ?_ ?_ ?_ ?_ ?_ ?_ ?_ ?_ ?_ ?_ ?_ ?_ ?_ ?_ ?_ ?_ ?_ ?_ ?_ ?_ ?_ ?_ ?_ ?_ ?_ ?_ ?_ ?_ ?_ ?_ ?_ ?_ ?_ ?_ ?_ ?_ ?_ ?_ ?_ ?_ ?_ ?_ ?_ ?_ ?_ ?_ ?_ ?_ ?_ ?_ ?_ ?_ ?_ ?_ ?_ ?_ ?_ ?_ ?_ ?_ ?_ ?_ ?_ ?_ ?_ ?_ ?_ ?_ ?_ ?_ ?_ ?_ ?_ ?_ ?_ ?_ ?_ ?_ ?_ ?_ ?_ ?_ ?_ ?_ ?_ ?_ ?_ ?_ ?_ ?_ ?_ ?_ ?_ ?_ ?_ ?_ ?_ ?_ ?_ ?_ ?_
    all_goals first | (simp only [va_up, upd]; simp; assumption) | skip
    all_goals first | (simp [va_up, upd, ]; done) | skip
    all_goals first | (with_reducible assumption) | skip
  by_cases c1 : t 12 1 = 0
  · rw [if_pos c1] at hM
    by_cases c2 : t 11 1 = -1
    · rw [if_pos c2] at hM
      exact hstay hM (by rw [hU]; simp [qzE_follow_a1, qzE_follow_a2, c1, c2])
    · rw [if_neg c2] at hM
      exact hseg c2 hM (by rw [hU]; simp [qzE_follow_a1, qzE_follow_a2, c1, c2, xr_mx hi c2])
  · rw [if_neg c1] at hM
    by_cases c3 : t 4 2 = 0
    · rw [if_pos c3] at hM
      by_cases c2 : t 11 1 = -1
      · rw [if_pos c2] at hM
        obtain ⟨t4, rfl, rfl⟩ := hM
        have hu : g1 = va_up g 26 (upd (upd (g 26) 1 214) 2 0) := by rw [hU]; simp [qzE_follow_a1, qzE_follow_a2, c1, c2, c3]
        subst hu
        refine ⟨?_, Or.inr ⟨214, by omega, by simp [va_up, upd]; decide⟩, fun j hj => by simp [va_up, upd, hj], fun c j hc => by simp [va_up, upd, hc], fun c j hc => by simp [va_up, upd, hc], by simp [va_up, upd]⟩
        have eb0 := hR.b0; have ea0 := hR.a0; have ed0 := hR.d0; have ek0 := hR.k0; have eb1 := hR.b1; have ea1 := hR.a1; have ed1 := hR.d1; have ek1 := hR.k1; have eb2 := hR.b2; have ea2 := hR.a2; have ed2 := hR.d2; have ek2 := hR.k2; have eb3 := hR.b3; have ea3 := hR.a3; have ed3 := hR.d3; have ek3 := hR.k3; have eb4 := hR.b4; have ea4 := hR.a4; have ed4 := hR.d4; have ek4 := hR.k4; have eb5 := hR.b5; have ea5 := hR.a5; have ed5 := hR.d5; have ek5 := hR.k5; have ep0 := hR.p0; have ep1 := hR.p1; have ep2 := hR.p2; have ep3 := hR.p3; have ep4 := hR.p4; have ep5 := hR.p5; have ep6 := hR.p6; have ep7 := hR.p7; have ec0 := hR.c0; have ec1 := hR.c1; have ec2 := hR.c2; have ec3 := hR.c3; have eo0 := hR.o0; have es0 := hR.s0; have eo1 := hR.o1; have es1 := hR.s1; have epo0 := hR.po0; have epb0 := hR.pb0; have emo0 := hR.mo0; have eze0 := hR.ze0; have est0 := hR.st0; have eal0 := hR.al0; have epo1 := hR.po1; have epb1 := hR.pb1; have emo1 := hR.mo1; have eze1 := hR.ze1; have est1 := hR.st1; have eal1 := hR.al1; have eli0 := hR.li0; have ede0 := hR.de0; have eda0 := hR.da0; have eli1 := hR.li1; have ede1 := hR.de1; have eda1 := hR.da1; have eli2 := hR.li2; have ede2 := hR.de2; have eda2 := hR.da2; have estep := hR.step; have eage := hR.age; have equiet := hR.quiet; have emany := hR.many; have etime := hR.time; have enight := hR.night; have ebell := hR.bell; have eh0 := hR.h0; have eh1 := hR.h1; have eh2 := hR.h2; have eh3 := hR.h3; have eh4 := hR.h4; have eh5 := hR.h5; have eh6 := hR.h6; have eh7 := hR.h7; have enc0 := hR.nc0; have enc1 := hR.nc1; have enc2 := hR.nc2; have ei0 := hR.i0; have ej0 := hR.j0; have em0 := hR.m0; have en0 := hR.n0; have ei1 := hR.i1; have ej1 := hR.j1; have em1 := hR.m1; have en1 := hR.n1; have ei2 := hR.i2; have ej2 := hR.j2; have em2 := hR.m2; have en2 := hR.n2; have ei3 := hR.i3; have ej3 := hR.j3; have em3 := hR.m3; have en3 := hR.n3; have ei4 := hR.i4; have ej4 := hR.j4; have em4 := hR.m4; have en4 := hR.n4; have ei5 := hR.i5; have ej5 := hR.j5; have em5 := hR.m5; have en5 := hR.n5; have enu0 := hR.nu0; have enu1 := hR.nu1; have enu2 := hR.nu2; have enu3 := hR.nu3; have enu4 := hR.nu4; have enu5 := hR.nu5; have ejt := hR.jt; have ejk := hR.jk; have ejw := hR.jw; have eyh0 := hR.yh0; have eyh1 := hR.yh1; have eyh2 := hR.yh2; have eyh3 := hR.yh3; have eyh4 := hR.yh4; have eyh5 := hR.yh5; have eyh6 := hR.yh6; have eyh7 := hR.yh7; have eyc0 := hR.yc0; have eyc1 := hR.yc1; have eyc2 := hR.yc2; have eyo0 := hR.yo0; have eyo1 := hR.yo1
        refine xr.mk ?_ ?_ ?_ ?_ ?_ ?_ ?_ ?_ ?_ ?_ ?_ ?_ ?_ ?_ ?_ ?_ ?_ ?_ ?_ ?_ ?_ ?_ ?_ ?_ ?_ ?_ ?_ ?_ ?_ ?_ ?_ ?_ ?_ ?_ ?_ ?_ ?_ ?_ ?_ ?_ ?_ ?_ ?_ ?_ ?_ ?_ ?_ ?_ ?_ ?_ ?_ ?_ ?_ ?_ ?_ ?_ ?_ ?_ ?_ ?_ ?_ ?_ ?_ ?_ ?_ ?_ ?_ ?_ ?_ ?_ ?_ ?_ ?_ ?_ ?_ ?_ ?_ ?_ ?_ ?_ ?_ ?_ ?_ ?_ ?_ ?_ ?_ ?_ ?_ ?_ ?_ ?_ ?_ ?_ ?_ ?_ ?_ ?_ ?_ ?_ ?_ ?_ ?_ ?_ ?_ ?_ ?_ ?_ ?_ ?_ ?_ ?_ ?_ ?_ ?_ ?_ ?_ ?_ ?_ ?_ ?_ ?_ ?_ ?_ ?_
        all_goals first | (simp only [va_up, upd]; simp; assumption) | skip
        all_goals first | (simp [va_up, upd, ]; done) | skip
        all_goals first | (with_reducible assumption) | skip
      · rw [if_neg c2] at hM
        exact hseg c2 hM (by rw [hU]; simp [qzE_follow_a1, qzE_follow_a2, c1, c2, c3, xr_mx hi c2])
    · rw [if_neg c3] at hM
      by_cases c2 : t 11 1 = -1
      · rw [if_pos c2] at hM
        exact hstay hM (by rw [hU]; simp [qzE_follow_a1, qzE_follow_a2, c1, c2, c3])
      · rw [if_neg c2] at hM
        exact hseg c2 hM (by rw [hU]; simp [qzE_follow_a1, qzE_follow_a2, c1, c2, c3, xr_mx hi c2])
theorem sim_com_2 {g g1 t t5 : xk_St} (hR : xr g t) (hi : xi_co t 2) (he : g 27 2 = t 12 2)
    (hU : g1 = va_up g 27 (upd (upd (g 27) 1 (qzE_follow_a1 (g 27 1) (g 27 2) (g 22 1) (g 22 2))) 2 qzE_follow_a2))
    (hM : if ((t 12) 2) = 0 then (if ((t 11) 2) = (-1) then (t5 = t) else (∃ (x : Int32), (if ((t 3) 3) = 0 then (x = (-1)) else (if ((t 11) 2) ≤ 0 then (x = 0) else (x = ((t 11) 2) - 1))) ∧ (∃ (t1 : xk_St), t1 = va_up t 11 (upd (t 11) 2 x) ∧ (t5 = t1)))) else (if ((t 4) 3) = 0 then (if ((t 11) 2) = (-1) then (∃ (t4 : xk_St), t4 = va_up t 11 (upd (t 11) 2 214) ∧ (t5 = t4)) else (∃ (x : Int32), (if ((t 3) 3) = 0 then (x = (-1)) else (if ((t 11) 2) ≤ 0 then (x = 0) else (x = ((t 11) 2) - 1))) ∧ (∃ (t1 : xk_St), t1 = va_up t 11 (upd (t 11) 2 x) ∧ (t5 = t1)))) else (if ((t 11) 2) = (-1) then (t5 = t) else (∃ (x : Int32), (if ((t 3) 3) = 0 then (x = (-1)) else (if ((t 11) 2) ≤ 0 then (x = 0) else (x = ((t 11) 2) - 1))) ∧ (∃ (t1 : xk_St), t1 = va_up t 11 (upd (t 11) 2 x) ∧ (t5 = t1)))))) : xr g1 t5 ∧ xi_co t5 2 ∧ (∀ j : Nat, j ≠ 2 → t5 11 j = t 11 j) ∧ (∀ c j : Nat, c ≠ 11 → t5 c j = t c j) ∧ (∀ c j : Nat, c ≠ 27 → g1 c j = g c j) ∧ g1 27 2 = 0 := by
  rw [he, hR.c2, hR.b3, hR.a3] at hU
  have hseg : ∀ {t5 : xk_St}, ¬ t 11 2 = -1 → (∃ (x : Int32), (if ((t 3) 3) = 0 then (x = (-1)) else (if ((t 11) 2) ≤ 0 then (x = 0) else (x = ((t 11) 2) - 1))) ∧ (∃ (t1 : xk_St), t1 = va_up t 11 (upd (t 11) 2 x) ∧ (t5 = t1))) → g1 = va_up g 27 (upd (upd (g 27) 1 (if t 3 3 = 0 then -1 else (if t 11 2 ≤ 0 then 0 else t 11 2 - 1))) 2 0) → xr g1 t5 ∧ xi_co t5 2 ∧ (∀ j : Nat, j ≠ 2 → t5 11 j = t 11 j) ∧ (∀ c j : Nat, c ≠ 11 → t5 c j = t c j) ∧ (∀ c j : Nat, c ≠ 27 → g1 c j = g c j) ∧ g1 27 2 = 0 := by
    intro t5 hne hs hu
    obtain ⟨x, hx, t1, rfl, rfl⟩ := hs
    have hx' : x = (if t 3 3 = 0 then -1 else (if t 11 2 ≤ 0 then 0 else t 11 2 - 1)) := by
      by_cases q1 : t 3 3 = 0
      · rw [if_pos q1] at hx ⊢; exact hx
      · rw [if_neg q1] at hx ⊢
        by_cases q2 : t 11 2 ≤ 0
        · rw [if_pos q2] at hx ⊢; exact hx
        · rw [if_neg q2] at hx ⊢; exact hx
    have hco : x = -1 ∨ ∃ n : Nat, n ≤ 214 ∧ x = nI n := by
      rcases hi with hi | ⟨n, h1, h2⟩
      · exact absurd hi hne
      · rw [hx']
        by_cases q1 : t 3 3 = 0
        · rw [if_pos q1]; exact Or.inl rfl
        · rw [if_neg q1, h2, xr_max h1]; exact Or.inr ⟨n - 1, by omega, rfl⟩
    rw [← hx'] at hu
    subst hu
    refine ⟨?_, ?_, fun j hj => by simp [va_up, upd, hj], fun c j hc => by simp [va_up, upd, hc], fun c j hc => by simp [va_up, upd, hc], by simp [va_up, upd]⟩
    · skip
      have eb0 := hR.b0; have ea0 := hR.a0; have ed0 := hR.d0; have ek0 := hR.k0; have eb1 := hR.b1; have ea1 := hR.a1; have ed1 := hR.d1; have ek1 := hR.k1; have eb2 := hR.b2; have ea2 := hR.a2; have ed2 := hR.d2; have ek2 := hR.k2; have eb3 := hR.b3; have ea3 := hR.a3; have ed3 := hR.d3; have ek3 := hR.k3; have eb4 := hR.b4; have ea4 := hR.a4; have ed4 := hR.d4; have ek4 := hR.k4; have eb5 := hR.b5; have ea5 := hR.a5; have ed5 := hR.d5; have ek5 := hR.k5; have ep0 := hR.p0; have ep1 := hR.p1; have ep2 := hR.p2; have ep3 := hR.p3; have ep4 := hR.p4; have ep5 := hR.p5; have ep6 := hR.p6; have ep7 := hR.p7; have ec0 := hR.c0; have ec1 := hR.c1; have ec2 := hR.c2; have ec3 := hR.c3; have eo0 := hR.o0; have es0 := hR.s0; have eo1 := hR.o1; have es1 := hR.s1; have epo0 := hR.po0; have epb0 := hR.pb0; have emo0 := hR.mo0; have eze0 := hR.ze0; have est0 := hR.st0; have eal0 := hR.al0; have epo1 := hR.po1; have epb1 := hR.pb1; have emo1 := hR.mo1; have eze1 := hR.ze1; have est1 := hR.st1; have eal1 := hR.al1; have eli0 := hR.li0; have ede0 := hR.de0; have eda0 := hR.da0; have eli1 := hR.li1; have ede1 := hR.de1; have eda1 := hR.da1; have eli2 := hR.li2; have ede2 := hR.de2; have eda2 := hR.da2; have estep := hR.step; have eage := hR.age; have equiet := hR.quiet; have emany := hR.many; have etime := hR.time; have enight := hR.night; have ebell := hR.bell; have eh0 := hR.h0; have eh1 := hR.h1; have eh2 := hR.h2; have eh3 := hR.h3; have eh4 := hR.h4; have eh5 := hR.h5; have eh6 := hR.h6; have eh7 := hR.h7; have enc0 := hR.nc0; have enc1 := hR.nc1; have enc2 := hR.nc2; have ei0 := hR.i0; have ej0 := hR.j0; have em0 := hR.m0; have en0 := hR.n0; have ei1 := hR.i1; have ej1 := hR.j1; have em1 := hR.m1; have en1 := hR.n1; have ei2 := hR.i2; have ej2 := hR.j2; have em2 := hR.m2; have en2 := hR.n2; have ei3 := hR.i3; have ej3 := hR.j3; have em3 := hR.m3; have en3 := hR.n3; have ei4 := hR.i4; have ej4 := hR.j4; have em4 := hR.m4; have en4 := hR.n4; have ei5 := hR.i5; have ej5 := hR.j5; have em5 := hR.m5; have en5 := hR.n5; have enu0 := hR.nu0; have enu1 := hR.nu1; have enu2 := hR.nu2; have enu3 := hR.nu3; have enu4 := hR.nu4; have enu5 := hR.nu5; have ejt := hR.jt; have ejk := hR.jk; have ejw := hR.jw; have eyh0 := hR.yh0; have eyh1 := hR.yh1; have eyh2 := hR.yh2; have eyh3 := hR.yh3; have eyh4 := hR.yh4; have eyh5 := hR.yh5; have eyh6 := hR.yh6; have eyh7 := hR.yh7; have eyc0 := hR.yc0; have eyc1 := hR.yc1; have eyc2 := hR.yc2; have eyo0 := hR.yo0; have eyo1 := hR.yo1
      refine xr.mk ?_ ?_ ?_ ?_ ?_ ?_ ?_ ?_ ?_ ?_ ?_ ?_ ?_ ?_ ?_ ?_ ?_ ?_ ?_ ?_ ?_ ?_ ?_ ?_ ?_ ?_ ?_ ?_ ?_ ?_ ?_ ?_ ?_ ?_ ?_ ?_ ?_ ?_ ?_ ?_ ?_ ?_ ?_ ?_ ?_ ?_ ?_ ?_ ?_ ?_ ?_ ?_ ?_ ?_ ?_ ?_ ?_ ?_ ?_ ?_ ?_ ?_ ?_ ?_ ?_ ?_ ?_ ?_ ?_ ?_ ?_ ?_ ?_ ?_ ?_ ?_ ?_ ?_ ?_ ?_ ?_ ?_ ?_ ?_ ?_ ?_ ?_ ?_ ?_ ?_ ?_ ?_ ?_ ?_ ?_ ?_ ?_ ?_ ?_ ?_ ?_ ?_ ?_ ?_ ?_ ?_ ?_ ?_ ?_ ?_ ?_ ?_ ?_ ?_ ?_ ?_ ?_ ?_ ?_ ?_ ?_ ?_ ?_ ?_ ?_
      all_goals first | (simp only [va_up, upd]; simp; assumption) | skip
      all_goals first | (simp [va_up, upd, ]; done) | skip
      all_goals first | (with_reducible assumption) | skip
    · rcases hco with h | ⟨n, h1, h2⟩
      · exact Or.inl (by simp [va_up, upd, h])
      · exact Or.inr ⟨n, h1, by simp [va_up, upd, h2]⟩
  have hstay : t5 = t → g1 = va_up g 27 (upd (upd (g 27) 1 (t 11 2)) 2 0) → xr g1 t5 ∧ xi_co t5 2 ∧ (∀ j : Nat, j ≠ 2 → t5 11 j = t 11 j) ∧ (∀ c j : Nat, c ≠ 11 → t5 c j = t c j) ∧ (∀ c j : Nat, c ≠ 27 → g1 c j = g c j) ∧ g1 27 2 = 0 := by
    intro h1 hu
    subst h1; subst hu
    refine ⟨?_, hi, fun _ _ => rfl, fun _ _ _ => rfl, fun c j hc => by simp [va_up, upd, hc], by simp [va_up, upd]⟩
    have eb0 := hR.b0; have ea0 := hR.a0; have ed0 := hR.d0; have ek0 := hR.k0; have eb1 := hR.b1; have ea1 := hR.a1; have ed1 := hR.d1; have ek1 := hR.k1; have eb2 := hR.b2; have ea2 := hR.a2; have ed2 := hR.d2; have ek2 := hR.k2; have eb3 := hR.b3; have ea3 := hR.a3; have ed3 := hR.d3; have ek3 := hR.k3; have eb4 := hR.b4; have ea4 := hR.a4; have ed4 := hR.d4; have ek4 := hR.k4; have eb5 := hR.b5; have ea5 := hR.a5; have ed5 := hR.d5; have ek5 := hR.k5; have ep0 := hR.p0; have ep1 := hR.p1; have ep2 := hR.p2; have ep3 := hR.p3; have ep4 := hR.p4; have ep5 := hR.p5; have ep6 := hR.p6; have ep7 := hR.p7; have ec0 := hR.c0; have ec1 := hR.c1; have ec2 := hR.c2; have ec3 := hR.c3; have eo0 := hR.o0; have es0 := hR.s0; have eo1 := hR.o1; have es1 := hR.s1; have epo0 := hR.po0; have epb0 := hR.pb0; have emo0 := hR.mo0; have eze0 := hR.ze0; have est0 := hR.st0; have eal0 := hR.al0; have epo1 := hR.po1; have epb1 := hR.pb1; have emo1 := hR.mo1; have eze1 := hR.ze1; have est1 := hR.st1; have eal1 := hR.al1; have eli0 := hR.li0; have ede0 := hR.de0; have eda0 := hR.da0; have eli1 := hR.li1; have ede1 := hR.de1; have eda1 := hR.da1; have eli2 := hR.li2; have ede2 := hR.de2; have eda2 := hR.da2; have estep := hR.step; have eage := hR.age; have equiet := hR.quiet; have emany := hR.many; have etime := hR.time; have enight := hR.night; have ebell := hR.bell; have eh0 := hR.h0; have eh1 := hR.h1; have eh2 := hR.h2; have eh3 := hR.h3; have eh4 := hR.h4; have eh5 := hR.h5; have eh6 := hR.h6; have eh7 := hR.h7; have enc0 := hR.nc0; have enc1 := hR.nc1; have enc2 := hR.nc2; have ei0 := hR.i0; have ej0 := hR.j0; have em0 := hR.m0; have en0 := hR.n0; have ei1 := hR.i1; have ej1 := hR.j1; have em1 := hR.m1; have en1 := hR.n1; have ei2 := hR.i2; have ej2 := hR.j2; have em2 := hR.m2; have en2 := hR.n2; have ei3 := hR.i3; have ej3 := hR.j3; have em3 := hR.m3; have en3 := hR.n3; have ei4 := hR.i4; have ej4 := hR.j4; have em4 := hR.m4; have en4 := hR.n4; have ei5 := hR.i5; have ej5 := hR.j5; have em5 := hR.m5; have en5 := hR.n5; have enu0 := hR.nu0; have enu1 := hR.nu1; have enu2 := hR.nu2; have enu3 := hR.nu3; have enu4 := hR.nu4; have enu5 := hR.nu5; have ejt := hR.jt; have ejk := hR.jk; have ejw := hR.jw; have eyh0 := hR.yh0; have eyh1 := hR.yh1; have eyh2 := hR.yh2; have eyh3 := hR.yh3; have eyh4 := hR.yh4; have eyh5 := hR.yh5; have eyh6 := hR.yh6; have eyh7 := hR.yh7; have eyc0 := hR.yc0; have eyc1 := hR.yc1; have eyc2 := hR.yc2; have eyo0 := hR.yo0; have eyo1 := hR.yo1
    refine xr.mk ?_ ?_ ?_ ?_ ?_ ?_ ?_ ?_ ?_ ?_ ?_ ?_ ?_ ?_ ?_ ?_ ?_ ?_ ?_ ?_ ?_ ?_ ?_ ?_ ?_ ?_ ?_ ?_ ?_ ?_ ?_ ?_ ?_ ?_ ?_ ?_ ?_ ?_ ?_ ?_ ?_ ?_ ?_ ?_ ?_ ?_ ?_ ?_ ?_ ?_ ?_ ?_ ?_ ?_ ?_ ?_ ?_ ?_ ?_ ?_ ?_ ?_ ?_ ?_ ?_ ?_ ?_ ?_ ?_ ?_ ?_ ?_ ?_ ?_ ?_ ?_ ?_ ?_ ?_ ?_ ?_ ?_ ?_ ?_ ?_ ?_ ?_ ?_ ?_ ?_ ?_ ?_ ?_ ?_ ?_ ?_ ?_ ?_ ?_ ?_ ?_ ?_ ?_ ?_ ?_ ?_ ?_ ?_ ?_ ?_ ?_ ?_ ?_ ?_ ?_ ?_ ?_ ?_ ?_ ?_ ?_ ?_ ?_ ?_ ?_
    all_goals first | (simp only [va_up, upd]; simp; assumption) | skip
    all_goals first | (simp [va_up, upd, ]; done) | skip
    all_goals first | (with_reducible assumption) | skip
  by_cases c1 : t 12 2 = 0
  · rw [if_pos c1] at hM
    by_cases c2 : t 11 2 = -1
    · rw [if_pos c2] at hM
      exact hstay hM (by rw [hU]; simp [qzE_follow_a1, qzE_follow_a2, c1, c2])
    · rw [if_neg c2] at hM
      exact hseg c2 hM (by rw [hU]; simp [qzE_follow_a1, qzE_follow_a2, c1, c2, xr_mx hi c2])
  · rw [if_neg c1] at hM
    by_cases c3 : t 4 3 = 0
    · rw [if_pos c3] at hM
      by_cases c2 : t 11 2 = -1
      · rw [if_pos c2] at hM
        obtain ⟨t4, rfl, rfl⟩ := hM
        have hu : g1 = va_up g 27 (upd (upd (g 27) 1 214) 2 0) := by rw [hU]; simp [qzE_follow_a1, qzE_follow_a2, c1, c2, c3]
        subst hu
        refine ⟨?_, Or.inr ⟨214, by omega, by simp [va_up, upd]; decide⟩, fun j hj => by simp [va_up, upd, hj], fun c j hc => by simp [va_up, upd, hc], fun c j hc => by simp [va_up, upd, hc], by simp [va_up, upd]⟩
        have eb0 := hR.b0; have ea0 := hR.a0; have ed0 := hR.d0; have ek0 := hR.k0; have eb1 := hR.b1; have ea1 := hR.a1; have ed1 := hR.d1; have ek1 := hR.k1; have eb2 := hR.b2; have ea2 := hR.a2; have ed2 := hR.d2; have ek2 := hR.k2; have eb3 := hR.b3; have ea3 := hR.a3; have ed3 := hR.d3; have ek3 := hR.k3; have eb4 := hR.b4; have ea4 := hR.a4; have ed4 := hR.d4; have ek4 := hR.k4; have eb5 := hR.b5; have ea5 := hR.a5; have ed5 := hR.d5; have ek5 := hR.k5; have ep0 := hR.p0; have ep1 := hR.p1; have ep2 := hR.p2; have ep3 := hR.p3; have ep4 := hR.p4; have ep5 := hR.p5; have ep6 := hR.p6; have ep7 := hR.p7; have ec0 := hR.c0; have ec1 := hR.c1; have ec2 := hR.c2; have ec3 := hR.c3; have eo0 := hR.o0; have es0 := hR.s0; have eo1 := hR.o1; have es1 := hR.s1; have epo0 := hR.po0; have epb0 := hR.pb0; have emo0 := hR.mo0; have eze0 := hR.ze0; have est0 := hR.st0; have eal0 := hR.al0; have epo1 := hR.po1; have epb1 := hR.pb1; have emo1 := hR.mo1; have eze1 := hR.ze1; have est1 := hR.st1; have eal1 := hR.al1; have eli0 := hR.li0; have ede0 := hR.de0; have eda0 := hR.da0; have eli1 := hR.li1; have ede1 := hR.de1; have eda1 := hR.da1; have eli2 := hR.li2; have ede2 := hR.de2; have eda2 := hR.da2; have estep := hR.step; have eage := hR.age; have equiet := hR.quiet; have emany := hR.many; have etime := hR.time; have enight := hR.night; have ebell := hR.bell; have eh0 := hR.h0; have eh1 := hR.h1; have eh2 := hR.h2; have eh3 := hR.h3; have eh4 := hR.h4; have eh5 := hR.h5; have eh6 := hR.h6; have eh7 := hR.h7; have enc0 := hR.nc0; have enc1 := hR.nc1; have enc2 := hR.nc2; have ei0 := hR.i0; have ej0 := hR.j0; have em0 := hR.m0; have en0 := hR.n0; have ei1 := hR.i1; have ej1 := hR.j1; have em1 := hR.m1; have en1 := hR.n1; have ei2 := hR.i2; have ej2 := hR.j2; have em2 := hR.m2; have en2 := hR.n2; have ei3 := hR.i3; have ej3 := hR.j3; have em3 := hR.m3; have en3 := hR.n3; have ei4 := hR.i4; have ej4 := hR.j4; have em4 := hR.m4; have en4 := hR.n4; have ei5 := hR.i5; have ej5 := hR.j5; have em5 := hR.m5; have en5 := hR.n5; have enu0 := hR.nu0; have enu1 := hR.nu1; have enu2 := hR.nu2; have enu3 := hR.nu3; have enu4 := hR.nu4; have enu5 := hR.nu5; have ejt := hR.jt; have ejk := hR.jk; have ejw := hR.jw; have eyh0 := hR.yh0; have eyh1 := hR.yh1; have eyh2 := hR.yh2; have eyh3 := hR.yh3; have eyh4 := hR.yh4; have eyh5 := hR.yh5; have eyh6 := hR.yh6; have eyh7 := hR.yh7; have eyc0 := hR.yc0; have eyc1 := hR.yc1; have eyc2 := hR.yc2; have eyo0 := hR.yo0; have eyo1 := hR.yo1
        refine xr.mk ?_ ?_ ?_ ?_ ?_ ?_ ?_ ?_ ?_ ?_ ?_ ?_ ?_ ?_ ?_ ?_ ?_ ?_ ?_ ?_ ?_ ?_ ?_ ?_ ?_ ?_ ?_ ?_ ?_ ?_ ?_ ?_ ?_ ?_ ?_ ?_ ?_ ?_ ?_ ?_ ?_ ?_ ?_ ?_ ?_ ?_ ?_ ?_ ?_ ?_ ?_ ?_ ?_ ?_ ?_ ?_ ?_ ?_ ?_ ?_ ?_ ?_ ?_ ?_ ?_ ?_ ?_ ?_ ?_ ?_ ?_ ?_ ?_ ?_ ?_ ?_ ?_ ?_ ?_ ?_ ?_ ?_ ?_ ?_ ?_ ?_ ?_ ?_ ?_ ?_ ?_ ?_ ?_ ?_ ?_ ?_ ?_ ?_ ?_ ?_ ?_ ?_ ?_ ?_ ?_ ?_ ?_ ?_ ?_ ?_ ?_ ?_ ?_ ?_ ?_ ?_ ?_ ?_ ?_ ?_ ?_ ?_ ?_ ?_ ?_
        all_goals first | (simp only [va_up, upd]; simp; assumption) | skip
        all_goals first | (simp [va_up, upd, ]; done) | skip
        all_goals first | (with_reducible assumption) | skip
      · rw [if_neg c2] at hM
        exact hseg c2 hM (by rw [hU]; simp [qzE_follow_a1, qzE_follow_a2, c1, c2, c3, xr_mx hi c2])
    · rw [if_neg c3] at hM
      by_cases c2 : t 11 2 = -1
      · rw [if_pos c2] at hM
        exact hstay hM (by rw [hU]; simp [qzE_follow_a1, qzE_follow_a2, c1, c2, c3])
      · rw [if_neg c2] at hM
        exact hseg c2 hM (by rw [hU]; simp [qzE_follow_a1, qzE_follow_a2, c1, c2, c3, xr_mx hi c2])
theorem sim_com_3 {g g1 t t5 : xk_St} (hR : xr g t) (hi : xi_co t 3) (he : g 28 2 = t 12 3)
    (hU : g1 = va_up g 28 (upd (upd (g 28) 1 (qzE_follow_a1 (g 28 1) (g 28 2) (g 24 1) (g 24 2))) 2 qzE_follow_a2))
    (hM : if ((t 12) 3) = 0 then (if ((t 11) 3) = (-1) then (t5 = t) else (∃ (x : Int32), (if ((t 3) 5) = 0 then (x = (-1)) else (if ((t 11) 3) ≤ 0 then (x = 0) else (x = ((t 11) 3) - 1))) ∧ (∃ (t1 : xk_St), t1 = va_up t 11 (upd (t 11) 3 x) ∧ (t5 = t1)))) else (if ((t 4) 5) = 0 then (if ((t 11) 3) = (-1) then (∃ (t4 : xk_St), t4 = va_up t 11 (upd (t 11) 3 214) ∧ (t5 = t4)) else (∃ (x : Int32), (if ((t 3) 5) = 0 then (x = (-1)) else (if ((t 11) 3) ≤ 0 then (x = 0) else (x = ((t 11) 3) - 1))) ∧ (∃ (t1 : xk_St), t1 = va_up t 11 (upd (t 11) 3 x) ∧ (t5 = t1)))) else (if ((t 11) 3) = (-1) then (t5 = t) else (∃ (x : Int32), (if ((t 3) 5) = 0 then (x = (-1)) else (if ((t 11) 3) ≤ 0 then (x = 0) else (x = ((t 11) 3) - 1))) ∧ (∃ (t1 : xk_St), t1 = va_up t 11 (upd (t 11) 3 x) ∧ (t5 = t1)))))) : xr g1 t5 ∧ xi_co t5 3 ∧ (∀ j : Nat, j ≠ 3 → t5 11 j = t 11 j) ∧ (∀ c j : Nat, c ≠ 11 → t5 c j = t c j) ∧ (∀ c j : Nat, c ≠ 28 → g1 c j = g c j) ∧ g1 28 2 = 0 := by
  rw [he, hR.c3, hR.b5, hR.a5] at hU
  have hseg : ∀ {t5 : xk_St}, ¬ t 11 3 = -1 → (∃ (x : Int32), (if ((t 3) 5) = 0 then (x = (-1)) else (if ((t 11) 3) ≤ 0 then (x = 0) else (x = ((t 11) 3) - 1))) ∧ (∃ (t1 : xk_St), t1 = va_up t 11 (upd (t 11) 3 x) ∧ (t5 = t1))) → g1 = va_up g 28 (upd (upd (g 28) 1 (if t 3 5 = 0 then -1 else (if t 11 3 ≤ 0 then 0 else t 11 3 - 1))) 2 0) → xr g1 t5 ∧ xi_co t5 3 ∧ (∀ j : Nat, j ≠ 3 → t5 11 j = t 11 j) ∧ (∀ c j : Nat, c ≠ 11 → t5 c j = t c j) ∧ (∀ c j : Nat, c ≠ 28 → g1 c j = g c j) ∧ g1 28 2 = 0 := by
    intro t5 hne hs hu
    obtain ⟨x, hx, t1, rfl, rfl⟩ := hs
    have hx' : x = (if t 3 5 = 0 then -1 else (if t 11 3 ≤ 0 then 0 else t 11 3 - 1)) := by
      by_cases q1 : t 3 5 = 0
      · rw [if_pos q1] at hx ⊢; exact hx
      · rw [if_neg q1] at hx ⊢
        by_cases q2 : t 11 3 ≤ 0
        · rw [if_pos q2] at hx ⊢; exact hx
        · rw [if_neg q2] at hx ⊢; exact hx
    have hco : x = -1 ∨ ∃ n : Nat, n ≤ 214 ∧ x = nI n := by
      rcases hi with hi | ⟨n, h1, h2⟩
      · exact absurd hi hne
      · rw [hx']
        by_cases q1 : t 3 5 = 0
        · rw [if_pos q1]; exact Or.inl rfl
        · rw [if_neg q1, h2, xr_max h1]; exact Or.inr ⟨n - 1, by omega, rfl⟩
    rw [← hx'] at hu
    subst hu
    refine ⟨?_, ?_, fun j hj => by simp [va_up, upd, hj], fun c j hc => by simp [va_up, upd, hc], fun c j hc => by simp [va_up, upd, hc], by simp [va_up, upd]⟩
    · skip
      have eb0 := hR.b0; have ea0 := hR.a0; have ed0 := hR.d0; have ek0 := hR.k0; have eb1 := hR.b1; have ea1 := hR.a1; have ed1 := hR.d1; have ek1 := hR.k1; have eb2 := hR.b2; have ea2 := hR.a2; have ed2 := hR.d2; have ek2 := hR.k2; have eb3 := hR.b3; have ea3 := hR.a3; have ed3 := hR.d3; have ek3 := hR.k3; have eb4 := hR.b4; have ea4 := hR.a4; have ed4 := hR.d4; have ek4 := hR.k4; have eb5 := hR.b5; have ea5 := hR.a5; have ed5 := hR.d5; have ek5 := hR.k5; have ep0 := hR.p0; have ep1 := hR.p1; have ep2 := hR.p2; have ep3 := hR.p3; have ep4 := hR.p4; have ep5 := hR.p5; have ep6 := hR.p6; have ep7 := hR.p7; have ec0 := hR.c0; have ec1 := hR.c1; have ec2 := hR.c2; have ec3 := hR.c3; have eo0 := hR.o0; have es0 := hR.s0; have eo1 := hR.o1; have es1 := hR.s1; have epo0 := hR.po0; have epb0 := hR.pb0; have emo0 := hR.mo0; have eze0 := hR.ze0; have est0 := hR.st0; have eal0 := hR.al0; have epo1 := hR.po1; have epb1 := hR.pb1; have emo1 := hR.mo1; have eze1 := hR.ze1; have est1 := hR.st1; have eal1 := hR.al1; have eli0 := hR.li0; have ede0 := hR.de0; have eda0 := hR.da0; have eli1 := hR.li1; have ede1 := hR.de1; have eda1 := hR.da1; have eli2 := hR.li2; have ede2 := hR.de2; have eda2 := hR.da2; have estep := hR.step; have eage := hR.age; have equiet := hR.quiet; have emany := hR.many; have etime := hR.time; have enight := hR.night; have ebell := hR.bell; have eh0 := hR.h0; have eh1 := hR.h1; have eh2 := hR.h2; have eh3 := hR.h3; have eh4 := hR.h4; have eh5 := hR.h5; have eh6 := hR.h6; have eh7 := hR.h7; have enc0 := hR.nc0; have enc1 := hR.nc1; have enc2 := hR.nc2; have ei0 := hR.i0; have ej0 := hR.j0; have em0 := hR.m0; have en0 := hR.n0; have ei1 := hR.i1; have ej1 := hR.j1; have em1 := hR.m1; have en1 := hR.n1; have ei2 := hR.i2; have ej2 := hR.j2; have em2 := hR.m2; have en2 := hR.n2; have ei3 := hR.i3; have ej3 := hR.j3; have em3 := hR.m3; have en3 := hR.n3; have ei4 := hR.i4; have ej4 := hR.j4; have em4 := hR.m4; have en4 := hR.n4; have ei5 := hR.i5; have ej5 := hR.j5; have em5 := hR.m5; have en5 := hR.n5; have enu0 := hR.nu0; have enu1 := hR.nu1; have enu2 := hR.nu2; have enu3 := hR.nu3; have enu4 := hR.nu4; have enu5 := hR.nu5; have ejt := hR.jt; have ejk := hR.jk; have ejw := hR.jw; have eyh0 := hR.yh0; have eyh1 := hR.yh1; have eyh2 := hR.yh2; have eyh3 := hR.yh3; have eyh4 := hR.yh4; have eyh5 := hR.yh5; have eyh6 := hR.yh6; have eyh7 := hR.yh7; have eyc0 := hR.yc0; have eyc1 := hR.yc1; have eyc2 := hR.yc2; have eyo0 := hR.yo0; have eyo1 := hR.yo1
      refine xr.mk ?_ ?_ ?_ ?_ ?_ ?_ ?_ ?_ ?_ ?_ ?_ ?_ ?_ ?_ ?_ ?_ ?_ ?_ ?_ ?_ ?_ ?_ ?_ ?_ ?_ ?_ ?_ ?_ ?_ ?_ ?_ ?_ ?_ ?_ ?_ ?_ ?_ ?_ ?_ ?_ ?_ ?_ ?_ ?_ ?_ ?_ ?_ ?_ ?_ ?_ ?_ ?_ ?_ ?_ ?_ ?_ ?_ ?_ ?_ ?_ ?_ ?_ ?_ ?_ ?_ ?_ ?_ ?_ ?_ ?_ ?_ ?_ ?_ ?_ ?_ ?_ ?_ ?_ ?_ ?_ ?_ ?_ ?_ ?_ ?_ ?_ ?_ ?_ ?_ ?_ ?_ ?_ ?_ ?_ ?_ ?_ ?_ ?_ ?_ ?_ ?_ ?_ ?_ ?_ ?_ ?_ ?_ ?_ ?_ ?_ ?_ ?_ ?_ ?_ ?_ ?_ ?_ ?_ ?_ ?_ ?_ ?_ ?_ ?_ ?_
      all_goals first | (simp only [va_up, upd]; simp; assumption) | skip
      all_goals first | (simp [va_up, upd, ]; done) | skip
      all_goals first | (with_reducible assumption) | skip
    · rcases hco with h | ⟨n, h1, h2⟩
      · exact Or.inl (by simp [va_up, upd, h])
      · exact Or.inr ⟨n, h1, by simp [va_up, upd, h2]⟩
  have hstay : t5 = t → g1 = va_up g 28 (upd (upd (g 28) 1 (t 11 3)) 2 0) → xr g1 t5 ∧ xi_co t5 3 ∧ (∀ j : Nat, j ≠ 3 → t5 11 j = t 11 j) ∧ (∀ c j : Nat, c ≠ 11 → t5 c j = t c j) ∧ (∀ c j : Nat, c ≠ 28 → g1 c j = g c j) ∧ g1 28 2 = 0 := by
    intro h1 hu
    subst h1; subst hu
    refine ⟨?_, hi, fun _ _ => rfl, fun _ _ _ => rfl, fun c j hc => by simp [va_up, upd, hc], by simp [va_up, upd]⟩
    have eb0 := hR.b0; have ea0 := hR.a0; have ed0 := hR.d0; have ek0 := hR.k0; have eb1 := hR.b1; have ea1 := hR.a1; have ed1 := hR.d1; have ek1 := hR.k1; have eb2 := hR.b2; have ea2 := hR.a2; have ed2 := hR.d2; have ek2 := hR.k2; have eb3 := hR.b3; have ea3 := hR.a3; have ed3 := hR.d3; have ek3 := hR.k3; have eb4 := hR.b4; have ea4 := hR.a4; have ed4 := hR.d4; have ek4 := hR.k4; have eb5 := hR.b5; have ea5 := hR.a5; have ed5 := hR.d5; have ek5 := hR.k5; have ep0 := hR.p0; have ep1 := hR.p1; have ep2 := hR.p2; have ep3 := hR.p3; have ep4 := hR.p4; have ep5 := hR.p5; have ep6 := hR.p6; have ep7 := hR.p7; have ec0 := hR.c0; have ec1 := hR.c1; have ec2 := hR.c2; have ec3 := hR.c3; have eo0 := hR.o0; have es0 := hR.s0; have eo1 := hR.o1; have es1 := hR.s1; have epo0 := hR.po0; have epb0 := hR.pb0; have emo0 := hR.mo0; have eze0 := hR.ze0; have est0 := hR.st0; have eal0 := hR.al0; have epo1 := hR.po1; have epb1 := hR.pb1; have emo1 := hR.mo1; have eze1 := hR.ze1; have est1 := hR.st1; have eal1 := hR.al1; have eli0 := hR.li0; have ede0 := hR.de0; have eda0 := hR.da0; have eli1 := hR.li1; have ede1 := hR.de1; have eda1 := hR.da1; have eli2 := hR.li2; have ede2 := hR.de2; have eda2 := hR.da2; have estep := hR.step; have eage := hR.age; have equiet := hR.quiet; have emany := hR.many; have etime := hR.time; have enight := hR.night; have ebell := hR.bell; have eh0 := hR.h0; have eh1 := hR.h1; have eh2 := hR.h2; have eh3 := hR.h3; have eh4 := hR.h4; have eh5 := hR.h5; have eh6 := hR.h6; have eh7 := hR.h7; have enc0 := hR.nc0; have enc1 := hR.nc1; have enc2 := hR.nc2; have ei0 := hR.i0; have ej0 := hR.j0; have em0 := hR.m0; have en0 := hR.n0; have ei1 := hR.i1; have ej1 := hR.j1; have em1 := hR.m1; have en1 := hR.n1; have ei2 := hR.i2; have ej2 := hR.j2; have em2 := hR.m2; have en2 := hR.n2; have ei3 := hR.i3; have ej3 := hR.j3; have em3 := hR.m3; have en3 := hR.n3; have ei4 := hR.i4; have ej4 := hR.j4; have em4 := hR.m4; have en4 := hR.n4; have ei5 := hR.i5; have ej5 := hR.j5; have em5 := hR.m5; have en5 := hR.n5; have enu0 := hR.nu0; have enu1 := hR.nu1; have enu2 := hR.nu2; have enu3 := hR.nu3; have enu4 := hR.nu4; have enu5 := hR.nu5; have ejt := hR.jt; have ejk := hR.jk; have ejw := hR.jw; have eyh0 := hR.yh0; have eyh1 := hR.yh1; have eyh2 := hR.yh2; have eyh3 := hR.yh3; have eyh4 := hR.yh4; have eyh5 := hR.yh5; have eyh6 := hR.yh6; have eyh7 := hR.yh7; have eyc0 := hR.yc0; have eyc1 := hR.yc1; have eyc2 := hR.yc2; have eyo0 := hR.yo0; have eyo1 := hR.yo1
    refine xr.mk ?_ ?_ ?_ ?_ ?_ ?_ ?_ ?_ ?_ ?_ ?_ ?_ ?_ ?_ ?_ ?_ ?_ ?_ ?_ ?_ ?_ ?_ ?_ ?_ ?_ ?_ ?_ ?_ ?_ ?_ ?_ ?_ ?_ ?_ ?_ ?_ ?_ ?_ ?_ ?_ ?_ ?_ ?_ ?_ ?_ ?_ ?_ ?_ ?_ ?_ ?_ ?_ ?_ ?_ ?_ ?_ ?_ ?_ ?_ ?_ ?_ ?_ ?_ ?_ ?_ ?_ ?_ ?_ ?_ ?_ ?_ ?_ ?_ ?_ ?_ ?_ ?_ ?_ ?_ ?_ ?_ ?_ ?_ ?_ ?_ ?_ ?_ ?_ ?_ ?_ ?_ ?_ ?_ ?_ ?_ ?_ ?_ ?_ ?_ ?_ ?_ ?_ ?_ ?_ ?_ ?_ ?_ ?_ ?_ ?_ ?_ ?_ ?_ ?_ ?_ ?_ ?_ ?_ ?_ ?_ ?_ ?_ ?_ ?_ ?_
    all_goals first | (simp only [va_up, upd]; simp; assumption) | skip
    all_goals first | (simp [va_up, upd, ]; done) | skip
    all_goals first | (with_reducible assumption) | skip
  by_cases c1 : t 12 3 = 0
  · rw [if_pos c1] at hM
    by_cases c2 : t 11 3 = -1
    · rw [if_pos c2] at hM
      exact hstay hM (by rw [hU]; simp [qzE_follow_a1, qzE_follow_a2, c1, c2])
    · rw [if_neg c2] at hM
      exact hseg c2 hM (by rw [hU]; simp [qzE_follow_a1, qzE_follow_a2, c1, c2, xr_mx hi c2])
  · rw [if_neg c1] at hM
    by_cases c3 : t 4 5 = 0
    · rw [if_pos c3] at hM
      by_cases c2 : t 11 3 = -1
      · rw [if_pos c2] at hM
        obtain ⟨t4, rfl, rfl⟩ := hM
        have hu : g1 = va_up g 28 (upd (upd (g 28) 1 214) 2 0) := by rw [hU]; simp [qzE_follow_a1, qzE_follow_a2, c1, c2, c3]
        subst hu
        refine ⟨?_, Or.inr ⟨214, by omega, by simp [va_up, upd]; decide⟩, fun j hj => by simp [va_up, upd, hj], fun c j hc => by simp [va_up, upd, hc], fun c j hc => by simp [va_up, upd, hc], by simp [va_up, upd]⟩
        have eb0 := hR.b0; have ea0 := hR.a0; have ed0 := hR.d0; have ek0 := hR.k0; have eb1 := hR.b1; have ea1 := hR.a1; have ed1 := hR.d1; have ek1 := hR.k1; have eb2 := hR.b2; have ea2 := hR.a2; have ed2 := hR.d2; have ek2 := hR.k2; have eb3 := hR.b3; have ea3 := hR.a3; have ed3 := hR.d3; have ek3 := hR.k3; have eb4 := hR.b4; have ea4 := hR.a4; have ed4 := hR.d4; have ek4 := hR.k4; have eb5 := hR.b5; have ea5 := hR.a5; have ed5 := hR.d5; have ek5 := hR.k5; have ep0 := hR.p0; have ep1 := hR.p1; have ep2 := hR.p2; have ep3 := hR.p3; have ep4 := hR.p4; have ep5 := hR.p5; have ep6 := hR.p6; have ep7 := hR.p7; have ec0 := hR.c0; have ec1 := hR.c1; have ec2 := hR.c2; have ec3 := hR.c3; have eo0 := hR.o0; have es0 := hR.s0; have eo1 := hR.o1; have es1 := hR.s1; have epo0 := hR.po0; have epb0 := hR.pb0; have emo0 := hR.mo0; have eze0 := hR.ze0; have est0 := hR.st0; have eal0 := hR.al0; have epo1 := hR.po1; have epb1 := hR.pb1; have emo1 := hR.mo1; have eze1 := hR.ze1; have est1 := hR.st1; have eal1 := hR.al1; have eli0 := hR.li0; have ede0 := hR.de0; have eda0 := hR.da0; have eli1 := hR.li1; have ede1 := hR.de1; have eda1 := hR.da1; have eli2 := hR.li2; have ede2 := hR.de2; have eda2 := hR.da2; have estep := hR.step; have eage := hR.age; have equiet := hR.quiet; have emany := hR.many; have etime := hR.time; have enight := hR.night; have ebell := hR.bell; have eh0 := hR.h0; have eh1 := hR.h1; have eh2 := hR.h2; have eh3 := hR.h3; have eh4 := hR.h4; have eh5 := hR.h5; have eh6 := hR.h6; have eh7 := hR.h7; have enc0 := hR.nc0; have enc1 := hR.nc1; have enc2 := hR.nc2; have ei0 := hR.i0; have ej0 := hR.j0; have em0 := hR.m0; have en0 := hR.n0; have ei1 := hR.i1; have ej1 := hR.j1; have em1 := hR.m1; have en1 := hR.n1; have ei2 := hR.i2; have ej2 := hR.j2; have em2 := hR.m2; have en2 := hR.n2; have ei3 := hR.i3; have ej3 := hR.j3; have em3 := hR.m3; have en3 := hR.n3; have ei4 := hR.i4; have ej4 := hR.j4; have em4 := hR.m4; have en4 := hR.n4; have ei5 := hR.i5; have ej5 := hR.j5; have em5 := hR.m5; have en5 := hR.n5; have enu0 := hR.nu0; have enu1 := hR.nu1; have enu2 := hR.nu2; have enu3 := hR.nu3; have enu4 := hR.nu4; have enu5 := hR.nu5; have ejt := hR.jt; have ejk := hR.jk; have ejw := hR.jw; have eyh0 := hR.yh0; have eyh1 := hR.yh1; have eyh2 := hR.yh2; have eyh3 := hR.yh3; have eyh4 := hR.yh4; have eyh5 := hR.yh5; have eyh6 := hR.yh6; have eyh7 := hR.yh7; have eyc0 := hR.yc0; have eyc1 := hR.yc1; have eyc2 := hR.yc2; have eyo0 := hR.yo0; have eyo1 := hR.yo1
        refine xr.mk ?_ ?_ ?_ ?_ ?_ ?_ ?_ ?_ ?_ ?_ ?_ ?_ ?_ ?_ ?_ ?_ ?_ ?_ ?_ ?_ ?_ ?_ ?_ ?_ ?_ ?_ ?_ ?_ ?_ ?_ ?_ ?_ ?_ ?_ ?_ ?_ ?_ ?_ ?_ ?_ ?_ ?_ ?_ ?_ ?_ ?_ ?_ ?_ ?_ ?_ ?_ ?_ ?_ ?_ ?_ ?_ ?_ ?_ ?_ ?_ ?_ ?_ ?_ ?_ ?_ ?_ ?_ ?_ ?_ ?_ ?_ ?_ ?_ ?_ ?_ ?_ ?_ ?_ ?_ ?_ ?_ ?_ ?_ ?_ ?_ ?_ ?_ ?_ ?_ ?_ ?_ ?_ ?_ ?_ ?_ ?_ ?_ ?_ ?_ ?_ ?_ ?_ ?_ ?_ ?_ ?_ ?_ ?_ ?_ ?_ ?_ ?_ ?_ ?_ ?_ ?_ ?_ ?_ ?_ ?_ ?_ ?_ ?_ ?_ ?_
        all_goals first | (simp only [va_up, upd]; simp; assumption) | skip
        all_goals first | (simp [va_up, upd, ]; done) | skip
        all_goals first | (with_reducible assumption) | skip
      · rw [if_neg c2] at hM
        exact hseg c2 hM (by rw [hU]; simp [qzE_follow_a1, qzE_follow_a2, c1, c2, c3, xr_mx hi c2])
    · rw [if_neg c3] at hM
      by_cases c2 : t 11 3 = -1
      · rw [if_pos c2] at hM
        exact hstay hM (by rw [hU]; simp [qzE_follow_a1, qzE_follow_a2, c1, c2, c3])
      · rw [if_neg c2] at hM
        exact hseg c2 hM (by rw [hU]; simp [qzE_follow_a1, qzE_follow_a2, c1, c2, c3, xr_mx hi c2])
theorem sim_comings {g gz t tz : xk_St} (hR : xr g t) (hi : ∀ e : Nat, e < 4 → xi_co t e) (he : ∀ e : Nat, e < 4 → g (25 + e) 2 = t 12 e) (hU : relzU_followComings g gz) (hM : relzM_allComings t tz) : xr gz tz ∧ (∀ e : Nat, e < 4 → xi_co tz e) ∧ (∀ e : Nat, e < 4 → gz (25 + e) 2 = 0) ∧ (∀ c j : Nat, c ≠ 11 → tz c j = t c j) := by
  obtain ⟨g1, u0, g2, u1, g3, u2, g4, u3, rfl⟩ := hU
  obtain ⟨t1, m0, t2, m1, t3, m2, t4, m3, rfl⟩ := hM
  have R0 := hR
  obtain ⟨R1, i0, k0, f0, p0, z0⟩ := sim_com_0 R0 (hi 0 (by decide)) (he 0 (by decide)) u0 m0
  obtain ⟨R2, i1, k1, f1, p1, z1⟩ := sim_com_1 R1 (by show _ ∨ _; rw [k0 1 (by decide)]; exact hi 1 (by decide)) ((p0 26 2 (by decide)).trans ((he 1 (by decide)).trans (f0 12 1 (by decide)).symm)) u1 m1
  obtain ⟨R3, i2, k2, f2, p2, z2⟩ := sim_com_2 R2 (by show _ ∨ _; rw [k1 2 (by decide), k0 2 (by decide)]; exact hi 2 (by decide)) ((p1 27 2 (by decide)).trans (((p0 27 2 (by decide)).trans ((he 2 (by decide)).trans (f0 12 2 (by decide)).symm)).trans (f1 12 2 (by decide)).symm)) u2 m2
  obtain ⟨R4, i3, k3, f3, p3, z3⟩ := sim_com_3 R3 (by show _ ∨ _; rw [k2 3 (by decide), k1 3 (by decide), k0 3 (by decide)]; exact hi 3 (by decide)) ((p2 28 2 (by decide)).trans (((p1 28 2 (by decide)).trans (((p0 28 2 (by decide)).trans ((he 3 (by decide)).trans (f0 12 3 (by decide)).symm)).trans (f1 12 3 (by decide)).symm)).trans (f2 12 3 (by decide)).symm)) u3 m3
  refine ⟨R4, fun e h => ?_, fun e h => ?_, fun c j hc => by rw [f3 c j hc, f2 c j hc, f1 c j hc, f0 c j hc]⟩
  · rcases (show e = 0 ∨ e = 1 ∨ e = 2 ∨ e = 3 from by omega) with rfl | rfl | rfl | rfl
    · show _ ∨ _
      rw [k3 0 (by decide), k2 0 (by decide), k1 0 (by decide)]; exact i0
    · show _ ∨ _
      rw [k3 1 (by decide), k2 1 (by decide)]; exact i1
    · show _ ∨ _
      rw [k3 2 (by decide)]; exact i2
    · exact i3
  · rcases (show e = 0 ∨ e = 1 ∨ e = 2 ∨ e = 3 from by omega) with rfl | rfl | rfl | rfl
    · exact (p3 25 2 (by decide)).trans ((p2 25 2 (by decide)).trans ((p1 25 2 (by decide)).trans (z0)))
    · exact (p3 26 2 (by decide)).trans ((p2 26 2 (by decide)).trans (z1))
    · exact (p3 27 2 (by decide)).trans (z2)
    · exact z3
