theorem xd_state (b d : Int32) : qzS_state b d = 0 ↔ (d = 0 ∧ b = 0) := by
  unfold qzS_state
  by_cases h1 : d = 0
  · rw [if_pos h1]
    by_cases h2 : b = 0
    · rw [if_pos h2]; exact ⟨fun _ => ⟨h1, h2⟩, fun _ => rfl⟩
    · rw [if_neg h2]; exact ⟨fun h => absurd h (by decide), fun h => absurd h.2 h2⟩
  · rw [if_neg h1]; exact ⟨fun h => absurd h (by decide), fun h => absurd h.1 h1⟩
theorem xd_three {p q r : Prop} [Decidable p] [Decidable q] [Decidable r] : ((if p then (if q then (if r then 1 else 0 : Int32) else 0 : Int32) else 0 : Int32) = 0) ↔ ¬ (p ∧ q ∧ r) := by
  by_cases h1 : p <;> by_cases h2 : q <;> by_cases h3 : r <;> simp [h1, h2, h3]
theorem xd_two {p q : Prop} [Decidable p] [Decidable q] : ((if p then (if q then 1 else 0 : Int32) else 0 : Int32) = 0) ↔ ¬ (p ∧ q) := by
  by_cases h1 : p <;> by_cases h2 : q <;> simp [h1, h2]
theorem xd_step {x y F : Int32} (h : if x = 0 then (if F = 0 then (y = 1) else (y = 0)) else (y = 1)) : y = 0 ↔ (x = 0 ∧ ¬ F = 0) := by
  by_cases h1 : x = 0
  · rw [if_pos h1] at h
    by_cases h2 : F = 0
    · rw [if_pos h2] at h; subst h; exact ⟨fun h => absurd h (by decide), fun h => absurd h2 h.2⟩
    · rw [if_neg h2] at h; subst h; exact ⟨fun _ => ⟨h1, h2⟩, fun _ => rfl⟩
  · rw [if_neg h1] at h; subst h; exact ⟨fun h => absurd h (by decide), fun h => absurd h.1 h1⟩
theorem xd_ord {x a b : Int32} (h : if a = 0 then (if b = 0 then (x = 0) else (x = 1)) else (x = 1)) : x = 0 ↔ (a = 0 ∧ b = 0) := by
  by_cases h1 : a = 0
  · rw [if_pos h1] at h
    by_cases h2 : b = 0
    · rw [if_pos h2] at h; subst h; exact ⟨fun _ => ⟨h1, h2⟩, fun _ => rfl⟩
    · rw [if_neg h2] at h; subst h; exact ⟨fun h => absurd h (by decide), fun h => absurd h.2 h2⟩
  · rw [if_neg h1] at h; subst h; exact ⟨fun h => absurd h (by decide), fun h => absurd h.1 h1⟩
theorem xd_four {a b : Int32} {p q : Prop} [Decidable p] [Decidable q] : ((if a = 0 then (if p then 1 else (if b = 0 then (if q then 1 else 0 : Int32) else 1 : Int32) : Int32) else 1 : Int32) = 0) ↔ (a = 0 ∧ ¬ p ∧ b = 0 ∧ ¬ q) := by
  by_cases h1 : a = 0 <;> by_cases h2 : p <;> by_cases h3 : b = 0 <;> by_cases h4 : q <;> simp [h1, h2, h3, h4]
theorem xd_fourb {a b : Int32} {p q : Prop} [Decidable p] [Decidable q] : xk_b (if a = 0 then (if p then 1 else (if b = 0 then (if q then 1 else 0 : Int32) else 1 : Int32) : Int32) else 1 : Int32) := by
  by_cases h1 : a = 0 <;> by_cases h2 : p <;> by_cases h3 : b = 0 <;> by_cases h4 : q <;> simp [h1, h2, h3, h4, xk_b]
theorem xd_eq {x y : Int32} (hx : xk_b x) (hy : xk_b y) (h : x = 0 ↔ y = 0) : x = y := by
  rcases hx with rfl | rfl
  · exact (h.mp rfl).symm
  · rcases hy with rfl | rfl
    · exact h.mpr rfl
    · rfl
theorem sim_demand {g t : xk_St} {r : Int32} (hR : xr g t) (h : relzM_demand t r) : r = qzU_isDemanded g := by
  obtain ⟨x1, m1, x2, m2, x3, m3, x4, m4, x5, m5, x6, m6, x7, m7, rfl, hb⟩ := h
  refine xd_eq hb xd_fourb ?_
  unfold qzU_isDemanded
  rw [xd_four, xd_step m7, xd_step m6, xd_step m5, xd_step m4, xd_step m3, xd_step m2, xd_ord m1]
  simp only [qzK_isFree, qzM_isFree_0, qzM_isFree_1, qzM_isFree_2, qzM_isFree_3, qzM_isFree_4, qzM_isFree_5, xd_three, xd_two, xd_state, hR.o0, hR.o1, hR.b0, hR.b1, hR.b2, hR.b3, hR.b4, hR.b5, hR.d0, hR.d1, hR.d2, hR.d3, hR.d4, hR.d5, Classical.not_not]
  exact ⟨fun h => ⟨h.1.1.1.1.1.1.1, ⟨h.1.1.1.1.1.2, h.1.1.1.1.2, h.1.1.1.2⟩, h.1.1.1.1.1.1.2, h.1.1.2, h.1.2, h.2⟩, fun h => ⟨⟨⟨⟨⟨⟨⟨h.1, h.2.2.1⟩, h.2.1.1⟩, h.2.1.2.1⟩, h.2.1.2.2⟩, h.2.2.2.1⟩, h.2.2.2.2.1⟩, h.2.2.2.2.2⟩⟩
theorem xd_pick {x : Int32} {p : Prop} [Decidable p] {a b : Int32} (h : if p then (x = a) else (x = b)) : x = if p then a else b := by
  by_cases q : p
  · rw [if_pos q] at h ⊢; exact h
  · rw [if_neg q] at h ⊢; exact h
set_option maxHeartbeats 4000000 in
theorem sim_moveRoad {g gz t tz : xk_St} {B : Nat} (hR : xr g t) (hB : xk_cnt B t) (hB2 : B < 2147483647) (hp : g 0 9 = qzM_isProved t) (hU : relzU_moveRoad g gz) (hM : relzM_goOn t tz) : xr gz tz ∧ xk_cnt (B + 1) tz ∧ gz 0 9 = g 0 9 := by
  obtain ⟨g1, u1, g3, u2, rfl⟩ := hU
  obtain ⟨r, md, t1, rfl, x1, m1, t2, rfl, x8, m8, t7, m7, rfl⟩ := hM
  have hr := sim_demand hR md
  have hx1 : x1 = if t 0 28 = 4 then (if r = 0 then t 0 30 + 1 else 0) else 0 := by
    simp [va_up, upd] at m1
    by_cases q1 : t 0 28 = 4
    · rw [if_pos q1] at m1 ⊢; exact xd_pick m1
    · rw [if_neg q1] at m1 ⊢; exact m1
  have hup : qzU_isUp g = if t 14 0 = 100 then (if t 14 1 = 100 then 1 else 0) else 0 := by unfold qzU_isUp; rw [hR.po0, hR.po1]
  have hpr : qzM_isProved (va_up (va_up t 0 (upd (t 0) 29 (t 0 29 + 1))) 0 (upd (va_up t 0 (upd (t 0) 29 (t 0 29 + 1)) 0) 30 x1)) = qzM_isProved t := by simp [qzM_isProved, va_up]
  have hx8 : x8 = qzR_stepToCome (t 0 28) (t 0 29 + 1) x1 r (qzM_isProved t) (qzU_isUp g) := by
    rw [hpr] at m8
    simp [va_up, upd] at m8
    unfold qzR_stepToCome
    by_cases q0 : t 0 28 = 0
    · rw [if_pos q0] at m8 ⊢; exact xd_pick m8
    · rw [if_neg q0] at m8 ⊢
      by_cases q1 : t 0 28 = 1
      · rw [if_pos q1] at m8 ⊢; exact xd_pick m8
      · rw [if_neg q1] at m8 ⊢
        by_cases q2 : t 0 28 = 2
        · rw [if_pos q2] at m8 ⊢; exact xd_pick m8
        · rw [if_neg q2] at m8 ⊢
          by_cases q3 : t 0 28 = 3
          · rw [if_pos q3] at m8 ⊢; exact xd_pick m8
          · rw [if_neg q3] at m8 ⊢
            by_cases q4 : t 0 28 = 4
            · rw [if_pos q4] at m8 ⊢; exact xd_pick m8
            · rw [if_neg q4] at m8 ⊢
              by_cases q5 : r = 0
              · rw [if_pos q5] at m8 ⊢
                rw [hup]
                by_cases q6 : t 14 0 = 100
                · rw [if_pos q6] at m8 ⊢
                  by_cases q7 : t 14 1 = 100
                  · rw [if_pos q7] at m8 ⊢; rw [if_neg (by decide)]; exact m8
                  · rw [if_neg q7] at m8 ⊢; rw [if_pos rfl]; exact m8
                · rw [if_neg q6] at m8 ⊢; rw [if_pos rfl]; exact m8
              · rw [if_neg q5] at m8 ⊢; exact m8
  simp only [qzR_moves, qzR_moves_a0, qzR_moves_a1, qzR_moves_a2, hR.step, hR.age, hR.quiet, hp, ← hr, ← hx1, ← hx8] at u1 u2
  have w1 : (va_up (va_up t 0 (upd (t 0) 29 (t 0 29 + 1))) 0 (upd (va_up t 0 (upd (t 0) 29 (t 0 29 + 1)) 0) 30 x1)) 0 28 = t 0 28 := by simp [va_up, upd]
  rw [w1] at m7
  by_cases c : x8 = t 0 28
  · rw [if_pos c] at m7
    simp only [if_pos c] at u1 u2
    rw [if_pos trivial] at u2
    subst u1; subst u2; subst m7
    refine ⟨?_, xk_cnt_le (xk_cnt_f (by decide) (xk_cnt_f (by decide) hB)) (by omega), by simp [va_up, upd]⟩
    have eb0 := hR.b0; have ea0 := hR.a0; have ed0 := hR.d0; have ek0 := hR.k0; have eb1 := hR.b1; have ea1 := hR.a1; have ed1 := hR.d1; have ek1 := hR.k1; have eb2 := hR.b2; have ea2 := hR.a2; have ed2 := hR.d2; have ek2 := hR.k2; have eb3 := hR.b3; have ea3 := hR.a3; have ed3 := hR.d3; have ek3 := hR.k3; have eb4 := hR.b4; have ea4 := hR.a4; have ed4 := hR.d4; have ek4 := hR.k4; have eb5 := hR.b5; have ea5 := hR.a5; have ed5 := hR.d5; have ek5 := hR.k5; have ep0 := hR.p0; have ep1 := hR.p1; have ep2 := hR.p2; have ep3 := hR.p3; have ep4 := hR.p4; have ep5 := hR.p5; have ep6 := hR.p6; have ep7 := hR.p7; have ec0 := hR.c0; have ec1 := hR.c1; have ec2 := hR.c2; have ec3 := hR.c3; have eo0 := hR.o0; have es0 := hR.s0; have eo1 := hR.o1; have es1 := hR.s1; have epo0 := hR.po0; have epb0 := hR.pb0; have emo0 := hR.mo0; have eze0 := hR.ze0; have est0 := hR.st0; have eal0 := hR.al0; have epo1 := hR.po1; have epb1 := hR.pb1; have emo1 := hR.mo1; have eze1 := hR.ze1; have est1 := hR.st1; have eal1 := hR.al1; have eli0 := hR.li0; have ede0 := hR.de0; have eda0 := hR.da0; have eli1 := hR.li1; have ede1 := hR.de1; have eda1 := hR.da1; have eli2 := hR.li2; have ede2 := hR.de2; have eda2 := hR.da2; have estep := hR.step; have eage := hR.age; have equiet := hR.quiet; have emany := hR.many; have etime := hR.time; have enight := hR.night; have ebell := hR.bell; have eh0 := hR.h0; have eh1 := hR.h1; have eh2 := hR.h2; have eh3 := hR.h3; have eh4 := hR.h4; have eh5 := hR.h5; have eh6 := hR.h6; have eh7 := hR.h7; have enc0 := hR.nc0; have enc1 := hR.nc1; have enc2 := hR.nc2; have ei0 := hR.i0; have ej0 := hR.j0; have em0 := hR.m0; have en0 := hR.n0; have ei1 := hR.i1; have ej1 := hR.j1; have em1 := hR.m1; have en1 := hR.n1; have ei2 := hR.i2; have ej2 := hR.j2; have em2 := hR.m2; have en2 := hR.n2; have ei3 := hR.i3; have ej3 := hR.j3; have em3 := hR.m3; have en3 := hR.n3; have ei4 := hR.i4; have ej4 := hR.j4; have em4 := hR.m4; have en4 := hR.n4; have ei5 := hR.i5; have ej5 := hR.j5; have em5 := hR.m5; have en5 := hR.n5; have enu0 := hR.nu0; have enu1 := hR.nu1; have enu2 := hR.nu2; have enu3 := hR.nu3; have enu4 := hR.nu4; have enu5 := hR.nu5; have ejt := hR.jt; have ejk := hR.jk; have ejw := hR.jw; have eyh0 := hR.yh0; have eyh1 := hR.yh1; have eyh2 := hR.yh2; have eyh3 := hR.yh3; have eyh4 := hR.yh4; have eyh5 := hR.yh5; have eyh6 := hR.yh6; have eyh7 := hR.yh7; have eyc0 := hR.yc0; have eyc1 := hR.yc1; have eyc2 := hR.yc2; have eyo0 := hR.yo0; have eyo1 := hR.yo1
    refine xr.mk ?_ ?_ ?_ ?_ ?_ ?_ ?_ ?_ ?_ ?_ ?_ ?_ ?_ ?_ ?_ ?_ ?_ ?_ ?_ ?_ ?_ ?_ ?_ ?_ ?_ ?_ ?_ ?_ ?_ ?_ ?_ ?_ ?_ ?_ ?_ ?_ ?_ ?_ ?_ ?_ ?_ ?_ ?_ ?_ ?_ ?_ ?_ ?_ ?_ ?_ ?_ ?_ ?_ ?_ ?_ ?_ ?_ ?_ ?_ ?_ ?_ ?_ ?_ ?_ ?_ ?_ ?_ ?_ ?_ ?_ ?_ ?_ ?_ ?_ ?_ ?_ ?_ ?_ ?_ ?_ ?_ ?_ ?_ ?_ ?_ ?_ ?_ ?_ ?_ ?_ ?_ ?_ ?_ ?_ ?_ ?_ ?_ ?_ ?_ ?_ ?_ ?_ ?_ ?_ ?_ ?_ ?_ ?_ ?_ ?_ ?_ ?_ ?_ ?_ ?_ ?_ ?_ ?_ ?_ ?_ ?_ ?_ ?_ ?_ ?_
    all_goals first | (simp only [va_up, upd]; simp; assumption) | skip
    all_goals first | (simp [va_up, upd, ]; done) | skip
    all_goals first | (with_reducible assumption) | skip
  · rw [if_neg c] at m7
    simp only [if_neg c] at u1 u2
    rw [if_neg (by decide)] at u2
    obtain ⟨t3, h3, t4, h4, t5, h5, t6, h6, rfl⟩ := m7
    obtain ⟨g2, rfl, rfl⟩ := u2
    have hB5 : xk_cnt B t5 := by
      subst h3; subst h4; subst h5
      exact xk_cnt_f (by decide) (xk_cnt_f (by decide) (xk_cnt_f (by decide) (xk_cnt_f (by decide) (xk_cnt_f (by decide) hB))))
    have hs : g1 4 0 = t5 0 28 := by subst u1; subst h3; subst h4; subst h5; simp [va_up, upd]
    have hR2 : xr g1 t5 := by
      subst u1; subst h3; subst h4; subst h5
      have eb0 := hR.b0; have ea0 := hR.a0; have ed0 := hR.d0; have ek0 := hR.k0; have eb1 := hR.b1; have ea1 := hR.a1; have ed1 := hR.d1; have ek1 := hR.k1; have eb2 := hR.b2; have ea2 := hR.a2; have ed2 := hR.d2; have ek2 := hR.k2; have eb3 := hR.b3; have ea3 := hR.a3; have ed3 := hR.d3; have ek3 := hR.k3; have eb4 := hR.b4; have ea4 := hR.a4; have ed4 := hR.d4; have ek4 := hR.k4; have eb5 := hR.b5; have ea5 := hR.a5; have ed5 := hR.d5; have ek5 := hR.k5; have ep0 := hR.p0; have ep1 := hR.p1; have ep2 := hR.p2; have ep3 := hR.p3; have ep4 := hR.p4; have ep5 := hR.p5; have ep6 := hR.p6; have ep7 := hR.p7; have ec0 := hR.c0; have ec1 := hR.c1; have ec2 := hR.c2; have ec3 := hR.c3; have eo0 := hR.o0; have es0 := hR.s0; have eo1 := hR.o1; have es1 := hR.s1; have epo0 := hR.po0; have epb0 := hR.pb0; have emo0 := hR.mo0; have eze0 := hR.ze0; have est0 := hR.st0; have eal0 := hR.al0; have epo1 := hR.po1; have epb1 := hR.pb1; have emo1 := hR.mo1; have eze1 := hR.ze1; have est1 := hR.st1; have eal1 := hR.al1; have eli0 := hR.li0; have ede0 := hR.de0; have eda0 := hR.da0; have eli1 := hR.li1; have ede1 := hR.de1; have eda1 := hR.da1; have eli2 := hR.li2; have ede2 := hR.de2; have eda2 := hR.da2; have estep := hR.step; have eage := hR.age; have equiet := hR.quiet; have emany := hR.many; have etime := hR.time; have enight := hR.night; have ebell := hR.bell; have eh0 := hR.h0; have eh1 := hR.h1; have eh2 := hR.h2; have eh3 := hR.h3; have eh4 := hR.h4; have eh5 := hR.h5; have eh6 := hR.h6; have eh7 := hR.h7; have enc0 := hR.nc0; have enc1 := hR.nc1; have enc2 := hR.nc2; have ei0 := hR.i0; have ej0 := hR.j0; have em0 := hR.m0; have en0 := hR.n0; have ei1 := hR.i1; have ej1 := hR.j1; have em1 := hR.m1; have en1 := hR.n1; have ei2 := hR.i2; have ej2 := hR.j2; have em2 := hR.m2; have en2 := hR.n2; have ei3 := hR.i3; have ej3 := hR.j3; have em3 := hR.m3; have en3 := hR.n3; have ei4 := hR.i4; have ej4 := hR.j4; have em4 := hR.m4; have en4 := hR.n4; have ei5 := hR.i5; have ej5 := hR.j5; have em5 := hR.m5; have en5 := hR.n5; have enu0 := hR.nu0; have enu1 := hR.nu1; have enu2 := hR.nu2; have enu3 := hR.nu3; have enu4 := hR.nu4; have enu5 := hR.nu5; have ejt := hR.jt; have ejk := hR.jk; have ejw := hR.jw; have eyh0 := hR.yh0; have eyh1 := hR.yh1; have eyh2 := hR.yh2; have eyh3 := hR.yh3; have eyh4 := hR.yh4; have eyh5 := hR.yh5; have eyh6 := hR.yh6; have eyh7 := hR.yh7; have eyc0 := hR.yc0; have eyc1 := hR.yc1; have eyc2 := hR.yc2; have eyo0 := hR.yo0; have eyo1 := hR.yo1
      refine xr.mk ?_ ?_ ?_ ?_ ?_ ?_ ?_ ?_ ?_ ?_ ?_ ?_ ?_ ?_ ?_ ?_ ?_ ?_ ?_ ?_ ?_ ?_ ?_ ?_ ?_ ?_ ?_ ?_ ?_ ?_ ?_ ?_ ?_ ?_ ?_ ?_ ?_ ?_ ?_ ?_ ?_ ?_ ?_ ?_ ?_ ?_ ?_ ?_ ?_ ?_ ?_ ?_ ?_ ?_ ?_ ?_ ?_ ?_ ?_ ?_ ?_ ?_ ?_ ?_ ?_ ?_ ?_ ?_ ?_ ?_ ?_ ?_ ?_ ?_ ?_ ?_ ?_ ?_ ?_ ?_ ?_ ?_ ?_ ?_ ?_ ?_ ?_ ?_ ?_ ?_ ?_ ?_ ?_ ?_ ?_ ?_ ?_ ?_ ?_ ?_ ?_ ?_ ?_ ?_ ?_ ?_ ?_ ?_ ?_ ?_ ?_ ?_ ?_ ?_ ?_ ?_ ?_ ?_ ?_ ?_ ?_ ?_ ?_ ?_ ?_
      all_goals first | (simp only [va_up, upd]; simp; assumption) | skip
      all_goals first | (simp [va_up, upd, ]; done) | skip
      all_goals first | (with_reducible assumption) | skip
    rw [hs]
    refine ⟨xr_note hR2 hB5 (by omega) h6, xr_nc hB5 h6, ?_⟩
    subst u1
    simp [va_up, upd]
