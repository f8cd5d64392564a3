theorem xv_ne {f : xk_St} {k c : Nat} {F : Nat → Int32} (h : c ≠ k) : va_up f k F c = f c := if_neg h
theorem xv_eq {f : xk_St} {k : Nat} {F : Nat → Int32} : va_up f k F k = F := if_pos rfl
theorem xv_swap {f : xk_St} {a b : Nat} {F G : Nat → Int32} (h : a ≠ b) : va_up (va_up f a F) b G = va_up (va_up f b G) a F := by
  funext c
  simp only [va_up]
  by_cases q : c = a
  · subst q; rw [if_neg h, if_pos rfl, if_pos rfl]
  · by_cases q2 : c = b
    · subst q2; rw [if_pos rfl, if_neg q, if_pos rfl]
    · rw [if_neg q2, if_neg q, if_neg q, if_neg q2]
def xi_k (x : Int32) : Int := if x = 0 then 0 else 1
def xi_q (W : Int) (t : xk_St) (s h : Nat) : Prop := ∃ z : Int, t 3 s = Int32.ofInt z ∧ 3 * z + 3 * (xi_k (t 1 h) + xi_k (t 1 (h + 1))) ≤ W ∧ -(3 * z) + 3 * (xi_k (t 1 h) + xi_k (t 1 (h + 1))) ≤ W ∧ (z < 0 → t 5 s ≠ 0)
def xi_pl (W : Int) (t : xk_St) : Prop := ∀ s : Nat, s < 6 → xi_q W t s (s + s / 3)
theorem xi_k0 (x : Int32) : 0 ≤ xi_k x ∧ xi_k x ≤ 1 := by
  unfold xi_k
  by_cases h : x = 0
  · rw [if_pos h]; decide
  · rw [if_neg h]; decide
theorem zi_lt {z : Int} (h1 : -2000 ≤ z) (h2 : z ≤ 2000) : Int32.ofInt z < 0 ↔ z < 0 := by
  rw [Int32.lt_iff_toInt_lt, Int32.toInt_ofInt_of_le (by omega) (by omega)]
  exact Iff.rfl
theorem zi_le {z : Int} (h1 : -2000 ≤ z) (h2 : z ≤ 2000) : Int32.ofInt z ≤ 400 ↔ z ≤ 400 := by
  rw [Int32.le_iff_toInt_le, Int32.toInt_ofInt_of_le (by omega) (by omega)]
  exact Iff.rfl
theorem zi_inc (z : Int) : Int32.ofInt z + 1 = Int32.ofInt (z + 1) := (Int32.ofInt_add z 1).symm
theorem zi_dec (z : Int) : Int32.ofInt z - 1 = Int32.ofInt (z - 1) := (Int32.ofInt_sub z 1).symm
theorem zi_neg (x : Int32) : x + -1 = x - 1 := by rw [Int32.sub_eq_add_neg]
/-- what a counted axle does to one section -/
def xm_mv (s : Nat) (t ta : xk_St) : Prop := ta 1 = t 1 ∧ (∀ j : Nat, j ≠ s → ta 3 j = t 3 j) ∧ (ta 3 s = t 3 s + 1 ∨ ta 3 s = t 3 s - 1) ∧ (∀ j : Nat, t 5 j ≠ 0 → ta 5 j ≠ 0) ∧ (ta 3 s < 0 → ta 5 s ≠ 0)
def xm_ok (H : Nat) (t tz : xk_St) : Prop := tz 1 = t 1 ∧ ∀ s : Nat, s < 6 → (tz 3 s = t 3 s ∧ (t 5 s ≠ 0 → tz 5 s ≠ 0)) ∨ ((H = s + s / 3 ∨ H = s + s / 3 + 1) ∧ (tz 3 s = t 3 s + 1 ∨ tz 3 s = t 3 s - 1) ∧ (tz 3 s < 0 → tz 5 s ≠ 0))
theorem xm_one {H s : Nat} {t tz : xk_St} (h : xm_mv s t tz) (hn : H = s + s / 3 ∨ H = s + s / 3 + 1) : xm_ok H t tz := by
  obtain ⟨h1, h2, h3, h4, h5⟩ := h
  refine ⟨h1, fun j _ => ?_⟩
  by_cases q : j = s
  · subst q; exact Or.inr ⟨hn, h3, h5⟩
  · exact Or.inl ⟨h2 j q, h4 j⟩
theorem xm_two {H s r : Nat} {t ta tz : xk_St} (h : xm_mv s t ta) (k : xm_mv r ta tz) (hsr : s ≠ r) (hn : H = s + s / 3 ∨ H = s + s / 3 + 1) (hm : H = r + r / 3 ∨ H = r + r / 3 + 1) : xm_ok H t tz := by
  obtain ⟨h1, h2, h3, h4, h5⟩ := h
  obtain ⟨k1, k2, k3, k4, k5⟩ := k
  refine ⟨k1.trans h1, fun j _ => ?_⟩
  by_cases q : j = s
  · subst q
    refine Or.inr ⟨hn, ?_, fun hl => ?_⟩
    · rw [k2 _ hsr]; exact h3
    · rw [k2 _ hsr] at hl; exact k4 _ (h5 hl)
  · by_cases q2 : j = r
    · subst q2
      refine Or.inr ⟨hm, ?_, k5⟩
      rw [h2 _ q] at k3; exact k3
    · exact Or.inl ⟨(k2 j q2).trans (h2 j q), fun hd => k4 j (h4 j hd)⟩
theorem xi_pl_sub {W : Int} {t t1 : xk_St} {H : Nat} (h : xi_pl W t) (h1 : t1 1 = upd (t 1) H 0) (h3 : t1 3 = t 3) (h5 : t1 5 = t 5) : xi_pl W t1 := fun s hs => by
  obtain ⟨z, a, b, c, d⟩ := h s hs
  have q : ∀ j : Nat, xi_k (t1 1 j) ≤ xi_k (t 1 j) := fun j => by
    rw [h1]
    by_cases e : j = H
    · have : upd (t 1) H 0 j = 0 := if_pos e
      rw [this]
      exact (xi_k0 _).1
    · have : upd (t 1) H 0 j = t 1 j := if_neg e
      rw [this]; exact Int.le_refl _
  have q1 := q (s + s / 3)
  have q2 := q (s + s / 3 + 1)
  exact ⟨z, by rw [h3]; exact a, by omega, by omega, by rw [h5]; exact d⟩
theorem xi_pl_ok {W : Int} {t t1 tz : xk_St} {H : Nat} (hW : W ≤ 1100) (h : xi_pl W t) (hp : t 1 H ≠ 0) (h1 : t1 1 = upd (t 1) H 0) (h3 : t1 3 = t 3) (h5 : t1 5 = t 5) (hk : xm_ok H t1 tz) : xi_pl W tz := fun s hs => by
  obtain ⟨k1, k2⟩ := hk
  obtain ⟨z, a, b, c, d⟩ := h s hs
  have q : ∀ j : Nat, xi_k (tz 1 j) ≤ xi_k (t 1 j) := fun j => by
    rw [k1, h1]
    by_cases e : j = H
    · have : upd (t 1) H 0 j = 0 := if_pos e
      rw [this]
      exact (xi_k0 _).1
    · have : upd (t 1) H 0 j = t 1 j := if_neg e
      rw [this]; exact Int.le_refl _
  have p1 : xi_k (t 1 H) = 1 := if_neg hp
  have p2 : xi_k (tz 1 H) = 0 := by rw [k1, h1]; show xi_k (if H = H then 0 else _) = 0; rw [if_pos rfl]; rfl
  have q1 := q (s + s / 3)
  have q2 := q (s + s / 3 + 1)
  have r1 := xi_k0 (t 1 (s + s / 3))
  have r2 := xi_k0 (t 1 (s + s / 3 + 1))
  rcases k2 s hs with ⟨e1, e2⟩ | ⟨e1, e2, e3⟩
  · exact ⟨z, by rw [e1, h3]; exact a, by omega, by omega, fun hz => e2 (by rw [h5]; exact d hz)⟩
  · have hsum : xi_k (tz 1 (s + s / 3)) + xi_k (tz 1 (s + s / 3 + 1)) + 1 ≤ xi_k (t 1 (s + s / 3)) + xi_k (t 1 (s + s / 3 + 1)) := by
      rcases e1 with e | e
      · rw [e] at p1 p2; omega
      · rw [e] at p1 p2; omega
    rw [h3, a, zi_inc, zi_dec] at e2
    rcases e2 with e2 | e2
    · refine ⟨z + 1, e2, by omega, by omega, fun hz => e3 ?_⟩
      rw [e2]; exact (zi_lt (by omega) (by omega)).mpr hz
    · refine ⟨z - 1, e2, by omega, by omega, fun hz => e3 ?_⟩
      rw [e2]; exact (zi_lt (by omega) (by omega)).mpr hz
theorem xi_pl_noop {W : Int} {t t1 : xk_St} {s H : Nat} (hW : W ≤ 1100) (h : xi_pl W t) (hs : s < 6) (hp : t 1 H ≠ 0) (hn : H = s + s / 3 ∨ H = s + s / 3 + 1) (h3 : t1 3 = t 3) (h5 : t1 5 = t 5) : (t1 3 s + 1 < 0 → t1 5 s ≠ 0) ∧ t1 3 s + 1 ≤ 400 := by
  obtain ⟨z, a, b, c, d⟩ := h s hs
  have r1 := xi_k0 (t 1 (s + s / 3))
  have r2 := xi_k0 (t 1 (s + s / 3 + 1))
  rw [h3, h5, a, zi_inc]
  refine ⟨fun hz => d ?_, (zi_le (by omega) (by omega)).mpr (by omega)⟩
  have := (zi_lt (by omega) (by omega)).mp hz
  omega
theorem xr_came {g t : xk_St} {F : Nat → Int32} (hR : xr g t) : xr g (va_up t 12 F) := by
  exact xr.mk hR.b0 hR.a0 hR.d0 hR.k0 hR.b1 hR.a1 hR.d1 hR.k1 hR.b2 hR.a2 hR.d2 hR.k2 hR.b3 hR.a3 hR.d3 hR.k3 hR.b4 hR.a4 hR.d4 hR.k4 hR.b5 hR.a5 hR.d5 hR.k5 hR.p0 hR.p1 hR.p2 hR.p3 hR.p4 hR.p5 hR.p6 hR.p7 hR.c0 hR.c1 hR.c2 hR.c3 hR.o0 hR.s0 hR.o1 hR.s1 hR.po0 hR.pb0 hR.mo0 hR.ze0 hR.st0 hR.al0 hR.po1 hR.pb1 hR.mo1 hR.ze1 hR.st1 hR.al1 hR.li0 hR.de0 hR.da0 hR.li1 hR.de1 hR.da1 hR.li2 hR.de2 hR.da2 hR.step hR.age hR.quiet hR.many hR.time hR.night hR.bell hR.h0 hR.h1 hR.h2 hR.h3 hR.h4 hR.h5 hR.h6 hR.h7 hR.nc0 hR.nc1 hR.nc2 hR.i0 hR.j0 hR.m0 hR.n0 hR.i1 hR.j1 hR.m1 hR.n1 hR.i2 hR.j2 hR.m2 hR.n2 hR.i3 hR.j3 hR.m3 hR.n3 hR.i4 hR.j4 hR.m4 hR.n4 hR.i5 hR.j5 hR.m5 hR.n5 hR.nu0 hR.nu1 hR.nu2 hR.nu3 hR.nu4 hR.nu5 hR.jt hR.jk hR.jw hR.yh0 hR.yh1 hR.yh2 hR.yh3 hR.yh4 hR.yh5 hR.yh6 hR.yh7 hR.yc0 hR.yc1 hR.yc2 hR.yo0 hR.yo1
theorem xr_ent_0 {g t : xk_St} {F : Nat → Int32} (hR : xr g t) (hF : ∀ j : Nat, j ≠ 2 → F j = g 25 j) : xr (va_up g 25 F) t := by
  have hF1 := (hF 1 (by decide)).trans hR.c0
  exact xr.mk hR.b0 hR.a0 hR.d0 hR.k0 hR.b1 hR.a1 hR.d1 hR.k1 hR.b2 hR.a2 hR.d2 hR.k2 hR.b3 hR.a3 hR.d3 hR.k3 hR.b4 hR.a4 hR.d4 hR.k4 hR.b5 hR.a5 hR.d5 hR.k5 hR.p0 hR.p1 hR.p2 hR.p3 hR.p4 hR.p5 hR.p6 hR.p7 (by simp [va_up, upd, hR.c0, hF1]) hR.c1 hR.c2 hR.c3 hR.o0 hR.s0 hR.o1 hR.s1 hR.po0 hR.pb0 hR.mo0 hR.ze0 hR.st0 hR.al0 hR.po1 hR.pb1 hR.mo1 hR.ze1 hR.st1 hR.al1 hR.li0 hR.de0 hR.da0 hR.li1 hR.de1 hR.da1 hR.li2 hR.de2 hR.da2 hR.step hR.age hR.quiet hR.many hR.time hR.night hR.bell hR.h0 hR.h1 hR.h2 hR.h3 hR.h4 hR.h5 hR.h6 hR.h7 hR.nc0 hR.nc1 hR.nc2 hR.i0 hR.j0 hR.m0 hR.n0 hR.i1 hR.j1 hR.m1 hR.n1 hR.i2 hR.j2 hR.m2 hR.n2 hR.i3 hR.j3 hR.m3 hR.n3 hR.i4 hR.j4 hR.m4 hR.n4 hR.i5 hR.j5 hR.m5 hR.n5 hR.nu0 hR.nu1 hR.nu2 hR.nu3 hR.nu4 hR.nu5 hR.jt hR.jk hR.jw hR.yh0 hR.yh1 hR.yh2 hR.yh3 hR.yh4 hR.yh5 hR.yh6 hR.yh7 hR.yc0 hR.yc1 hR.yc2 hR.yo0 hR.yo1
theorem xr_ent_1 {g t : xk_St} {F : Nat → Int32} (hR : xr g t) (hF : ∀ j : Nat, j ≠ 2 → F j = g 26 j) : xr (va_up g 26 F) t := by
  have hF1 := (hF 1 (by decide)).trans hR.c1
  exact xr.mk hR.b0 hR.a0 hR.d0 hR.k0 hR.b1 hR.a1 hR.d1 hR.k1 hR.b2 hR.a2 hR.d2 hR.k2 hR.b3 hR.a3 hR.d3 hR.k3 hR.b4 hR.a4 hR.d4 hR.k4 hR.b5 hR.a5 hR.d5 hR.k5 hR.p0 hR.p1 hR.p2 hR.p3 hR.p4 hR.p5 hR.p6 hR.p7 hR.c0 (by simp [va_up, upd, hR.c1, hF1]) hR.c2 hR.c3 hR.o0 hR.s0 hR.o1 hR.s1 hR.po0 hR.pb0 hR.mo0 hR.ze0 hR.st0 hR.al0 hR.po1 hR.pb1 hR.mo1 hR.ze1 hR.st1 hR.al1 hR.li0 hR.de0 hR.da0 hR.li1 hR.de1 hR.da1 hR.li2 hR.de2 hR.da2 hR.step hR.age hR.quiet hR.many hR.time hR.night hR.bell hR.h0 hR.h1 hR.h2 hR.h3 hR.h4 hR.h5 hR.h6 hR.h7 hR.nc0 hR.nc1 hR.nc2 hR.i0 hR.j0 hR.m0 hR.n0 hR.i1 hR.j1 hR.m1 hR.n1 hR.i2 hR.j2 hR.m2 hR.n2 hR.i3 hR.j3 hR.m3 hR.n3 hR.i4 hR.j4 hR.m4 hR.n4 hR.i5 hR.j5 hR.m5 hR.n5 hR.nu0 hR.nu1 hR.nu2 hR.nu3 hR.nu4 hR.nu5 hR.jt hR.jk hR.jw hR.yh0 hR.yh1 hR.yh2 hR.yh3 hR.yh4 hR.yh5 hR.yh6 hR.yh7 hR.yc0 hR.yc1 hR.yc2 hR.yo0 hR.yo1
theorem xr_ent_2 {g t : xk_St} {F : Nat → Int32} (hR : xr g t) (hF : ∀ j : Nat, j ≠ 2 → F j = g 27 j) : xr (va_up g 27 F) t := by
  have hF1 := (hF 1 (by decide)).trans hR.c2
  exact xr.mk hR.b0 hR.a0 hR.d0 hR.k0 hR.b1 hR.a1 hR.d1 hR.k1 hR.b2 hR.a2 hR.d2 hR.k2 hR.b3 hR.a3 hR.d3 hR.k3 hR.b4 hR.a4 hR.d4 hR.k4 hR.b5 hR.a5 hR.d5 hR.k5 hR.p0 hR.p1 hR.p2 hR.p3 hR.p4 hR.p5 hR.p6 hR.p7 hR.c0 hR.c1 (by simp [va_up, upd, hR.c2, hF1]) hR.c3 hR.o0 hR.s0 hR.o1 hR.s1 hR.po0 hR.pb0 hR.mo0 hR.ze0 hR.st0 hR.al0 hR.po1 hR.pb1 hR.mo1 hR.ze1 hR.st1 hR.al1 hR.li0 hR.de0 hR.da0 hR.li1 hR.de1 hR.da1 hR.li2 hR.de2 hR.da2 hR.step hR.age hR.quiet hR.many hR.time hR.night hR.bell hR.h0 hR.h1 hR.h2 hR.h3 hR.h4 hR.h5 hR.h6 hR.h7 hR.nc0 hR.nc1 hR.nc2 hR.i0 hR.j0 hR.m0 hR.n0 hR.i1 hR.j1 hR.m1 hR.n1 hR.i2 hR.j2 hR.m2 hR.n2 hR.i3 hR.j3 hR.m3 hR.n3 hR.i4 hR.j4 hR.m4 hR.n4 hR.i5 hR.j5 hR.m5 hR.n5 hR.nu0 hR.nu1 hR.nu2 hR.nu3 hR.nu4 hR.nu5 hR.jt hR.jk hR.jw hR.yh0 hR.yh1 hR.yh2 hR.yh3 hR.yh4 hR.yh5 hR.yh6 hR.yh7 hR.yc0 hR.yc1 hR.yc2 hR.yo0 hR.yo1
theorem xr_ent_3 {g t : xk_St} {F : Nat → Int32} (hR : xr g t) (hF : ∀ j : Nat, j ≠ 2 → F j = g 28 j) : xr (va_up g 28 F) t := by
  have hF1 := (hF 1 (by decide)).trans hR.c3
  exact xr.mk hR.b0 hR.a0 hR.d0 hR.k0 hR.b1 hR.a1 hR.d1 hR.k1 hR.b2 hR.a2 hR.d2 hR.k2 hR.b3 hR.a3 hR.d3 hR.k3 hR.b4 hR.a4 hR.d4 hR.k4 hR.b5 hR.a5 hR.d5 hR.k5 hR.p0 hR.p1 hR.p2 hR.p3 hR.p4 hR.p5 hR.p6 hR.p7 hR.c0 hR.c1 hR.c2 (by simp [va_up, upd, hR.c3, hF1]) hR.o0 hR.s0 hR.o1 hR.s1 hR.po0 hR.pb0 hR.mo0 hR.ze0 hR.st0 hR.al0 hR.po1 hR.pb1 hR.mo1 hR.ze1 hR.st1 hR.al1 hR.li0 hR.de0 hR.da0 hR.li1 hR.de1 hR.da1 hR.li2 hR.de2 hR.da2 hR.step hR.age hR.quiet hR.many hR.time hR.night hR.bell hR.h0 hR.h1 hR.h2 hR.h3 hR.h4 hR.h5 hR.h6 hR.h7 hR.nc0 hR.nc1 hR.nc2 hR.i0 hR.j0 hR.m0 hR.n0 hR.i1 hR.j1 hR.m1 hR.n1 hR.i2 hR.j2 hR.m2 hR.n2 hR.i3 hR.j3 hR.m3 hR.n3 hR.i4 hR.j4 hR.m4 hR.n4 hR.i5 hR.j5 hR.m5 hR.n5 hR.nu0 hR.nu1 hR.nu2 hR.nu3 hR.nu4 hR.nu5 hR.jt hR.jk hR.jw hR.yh0 hR.yh1 hR.yh2 hR.yh3 hR.yh4 hR.yh5 hR.yh6 hR.yh7 hR.yc0 hR.yc1 hR.yc2 hR.yo0 hR.yo1
theorem sim_dis_0 {g gz t tz : xk_St} {B : Nat} (hR : xr g t) (hB : xk_cnt B t) (hB2 : B < 2147483647) (hU : relzU_disturb_0 g gz) (hM : relzM_disturb_0 t tz) : xr gz tz ∧ xk_cnt (B + 1) tz ∧ tz 1 = t 1 ∧ tz 3 = t 3 ∧ (∀ j : Nat, t 5 j ≠ 0 → tz 5 j ≠ 0) ∧ tz 5 0 ≠ 0 := by
  obtain ⟨g3, hU, rfl⟩ := hU
  obtain ⟨t3, hM, rfl⟩ := hM
  rw [hR.d0] at hU
  by_cases c1 : t 5 0 = 0
  · rw [if_pos c1] at hU hM
    obtain ⟨g1, h1, g2, h2, rfl⟩ := hU
    obtain ⟨t1, h3, t2, h4, rfl⟩ := hM
    have hR1 : xr g1 t1 := by
      subst h1; subst h3
      exact xr.mk hR.b0 hR.a0 (by simp [va_up, upd, hR.d0]) hR.k0 hR.b1 hR.a1 hR.d1 hR.k1 hR.b2 hR.a2 hR.d2 hR.k2 hR.b3 hR.a3 hR.d3 hR.k3 hR.b4 hR.a4 hR.d4 hR.k4 hR.b5 hR.a5 hR.d5 hR.k5 hR.p0 hR.p1 hR.p2 hR.p3 hR.p4 hR.p5 hR.p6 hR.p7 hR.c0 hR.c1 hR.c2 hR.c3 hR.o0 hR.s0 hR.o1 hR.s1 hR.po0 hR.pb0 hR.mo0 hR.ze0 hR.st0 hR.al0 hR.po1 hR.pb1 hR.mo1 hR.ze1 hR.st1 hR.al1 hR.li0 hR.de0 hR.da0 hR.li1 hR.de1 hR.da1 hR.li2 hR.de2 hR.da2 hR.step hR.age hR.quiet hR.many hR.time hR.night hR.bell hR.h0 hR.h1 hR.h2 hR.h3 hR.h4 hR.h5 hR.h6 hR.h7 hR.nc0 hR.nc1 hR.nc2 hR.i0 hR.j0 hR.m0 hR.n0 hR.i1 hR.j1 hR.m1 hR.n1 hR.i2 hR.j2 hR.m2 hR.n2 hR.i3 hR.j3 hR.m3 hR.n3 hR.i4 hR.j4 hR.m4 hR.n4 hR.i5 hR.j5 hR.m5 hR.n5 hR.nu0 hR.nu1 hR.nu2 hR.nu3 hR.nu4 hR.nu5 hR.jt hR.jk hR.jw hR.yh0 hR.yh1 hR.yh2 hR.yh3 hR.yh4 hR.yh5 hR.yh6 hR.yh7 hR.yc0 hR.yc1 hR.yc2 hR.yo0 hR.yo1
    have hB1 : xk_cnt B t1 := by subst h3; exact xk_cnt_k (by decide) hB
    rw [hR1.nu0] at h2
    subst h2
    refine ⟨xr_note hR1 hB1 (by omega) h4, xr_nc hB1 h4, ?_, ?_, fun j hj => ?_, ?_⟩
    · funext j; rw [xr_nf h4 1 j (by decide) (by decide) (by decide) (by decide)]; subst h3; rfl
    · funext j; rw [xr_nf h4 3 j (by decide) (by decide) (by decide) (by decide)]; subst h3; rfl
    · rw [xr_nf h4 5 j (by decide) (by decide) (by decide) (by decide)]; subst h3
      by_cases q : j = 0
      · subst q; simp [va_up, upd]
      · simp [va_up, upd, q, hj]
    · rw [xr_nf h4 5 0 (by decide) (by decide) (by decide) (by decide)]; subst h3; simp [va_up, upd]
  · rw [if_neg c1] at hU hM
    subst hU; subst hM
    exact ⟨hR, xk_cnt_le hB (by omega), rfl, rfl, fun _ h => h, c1⟩
theorem sim_mis_0 {g gz t tz : xk_St} {B : Nat} (hR : xr g t) (hB : xk_cnt B t) (hB2 : B < 2147483647) (hU : relzU_disturbIfMiscounted_0 g gz) (hM : if ((t 3) 0) < 0 then (∃ (g2 : xk_St), relzM_disturb_0 t g2 ∧ (tz = g2)) else (if ((t 3) 0) ≤ 400 then (tz = t) else (∃ (g3 : xk_St), relzM_disturb_0 t g3 ∧ (tz = g3)))) : xr gz tz ∧ xk_cnt (B + 1) tz ∧ tz 1 = t 1 ∧ tz 3 = t 3 ∧ (∀ j : Nat, t 5 j ≠ 0 → tz 5 j ≠ 0) ∧ (tz 3 0 < 0 → tz 5 0 ≠ 0) := by
  obtain ⟨g3, hU, rfl⟩ := hU
  rw [hR.b0] at hU
  by_cases c1 : t 3 0 < 0
  · rw [if_pos c1] at hU hM
    obtain ⟨g1, h1, rfl⟩ := hU
    obtain ⟨t1, h2, rfl⟩ := hM
    obtain ⟨a, b, c, d, e, f⟩ := sim_dis_0 hR hB hB2 h1 h2
    exact ⟨a, b, c, d, e, fun _ => f⟩
  · rw [if_neg c1] at hU hM
    by_cases c2 : t 3 0 ≤ 400
    · rw [if_pos c2] at hU hM
      subst hU; subst hM
      exact ⟨hR, xk_cnt_le hB (by omega), rfl, rfl, fun _ h => h, fun h => absurd h c1⟩
    · rw [if_neg c2] at hU hM
      obtain ⟨g1, h1, rfl⟩ := hU
      obtain ⟨t1, h2, rfl⟩ := hM
      obtain ⟨a, b, c, d, e, f⟩ := sim_dis_0 hR hB hB2 h1 h2
      exact ⟨a, b, c, d, e, fun _ => f⟩
theorem xm_noop_0 {g : xk_St} (h1 : g 19 1 < 0 → g 19 3 ≠ 0) (h2 : g 19 1 ≤ 400) (gz : xk_St) : relzU_disturbIfMiscounted_0 g gz ↔ gz = g := by
  constructor
  · intro h
    obtain ⟨g3, hU, rfl⟩ := h
    by_cases c1 : g 19 1 < 0
    · rw [if_pos c1] at hU
      obtain ⟨g1, ⟨g4, h3, rfl⟩, rfl⟩ := hU
      rw [if_neg (h1 c1)] at h3
      exact h3
    · rw [if_neg c1, if_pos h2] at hU
      exact hU
  · intro h
    refine ⟨gz, ?_, rfl⟩
    by_cases c1 : g 19 1 < 0
    · rw [if_pos c1]
      exact ⟨gz, ⟨gz, by rw [if_neg (h1 c1)]; exact h, rfl⟩, rfl⟩
    · rw [if_neg c1, if_pos h2]
      exact h
theorem sim_mv_0_ip {g g1 gz t t1 t2 tz : xk_St} {x1 x2 K : Int32} {B : Nat} (hR : xr g t) (hB : xk_cnt B t) (hB2 : B < 2147483647) (hK : K = 1) (h1 : g1 = va_up g 19 (upd (upd (upd (g 19) 1 (qzS_countIn_a1 (g 19 1))) 5 (qzS_countIn_a5 (g 19 5) 1)) 7 (qzS_countIn_a7 (g 19 7) 1))) (h2 : relzU_disturbIfMiscounted_0 g1 gz)
    (m1 : if ((t 6) 0) = 0 then (x1 = (t 7) 0) else (x1 = ((t 7) 0) + 1)) (m2 : t1 = va_up t 7 (upd (t 7) 0 x1)) (m3 : x2 = (t1 10) 0) (m4 : t2 = va_up t1 10 (upd (t1 10) 0 x2)) (m5 : relzM_change_0 t2 K tz) : xr gz tz ∧ xk_cnt (B + 1) tz ∧ xm_mv 0 t tz := by
  obtain ⟨t4, h4, t5, m6, rfl⟩ := m5
  have hx : g 19 4 = 0 ∨ g 19 5 + 1 = x1 := by
    rcases hR.i0 with q | q
    · exact Or.inl q
    · by_cases q2 : t 6 0 = 0
      · exact Or.inl (hR.k0.trans q2)
      · rw [if_neg (q2)] at m1
        exact Or.inr (by rw [q, m1])
  have hy : x2 = t 10 0 := by rw [m3, m2]; rfl
  clear m1 m3
  have hK2 := zi_neg (t 3 0)
  have hR1 : xr g1 t4 := by
    subst h1; subst m2; subst m4; subst h4; subst hK; subst hy
    exact xr.mk (by simp [va_up, upd, hR.b0, qzS_countIn_a1, qzS_countIn_a5, qzS_countIn_a7, hK2, hx]) hR.a0 hR.d0 hR.k0 hR.b1 hR.a1 hR.d1 hR.k1 hR.b2 hR.a2 hR.d2 hR.k2 hR.b3 hR.a3 hR.d3 hR.k3 hR.b4 hR.a4 hR.d4 hR.k4 hR.b5 hR.a5 hR.d5 hR.k5 hR.p0 hR.p1 hR.p2 hR.p3 hR.p4 hR.p5 hR.p6 hR.p7 hR.c0 hR.c1 hR.c2 hR.c3 hR.o0 hR.s0 hR.o1 hR.s1 hR.po0 hR.pb0 hR.mo0 hR.ze0 hR.st0 hR.al0 hR.po1 hR.pb1 hR.mo1 hR.ze1 hR.st1 hR.al1 hR.li0 hR.de0 hR.da0 hR.li1 hR.de1 hR.da1 hR.li2 hR.de2 hR.da2 hR.step hR.age hR.quiet hR.many hR.time hR.night hR.bell hR.h0 hR.h1 hR.h2 hR.h3 hR.h4 hR.h5 hR.h6 hR.h7 hR.nc0 hR.nc1 hR.nc2 (by simp [va_up, upd, hR.i0, qzS_countIn_a1, qzS_countIn_a5, qzS_countIn_a7, hK2, hx]) (by simp [va_up, upd, hR.j0, qzS_countIn_a1, qzS_countIn_a5, qzS_countIn_a7, hK2, hx]) (by simp [va_up, upd, hR.m0, qzS_countIn_a1, qzS_countIn_a5, qzS_countIn_a7, hK2, hx]) (by simp [va_up, upd, hR.n0, qzS_countIn_a1, qzS_countIn_a5, qzS_countIn_a7, hK2, hx]) hR.i1 hR.j1 hR.m1 hR.n1 hR.i2 hR.j2 hR.m2 hR.n2 hR.i3 hR.j3 hR.m3 hR.n3 hR.i4 hR.j4 hR.m4 hR.n4 hR.i5 hR.j5 hR.m5 hR.n5 hR.nu0 hR.nu1 hR.nu2 hR.nu3 hR.nu4 hR.nu5 hR.jt hR.jk hR.jw hR.yh0 hR.yh1 hR.yh2 hR.yh3 hR.yh4 hR.yh5 hR.yh6 hR.yh7 hR.yc0 hR.yc1 hR.yc2 hR.yo0 hR.yo1
  have hB1 : xk_cnt B t4 := by
    subst m2; subst m4; subst h4; exact xk_cnt_k (by decide) (xk_cnt_k (by decide) (xk_cnt_k (by decide) hB))
  obtain ⟨a, b, c, d, e, f⟩ := sim_mis_0 hR1 hB1 hB2 h2 m6
  have e5 : t4 5 = t 5 := by subst m2; subst m4; subst h4; rfl
  have e1 : t4 1 = t 1 := by subst m2; subst m4; subst h4; rfl
  have e3 : t4 3 = upd (t 3) 0 (t 3 0 + K) := by subst m2; subst m4; subst h4; rfl
  rw [e5] at e
  refine ⟨a, b, c.trans e1, fun j hj => ?_, ?_, e, f⟩
  · rw [d, e3]; exact if_neg hj
  · have q : tz 3 0 = t 3 0 + K := by rw [d, e3]; exact if_pos rfl
    rw [hK] at q
    exact Or.inl q
theorem sim_mv_0_im {g g1 gz t t1 t2 tz : xk_St} {x1 x2 K : Int32} {B : Nat} (hR : xr g t) (hB : xk_cnt B t) (hB2 : B < 2147483647) (hK : K = 1) (h1 : g1 = va_up g 19 (upd (upd (upd (g 19) 1 (qzS_countIn_a1 (g 19 1))) 5 (qzS_countIn_a5 (g 19 5) (-1))) 7 (qzS_countIn_a7 (g 19 7) (-1)))) (h2 : relzU_disturbIfMiscounted_0 g1 gz)
    (m1 : x1 = (t 8) 0) (m2 : t1 = va_up t 8 (upd (t 8) 0 x1)) (m3 : if ((t1 6) 0) = 0 then (x2 = (t1 9) 0) else (x2 = ((t1 9) 0) + 1)) (m4 : t2 = va_up t1 9 (upd (t1 9) 0 x2)) (m5 : relzM_change_0 t2 K tz) : xr gz tz ∧ xk_cnt (B + 1) tz ∧ xm_mv 0 t tz := by
  obtain ⟨t4, h4, t5, m6, rfl⟩ := m5
  have hx : g 19 4 = 0 ∨ g 19 7 + 1 = x2 := by
    rcases hR.m0 with q | q
    · exact Or.inl q
    · by_cases q2 : t 6 0 = 0
      · exact Or.inl (hR.k0.trans q2)
      · rw [if_neg (by rw [m2]; exact q2)] at m3
        exact Or.inr (by rw [q, m3]; rw [m2]; rfl)
  have hy : x1 = t 8 0 := by exact m1
  clear m1 m3
  have hK2 := zi_neg (t 3 0)
  have hR1 : xr g1 t4 := by
    subst h1; subst m2; subst m4; subst h4; subst hK; subst hy
    exact xr.mk (by simp [va_up, upd, hR.b0, qzS_countIn_a1, qzS_countIn_a5, qzS_countIn_a7, hK2, hx]) hR.a0 hR.d0 hR.k0 hR.b1 hR.a1 hR.d1 hR.k1 hR.b2 hR.a2 hR.d2 hR.k2 hR.b3 hR.a3 hR.d3 hR.k3 hR.b4 hR.a4 hR.d4 hR.k4 hR.b5 hR.a5 hR.d5 hR.k5 hR.p0 hR.p1 hR.p2 hR.p3 hR.p4 hR.p5 hR.p6 hR.p7 hR.c0 hR.c1 hR.c2 hR.c3 hR.o0 hR.s0 hR.o1 hR.s1 hR.po0 hR.pb0 hR.mo0 hR.ze0 hR.st0 hR.al0 hR.po1 hR.pb1 hR.mo1 hR.ze1 hR.st1 hR.al1 hR.li0 hR.de0 hR.da0 hR.li1 hR.de1 hR.da1 hR.li2 hR.de2 hR.da2 hR.step hR.age hR.quiet hR.many hR.time hR.night hR.bell hR.h0 hR.h1 hR.h2 hR.h3 hR.h4 hR.h5 hR.h6 hR.h7 hR.nc0 hR.nc1 hR.nc2 (by simp [va_up, upd, hR.i0, qzS_countIn_a1, qzS_countIn_a5, qzS_countIn_a7, hK2, hx]) (by simp [va_up, upd, hR.j0, qzS_countIn_a1, qzS_countIn_a5, qzS_countIn_a7, hK2, hx]) (by simp [va_up, upd, hR.m0, qzS_countIn_a1, qzS_countIn_a5, qzS_countIn_a7, hK2, hx]) (by simp [va_up, upd, hR.n0, qzS_countIn_a1, qzS_countIn_a5, qzS_countIn_a7, hK2, hx]) hR.i1 hR.j1 hR.m1 hR.n1 hR.i2 hR.j2 hR.m2 hR.n2 hR.i3 hR.j3 hR.m3 hR.n3 hR.i4 hR.j4 hR.m4 hR.n4 hR.i5 hR.j5 hR.m5 hR.n5 hR.nu0 hR.nu1 hR.nu2 hR.nu3 hR.nu4 hR.nu5 hR.jt hR.jk hR.jw hR.yh0 hR.yh1 hR.yh2 hR.yh3 hR.yh4 hR.yh5 hR.yh6 hR.yh7 hR.yc0 hR.yc1 hR.yc2 hR.yo0 hR.yo1
  have hB1 : xk_cnt B t4 := by
    subst m2; subst m4; subst h4; exact xk_cnt_k (by decide) (xk_cnt_k (by decide) (xk_cnt_k (by decide) hB))
  obtain ⟨a, b, c, d, e, f⟩ := sim_mis_0 hR1 hB1 hB2 h2 m6
  have e5 : t4 5 = t 5 := by subst m2; subst m4; subst h4; rfl
  have e1 : t4 1 = t 1 := by subst m2; subst m4; subst h4; rfl
  have e3 : t4 3 = upd (t 3) 0 (t 3 0 + K) := by subst m2; subst m4; subst h4; rfl
  rw [e5] at e
  refine ⟨a, b, c.trans e1, fun j hj => ?_, ?_, e, f⟩
  · rw [d, e3]; exact if_neg hj
  · have q : tz 3 0 = t 3 0 + K := by rw [d, e3]; exact if_pos rfl
    rw [hK] at q
    exact Or.inl q
theorem sim_mv_0_op {g g1 gz t t1 t2 tz : xk_St} {x1 x2 K : Int32} {B : Nat} (hR : xr g t) (hB : xk_cnt B t) (hB2 : B < 2147483647) (hK : K = -1) (h1 : g1 = va_up g 19 (upd (upd (upd (g 19) 1 (qzS_countOut_a1 (g 19 1))) 6 (qzS_countOut_a6 (g 19 6) 1)) 8 (qzS_countOut_a8 (g 19 8) 1))) (h2 : relzU_disturbIfMiscounted_0 g1 gz)
    (m1 : if ((t 6) 0) = 0 then (x1 = (t 8) 0) else (x1 = ((t 8) 0) + 1)) (m2 : t1 = va_up t 8 (upd (t 8) 0 x1)) (m3 : x2 = (t1 9) 0) (m4 : t2 = va_up t1 9 (upd (t1 9) 0 x2)) (m5 : relzM_change_0 t2 K tz) : xr gz tz ∧ xk_cnt (B + 1) tz ∧ xm_mv 0 t tz := by
  obtain ⟨t4, h4, t5, m6, rfl⟩ := m5
  have hx : g 19 4 = 0 ∨ g 19 6 + 1 = x1 := by
    rcases hR.j0 with q | q
    · exact Or.inl q
    · by_cases q2 : t 6 0 = 0
      · exact Or.inl (hR.k0.trans q2)
      · rw [if_neg (q2)] at m1
        exact Or.inr (by rw [q, m1])
  have hy : x2 = t 9 0 := by rw [m3, m2]; rfl
  clear m1 m3
  have hK2 := zi_neg (t 3 0)
  have hR1 : xr g1 t4 := by
    subst h1; subst m2; subst m4; subst h4; subst hK; subst hy
    exact xr.mk (by simp [va_up, upd, hR.b0, qzS_countOut_a1, qzS_countOut_a6, qzS_countOut_a8, hK2, hx]) hR.a0 hR.d0 hR.k0 hR.b1 hR.a1 hR.d1 hR.k1 hR.b2 hR.a2 hR.d2 hR.k2 hR.b3 hR.a3 hR.d3 hR.k3 hR.b4 hR.a4 hR.d4 hR.k4 hR.b5 hR.a5 hR.d5 hR.k5 hR.p0 hR.p1 hR.p2 hR.p3 hR.p4 hR.p5 hR.p6 hR.p7 hR.c0 hR.c1 hR.c2 hR.c3 hR.o0 hR.s0 hR.o1 hR.s1 hR.po0 hR.pb0 hR.mo0 hR.ze0 hR.st0 hR.al0 hR.po1 hR.pb1 hR.mo1 hR.ze1 hR.st1 hR.al1 hR.li0 hR.de0 hR.da0 hR.li1 hR.de1 hR.da1 hR.li2 hR.de2 hR.da2 hR.step hR.age hR.quiet hR.many hR.time hR.night hR.bell hR.h0 hR.h1 hR.h2 hR.h3 hR.h4 hR.h5 hR.h6 hR.h7 hR.nc0 hR.nc1 hR.nc2 (by simp [va_up, upd, hR.i0, qzS_countOut_a1, qzS_countOut_a6, qzS_countOut_a8, hK2, hx]) (by simp [va_up, upd, hR.j0, qzS_countOut_a1, qzS_countOut_a6, qzS_countOut_a8, hK2, hx]) (by simp [va_up, upd, hR.m0, qzS_countOut_a1, qzS_countOut_a6, qzS_countOut_a8, hK2, hx]) (by simp [va_up, upd, hR.n0, qzS_countOut_a1, qzS_countOut_a6, qzS_countOut_a8, hK2, hx]) hR.i1 hR.j1 hR.m1 hR.n1 hR.i2 hR.j2 hR.m2 hR.n2 hR.i3 hR.j3 hR.m3 hR.n3 hR.i4 hR.j4 hR.m4 hR.n4 hR.i5 hR.j5 hR.m5 hR.n5 hR.nu0 hR.nu1 hR.nu2 hR.nu3 hR.nu4 hR.nu5 hR.jt hR.jk hR.jw hR.yh0 hR.yh1 hR.yh2 hR.yh3 hR.yh4 hR.yh5 hR.yh6 hR.yh7 hR.yc0 hR.yc1 hR.yc2 hR.yo0 hR.yo1
  have hB1 : xk_cnt B t4 := by
    subst m2; subst m4; subst h4; exact xk_cnt_k (by decide) (xk_cnt_k (by decide) (xk_cnt_k (by decide) hB))
  obtain ⟨a, b, c, d, e, f⟩ := sim_mis_0 hR1 hB1 hB2 h2 m6
  have e5 : t4 5 = t 5 := by subst m2; subst m4; subst h4; rfl
  have e1 : t4 1 = t 1 := by subst m2; subst m4; subst h4; rfl
  have e3 : t4 3 = upd (t 3) 0 (t 3 0 + K) := by subst m2; subst m4; subst h4; rfl
  rw [e5] at e
  refine ⟨a, b, c.trans e1, fun j hj => ?_, ?_, e, f⟩
  · rw [d, e3]; exact if_neg hj
  · have q : tz 3 0 = t 3 0 + K := by rw [d, e3]; exact if_pos rfl
    rw [hK] at q
    exact Or.inr (q.trans hK2)
theorem sim_mv_0_om {g g1 gz t t1 t2 tz : xk_St} {x1 x2 K : Int32} {B : Nat} (hR : xr g t) (hB : xk_cnt B t) (hB2 : B < 2147483647) (hK : K = -1) (h1 : g1 = va_up g 19 (upd (upd (upd (g 19) 1 (qzS_countOut_a1 (g 19 1))) 6 (qzS_countOut_a6 (g 19 6) (-1))) 8 (qzS_countOut_a8 (g 19 8) (-1)))) (h2 : relzU_disturbIfMiscounted_0 g1 gz)
    (m1 : x1 = (t 7) 0) (m2 : t1 = va_up t 7 (upd (t 7) 0 x1)) (m3 : if ((t1 6) 0) = 0 then (x2 = (t1 10) 0) else (x2 = ((t1 10) 0) + 1)) (m4 : t2 = va_up t1 10 (upd (t1 10) 0 x2)) (m5 : relzM_change_0 t2 K tz) : xr gz tz ∧ xk_cnt (B + 1) tz ∧ xm_mv 0 t tz := by
  obtain ⟨t4, h4, t5, m6, rfl⟩ := m5
  have hx : g 19 4 = 0 ∨ g 19 8 + 1 = x2 := by
    rcases hR.n0 with q | q
    · exact Or.inl q
    · by_cases q2 : t 6 0 = 0
      · exact Or.inl (hR.k0.trans q2)
      · rw [if_neg (by rw [m2]; exact q2)] at m3
        exact Or.inr (by rw [q, m3]; rw [m2]; rfl)
  have hy : x1 = t 7 0 := by exact m1
  clear m1 m3
  have hK2 := zi_neg (t 3 0)
  have hR1 : xr g1 t4 := by
    subst h1; subst m2; subst m4; subst h4; subst hK; subst hy
    exact xr.mk (by simp [va_up, upd, hR.b0, qzS_countOut_a1, qzS_countOut_a6, qzS_countOut_a8, hK2, hx]) hR.a0 hR.d0 hR.k0 hR.b1 hR.a1 hR.d1 hR.k1 hR.b2 hR.a2 hR.d2 hR.k2 hR.b3 hR.a3 hR.d3 hR.k3 hR.b4 hR.a4 hR.d4 hR.k4 hR.b5 hR.a5 hR.d5 hR.k5 hR.p0 hR.p1 hR.p2 hR.p3 hR.p4 hR.p5 hR.p6 hR.p7 hR.c0 hR.c1 hR.c2 hR.c3 hR.o0 hR.s0 hR.o1 hR.s1 hR.po0 hR.pb0 hR.mo0 hR.ze0 hR.st0 hR.al0 hR.po1 hR.pb1 hR.mo1 hR.ze1 hR.st1 hR.al1 hR.li0 hR.de0 hR.da0 hR.li1 hR.de1 hR.da1 hR.li2 hR.de2 hR.da2 hR.step hR.age hR.quiet hR.many hR.time hR.night hR.bell hR.h0 hR.h1 hR.h2 hR.h3 hR.h4 hR.h5 hR.h6 hR.h7 hR.nc0 hR.nc1 hR.nc2 (by simp [va_up, upd, hR.i0, qzS_countOut_a1, qzS_countOut_a6, qzS_countOut_a8, hK2, hx]) (by simp [va_up, upd, hR.j0, qzS_countOut_a1, qzS_countOut_a6, qzS_countOut_a8, hK2, hx]) (by simp [va_up, upd, hR.m0, qzS_countOut_a1, qzS_countOut_a6, qzS_countOut_a8, hK2, hx]) (by simp [va_up, upd, hR.n0, qzS_countOut_a1, qzS_countOut_a6, qzS_countOut_a8, hK2, hx]) hR.i1 hR.j1 hR.m1 hR.n1 hR.i2 hR.j2 hR.m2 hR.n2 hR.i3 hR.j3 hR.m3 hR.n3 hR.i4 hR.j4 hR.m4 hR.n4 hR.i5 hR.j5 hR.m5 hR.n5 hR.nu0 hR.nu1 hR.nu2 hR.nu3 hR.nu4 hR.nu5 hR.jt hR.jk hR.jw hR.yh0 hR.yh1 hR.yh2 hR.yh3 hR.yh4 hR.yh5 hR.yh6 hR.yh7 hR.yc0 hR.yc1 hR.yc2 hR.yo0 hR.yo1
  have hB1 : xk_cnt B t4 := by
    subst m2; subst m4; subst h4; exact xk_cnt_k (by decide) (xk_cnt_k (by decide) (xk_cnt_k (by decide) hB))
  obtain ⟨a, b, c, d, e, f⟩ := sim_mis_0 hR1 hB1 hB2 h2 m6
  have e5 : t4 5 = t 5 := by subst m2; subst m4; subst h4; rfl
  have e1 : t4 1 = t 1 := by subst m2; subst m4; subst h4; rfl
  have e3 : t4 3 = upd (t 3) 0 (t 3 0 + K) := by subst m2; subst m4; subst h4; rfl
  rw [e5] at e
  refine ⟨a, b, c.trans e1, fun j hj => ?_, ?_, e, f⟩
  · rw [d, e3]; exact if_neg hj
  · have q : tz 3 0 = t 3 0 + K := by rw [d, e3]; exact if_pos rfl
    rw [hK] at q
    exact Or.inr (q.trans hK2)
theorem sim_dis_1 {g gz t tz : xk_St} {B : Nat} (hR : xr g t) (hB : xk_cnt B t) (hB2 : B < 2147483647) (hU : relzU_disturb_1 g gz) (hM : relzM_disturb_1 t tz) : xr gz tz ∧ xk_cnt (B + 1) tz ∧ tz 1 = t 1 ∧ tz 3 = t 3 ∧ (∀ j : Nat, t 5 j ≠ 0 → tz 5 j ≠ 0) ∧ tz 5 1 ≠ 0 := by
  obtain ⟨g3, hU, rfl⟩ := hU
  obtain ⟨t3, hM, rfl⟩ := hM
  rw [hR.d1] at hU
  by_cases c1 : t 5 1 = 0
  · rw [if_pos c1] at hU hM
    obtain ⟨g1, h1, g2, h2, rfl⟩ := hU
    obtain ⟨t1, h3, t2, h4, rfl⟩ := hM
    have hR1 : xr g1 t1 := by
      subst h1; subst h3
      exact xr.mk hR.b0 hR.a0 hR.d0 hR.k0 hR.b1 hR.a1 (by simp [va_up, upd, hR.d1]) hR.k1 hR.b2 hR.a2 hR.d2 hR.k2 hR.b3 hR.a3 hR.d3 hR.k3 hR.b4 hR.a4 hR.d4 hR.k4 hR.b5 hR.a5 hR.d5 hR.k5 hR.p0 hR.p1 hR.p2 hR.p3 hR.p4 hR.p5 hR.p6 hR.p7 hR.c0 hR.c1 hR.c2 hR.c3 hR.o0 hR.s0 hR.o1 hR.s1 hR.po0 hR.pb0 hR.mo0 hR.ze0 hR.st0 hR.al0 hR.po1 hR.pb1 hR.mo1 hR.ze1 hR.st1 hR.al1 hR.li0 hR.de0 hR.da0 hR.li1 hR.de1 hR.da1 hR.li2 hR.de2 hR.da2 hR.step hR.age hR.quiet hR.many hR.time hR.night hR.bell hR.h0 hR.h1 hR.h2 hR.h3 hR.h4 hR.h5 hR.h6 hR.h7 hR.nc0 hR.nc1 hR.nc2 hR.i0 hR.j0 hR.m0 hR.n0 hR.i1 hR.j1 hR.m1 hR.n1 hR.i2 hR.j2 hR.m2 hR.n2 hR.i3 hR.j3 hR.m3 hR.n3 hR.i4 hR.j4 hR.m4 hR.n4 hR.i5 hR.j5 hR.m5 hR.n5 hR.nu0 hR.nu1 hR.nu2 hR.nu3 hR.nu4 hR.nu5 hR.jt hR.jk hR.jw hR.yh0 hR.yh1 hR.yh2 hR.yh3 hR.yh4 hR.yh5 hR.yh6 hR.yh7 hR.yc0 hR.yc1 hR.yc2 hR.yo0 hR.yo1
    have hB1 : xk_cnt B t1 := by subst h3; exact xk_cnt_k (by decide) hB
    rw [hR1.nu1] at h2
    subst h2
    refine ⟨xr_note hR1 hB1 (by omega) h4, xr_nc hB1 h4, ?_, ?_, fun j hj => ?_, ?_⟩
    · funext j; rw [xr_nf h4 1 j (by decide) (by decide) (by decide) (by decide)]; subst h3; rfl
    · funext j; rw [xr_nf h4 3 j (by decide) (by decide) (by decide) (by decide)]; subst h3; rfl
    · rw [xr_nf h4 5 j (by decide) (by decide) (by decide) (by decide)]; subst h3
      by_cases q : j = 1
      · subst q; simp [va_up, upd]
      · simp [va_up, upd, q, hj]
    · rw [xr_nf h4 5 1 (by decide) (by decide) (by decide) (by decide)]; subst h3; simp [va_up, upd]
  · rw [if_neg c1] at hU hM
    subst hU; subst hM
    exact ⟨hR, xk_cnt_le hB (by omega), rfl, rfl, fun _ h => h, c1⟩
theorem sim_mis_1 {g gz t tz : xk_St} {B : Nat} (hR : xr g t) (hB : xk_cnt B t) (hB2 : B < 2147483647) (hU : relzU_disturbIfMiscounted_1 g gz) (hM : if ((t 3) 1) < 0 then (∃ (g2 : xk_St), relzM_disturb_1 t g2 ∧ (tz = g2)) else (if ((t 3) 1) ≤ 400 then (tz = t) else (∃ (g3 : xk_St), relzM_disturb_1 t g3 ∧ (tz = g3)))) : xr gz tz ∧ xk_cnt (B + 1) tz ∧ tz 1 = t 1 ∧ tz 3 = t 3 ∧ (∀ j : Nat, t 5 j ≠ 0 → tz 5 j ≠ 0) ∧ (tz 3 1 < 0 → tz 5 1 ≠ 0) := by
  obtain ⟨g3, hU, rfl⟩ := hU
  rw [hR.b1] at hU
  by_cases c1 : t 3 1 < 0
  · rw [if_pos c1] at hU hM
    obtain ⟨g1, h1, rfl⟩ := hU
    obtain ⟨t1, h2, rfl⟩ := hM
    obtain ⟨a, b, c, d, e, f⟩ := sim_dis_1 hR hB hB2 h1 h2
    exact ⟨a, b, c, d, e, fun _ => f⟩
  · rw [if_neg c1] at hU hM
    by_cases c2 : t 3 1 ≤ 400
    · rw [if_pos c2] at hU hM
      subst hU; subst hM
      exact ⟨hR, xk_cnt_le hB (by omega), rfl, rfl, fun _ h => h, fun h => absurd h c1⟩
    · rw [if_neg c2] at hU hM
      obtain ⟨g1, h1, rfl⟩ := hU
      obtain ⟨t1, h2, rfl⟩ := hM
      obtain ⟨a, b, c, d, e, f⟩ := sim_dis_1 hR hB hB2 h1 h2
      exact ⟨a, b, c, d, e, fun _ => f⟩
theorem xm_noop_1 {g : xk_St} (h1 : g 20 1 < 0 → g 20 3 ≠ 0) (h2 : g 20 1 ≤ 400) (gz : xk_St) : relzU_disturbIfMiscounted_1 g gz ↔ gz = g := by
  constructor
  · intro h
    obtain ⟨g3, hU, rfl⟩ := h
    by_cases c1 : g 20 1 < 0
    · rw [if_pos c1] at hU
      obtain ⟨g1, ⟨g4, h3, rfl⟩, rfl⟩ := hU
      rw [if_neg (h1 c1)] at h3
      exact h3
    · rw [if_neg c1, if_pos h2] at hU
      exact hU
  · intro h
    refine ⟨gz, ?_, rfl⟩
    by_cases c1 : g 20 1 < 0
    · rw [if_pos c1]
      exact ⟨gz, ⟨gz, by rw [if_neg (h1 c1)]; exact h, rfl⟩, rfl⟩
    · rw [if_neg c1, if_pos h2]
      exact h
theorem xm_dcom_1 {g gz : xk_St} (F : Nat → Int32) (h : relzU_disturb_1 g gz) : relzU_disturb_1 (va_up g 19 F) (va_up gz 19 F) := by
  obtain ⟨g3, hU, rfl⟩ := h
  refine ⟨_, ?_, rfl⟩
  rw [xv_ne (by decide)]
  by_cases c1 : g 20 3 = 0
  · rw [if_pos c1] at hU ⊢
    obtain ⟨g1, rfl, g2, rfl, rfl⟩ := hU
    refine ⟨_, rfl, _, ?_, rfl⟩
    funext c
    by_cases q : c = 19
    · subst q; simp [va_up]
    · simp [va_up, q]
  · rw [if_neg c1] at hU ⊢
    rw [hU]
theorem xm_com_1 {g gz : xk_St} (F : Nat → Int32) (h : relzU_disturbIfMiscounted_1 g gz) : relzU_disturbIfMiscounted_1 (va_up g 19 F) (va_up gz 19 F) := by
  obtain ⟨g3, hU, rfl⟩ := h
  refine ⟨_, ?_, rfl⟩
  rw [xv_ne (by decide)]
  by_cases c1 : g 20 1 < 0
  · rw [if_pos c1] at hU ⊢
    obtain ⟨g1, h1, rfl⟩ := hU
    exact ⟨_, xm_dcom_1 F h1, rfl⟩
  · rw [if_neg c1] at hU ⊢
    by_cases c2 : g 20 1 ≤ 400
    · rw [if_pos c2] at hU ⊢
      rw [hU]
    · rw [if_neg c2] at hU ⊢
      obtain ⟨g1, h1, rfl⟩ := hU
      exact ⟨_, xm_dcom_1 F h1, rfl⟩
theorem sim_mv_1_ip {g g1 gz t t1 t2 tz : xk_St} {x1 x2 K : Int32} {B : Nat} (hR : xr g t) (hB : xk_cnt B t) (hB2 : B < 2147483647) (hK : K = 1) (h1 : g1 = va_up g 20 (upd (upd (upd (g 20) 1 (qzS_countIn_a1 (g 20 1))) 5 (qzS_countIn_a5 (g 20 5) 1)) 7 (qzS_countIn_a7 (g 20 7) 1))) (h2 : relzU_disturbIfMiscounted_1 g1 gz)
    (m1 : if ((t 6) 1) = 0 then (x1 = (t 7) 1) else (x1 = ((t 7) 1) + 1)) (m2 : t1 = va_up t 7 (upd (t 7) 1 x1)) (m3 : x2 = (t1 10) 1) (m4 : t2 = va_up t1 10 (upd (t1 10) 1 x2)) (m5 : relzM_change_1 t2 K tz) : xr gz tz ∧ xk_cnt (B + 1) tz ∧ xm_mv 1 t tz := by
  obtain ⟨t4, h4, t5, m6, rfl⟩ := m5
  have hx : g 20 4 = 0 ∨ g 20 5 + 1 = x1 := by
    rcases hR.i1 with q | q
    · exact Or.inl q
    · by_cases q2 : t 6 1 = 0
      · exact Or.inl (hR.k1.trans q2)
      · rw [if_neg (q2)] at m1
        exact Or.inr (by rw [q, m1])
  have hy : x2 = t 10 1 := by rw [m3, m2]; rfl
  clear m1 m3
  have hK2 := zi_neg (t 3 1)
  have hR1 : xr g1 t4 := by
    subst h1; subst m2; subst m4; subst h4; subst hK; subst hy
    exact xr.mk hR.b0 hR.a0 hR.d0 hR.k0 (by simp [va_up, upd, hR.b1, qzS_countIn_a1, qzS_countIn_a5, qzS_countIn_a7, hK2, hx]) hR.a1 hR.d1 hR.k1 hR.b2 hR.a2 hR.d2 hR.k2 hR.b3 hR.a3 hR.d3 hR.k3 hR.b4 hR.a4 hR.d4 hR.k4 hR.b5 hR.a5 hR.d5 hR.k5 hR.p0 hR.p1 hR.p2 hR.p3 hR.p4 hR.p5 hR.p6 hR.p7 hR.c0 hR.c1 hR.c2 hR.c3 hR.o0 hR.s0 hR.o1 hR.s1 hR.po0 hR.pb0 hR.mo0 hR.ze0 hR.st0 hR.al0 hR.po1 hR.pb1 hR.mo1 hR.ze1 hR.st1 hR.al1 hR.li0 hR.de0 hR.da0 hR.li1 hR.de1 hR.da1 hR.li2 hR.de2 hR.da2 hR.step hR.age hR.quiet hR.many hR.time hR.night hR.bell hR.h0 hR.h1 hR.h2 hR.h3 hR.h4 hR.h5 hR.h6 hR.h7 hR.nc0 hR.nc1 hR.nc2 hR.i0 hR.j0 hR.m0 hR.n0 (by simp [va_up, upd, hR.i1, qzS_countIn_a1, qzS_countIn_a5, qzS_countIn_a7, hK2, hx]) (by simp [va_up, upd, hR.j1, qzS_countIn_a1, qzS_countIn_a5, qzS_countIn_a7, hK2, hx]) (by simp [va_up, upd, hR.m1, qzS_countIn_a1, qzS_countIn_a5, qzS_countIn_a7, hK2, hx]) (by simp [va_up, upd, hR.n1, qzS_countIn_a1, qzS_countIn_a5, qzS_countIn_a7, hK2, hx]) hR.i2 hR.j2 hR.m2 hR.n2 hR.i3 hR.j3 hR.m3 hR.n3 hR.i4 hR.j4 hR.m4 hR.n4 hR.i5 hR.j5 hR.m5 hR.n5 hR.nu0 hR.nu1 hR.nu2 hR.nu3 hR.nu4 hR.nu5 hR.jt hR.jk hR.jw hR.yh0 hR.yh1 hR.yh2 hR.yh3 hR.yh4 hR.yh5 hR.yh6 hR.yh7 hR.yc0 hR.yc1 hR.yc2 hR.yo0 hR.yo1
  have hB1 : xk_cnt B t4 := by
    subst m2; subst m4; subst h4; exact xk_cnt_k (by decide) (xk_cnt_k (by decide) (xk_cnt_k (by decide) hB))
  obtain ⟨a, b, c, d, e, f⟩ := sim_mis_1 hR1 hB1 hB2 h2 m6
  have e5 : t4 5 = t 5 := by subst m2; subst m4; subst h4; rfl
  have e1 : t4 1 = t 1 := by subst m2; subst m4; subst h4; rfl
  have e3 : t4 3 = upd (t 3) 1 (t 3 1 + K) := by subst m2; subst m4; subst h4; rfl
  rw [e5] at e
  refine ⟨a, b, c.trans e1, fun j hj => ?_, ?_, e, f⟩
  · rw [d, e3]; exact if_neg hj
  · have q : tz 3 1 = t 3 1 + K := by rw [d, e3]; exact if_pos rfl
    rw [hK] at q
    exact Or.inl q
theorem sim_mv_1_im {g g1 gz t t1 t2 tz : xk_St} {x1 x2 K : Int32} {B : Nat} (hR : xr g t) (hB : xk_cnt B t) (hB2 : B < 2147483647) (hK : K = 1) (h1 : g1 = va_up g 20 (upd (upd (upd (g 20) 1 (qzS_countIn_a1 (g 20 1))) 5 (qzS_countIn_a5 (g 20 5) (-1))) 7 (qzS_countIn_a7 (g 20 7) (-1)))) (h2 : relzU_disturbIfMiscounted_1 g1 gz)
    (m1 : x1 = (t 8) 1) (m2 : t1 = va_up t 8 (upd (t 8) 1 x1)) (m3 : if ((t1 6) 1) = 0 then (x2 = (t1 9) 1) else (x2 = ((t1 9) 1) + 1)) (m4 : t2 = va_up t1 9 (upd (t1 9) 1 x2)) (m5 : relzM_change_1 t2 K tz) : xr gz tz ∧ xk_cnt (B + 1) tz ∧ xm_mv 1 t tz := by
  obtain ⟨t4, h4, t5, m6, rfl⟩ := m5
  have hx : g 20 4 = 0 ∨ g 20 7 + 1 = x2 := by
    rcases hR.m1 with q | q
    · exact Or.inl q
    · by_cases q2 : t 6 1 = 0
      · exact Or.inl (hR.k1.trans q2)
      · rw [if_neg (by rw [m2]; exact q2)] at m3
        exact Or.inr (by rw [q, m3]; rw [m2]; rfl)
  have hy : x1 = t 8 1 := by exact m1
  clear m1 m3
  have hK2 := zi_neg (t 3 1)
  have hR1 : xr g1 t4 := by
    subst h1; subst m2; subst m4; subst h4; subst hK; subst hy
    exact xr.mk hR.b0 hR.a0 hR.d0 hR.k0 (by simp [va_up, upd, hR.b1, qzS_countIn_a1, qzS_countIn_a5, qzS_countIn_a7, hK2, hx]) hR.a1 hR.d1 hR.k1 hR.b2 hR.a2 hR.d2 hR.k2 hR.b3 hR.a3 hR.d3 hR.k3 hR.b4 hR.a4 hR.d4 hR.k4 hR.b5 hR.a5 hR.d5 hR.k5 hR.p0 hR.p1 hR.p2 hR.p3 hR.p4 hR.p5 hR.p6 hR.p7 hR.c0 hR.c1 hR.c2 hR.c3 hR.o0 hR.s0 hR.o1 hR.s1 hR.po0 hR.pb0 hR.mo0 hR.ze0 hR.st0 hR.al0 hR.po1 hR.pb1 hR.mo1 hR.ze1 hR.st1 hR.al1 hR.li0 hR.de0 hR.da0 hR.li1 hR.de1 hR.da1 hR.li2 hR.de2 hR.da2 hR.step hR.age hR.quiet hR.many hR.time hR.night hR.bell hR.h0 hR.h1 hR.h2 hR.h3 hR.h4 hR.h5 hR.h6 hR.h7 hR.nc0 hR.nc1 hR.nc2 hR.i0 hR.j0 hR.m0 hR.n0 (by simp [va_up, upd, hR.i1, qzS_countIn_a1, qzS_countIn_a5, qzS_countIn_a7, hK2, hx]) (by simp [va_up, upd, hR.j1, qzS_countIn_a1, qzS_countIn_a5, qzS_countIn_a7, hK2, hx]) (by simp [va_up, upd, hR.m1, qzS_countIn_a1, qzS_countIn_a5, qzS_countIn_a7, hK2, hx]) (by simp [va_up, upd, hR.n1, qzS_countIn_a1, qzS_countIn_a5, qzS_countIn_a7, hK2, hx]) hR.i2 hR.j2 hR.m2 hR.n2 hR.i3 hR.j3 hR.m3 hR.n3 hR.i4 hR.j4 hR.m4 hR.n4 hR.i5 hR.j5 hR.m5 hR.n5 hR.nu0 hR.nu1 hR.nu2 hR.nu3 hR.nu4 hR.nu5 hR.jt hR.jk hR.jw hR.yh0 hR.yh1 hR.yh2 hR.yh3 hR.yh4 hR.yh5 hR.yh6 hR.yh7 hR.yc0 hR.yc1 hR.yc2 hR.yo0 hR.yo1
  have hB1 : xk_cnt B t4 := by
    subst m2; subst m4; subst h4; exact xk_cnt_k (by decide) (xk_cnt_k (by decide) (xk_cnt_k (by decide) hB))
  obtain ⟨a, b, c, d, e, f⟩ := sim_mis_1 hR1 hB1 hB2 h2 m6
  have e5 : t4 5 = t 5 := by subst m2; subst m4; subst h4; rfl
  have e1 : t4 1 = t 1 := by subst m2; subst m4; subst h4; rfl
  have e3 : t4 3 = upd (t 3) 1 (t 3 1 + K) := by subst m2; subst m4; subst h4; rfl
  rw [e5] at e
  refine ⟨a, b, c.trans e1, fun j hj => ?_, ?_, e, f⟩
  · rw [d, e3]; exact if_neg hj
  · have q : tz 3 1 = t 3 1 + K := by rw [d, e3]; exact if_pos rfl
    rw [hK] at q
    exact Or.inl q
theorem sim_mv_1_op {g g1 gz t t1 t2 tz : xk_St} {x1 x2 K : Int32} {B : Nat} (hR : xr g t) (hB : xk_cnt B t) (hB2 : B < 2147483647) (hK : K = -1) (h1 : g1 = va_up g 20 (upd (upd (upd (g 20) 1 (qzS_countOut_a1 (g 20 1))) 6 (qzS_countOut_a6 (g 20 6) 1)) 8 (qzS_countOut_a8 (g 20 8) 1))) (h2 : relzU_disturbIfMiscounted_1 g1 gz)
    (m1 : if ((t 6) 1) = 0 then (x1 = (t 8) 1) else (x1 = ((t 8) 1) + 1)) (m2 : t1 = va_up t 8 (upd (t 8) 1 x1)) (m3 : x2 = (t1 9) 1) (m4 : t2 = va_up t1 9 (upd (t1 9) 1 x2)) (m5 : relzM_change_1 t2 K tz) : xr gz tz ∧ xk_cnt (B + 1) tz ∧ xm_mv 1 t tz := by
  obtain ⟨t4, h4, t5, m6, rfl⟩ := m5
  have hx : g 20 4 = 0 ∨ g 20 6 + 1 = x1 := by
    rcases hR.j1 with q | q
    · exact Or.inl q
    · by_cases q2 : t 6 1 = 0
      · exact Or.inl (hR.k1.trans q2)
      · rw [if_neg (q2)] at m1
        exact Or.inr (by rw [q, m1])
  have hy : x2 = t 9 1 := by rw [m3, m2]; rfl
  clear m1 m3
  have hK2 := zi_neg (t 3 1)
  have hR1 : xr g1 t4 := by
    subst h1; subst m2; subst m4; subst h4; subst hK; subst hy
    exact xr.mk hR.b0 hR.a0 hR.d0 hR.k0 (by simp [va_up, upd, hR.b1, qzS_countOut_a1, qzS_countOut_a6, qzS_countOut_a8, hK2, hx]) hR.a1 hR.d1 hR.k1 hR.b2 hR.a2 hR.d2 hR.k2 hR.b3 hR.a3 hR.d3 hR.k3 hR.b4 hR.a4 hR.d4 hR.k4 hR.b5 hR.a5 hR.d5 hR.k5 hR.p0 hR.p1 hR.p2 hR.p3 hR.p4 hR.p5 hR.p6 hR.p7 hR.c0 hR.c1 hR.c2 hR.c3 hR.o0 hR.s0 hR.o1 hR.s1 hR.po0 hR.pb0 hR.mo0 hR.ze0 hR.st0 hR.al0 hR.po1 hR.pb1 hR.mo1 hR.ze1 hR.st1 hR.al1 hR.li0 hR.de0 hR.da0 hR.li1 hR.de1 hR.da1 hR.li2 hR.de2 hR.da2 hR.step hR.age hR.quiet hR.many hR.time hR.night hR.bell hR.h0 hR.h1 hR.h2 hR.h3 hR.h4 hR.h5 hR.h6 hR.h7 hR.nc0 hR.nc1 hR.nc2 hR.i0 hR.j0 hR.m0 hR.n0 (by simp [va_up, upd, hR.i1, qzS_countOut_a1, qzS_countOut_a6, qzS_countOut_a8, hK2, hx]) (by simp [va_up, upd, hR.j1, qzS_countOut_a1, qzS_countOut_a6, qzS_countOut_a8, hK2, hx]) (by simp [va_up, upd, hR.m1, qzS_countOut_a1, qzS_countOut_a6, qzS_countOut_a8, hK2, hx]) (by simp [va_up, upd, hR.n1, qzS_countOut_a1, qzS_countOut_a6, qzS_countOut_a8, hK2, hx]) hR.i2 hR.j2 hR.m2 hR.n2 hR.i3 hR.j3 hR.m3 hR.n3 hR.i4 hR.j4 hR.m4 hR.n4 hR.i5 hR.j5 hR.m5 hR.n5 hR.nu0 hR.nu1 hR.nu2 hR.nu3 hR.nu4 hR.nu5 hR.jt hR.jk hR.jw hR.yh0 hR.yh1 hR.yh2 hR.yh3 hR.yh4 hR.yh5 hR.yh6 hR.yh7 hR.yc0 hR.yc1 hR.yc2 hR.yo0 hR.yo1
  have hB1 : xk_cnt B t4 := by
    subst m2; subst m4; subst h4; exact xk_cnt_k (by decide) (xk_cnt_k (by decide) (xk_cnt_k (by decide) hB))
  obtain ⟨a, b, c, d, e, f⟩ := sim_mis_1 hR1 hB1 hB2 h2 m6
  have e5 : t4 5 = t 5 := by subst m2; subst m4; subst h4; rfl
  have e1 : t4 1 = t 1 := by subst m2; subst m4; subst h4; rfl
  have e3 : t4 3 = upd (t 3) 1 (t 3 1 + K) := by subst m2; subst m4; subst h4; rfl
  rw [e5] at e
  refine ⟨a, b, c.trans e1, fun j hj => ?_, ?_, e, f⟩
  · rw [d, e3]; exact if_neg hj
  · have q : tz 3 1 = t 3 1 + K := by rw [d, e3]; exact if_pos rfl
    rw [hK] at q
    exact Or.inr (q.trans hK2)
theorem sim_mv_1_om {g g1 gz t t1 t2 tz : xk_St} {x1 x2 K : Int32} {B : Nat} (hR : xr g t) (hB : xk_cnt B t) (hB2 : B < 2147483647) (hK : K = -1) (h1 : g1 = va_up g 20 (upd (upd (upd (g 20) 1 (qzS_countOut_a1 (g 20 1))) 6 (qzS_countOut_a6 (g 20 6) (-1))) 8 (qzS_countOut_a8 (g 20 8) (-1)))) (h2 : relzU_disturbIfMiscounted_1 g1 gz)
    (m1 : x1 = (t 7) 1) (m2 : t1 = va_up t 7 (upd (t 7) 1 x1)) (m3 : if ((t1 6) 1) = 0 then (x2 = (t1 10) 1) else (x2 = ((t1 10) 1) + 1)) (m4 : t2 = va_up t1 10 (upd (t1 10) 1 x2)) (m5 : relzM_change_1 t2 K tz) : xr gz tz ∧ xk_cnt (B + 1) tz ∧ xm_mv 1 t tz := by
  obtain ⟨t4, h4, t5, m6, rfl⟩ := m5
  have hx : g 20 4 = 0 ∨ g 20 8 + 1 = x2 := by
    rcases hR.n1 with q | q
    · exact Or.inl q
    · by_cases q2 : t 6 1 = 0
      · exact Or.inl (hR.k1.trans q2)
      · rw [if_neg (by rw [m2]; exact q2)] at m3
        exact Or.inr (by rw [q, m3]; rw [m2]; rfl)
  have hy : x1 = t 7 1 := by exact m1
  clear m1 m3
  have hK2 := zi_neg (t 3 1)
  have hR1 : xr g1 t4 := by
    subst h1; subst m2; subst m4; subst h4; subst hK; subst hy
    exact xr.mk hR.b0 hR.a0 hR.d0 hR.k0 (by simp [va_up, upd, hR.b1, qzS_countOut_a1, qzS_countOut_a6, qzS_countOut_a8, hK2, hx]) hR.a1 hR.d1 hR.k1 hR.b2 hR.a2 hR.d2 hR.k2 hR.b3 hR.a3 hR.d3 hR.k3 hR.b4 hR.a4 hR.d4 hR.k4 hR.b5 hR.a5 hR.d5 hR.k5 hR.p0 hR.p1 hR.p2 hR.p3 hR.p4 hR.p5 hR.p6 hR.p7 hR.c0 hR.c1 hR.c2 hR.c3 hR.o0 hR.s0 hR.o1 hR.s1 hR.po0 hR.pb0 hR.mo0 hR.ze0 hR.st0 hR.al0 hR.po1 hR.pb1 hR.mo1 hR.ze1 hR.st1 hR.al1 hR.li0 hR.de0 hR.da0 hR.li1 hR.de1 hR.da1 hR.li2 hR.de2 hR.da2 hR.step hR.age hR.quiet hR.many hR.time hR.night hR.bell hR.h0 hR.h1 hR.h2 hR.h3 hR.h4 hR.h5 hR.h6 hR.h7 hR.nc0 hR.nc1 hR.nc2 hR.i0 hR.j0 hR.m0 hR.n0 (by simp [va_up, upd, hR.i1, qzS_countOut_a1, qzS_countOut_a6, qzS_countOut_a8, hK2, hx]) (by simp [va_up, upd, hR.j1, qzS_countOut_a1, qzS_countOut_a6, qzS_countOut_a8, hK2, hx]) (by simp [va_up, upd, hR.m1, qzS_countOut_a1, qzS_countOut_a6, qzS_countOut_a8, hK2, hx]) (by simp [va_up, upd, hR.n1, qzS_countOut_a1, qzS_countOut_a6, qzS_countOut_a8, hK2, hx]) hR.i2 hR.j2 hR.m2 hR.n2 hR.i3 hR.j3 hR.m3 hR.n3 hR.i4 hR.j4 hR.m4 hR.n4 hR.i5 hR.j5 hR.m5 hR.n5 hR.nu0 hR.nu1 hR.nu2 hR.nu3 hR.nu4 hR.nu5 hR.jt hR.jk hR.jw hR.yh0 hR.yh1 hR.yh2 hR.yh3 hR.yh4 hR.yh5 hR.yh6 hR.yh7 hR.yc0 hR.yc1 hR.yc2 hR.yo0 hR.yo1
  have hB1 : xk_cnt B t4 := by
    subst m2; subst m4; subst h4; exact xk_cnt_k (by decide) (xk_cnt_k (by decide) (xk_cnt_k (by decide) hB))
  obtain ⟨a, b, c, d, e, f⟩ := sim_mis_1 hR1 hB1 hB2 h2 m6
  have e5 : t4 5 = t 5 := by subst m2; subst m4; subst h4; rfl
  have e1 : t4 1 = t 1 := by subst m2; subst m4; subst h4; rfl
  have e3 : t4 3 = upd (t 3) 1 (t 3 1 + K) := by subst m2; subst m4; subst h4; rfl
  rw [e5] at e
  refine ⟨a, b, c.trans e1, fun j hj => ?_, ?_, e, f⟩
  · rw [d, e3]; exact if_neg hj
  · have q : tz 3 1 = t 3 1 + K := by rw [d, e3]; exact if_pos rfl
    rw [hK] at q
    exact Or.inr (q.trans hK2)
theorem sim_dis_2 {g gz t tz : xk_St} {B : Nat} (hR : xr g t) (hB : xk_cnt B t) (hB2 : B < 2147483647) (hU : relzU_disturb_2 g gz) (hM : relzM_disturb_2 t tz) : xr gz tz ∧ xk_cnt (B + 1) tz ∧ tz 1 = t 1 ∧ tz 3 = t 3 ∧ (∀ j : Nat, t 5 j ≠ 0 → tz 5 j ≠ 0) ∧ tz 5 2 ≠ 0 := by
  obtain ⟨g3, hU, rfl⟩ := hU
  obtain ⟨t3, hM, rfl⟩ := hM
  rw [hR.d2] at hU
  by_cases c1 : t 5 2 = 0
  · rw [if_pos c1] at hU hM
    obtain ⟨g1, h1, g2, h2, rfl⟩ := hU
    obtain ⟨t1, h3, t2, h4, rfl⟩ := hM
    have hR1 : xr g1 t1 := by
      subst h1; subst h3
      exact xr.mk hR.b0 hR.a0 hR.d0 hR.k0 hR.b1 hR.a1 hR.d1 hR.k1 hR.b2 hR.a2 (by simp [va_up, upd, hR.d2]) hR.k2 hR.b3 hR.a3 hR.d3 hR.k3 hR.b4 hR.a4 hR.d4 hR.k4 hR.b5 hR.a5 hR.d5 hR.k5 hR.p0 hR.p1 hR.p2 hR.p3 hR.p4 hR.p5 hR.p6 hR.p7 hR.c0 hR.c1 hR.c2 hR.c3 hR.o0 hR.s0 hR.o1 hR.s1 hR.po0 hR.pb0 hR.mo0 hR.ze0 hR.st0 hR.al0 hR.po1 hR.pb1 hR.mo1 hR.ze1 hR.st1 hR.al1 hR.li0 hR.de0 hR.da0 hR.li1 hR.de1 hR.da1 hR.li2 hR.de2 hR.da2 hR.step hR.age hR.quiet hR.many hR.time hR.night hR.bell hR.h0 hR.h1 hR.h2 hR.h3 hR.h4 hR.h5 hR.h6 hR.h7 hR.nc0 hR.nc1 hR.nc2 hR.i0 hR.j0 hR.m0 hR.n0 hR.i1 hR.j1 hR.m1 hR.n1 hR.i2 hR.j2 hR.m2 hR.n2 hR.i3 hR.j3 hR.m3 hR.n3 hR.i4 hR.j4 hR.m4 hR.n4 hR.i5 hR.j5 hR.m5 hR.n5 hR.nu0 hR.nu1 hR.nu2 hR.nu3 hR.nu4 hR.nu5 hR.jt hR.jk hR.jw hR.yh0 hR.yh1 hR.yh2 hR.yh3 hR.yh4 hR.yh5 hR.yh6 hR.yh7 hR.yc0 hR.yc1 hR.yc2 hR.yo0 hR.yo1
    have hB1 : xk_cnt B t1 := by subst h3; exact xk_cnt_k (by decide) hB
    rw [hR1.nu2] at h2
    subst h2
    refine ⟨xr_note hR1 hB1 (by omega) h4, xr_nc hB1 h4, ?_, ?_, fun j hj => ?_, ?_⟩
    · funext j; rw [xr_nf h4 1 j (by decide) (by decide) (by decide) (by decide)]; subst h3; rfl
    · funext j; rw [xr_nf h4 3 j (by decide) (by decide) (by decide) (by decide)]; subst h3; rfl
    · rw [xr_nf h4 5 j (by decide) (by decide) (by decide) (by decide)]; subst h3
      by_cases q : j = 2
      · subst q; simp [va_up, upd]
      · simp [va_up, upd, q, hj]
    · rw [xr_nf h4 5 2 (by decide) (by decide) (by decide) (by decide)]; subst h3; simp [va_up, upd]
  · rw [if_neg c1] at hU hM
    subst hU; subst hM
    exact ⟨hR, xk_cnt_le hB (by omega), rfl, rfl, fun _ h => h, c1⟩
theorem sim_mis_2 {g gz t tz : xk_St} {B : Nat} (hR : xr g t) (hB : xk_cnt B t) (hB2 : B < 2147483647) (hU : relzU_disturbIfMiscounted_2 g gz) (hM : if ((t 3) 2) < 0 then (∃ (g2 : xk_St), relzM_disturb_2 t g2 ∧ (tz = g2)) else (if ((t 3) 2) ≤ 400 then (tz = t) else (∃ (g3 : xk_St), relzM_disturb_2 t g3 ∧ (tz = g3)))) : xr gz tz ∧ xk_cnt (B + 1) tz ∧ tz 1 = t 1 ∧ tz 3 = t 3 ∧ (∀ j : Nat, t 5 j ≠ 0 → tz 5 j ≠ 0) ∧ (tz 3 2 < 0 → tz 5 2 ≠ 0) := by
  obtain ⟨g3, hU, rfl⟩ := hU
  rw [hR.b2] at hU
  by_cases c1 : t 3 2 < 0
  · rw [if_pos c1] at hU hM
    obtain ⟨g1, h1, rfl⟩ := hU
    obtain ⟨t1, h2, rfl⟩ := hM
    obtain ⟨a, b, c, d, e, f⟩ := sim_dis_2 hR hB hB2 h1 h2
    exact ⟨a, b, c, d, e, fun _ => f⟩
  · rw [if_neg c1] at hU hM
    by_cases c2 : t 3 2 ≤ 400
    · rw [if_pos c2] at hU hM
      subst hU; subst hM
      exact ⟨hR, xk_cnt_le hB (by omega), rfl, rfl, fun _ h => h, fun h => absurd h c1⟩
    · rw [if_neg c2] at hU hM
      obtain ⟨g1, h1, rfl⟩ := hU
      obtain ⟨t1, h2, rfl⟩ := hM
      obtain ⟨a, b, c, d, e, f⟩ := sim_dis_2 hR hB hB2 h1 h2
      exact ⟨a, b, c, d, e, fun _ => f⟩
theorem xm_noop_2 {g : xk_St} (h1 : g 21 1 < 0 → g 21 3 ≠ 0) (h2 : g 21 1 ≤ 400) (gz : xk_St) : relzU_disturbIfMiscounted_2 g gz ↔ gz = g := by
  constructor
  · intro h
    obtain ⟨g3, hU, rfl⟩ := h
    by_cases c1 : g 21 1 < 0
    · rw [if_pos c1] at hU
      obtain ⟨g1, ⟨g4, h3, rfl⟩, rfl⟩ := hU
      rw [if_neg (h1 c1)] at h3
      exact h3
    · rw [if_neg c1, if_pos h2] at hU
      exact hU
  · intro h
    refine ⟨gz, ?_, rfl⟩
    by_cases c1 : g 21 1 < 0
    · rw [if_pos c1]
      exact ⟨gz, ⟨gz, by rw [if_neg (h1 c1)]; exact h, rfl⟩, rfl⟩
    · rw [if_neg c1, if_pos h2]
      exact h
theorem xm_dcom_2 {g gz : xk_St} (F : Nat → Int32) (h : relzU_disturb_2 g gz) : relzU_disturb_2 (va_up g 20 F) (va_up gz 20 F) := by
  obtain ⟨g3, hU, rfl⟩ := h
  refine ⟨_, ?_, rfl⟩
  rw [xv_ne (by decide)]
  by_cases c1 : g 21 3 = 0
  · rw [if_pos c1] at hU ⊢
    obtain ⟨g1, rfl, g2, rfl, rfl⟩ := hU
    refine ⟨_, rfl, _, ?_, rfl⟩
    funext c
    by_cases q : c = 20
    · subst q; simp [va_up]
    · simp [va_up, q]
  · rw [if_neg c1] at hU ⊢
    rw [hU]
theorem xm_com_2 {g gz : xk_St} (F : Nat → Int32) (h : relzU_disturbIfMiscounted_2 g gz) : relzU_disturbIfMiscounted_2 (va_up g 20 F) (va_up gz 20 F) := by
  obtain ⟨g3, hU, rfl⟩ := h
  refine ⟨_, ?_, rfl⟩
  rw [xv_ne (by decide)]
  by_cases c1 : g 21 1 < 0
  · rw [if_pos c1] at hU ⊢
    obtain ⟨g1, h1, rfl⟩ := hU
    exact ⟨_, xm_dcom_2 F h1, rfl⟩
  · rw [if_neg c1] at hU ⊢
    by_cases c2 : g 21 1 ≤ 400
    · rw [if_pos c2] at hU ⊢
      rw [hU]
    · rw [if_neg c2] at hU ⊢
      obtain ⟨g1, h1, rfl⟩ := hU
      exact ⟨_, xm_dcom_2 F h1, rfl⟩
theorem sim_mv_2_ip {g g1 gz t t1 t2 tz : xk_St} {x1 x2 K : Int32} {B : Nat} (hR : xr g t) (hB : xk_cnt B t) (hB2 : B < 2147483647) (hK : K = 1) (h1 : g1 = va_up g 21 (upd (upd (upd (g 21) 1 (qzS_countIn_a1 (g 21 1))) 5 (qzS_countIn_a5 (g 21 5) 1)) 7 (qzS_countIn_a7 (g 21 7) 1))) (h2 : relzU_disturbIfMiscounted_2 g1 gz)
    (m1 : if ((t 6) 2) = 0 then (x1 = (t 7) 2) else (x1 = ((t 7) 2) + 1)) (m2 : t1 = va_up t 7 (upd (t 7) 2 x1)) (m3 : x2 = (t1 10) 2) (m4 : t2 = va_up t1 10 (upd (t1 10) 2 x2)) (m5 : relzM_change_2 t2 K tz) : xr gz tz ∧ xk_cnt (B + 1) tz ∧ xm_mv 2 t tz := by
  obtain ⟨t4, h4, t5, m6, rfl⟩ := m5
  have hx : g 21 4 = 0 ∨ g 21 5 + 1 = x1 := by
    rcases hR.i2 with q | q
    · exact Or.inl q
    · by_cases q2 : t 6 2 = 0
      · exact Or.inl (hR.k2.trans q2)
      · rw [if_neg (q2)] at m1
        exact Or.inr (by rw [q, m1])
  have hy : x2 = t 10 2 := by rw [m3, m2]; rfl
  clear m1 m3
  have hK2 := zi_neg (t 3 2)
  have hR1 : xr g1 t4 := by
    subst h1; subst m2; subst m4; subst h4; subst hK; subst hy
    exact xr.mk hR.b0 hR.a0 hR.d0 hR.k0 hR.b1 hR.a1 hR.d1 hR.k1 (by simp [va_up, upd, hR.b2, qzS_countIn_a1, qzS_countIn_a5, qzS_countIn_a7, hK2, hx]) hR.a2 hR.d2 hR.k2 hR.b3 hR.a3 hR.d3 hR.k3 hR.b4 hR.a4 hR.d4 hR.k4 hR.b5 hR.a5 hR.d5 hR.k5 hR.p0 hR.p1 hR.p2 hR.p3 hR.p4 hR.p5 hR.p6 hR.p7 hR.c0 hR.c1 hR.c2 hR.c3 hR.o0 hR.s0 hR.o1 hR.s1 hR.po0 hR.pb0 hR.mo0 hR.ze0 hR.st0 hR.al0 hR.po1 hR.pb1 hR.mo1 hR.ze1 hR.st1 hR.al1 hR.li0 hR.de0 hR.da0 hR.li1 hR.de1 hR.da1 hR.li2 hR.de2 hR.da2 hR.step hR.age hR.quiet hR.many hR.time hR.night hR.bell hR.h0 hR.h1 hR.h2 hR.h3 hR.h4 hR.h5 hR.h6 hR.h7 hR.nc0 hR.nc1 hR.nc2 hR.i0 hR.j0 hR.m0 hR.n0 hR.i1 hR.j1 hR.m1 hR.n1 (by simp [va_up, upd, hR.i2, qzS_countIn_a1, qzS_countIn_a5, qzS_countIn_a7, hK2, hx]) (by simp [va_up, upd, hR.j2, qzS_countIn_a1, qzS_countIn_a5, qzS_countIn_a7, hK2, hx]) (by simp [va_up, upd, hR.m2, qzS_countIn_a1, qzS_countIn_a5, qzS_countIn_a7, hK2, hx]) (by simp [va_up, upd, hR.n2, qzS_countIn_a1, qzS_countIn_a5, qzS_countIn_a7, hK2, hx]) hR.i3 hR.j3 hR.m3 hR.n3 hR.i4 hR.j4 hR.m4 hR.n4 hR.i5 hR.j5 hR.m5 hR.n5 hR.nu0 hR.nu1 hR.nu2 hR.nu3 hR.nu4 hR.nu5 hR.jt hR.jk hR.jw hR.yh0 hR.yh1 hR.yh2 hR.yh3 hR.yh4 hR.yh5 hR.yh6 hR.yh7 hR.yc0 hR.yc1 hR.yc2 hR.yo0 hR.yo1
  have hB1 : xk_cnt B t4 := by
    subst m2; subst m4; subst h4; exact xk_cnt_k (by decide) (xk_cnt_k (by decide) (xk_cnt_k (by decide) hB))
  obtain ⟨a, b, c, d, e, f⟩ := sim_mis_2 hR1 hB1 hB2 h2 m6
  have e5 : t4 5 = t 5 := by subst m2; subst m4; subst h4; rfl
  have e1 : t4 1 = t 1 := by subst m2; subst m4; subst h4; rfl
  have e3 : t4 3 = upd (t 3) 2 (t 3 2 + K) := by subst m2; subst m4; subst h4; rfl
  rw [e5] at e
  refine ⟨a, b, c.trans e1, fun j hj => ?_, ?_, e, f⟩
  · rw [d, e3]; exact if_neg hj
  · have q : tz 3 2 = t 3 2 + K := by rw [d, e3]; exact if_pos rfl
    rw [hK] at q
    exact Or.inl q
theorem sim_mv_2_im {g g1 gz t t1 t2 tz : xk_St} {x1 x2 K : Int32} {B : Nat} (hR : xr g t) (hB : xk_cnt B t) (hB2 : B < 2147483647) (hK : K = 1) (h1 : g1 = va_up g 21 (upd (upd (upd (g 21) 1 (qzS_countIn_a1 (g 21 1))) 5 (qzS_countIn_a5 (g 21 5) (-1))) 7 (qzS_countIn_a7 (g 21 7) (-1)))) (h2 : relzU_disturbIfMiscounted_2 g1 gz)
    (m1 : x1 = (t 8) 2) (m2 : t1 = va_up t 8 (upd (t 8) 2 x1)) (m3 : if ((t1 6) 2) = 0 then (x2 = (t1 9) 2) else (x2 = ((t1 9) 2) + 1)) (m4 : t2 = va_up t1 9 (upd (t1 9) 2 x2)) (m5 : relzM_change_2 t2 K tz) : xr gz tz ∧ xk_cnt (B + 1) tz ∧ xm_mv 2 t tz := by
  obtain ⟨t4, h4, t5, m6, rfl⟩ := m5
  have hx : g 21 4 = 0 ∨ g 21 7 + 1 = x2 := by
    rcases hR.m2 with q | q
    · exact Or.inl q
    · by_cases q2 : t 6 2 = 0
      · exact Or.inl (hR.k2.trans q2)
      · rw [if_neg (by rw [m2]; exact q2)] at m3
        exact Or.inr (by rw [q, m3]; rw [m2]; rfl)
  have hy : x1 = t 8 2 := by exact m1
  clear m1 m3
  have hK2 := zi_neg (t 3 2)
  have hR1 : xr g1 t4 := by
    subst h1; subst m2; subst m4; subst h4; subst hK; subst hy
    exact xr.mk hR.b0 hR.a0 hR.d0 hR.k0 hR.b1 hR.a1 hR.d1 hR.k1 (by simp [va_up, upd, hR.b2, qzS_countIn_a1, qzS_countIn_a5, qzS_countIn_a7, hK2, hx]) hR.a2 hR.d2 hR.k2 hR.b3 hR.a3 hR.d3 hR.k3 hR.b4 hR.a4 hR.d4 hR.k4 hR.b5 hR.a5 hR.d5 hR.k5 hR.p0 hR.p1 hR.p2 hR.p3 hR.p4 hR.p5 hR.p6 hR.p7 hR.c0 hR.c1 hR.c2 hR.c3 hR.o0 hR.s0 hR.o1 hR.s1 hR.po0 hR.pb0 hR.mo0 hR.ze0 hR.st0 hR.al0 hR.po1 hR.pb1 hR.mo1 hR.ze1 hR.st1 hR.al1 hR.li0 hR.de0 hR.da0 hR.li1 hR.de1 hR.da1 hR.li2 hR.de2 hR.da2 hR.step hR.age hR.quiet hR.many hR.time hR.night hR.bell hR.h0 hR.h1 hR.h2 hR.h3 hR.h4 hR.h5 hR.h6 hR.h7 hR.nc0 hR.nc1 hR.nc2 hR.i0 hR.j0 hR.m0 hR.n0 hR.i1 hR.j1 hR.m1 hR.n1 (by simp [va_up, upd, hR.i2, qzS_countIn_a1, qzS_countIn_a5, qzS_countIn_a7, hK2, hx]) (by simp [va_up, upd, hR.j2, qzS_countIn_a1, qzS_countIn_a5, qzS_countIn_a7, hK2, hx]) (by simp [va_up, upd, hR.m2, qzS_countIn_a1, qzS_countIn_a5, qzS_countIn_a7, hK2, hx]) (by simp [va_up, upd, hR.n2, qzS_countIn_a1, qzS_countIn_a5, qzS_countIn_a7, hK2, hx]) hR.i3 hR.j3 hR.m3 hR.n3 hR.i4 hR.j4 hR.m4 hR.n4 hR.i5 hR.j5 hR.m5 hR.n5 hR.nu0 hR.nu1 hR.nu2 hR.nu3 hR.nu4 hR.nu5 hR.jt hR.jk hR.jw hR.yh0 hR.yh1 hR.yh2 hR.yh3 hR.yh4 hR.yh5 hR.yh6 hR.yh7 hR.yc0 hR.yc1 hR.yc2 hR.yo0 hR.yo1
  have hB1 : xk_cnt B t4 := by
    subst m2; subst m4; subst h4; exact xk_cnt_k (by decide) (xk_cnt_k (by decide) (xk_cnt_k (by decide) hB))
  obtain ⟨a, b, c, d, e, f⟩ := sim_mis_2 hR1 hB1 hB2 h2 m6
  have e5 : t4 5 = t 5 := by subst m2; subst m4; subst h4; rfl
  have e1 : t4 1 = t 1 := by subst m2; subst m4; subst h4; rfl
  have e3 : t4 3 = upd (t 3) 2 (t 3 2 + K) := by subst m2; subst m4; subst h4; rfl
  rw [e5] at e
  refine ⟨a, b, c.trans e1, fun j hj => ?_, ?_, e, f⟩
  · rw [d, e3]; exact if_neg hj
  · have q : tz 3 2 = t 3 2 + K := by rw [d, e3]; exact if_pos rfl
    rw [hK] at q
    exact Or.inl q
theorem sim_mv_2_op {g g1 gz t t1 t2 tz : xk_St} {x1 x2 K : Int32} {B : Nat} (hR : xr g t) (hB : xk_cnt B t) (hB2 : B < 2147483647) (hK : K = -1) (h1 : g1 = va_up g 21 (upd (upd (upd (g 21) 1 (qzS_countOut_a1 (g 21 1))) 6 (qzS_countOut_a6 (g 21 6) 1)) 8 (qzS_countOut_a8 (g 21 8) 1))) (h2 : relzU_disturbIfMiscounted_2 g1 gz)
    (m1 : if ((t 6) 2) = 0 then (x1 = (t 8) 2) else (x1 = ((t 8) 2) + 1)) (m2 : t1 = va_up t 8 (upd (t 8) 2 x1)) (m3 : x2 = (t1 9) 2) (m4 : t2 = va_up t1 9 (upd (t1 9) 2 x2)) (m5 : relzM_change_2 t2 K tz) : xr gz tz ∧ xk_cnt (B + 1) tz ∧ xm_mv 2 t tz := by
  obtain ⟨t4, h4, t5, m6, rfl⟩ := m5
  have hx : g 21 4 = 0 ∨ g 21 6 + 1 = x1 := by
    rcases hR.j2 with q | q
    · exact Or.inl q
    · by_cases q2 : t 6 2 = 0
      · exact Or.inl (hR.k2.trans q2)
      · rw [if_neg (q2)] at m1
        exact Or.inr (by rw [q, m1])
  have hy : x2 = t 9 2 := by rw [m3, m2]; rfl
  clear m1 m3
  have hK2 := zi_neg (t 3 2)
  have hR1 : xr g1 t4 := by
    subst h1; subst m2; subst m4; subst h4; subst hK; subst hy
    exact xr.mk hR.b0 hR.a0 hR.d0 hR.k0 hR.b1 hR.a1 hR.d1 hR.k1 (by simp [va_up, upd, hR.b2, qzS_countOut_a1, qzS_countOut_a6, qzS_countOut_a8, hK2, hx]) hR.a2 hR.d2 hR.k2 hR.b3 hR.a3 hR.d3 hR.k3 hR.b4 hR.a4 hR.d4 hR.k4 hR.b5 hR.a5 hR.d5 hR.k5 hR.p0 hR.p1 hR.p2 hR.p3 hR.p4 hR.p5 hR.p6 hR.p7 hR.c0 hR.c1 hR.c2 hR.c3 hR.o0 hR.s0 hR.o1 hR.s1 hR.po0 hR.pb0 hR.mo0 hR.ze0 hR.st0 hR.al0 hR.po1 hR.pb1 hR.mo1 hR.ze1 hR.st1 hR.al1 hR.li0 hR.de0 hR.da0 hR.li1 hR.de1 hR.da1 hR.li2 hR.de2 hR.da2 hR.step hR.age hR.quiet hR.many hR.time hR.night hR.bell hR.h0 hR.h1 hR.h2 hR.h3 hR.h4 hR.h5 hR.h6 hR.h7 hR.nc0 hR.nc1 hR.nc2 hR.i0 hR.j0 hR.m0 hR.n0 hR.i1 hR.j1 hR.m1 hR.n1 (by simp [va_up, upd, hR.i2, qzS_countOut_a1, qzS_countOut_a6, qzS_countOut_a8, hK2, hx]) (by simp [va_up, upd, hR.j2, qzS_countOut_a1, qzS_countOut_a6, qzS_countOut_a8, hK2, hx]) (by simp [va_up, upd, hR.m2, qzS_countOut_a1, qzS_countOut_a6, qzS_countOut_a8, hK2, hx]) (by simp [va_up, upd, hR.n2, qzS_countOut_a1, qzS_countOut_a6, qzS_countOut_a8, hK2, hx]) hR.i3 hR.j3 hR.m3 hR.n3 hR.i4 hR.j4 hR.m4 hR.n4 hR.i5 hR.j5 hR.m5 hR.n5 hR.nu0 hR.nu1 hR.nu2 hR.nu3 hR.nu4 hR.nu5 hR.jt hR.jk hR.jw hR.yh0 hR.yh1 hR.yh2 hR.yh3 hR.yh4 hR.yh5 hR.yh6 hR.yh7 hR.yc0 hR.yc1 hR.yc2 hR.yo0 hR.yo1
  have hB1 : xk_cnt B t4 := by
    subst m2; subst m4; subst h4; exact xk_cnt_k (by decide) (xk_cnt_k (by decide) (xk_cnt_k (by decide) hB))
  obtain ⟨a, b, c, d, e, f⟩ := sim_mis_2 hR1 hB1 hB2 h2 m6
  have e5 : t4 5 = t 5 := by subst m2; subst m4; subst h4; rfl
  have e1 : t4 1 = t 1 := by subst m2; subst m4; subst h4; rfl
  have e3 : t4 3 = upd (t 3) 2 (t 3 2 + K) := by subst m2; subst m4; subst h4; rfl
  rw [e5] at e
  refine ⟨a, b, c.trans e1, fun j hj => ?_, ?_, e, f⟩
  · rw [d, e3]; exact if_neg hj
  · have q : tz 3 2 = t 3 2 + K := by rw [d, e3]; exact if_pos rfl
    rw [hK] at q
    exact Or.inr (q.trans hK2)
theorem sim_mv_2_om {g g1 gz t t1 t2 tz : xk_St} {x1 x2 K : Int32} {B : Nat} (hR : xr g t) (hB : xk_cnt B t) (hB2 : B < 2147483647) (hK : K = -1) (h1 : g1 = va_up g 21 (upd (upd (upd (g 21) 1 (qzS_countOut_a1 (g 21 1))) 6 (qzS_countOut_a6 (g 21 6) (-1))) 8 (qzS_countOut_a8 (g 21 8) (-1)))) (h2 : relzU_disturbIfMiscounted_2 g1 gz)
    (m1 : x1 = (t 7) 2) (m2 : t1 = va_up t 7 (upd (t 7) 2 x1)) (m3 : if ((t1 6) 2) = 0 then (x2 = (t1 10) 2) else (x2 = ((t1 10) 2) + 1)) (m4 : t2 = va_up t1 10 (upd (t1 10) 2 x2)) (m5 : relzM_change_2 t2 K tz) : xr gz tz ∧ xk_cnt (B + 1) tz ∧ xm_mv 2 t tz := by
  obtain ⟨t4, h4, t5, m6, rfl⟩ := m5
  have hx : g 21 4 = 0 ∨ g 21 8 + 1 = x2 := by
    rcases hR.n2 with q | q
    · exact Or.inl q
    · by_cases q2 : t 6 2 = 0
      · exact Or.inl (hR.k2.trans q2)
      · rw [if_neg (by rw [m2]; exact q2)] at m3
        exact Or.inr (by rw [q, m3]; rw [m2]; rfl)
  have hy : x1 = t 7 2 := by exact m1
  clear m1 m3
  have hK2 := zi_neg (t 3 2)
  have hR1 : xr g1 t4 := by
    subst h1; subst m2; subst m4; subst h4; subst hK; subst hy
    exact xr.mk hR.b0 hR.a0 hR.d0 hR.k0 hR.b1 hR.a1 hR.d1 hR.k1 (by simp [va_up, upd, hR.b2, qzS_countOut_a1, qzS_countOut_a6, qzS_countOut_a8, hK2, hx]) hR.a2 hR.d2 hR.k2 hR.b3 hR.a3 hR.d3 hR.k3 hR.b4 hR.a4 hR.d4 hR.k4 hR.b5 hR.a5 hR.d5 hR.k5 hR.p0 hR.p1 hR.p2 hR.p3 hR.p4 hR.p5 hR.p6 hR.p7 hR.c0 hR.c1 hR.c2 hR.c3 hR.o0 hR.s0 hR.o1 hR.s1 hR.po0 hR.pb0 hR.mo0 hR.ze0 hR.st0 hR.al0 hR.po1 hR.pb1 hR.mo1 hR.ze1 hR.st1 hR.al1 hR.li0 hR.de0 hR.da0 hR.li1 hR.de1 hR.da1 hR.li2 hR.de2 hR.da2 hR.step hR.age hR.quiet hR.many hR.time hR.night hR.bell hR.h0 hR.h1 hR.h2 hR.h3 hR.h4 hR.h5 hR.h6 hR.h7 hR.nc0 hR.nc1 hR.nc2 hR.i0 hR.j0 hR.m0 hR.n0 hR.i1 hR.j1 hR.m1 hR.n1 (by simp [va_up, upd, hR.i2, qzS_countOut_a1, qzS_countOut_a6, qzS_countOut_a8, hK2, hx]) (by simp [va_up, upd, hR.j2, qzS_countOut_a1, qzS_countOut_a6, qzS_countOut_a8, hK2, hx]) (by simp [va_up, upd, hR.m2, qzS_countOut_a1, qzS_countOut_a6, qzS_countOut_a8, hK2, hx]) (by simp [va_up, upd, hR.n2, qzS_countOut_a1, qzS_countOut_a6, qzS_countOut_a8, hK2, hx]) hR.i3 hR.j3 hR.m3 hR.n3 hR.i4 hR.j4 hR.m4 hR.n4 hR.i5 hR.j5 hR.m5 hR.n5 hR.nu0 hR.nu1 hR.nu2 hR.nu3 hR.nu4 hR.nu5 hR.jt hR.jk hR.jw hR.yh0 hR.yh1 hR.yh2 hR.yh3 hR.yh4 hR.yh5 hR.yh6 hR.yh7 hR.yc0 hR.yc1 hR.yc2 hR.yo0 hR.yo1
  have hB1 : xk_cnt B t4 := by
    subst m2; subst m4; subst h4; exact xk_cnt_k (by decide) (xk_cnt_k (by decide) (xk_cnt_k (by decide) hB))
  obtain ⟨a, b, c, d, e, f⟩ := sim_mis_2 hR1 hB1 hB2 h2 m6
  have e5 : t4 5 = t 5 := by subst m2; subst m4; subst h4; rfl
  have e1 : t4 1 = t 1 := by subst m2; subst m4; subst h4; rfl
  have e3 : t4 3 = upd (t 3) 2 (t 3 2 + K) := by subst m2; subst m4; subst h4; rfl
  rw [e5] at e
  refine ⟨a, b, c.trans e1, fun j hj => ?_, ?_, e, f⟩
  · rw [d, e3]; exact if_neg hj
  · have q : tz 3 2 = t 3 2 + K := by rw [d, e3]; exact if_pos rfl
    rw [hK] at q
    exact Or.inr (q.trans hK2)
theorem sim_dis_3 {g gz t tz : xk_St} {B : Nat} (hR : xr g t) (hB : xk_cnt B t) (hB2 : B < 2147483647) (hU : relzU_disturb_3 g gz) (hM : relzM_disturb_3 t tz) : xr gz tz ∧ xk_cnt (B + 1) tz ∧ tz 1 = t 1 ∧ tz 3 = t 3 ∧ (∀ j : Nat, t 5 j ≠ 0 → tz 5 j ≠ 0) ∧ tz 5 3 ≠ 0 := by
  obtain ⟨g3, hU, rfl⟩ := hU
  obtain ⟨t3, hM, rfl⟩ := hM
  rw [hR.d3] at hU
  by_cases c1 : t 5 3 = 0
  · rw [if_pos c1] at hU hM
    obtain ⟨g1, h1, g2, h2, rfl⟩ := hU
    obtain ⟨t1, h3, t2, h4, rfl⟩ := hM
    have hR1 : xr g1 t1 := by
      subst h1; subst h3
      exact xr.mk hR.b0 hR.a0 hR.d0 hR.k0 hR.b1 hR.a1 hR.d1 hR.k1 hR.b2 hR.a2 hR.d2 hR.k2 hR.b3 hR.a3 (by simp [va_up, upd, hR.d3]) hR.k3 hR.b4 hR.a4 hR.d4 hR.k4 hR.b5 hR.a5 hR.d5 hR.k5 hR.p0 hR.p1 hR.p2 hR.p3 hR.p4 hR.p5 hR.p6 hR.p7 hR.c0 hR.c1 hR.c2 hR.c3 hR.o0 hR.s0 hR.o1 hR.s1 hR.po0 hR.pb0 hR.mo0 hR.ze0 hR.st0 hR.al0 hR.po1 hR.pb1 hR.mo1 hR.ze1 hR.st1 hR.al1 hR.li0 hR.de0 hR.da0 hR.li1 hR.de1 hR.da1 hR.li2 hR.de2 hR.da2 hR.step hR.age hR.quiet hR.many hR.time hR.night hR.bell hR.h0 hR.h1 hR.h2 hR.h3 hR.h4 hR.h5 hR.h6 hR.h7 hR.nc0 hR.nc1 hR.nc2 hR.i0 hR.j0 hR.m0 hR.n0 hR.i1 hR.j1 hR.m1 hR.n1 hR.i2 hR.j2 hR.m2 hR.n2 hR.i3 hR.j3 hR.m3 hR.n3 hR.i4 hR.j4 hR.m4 hR.n4 hR.i5 hR.j5 hR.m5 hR.n5 hR.nu0 hR.nu1 hR.nu2 hR.nu3 hR.nu4 hR.nu5 hR.jt hR.jk hR.jw hR.yh0 hR.yh1 hR.yh2 hR.yh3 hR.yh4 hR.yh5 hR.yh6 hR.yh7 hR.yc0 hR.yc1 hR.yc2 hR.yo0 hR.yo1
    have hB1 : xk_cnt B t1 := by subst h3; exact xk_cnt_k (by decide) hB
    rw [hR1.nu3] at h2
    subst h2
    refine ⟨xr_note hR1 hB1 (by omega) h4, xr_nc hB1 h4, ?_, ?_, fun j hj => ?_, ?_⟩
    · funext j; rw [xr_nf h4 1 j (by decide) (by decide) (by decide) (by decide)]; subst h3; rfl
    · funext j; rw [xr_nf h4 3 j (by decide) (by decide) (by decide) (by decide)]; subst h3; rfl
    · rw [xr_nf h4 5 j (by decide) (by decide) (by decide) (by decide)]; subst h3
      by_cases q : j = 3
      · subst q; simp [va_up, upd]
      · simp [va_up, upd, q, hj]
    · rw [xr_nf h4 5 3 (by decide) (by decide) (by decide) (by decide)]; subst h3; simp [va_up, upd]
  · rw [if_neg c1] at hU hM
    subst hU; subst hM
    exact ⟨hR, xk_cnt_le hB (by omega), rfl, rfl, fun _ h => h, c1⟩
theorem sim_mis_3 {g gz t tz : xk_St} {B : Nat} (hR : xr g t) (hB : xk_cnt B t) (hB2 : B < 2147483647) (hU : relzU_disturbIfMiscounted_3 g gz) (hM : if ((t 3) 3) < 0 then (∃ (g2 : xk_St), relzM_disturb_3 t g2 ∧ (tz = g2)) else (if ((t 3) 3) ≤ 400 then (tz = t) else (∃ (g3 : xk_St), relzM_disturb_3 t g3 ∧ (tz = g3)))) : xr gz tz ∧ xk_cnt (B + 1) tz ∧ tz 1 = t 1 ∧ tz 3 = t 3 ∧ (∀ j : Nat, t 5 j ≠ 0 → tz 5 j ≠ 0) ∧ (tz 3 3 < 0 → tz 5 3 ≠ 0) := by
  obtain ⟨g3, hU, rfl⟩ := hU
  rw [hR.b3] at hU
  by_cases c1 : t 3 3 < 0
  · rw [if_pos c1] at hU hM
    obtain ⟨g1, h1, rfl⟩ := hU
    obtain ⟨t1, h2, rfl⟩ := hM
    obtain ⟨a, b, c, d, e, f⟩ := sim_dis_3 hR hB hB2 h1 h2
    exact ⟨a, b, c, d, e, fun _ => f⟩
  · rw [if_neg c1] at hU hM
    by_cases c2 : t 3 3 ≤ 400
    · rw [if_pos c2] at hU hM
      subst hU; subst hM
      exact ⟨hR, xk_cnt_le hB (by omega), rfl, rfl, fun _ h => h, fun h => absurd h c1⟩
    · rw [if_neg c2] at hU hM
      obtain ⟨g1, h1, rfl⟩ := hU
      obtain ⟨t1, h2, rfl⟩ := hM
      obtain ⟨a, b, c, d, e, f⟩ := sim_dis_3 hR hB hB2 h1 h2
      exact ⟨a, b, c, d, e, fun _ => f⟩
theorem xm_noop_3 {g : xk_St} (h1 : g 22 1 < 0 → g 22 3 ≠ 0) (h2 : g 22 1 ≤ 400) (gz : xk_St) : relzU_disturbIfMiscounted_3 g gz ↔ gz = g := by
  constructor
  · intro h
    obtain ⟨g3, hU, rfl⟩ := h
    by_cases c1 : g 22 1 < 0
    · rw [if_pos c1] at hU
      obtain ⟨g1, ⟨g4, h3, rfl⟩, rfl⟩ := hU
      rw [if_neg (h1 c1)] at h3
      exact h3
    · rw [if_neg c1, if_pos h2] at hU
      exact hU
  · intro h
    refine ⟨gz, ?_, rfl⟩
    by_cases c1 : g 22 1 < 0
    · rw [if_pos c1]
      exact ⟨gz, ⟨gz, by rw [if_neg (h1 c1)]; exact h, rfl⟩, rfl⟩
    · rw [if_neg c1, if_pos h2]
      exact h
theorem sim_mv_3_ip {g g1 gz t t1 t2 tz : xk_St} {x1 x2 K : Int32} {B : Nat} (hR : xr g t) (hB : xk_cnt B t) (hB2 : B < 2147483647) (hK : K = 1) (h1 : g1 = va_up g 22 (upd (upd (upd (g 22) 1 (qzS_countIn_a1 (g 22 1))) 5 (qzS_countIn_a5 (g 22 5) 1)) 7 (qzS_countIn_a7 (g 22 7) 1))) (h2 : relzU_disturbIfMiscounted_3 g1 gz)
    (m1 : if ((t 6) 3) = 0 then (x1 = (t 7) 3) else (x1 = ((t 7) 3) + 1)) (m2 : t1 = va_up t 7 (upd (t 7) 3 x1)) (m3 : x2 = (t1 10) 3) (m4 : t2 = va_up t1 10 (upd (t1 10) 3 x2)) (m5 : relzM_change_3 t2 K tz) : xr gz tz ∧ xk_cnt (B + 1) tz ∧ xm_mv 3 t tz := by
  obtain ⟨t4, h4, t5, m6, rfl⟩ := m5
  have hx : g 22 4 = 0 ∨ g 22 5 + 1 = x1 := by
    rcases hR.i3 with q | q
    · exact Or.inl q
    · by_cases q2 : t 6 3 = 0
      · exact Or.inl (hR.k3.trans q2)
      · rw [if_neg (q2)] at m1
        exact Or.inr (by rw [q, m1])
  have hy : x2 = t 10 3 := by rw [m3, m2]; rfl
  clear m1 m3
  have hK2 := zi_neg (t 3 3)
  have hR1 : xr g1 t4 := by
    subst h1; subst m2; subst m4; subst h4; subst hK; subst hy
    exact xr.mk hR.b0 hR.a0 hR.d0 hR.k0 hR.b1 hR.a1 hR.d1 hR.k1 hR.b2 hR.a2 hR.d2 hR.k2 (by simp [va_up, upd, hR.b3, qzS_countIn_a1, qzS_countIn_a5, qzS_countIn_a7, hK2, hx]) hR.a3 hR.d3 hR.k3 hR.b4 hR.a4 hR.d4 hR.k4 hR.b5 hR.a5 hR.d5 hR.k5 hR.p0 hR.p1 hR.p2 hR.p3 hR.p4 hR.p5 hR.p6 hR.p7 hR.c0 hR.c1 hR.c2 hR.c3 hR.o0 hR.s0 hR.o1 hR.s1 hR.po0 hR.pb0 hR.mo0 hR.ze0 hR.st0 hR.al0 hR.po1 hR.pb1 hR.mo1 hR.ze1 hR.st1 hR.al1 hR.li0 hR.de0 hR.da0 hR.li1 hR.de1 hR.da1 hR.li2 hR.de2 hR.da2 hR.step hR.age hR.quiet hR.many hR.time hR.night hR.bell hR.h0 hR.h1 hR.h2 hR.h3 hR.h4 hR.h5 hR.h6 hR.h7 hR.nc0 hR.nc1 hR.nc2 hR.i0 hR.j0 hR.m0 hR.n0 hR.i1 hR.j1 hR.m1 hR.n1 hR.i2 hR.j2 hR.m2 hR.n2 (by simp [va_up, upd, hR.i3, qzS_countIn_a1, qzS_countIn_a5, qzS_countIn_a7, hK2, hx]) (by simp [va_up, upd, hR.j3, qzS_countIn_a1, qzS_countIn_a5, qzS_countIn_a7, hK2, hx]) (by simp [va_up, upd, hR.m3, qzS_countIn_a1, qzS_countIn_a5, qzS_countIn_a7, hK2, hx]) (by simp [va_up, upd, hR.n3, qzS_countIn_a1, qzS_countIn_a5, qzS_countIn_a7, hK2, hx]) hR.i4 hR.j4 hR.m4 hR.n4 hR.i5 hR.j5 hR.m5 hR.n5 hR.nu0 hR.nu1 hR.nu2 hR.nu3 hR.nu4 hR.nu5 hR.jt hR.jk hR.jw hR.yh0 hR.yh1 hR.yh2 hR.yh3 hR.yh4 hR.yh5 hR.yh6 hR.yh7 hR.yc0 hR.yc1 hR.yc2 hR.yo0 hR.yo1
  have hB1 : xk_cnt B t4 := by
    subst m2; subst m4; subst h4; exact xk_cnt_k (by decide) (xk_cnt_k (by decide) (xk_cnt_k (by decide) hB))
  obtain ⟨a, b, c, d, e, f⟩ := sim_mis_3 hR1 hB1 hB2 h2 m6
  have e5 : t4 5 = t 5 := by subst m2; subst m4; subst h4; rfl
  have e1 : t4 1 = t 1 := by subst m2; subst m4; subst h4; rfl
  have e3 : t4 3 = upd (t 3) 3 (t 3 3 + K) := by subst m2; subst m4; subst h4; rfl
  rw [e5] at e
  refine ⟨a, b, c.trans e1, fun j hj => ?_, ?_, e, f⟩
  · rw [d, e3]; exact if_neg hj
  · have q : tz 3 3 = t 3 3 + K := by rw [d, e3]; exact if_pos rfl
    rw [hK] at q
    exact Or.inl q
theorem sim_mv_3_im {g g1 gz t t1 t2 tz : xk_St} {x1 x2 K : Int32} {B : Nat} (hR : xr g t) (hB : xk_cnt B t) (hB2 : B < 2147483647) (hK : K = 1) (h1 : g1 = va_up g 22 (upd (upd (upd (g 22) 1 (qzS_countIn_a1 (g 22 1))) 5 (qzS_countIn_a5 (g 22 5) (-1))) 7 (qzS_countIn_a7 (g 22 7) (-1)))) (h2 : relzU_disturbIfMiscounted_3 g1 gz)
    (m1 : x1 = (t 8) 3) (m2 : t1 = va_up t 8 (upd (t 8) 3 x1)) (m3 : if ((t1 6) 3) = 0 then (x2 = (t1 9) 3) else (x2 = ((t1 9) 3) + 1)) (m4 : t2 = va_up t1 9 (upd (t1 9) 3 x2)) (m5 : relzM_change_3 t2 K tz) : xr gz tz ∧ xk_cnt (B + 1) tz ∧ xm_mv 3 t tz := by
  obtain ⟨t4, h4, t5, m6, rfl⟩ := m5
  have hx : g 22 4 = 0 ∨ g 22 7 + 1 = x2 := by
    rcases hR.m3 with q | q
    · exact Or.inl q
    · by_cases q2 : t 6 3 = 0
      · exact Or.inl (hR.k3.trans q2)
      · rw [if_neg (by rw [m2]; exact q2)] at m3
        exact Or.inr (by rw [q, m3]; rw [m2]; rfl)
  have hy : x1 = t 8 3 := by exact m1
  clear m1 m3
  have hK2 := zi_neg (t 3 3)
  have hR1 : xr g1 t4 := by
    subst h1; subst m2; subst m4; subst h4; subst hK; subst hy
    exact xr.mk hR.b0 hR.a0 hR.d0 hR.k0 hR.b1 hR.a1 hR.d1 hR.k1 hR.b2 hR.a2 hR.d2 hR.k2 (by simp [va_up, upd, hR.b3, qzS_countIn_a1, qzS_countIn_a5, qzS_countIn_a7, hK2, hx]) hR.a3 hR.d3 hR.k3 hR.b4 hR.a4 hR.d4 hR.k4 hR.b5 hR.a5 hR.d5 hR.k5 hR.p0 hR.p1 hR.p2 hR.p3 hR.p4 hR.p5 hR.p6 hR.p7 hR.c0 hR.c1 hR.c2 hR.c3 hR.o0 hR.s0 hR.o1 hR.s1 hR.po0 hR.pb0 hR.mo0 hR.ze0 hR.st0 hR.al0 hR.po1 hR.pb1 hR.mo1 hR.ze1 hR.st1 hR.al1 hR.li0 hR.de0 hR.da0 hR.li1 hR.de1 hR.da1 hR.li2 hR.de2 hR.da2 hR.step hR.age hR.quiet hR.many hR.time hR.night hR.bell hR.h0 hR.h1 hR.h2 hR.h3 hR.h4 hR.h5 hR.h6 hR.h7 hR.nc0 hR.nc1 hR.nc2 hR.i0 hR.j0 hR.m0 hR.n0 hR.i1 hR.j1 hR.m1 hR.n1 hR.i2 hR.j2 hR.m2 hR.n2 (by simp [va_up, upd, hR.i3, qzS_countIn_a1, qzS_countIn_a5, qzS_countIn_a7, hK2, hx]) (by simp [va_up, upd, hR.j3, qzS_countIn_a1, qzS_countIn_a5, qzS_countIn_a7, hK2, hx]) (by simp [va_up, upd, hR.m3, qzS_countIn_a1, qzS_countIn_a5, qzS_countIn_a7, hK2, hx]) (by simp [va_up, upd, hR.n3, qzS_countIn_a1, qzS_countIn_a5, qzS_countIn_a7, hK2, hx]) hR.i4 hR.j4 hR.m4 hR.n4 hR.i5 hR.j5 hR.m5 hR.n5 hR.nu0 hR.nu1 hR.nu2 hR.nu3 hR.nu4 hR.nu5 hR.jt hR.jk hR.jw hR.yh0 hR.yh1 hR.yh2 hR.yh3 hR.yh4 hR.yh5 hR.yh6 hR.yh7 hR.yc0 hR.yc1 hR.yc2 hR.yo0 hR.yo1
  have hB1 : xk_cnt B t4 := by
    subst m2; subst m4; subst h4; exact xk_cnt_k (by decide) (xk_cnt_k (by decide) (xk_cnt_k (by decide) hB))
  obtain ⟨a, b, c, d, e, f⟩ := sim_mis_3 hR1 hB1 hB2 h2 m6
  have e5 : t4 5 = t 5 := by subst m2; subst m4; subst h4; rfl
  have e1 : t4 1 = t 1 := by subst m2; subst m4; subst h4; rfl
  have e3 : t4 3 = upd (t 3) 3 (t 3 3 + K) := by subst m2; subst m4; subst h4; rfl
  rw [e5] at e
  refine ⟨a, b, c.trans e1, fun j hj => ?_, ?_, e, f⟩
  · rw [d, e3]; exact if_neg hj
  · have q : tz 3 3 = t 3 3 + K := by rw [d, e3]; exact if_pos rfl
    rw [hK] at q
    exact Or.inl q
theorem sim_mv_3_op {g g1 gz t t1 t2 tz : xk_St} {x1 x2 K : Int32} {B : Nat} (hR : xr g t) (hB : xk_cnt B t) (hB2 : B < 2147483647) (hK : K = -1) (h1 : g1 = va_up g 22 (upd (upd (upd (g 22) 1 (qzS_countOut_a1 (g 22 1))) 6 (qzS_countOut_a6 (g 22 6) 1)) 8 (qzS_countOut_a8 (g 22 8) 1))) (h2 : relzU_disturbIfMiscounted_3 g1 gz)
    (m1 : if ((t 6) 3) = 0 then (x1 = (t 8) 3) else (x1 = ((t 8) 3) + 1)) (m2 : t1 = va_up t 8 (upd (t 8) 3 x1)) (m3 : x2 = (t1 9) 3) (m4 : t2 = va_up t1 9 (upd (t1 9) 3 x2)) (m5 : relzM_change_3 t2 K tz) : xr gz tz ∧ xk_cnt (B + 1) tz ∧ xm_mv 3 t tz := by
  obtain ⟨t4, h4, t5, m6, rfl⟩ := m5
  have hx : g 22 4 = 0 ∨ g 22 6 + 1 = x1 := by
    rcases hR.j3 with q | q
    · exact Or.inl q
    · by_cases q2 : t 6 3 = 0
      · exact Or.inl (hR.k3.trans q2)
      · rw [if_neg (q2)] at m1
        exact Or.inr (by rw [q, m1])
  have hy : x2 = t 9 3 := by rw [m3, m2]; rfl
  clear m1 m3
  have hK2 := zi_neg (t 3 3)
  have hR1 : xr g1 t4 := by
    subst h1; subst m2; subst m4; subst h4; subst hK; subst hy
    exact xr.mk hR.b0 hR.a0 hR.d0 hR.k0 hR.b1 hR.a1 hR.d1 hR.k1 hR.b2 hR.a2 hR.d2 hR.k2 (by simp [va_up, upd, hR.b3, qzS_countOut_a1, qzS_countOut_a6, qzS_countOut_a8, hK2, hx]) hR.a3 hR.d3 hR.k3 hR.b4 hR.a4 hR.d4 hR.k4 hR.b5 hR.a5 hR.d5 hR.k5 hR.p0 hR.p1 hR.p2 hR.p3 hR.p4 hR.p5 hR.p6 hR.p7 hR.c0 hR.c1 hR.c2 hR.c3 hR.o0 hR.s0 hR.o1 hR.s1 hR.po0 hR.pb0 hR.mo0 hR.ze0 hR.st0 hR.al0 hR.po1 hR.pb1 hR.mo1 hR.ze1 hR.st1 hR.al1 hR.li0 hR.de0 hR.da0 hR.li1 hR.de1 hR.da1 hR.li2 hR.de2 hR.da2 hR.step hR.age hR.quiet hR.many hR.time hR.night hR.bell hR.h0 hR.h1 hR.h2 hR.h3 hR.h4 hR.h5 hR.h6 hR.h7 hR.nc0 hR.nc1 hR.nc2 hR.i0 hR.j0 hR.m0 hR.n0 hR.i1 hR.j1 hR.m1 hR.n1 hR.i2 hR.j2 hR.m2 hR.n2 (by simp [va_up, upd, hR.i3, qzS_countOut_a1, qzS_countOut_a6, qzS_countOut_a8, hK2, hx]) (by simp [va_up, upd, hR.j3, qzS_countOut_a1, qzS_countOut_a6, qzS_countOut_a8, hK2, hx]) (by simp [va_up, upd, hR.m3, qzS_countOut_a1, qzS_countOut_a6, qzS_countOut_a8, hK2, hx]) (by simp [va_up, upd, hR.n3, qzS_countOut_a1, qzS_countOut_a6, qzS_countOut_a8, hK2, hx]) hR.i4 hR.j4 hR.m4 hR.n4 hR.i5 hR.j5 hR.m5 hR.n5 hR.nu0 hR.nu1 hR.nu2 hR.nu3 hR.nu4 hR.nu5 hR.jt hR.jk hR.jw hR.yh0 hR.yh1 hR.yh2 hR.yh3 hR.yh4 hR.yh5 hR.yh6 hR.yh7 hR.yc0 hR.yc1 hR.yc2 hR.yo0 hR.yo1
  have hB1 : xk_cnt B t4 := by
    subst m2; subst m4; subst h4; exact xk_cnt_k (by decide) (xk_cnt_k (by decide) (xk_cnt_k (by decide) hB))
  obtain ⟨a, b, c, d, e, f⟩ := sim_mis_3 hR1 hB1 hB2 h2 m6
  have e5 : t4 5 = t 5 := by subst m2; subst m4; subst h4; rfl
  have e1 : t4 1 = t 1 := by subst m2; subst m4; subst h4; rfl
  have e3 : t4 3 = upd (t 3) 3 (t 3 3 + K) := by subst m2; subst m4; subst h4; rfl
  rw [e5] at e
  refine ⟨a, b, c.trans e1, fun j hj => ?_, ?_, e, f⟩
  · rw [d, e3]; exact if_neg hj
  · have q : tz 3 3 = t 3 3 + K := by rw [d, e3]; exact if_pos rfl
    rw [hK] at q
    exact Or.inr (q.trans hK2)
theorem sim_mv_3_om {g g1 gz t t1 t2 tz : xk_St} {x1 x2 K : Int32} {B : Nat} (hR : xr g t) (hB : xk_cnt B t) (hB2 : B < 2147483647) (hK : K = -1) (h1 : g1 = va_up g 22 (upd (upd (upd (g 22) 1 (qzS_countOut_a1 (g 22 1))) 6 (qzS_countOut_a6 (g 22 6) (-1))) 8 (qzS_countOut_a8 (g 22 8) (-1)))) (h2 : relzU_disturbIfMiscounted_3 g1 gz)
    (m1 : x1 = (t 7) 3) (m2 : t1 = va_up t 7 (upd (t 7) 3 x1)) (m3 : if ((t1 6) 3) = 0 then (x2 = (t1 10) 3) else (x2 = ((t1 10) 3) + 1)) (m4 : t2 = va_up t1 10 (upd (t1 10) 3 x2)) (m5 : relzM_change_3 t2 K tz) : xr gz tz ∧ xk_cnt (B + 1) tz ∧ xm_mv 3 t tz := by
  obtain ⟨t4, h4, t5, m6, rfl⟩ := m5
  have hx : g 22 4 = 0 ∨ g 22 8 + 1 = x2 := by
    rcases hR.n3 with q | q
    · exact Or.inl q
    · by_cases q2 : t 6 3 = 0
      · exact Or.inl (hR.k3.trans q2)
      · rw [if_neg (by rw [m2]; exact q2)] at m3
        exact Or.inr (by rw [q, m3]; rw [m2]; rfl)
  have hy : x1 = t 7 3 := by exact m1
  clear m1 m3
  have hK2 := zi_neg (t 3 3)
  have hR1 : xr g1 t4 := by
    subst h1; subst m2; subst m4; subst h4; subst hK; subst hy
    exact xr.mk hR.b0 hR.a0 hR.d0 hR.k0 hR.b1 hR.a1 hR.d1 hR.k1 hR.b2 hR.a2 hR.d2 hR.k2 (by simp [va_up, upd, hR.b3, qzS_countOut_a1, qzS_countOut_a6, qzS_countOut_a8, hK2, hx]) hR.a3 hR.d3 hR.k3 hR.b4 hR.a4 hR.d4 hR.k4 hR.b5 hR.a5 hR.d5 hR.k5 hR.p0 hR.p1 hR.p2 hR.p3 hR.p4 hR.p5 hR.p6 hR.p7 hR.c0 hR.c1 hR.c2 hR.c3 hR.o0 hR.s0 hR.o1 hR.s1 hR.po0 hR.pb0 hR.mo0 hR.ze0 hR.st0 hR.al0 hR.po1 hR.pb1 hR.mo1 hR.ze1 hR.st1 hR.al1 hR.li0 hR.de0 hR.da0 hR.li1 hR.de1 hR.da1 hR.li2 hR.de2 hR.da2 hR.step hR.age hR.quiet hR.many hR.time hR.night hR.bell hR.h0 hR.h1 hR.h2 hR.h3 hR.h4 hR.h5 hR.h6 hR.h7 hR.nc0 hR.nc1 hR.nc2 hR.i0 hR.j0 hR.m0 hR.n0 hR.i1 hR.j1 hR.m1 hR.n1 hR.i2 hR.j2 hR.m2 hR.n2 (by simp [va_up, upd, hR.i3, qzS_countOut_a1, qzS_countOut_a6, qzS_countOut_a8, hK2, hx]) (by simp [va_up, upd, hR.j3, qzS_countOut_a1, qzS_countOut_a6, qzS_countOut_a8, hK2, hx]) (by simp [va_up, upd, hR.m3, qzS_countOut_a1, qzS_countOut_a6, qzS_countOut_a8, hK2, hx]) (by simp [va_up, upd, hR.n3, qzS_countOut_a1, qzS_countOut_a6, qzS_countOut_a8, hK2, hx]) hR.i4 hR.j4 hR.m4 hR.n4 hR.i5 hR.j5 hR.m5 hR.n5 hR.nu0 hR.nu1 hR.nu2 hR.nu3 hR.nu4 hR.nu5 hR.jt hR.jk hR.jw hR.yh0 hR.yh1 hR.yh2 hR.yh3 hR.yh4 hR.yh5 hR.yh6 hR.yh7 hR.yc0 hR.yc1 hR.yc2 hR.yo0 hR.yo1
  have hB1 : xk_cnt B t4 := by
    subst m2; subst m4; subst h4; exact xk_cnt_k (by decide) (xk_cnt_k (by decide) (xk_cnt_k (by decide) hB))
  obtain ⟨a, b, c, d, e, f⟩ := sim_mis_3 hR1 hB1 hB2 h2 m6
  have e5 : t4 5 = t 5 := by subst m2; subst m4; subst h4; rfl
  have e1 : t4 1 = t 1 := by subst m2; subst m4; subst h4; rfl
  have e3 : t4 3 = upd (t 3) 3 (t 3 3 + K) := by subst m2; subst m4; subst h4; rfl
  rw [e5] at e
  refine ⟨a, b, c.trans e1, fun j hj => ?_, ?_, e, f⟩
  · rw [d, e3]; exact if_neg hj
  · have q : tz 3 3 = t 3 3 + K := by rw [d, e3]; exact if_pos rfl
    rw [hK] at q
    exact Or.inr (q.trans hK2)
theorem sim_dis_4 {g gz t tz : xk_St} {B : Nat} (hR : xr g t) (hB : xk_cnt B t) (hB2 : B < 2147483647) (hU : relzU_disturb_4 g gz) (hM : relzM_disturb_4 t tz) : xr gz tz ∧ xk_cnt (B + 1) tz ∧ tz 1 = t 1 ∧ tz 3 = t 3 ∧ (∀ j : Nat, t 5 j ≠ 0 → tz 5 j ≠ 0) ∧ tz 5 4 ≠ 0 := by
  obtain ⟨g3, hU, rfl⟩ := hU
  obtain ⟨t3, hM, rfl⟩ := hM
  rw [hR.d4] at hU
  by_cases c1 : t 5 4 = 0
  · rw [if_pos c1] at hU hM
    obtain ⟨g1, h1, g2, h2, rfl⟩ := hU
    obtain ⟨t1, h3, t2, h4, rfl⟩ := hM
    have hR1 : xr g1 t1 := by
      subst h1; subst h3
      exact xr.mk hR.b0 hR.a0 hR.d0 hR.k0 hR.b1 hR.a1 hR.d1 hR.k1 hR.b2 hR.a2 hR.d2 hR.k2 hR.b3 hR.a3 hR.d3 hR.k3 hR.b4 hR.a4 (by simp [va_up, upd, hR.d4]) hR.k4 hR.b5 hR.a5 hR.d5 hR.k5 hR.p0 hR.p1 hR.p2 hR.p3 hR.p4 hR.p5 hR.p6 hR.p7 hR.c0 hR.c1 hR.c2 hR.c3 hR.o0 hR.s0 hR.o1 hR.s1 hR.po0 hR.pb0 hR.mo0 hR.ze0 hR.st0 hR.al0 hR.po1 hR.pb1 hR.mo1 hR.ze1 hR.st1 hR.al1 hR.li0 hR.de0 hR.da0 hR.li1 hR.de1 hR.da1 hR.li2 hR.de2 hR.da2 hR.step hR.age hR.quiet hR.many hR.time hR.night hR.bell hR.h0 hR.h1 hR.h2 hR.h3 hR.h4 hR.h5 hR.h6 hR.h7 hR.nc0 hR.nc1 hR.nc2 hR.i0 hR.j0 hR.m0 hR.n0 hR.i1 hR.j1 hR.m1 hR.n1 hR.i2 hR.j2 hR.m2 hR.n2 hR.i3 hR.j3 hR.m3 hR.n3 hR.i4 hR.j4 hR.m4 hR.n4 hR.i5 hR.j5 hR.m5 hR.n5 hR.nu0 hR.nu1 hR.nu2 hR.nu3 hR.nu4 hR.nu5 hR.jt hR.jk hR.jw hR.yh0 hR.yh1 hR.yh2 hR.yh3 hR.yh4 hR.yh5 hR.yh6 hR.yh7 hR.yc0 hR.yc1 hR.yc2 hR.yo0 hR.yo1
    have hB1 : xk_cnt B t1 := by subst h3; exact xk_cnt_k (by decide) hB
    rw [hR1.nu4] at h2
    subst h2
    refine ⟨xr_note hR1 hB1 (by omega) h4, xr_nc hB1 h4, ?_, ?_, fun j hj => ?_, ?_⟩
    · funext j; rw [xr_nf h4 1 j (by decide) (by decide) (by decide) (by decide)]; subst h3; rfl
    · funext j; rw [xr_nf h4 3 j (by decide) (by decide) (by decide) (by decide)]; subst h3; rfl
    · rw [xr_nf h4 5 j (by decide) (by decide) (by decide) (by decide)]; subst h3
      by_cases q : j = 4
      · subst q; simp [va_up, upd]
      · simp [va_up, upd, q, hj]
    · rw [xr_nf h4 5 4 (by decide) (by decide) (by decide) (by decide)]; subst h3; simp [va_up, upd]
  · rw [if_neg c1] at hU hM
    subst hU; subst hM
    exact ⟨hR, xk_cnt_le hB (by omega), rfl, rfl, fun _ h => h, c1⟩
theorem sim_mis_4 {g gz t tz : xk_St} {B : Nat} (hR : xr g t) (hB : xk_cnt B t) (hB2 : B < 2147483647) (hU : relzU_disturbIfMiscounted_4 g gz) (hM : if ((t 3) 4) < 0 then (∃ (g2 : xk_St), relzM_disturb_4 t g2 ∧ (tz = g2)) else (if ((t 3) 4) ≤ 400 then (tz = t) else (∃ (g3 : xk_St), relzM_disturb_4 t g3 ∧ (tz = g3)))) : xr gz tz ∧ xk_cnt (B + 1) tz ∧ tz 1 = t 1 ∧ tz 3 = t 3 ∧ (∀ j : Nat, t 5 j ≠ 0 → tz 5 j ≠ 0) ∧ (tz 3 4 < 0 → tz 5 4 ≠ 0) := by
  obtain ⟨g3, hU, rfl⟩ := hU
  rw [hR.b4] at hU
  by_cases c1 : t 3 4 < 0
  · rw [if_pos c1] at hU hM
    obtain ⟨g1, h1, rfl⟩ := hU
    obtain ⟨t1, h2, rfl⟩ := hM
    obtain ⟨a, b, c, d, e, f⟩ := sim_dis_4 hR hB hB2 h1 h2
    exact ⟨a, b, c, d, e, fun _ => f⟩
  · rw [if_neg c1] at hU hM
    by_cases c2 : t 3 4 ≤ 400
    · rw [if_pos c2] at hU hM
      subst hU; subst hM
      exact ⟨hR, xk_cnt_le hB (by omega), rfl, rfl, fun _ h => h, fun h => absurd h c1⟩
    · rw [if_neg c2] at hU hM
      obtain ⟨g1, h1, rfl⟩ := hU
      obtain ⟨t1, h2, rfl⟩ := hM
      obtain ⟨a, b, c, d, e, f⟩ := sim_dis_4 hR hB hB2 h1 h2
      exact ⟨a, b, c, d, e, fun _ => f⟩
theorem xm_noop_4 {g : xk_St} (h1 : g 23 1 < 0 → g 23 3 ≠ 0) (h2 : g 23 1 ≤ 400) (gz : xk_St) : relzU_disturbIfMiscounted_4 g gz ↔ gz = g := by
  constructor
  · intro h
    obtain ⟨g3, hU, rfl⟩ := h
    by_cases c1 : g 23 1 < 0
    · rw [if_pos c1] at hU
      obtain ⟨g1, ⟨g4, h3, rfl⟩, rfl⟩ := hU
      rw [if_neg (h1 c1)] at h3
      exact h3
    · rw [if_neg c1, if_pos h2] at hU
      exact hU
  · intro h
    refine ⟨gz, ?_, rfl⟩
    by_cases c1 : g 23 1 < 0
    · rw [if_pos c1]
      exact ⟨gz, ⟨gz, by rw [if_neg (h1 c1)]; exact h, rfl⟩, rfl⟩
    · rw [if_neg c1, if_pos h2]
      exact h
theorem xm_dcom_4 {g gz : xk_St} (F : Nat → Int32) (h : relzU_disturb_4 g gz) : relzU_disturb_4 (va_up g 22 F) (va_up gz 22 F) := by
  obtain ⟨g3, hU, rfl⟩ := h
  refine ⟨_, ?_, rfl⟩
  rw [xv_ne (by decide)]
  by_cases c1 : g 23 3 = 0
  · rw [if_pos c1] at hU ⊢
    obtain ⟨g1, rfl, g2, rfl, rfl⟩ := hU
    refine ⟨_, rfl, _, ?_, rfl⟩
    funext c
    by_cases q : c = 22
    · subst q; simp [va_up]
    · simp [va_up, q]
  · rw [if_neg c1] at hU ⊢
    rw [hU]
theorem xm_com_4 {g gz : xk_St} (F : Nat → Int32) (h : relzU_disturbIfMiscounted_4 g gz) : relzU_disturbIfMiscounted_4 (va_up g 22 F) (va_up gz 22 F) := by
  obtain ⟨g3, hU, rfl⟩ := h
  refine ⟨_, ?_, rfl⟩
  rw [xv_ne (by decide)]
  by_cases c1 : g 23 1 < 0
  · rw [if_pos c1] at hU ⊢
    obtain ⟨g1, h1, rfl⟩ := hU
    exact ⟨_, xm_dcom_4 F h1, rfl⟩
  · rw [if_neg c1] at hU ⊢
    by_cases c2 : g 23 1 ≤ 400
    · rw [if_pos c2] at hU ⊢
      rw [hU]
    · rw [if_neg c2] at hU ⊢
      obtain ⟨g1, h1, rfl⟩ := hU
      exact ⟨_, xm_dcom_4 F h1, rfl⟩
theorem sim_mv_4_ip {g g1 gz t t1 t2 tz : xk_St} {x1 x2 K : Int32} {B : Nat} (hR : xr g t) (hB : xk_cnt B t) (hB2 : B < 2147483647) (hK : K = 1) (h1 : g1 = va_up g 23 (upd (upd (upd (g 23) 1 (qzS_countIn_a1 (g 23 1))) 5 (qzS_countIn_a5 (g 23 5) 1)) 7 (qzS_countIn_a7 (g 23 7) 1))) (h2 : relzU_disturbIfMiscounted_4 g1 gz)
    (m1 : if ((t 6) 4) = 0 then (x1 = (t 7) 4) else (x1 = ((t 7) 4) + 1)) (m2 : t1 = va_up t 7 (upd (t 7) 4 x1)) (m3 : x2 = (t1 10) 4) (m4 : t2 = va_up t1 10 (upd (t1 10) 4 x2)) (m5 : relzM_change_4 t2 K tz) : xr gz tz ∧ xk_cnt (B + 1) tz ∧ xm_mv 4 t tz := by
  obtain ⟨t4, h4, t5, m6, rfl⟩ := m5
  have hx : g 23 4 = 0 ∨ g 23 5 + 1 = x1 := by
    rcases hR.i4 with q | q
    · exact Or.inl q
    · by_cases q2 : t 6 4 = 0
      · exact Or.inl (hR.k4.trans q2)
      · rw [if_neg (q2)] at m1
        exact Or.inr (by rw [q, m1])
  have hy : x2 = t 10 4 := by rw [m3, m2]; rfl
  clear m1 m3
  have hK2 := zi_neg (t 3 4)
  have hR1 : xr g1 t4 := by
    subst h1; subst m2; subst m4; subst h4; subst hK; subst hy
    exact xr.mk hR.b0 hR.a0 hR.d0 hR.k0 hR.b1 hR.a1 hR.d1 hR.k1 hR.b2 hR.a2 hR.d2 hR.k2 hR.b3 hR.a3 hR.d3 hR.k3 (by simp [va_up, upd, hR.b4, qzS_countIn_a1, qzS_countIn_a5, qzS_countIn_a7, hK2, hx]) hR.a4 hR.d4 hR.k4 hR.b5 hR.a5 hR.d5 hR.k5 hR.p0 hR.p1 hR.p2 hR.p3 hR.p4 hR.p5 hR.p6 hR.p7 hR.c0 hR.c1 hR.c2 hR.c3 hR.o0 hR.s0 hR.o1 hR.s1 hR.po0 hR.pb0 hR.mo0 hR.ze0 hR.st0 hR.al0 hR.po1 hR.pb1 hR.mo1 hR.ze1 hR.st1 hR.al1 hR.li0 hR.de0 hR.da0 hR.li1 hR.de1 hR.da1 hR.li2 hR.de2 hR.da2 hR.step hR.age hR.quiet hR.many hR.time hR.night hR.bell hR.h0 hR.h1 hR.h2 hR.h3 hR.h4 hR.h5 hR.h6 hR.h7 hR.nc0 hR.nc1 hR.nc2 hR.i0 hR.j0 hR.m0 hR.n0 hR.i1 hR.j1 hR.m1 hR.n1 hR.i2 hR.j2 hR.m2 hR.n2 hR.i3 hR.j3 hR.m3 hR.n3 (by simp [va_up, upd, hR.i4, qzS_countIn_a1, qzS_countIn_a5, qzS_countIn_a7, hK2, hx]) (by simp [va_up, upd, hR.j4, qzS_countIn_a1, qzS_countIn_a5, qzS_countIn_a7, hK2, hx]) (by simp [va_up, upd, hR.m4, qzS_countIn_a1, qzS_countIn_a5, qzS_countIn_a7, hK2, hx]) (by simp [va_up, upd, hR.n4, qzS_countIn_a1, qzS_countIn_a5, qzS_countIn_a7, hK2, hx]) hR.i5 hR.j5 hR.m5 hR.n5 hR.nu0 hR.nu1 hR.nu2 hR.nu3 hR.nu4 hR.nu5 hR.jt hR.jk hR.jw hR.yh0 hR.yh1 hR.yh2 hR.yh3 hR.yh4 hR.yh5 hR.yh6 hR.yh7 hR.yc0 hR.yc1 hR.yc2 hR.yo0 hR.yo1
  have hB1 : xk_cnt B t4 := by
    subst m2; subst m4; subst h4; exact xk_cnt_k (by decide) (xk_cnt_k (by decide) (xk_cnt_k (by decide) hB))
  obtain ⟨a, b, c, d, e, f⟩ := sim_mis_4 hR1 hB1 hB2 h2 m6
  have e5 : t4 5 = t 5 := by subst m2; subst m4; subst h4; rfl
  have e1 : t4 1 = t 1 := by subst m2; subst m4; subst h4; rfl
  have e3 : t4 3 = upd (t 3) 4 (t 3 4 + K) := by subst m2; subst m4; subst h4; rfl
  rw [e5] at e
  refine ⟨a, b, c.trans e1, fun j hj => ?_, ?_, e, f⟩
  · rw [d, e3]; exact if_neg hj
  · have q : tz 3 4 = t 3 4 + K := by rw [d, e3]; exact if_pos rfl
    rw [hK] at q
    exact Or.inl q
theorem sim_mv_4_im {g g1 gz t t1 t2 tz : xk_St} {x1 x2 K : Int32} {B : Nat} (hR : xr g t) (hB : xk_cnt B t) (hB2 : B < 2147483647) (hK : K = 1) (h1 : g1 = va_up g 23 (upd (upd (upd (g 23) 1 (qzS_countIn_a1 (g 23 1))) 5 (qzS_countIn_a5 (g 23 5) (-1))) 7 (qzS_countIn_a7 (g 23 7) (-1)))) (h2 : relzU_disturbIfMiscounted_4 g1 gz)
    (m1 : x1 = (t 8) 4) (m2 : t1 = va_up t 8 (upd (t 8) 4 x1)) (m3 : if ((t1 6) 4) = 0 then (x2 = (t1 9) 4) else (x2 = ((t1 9) 4) + 1)) (m4 : t2 = va_up t1 9 (upd (t1 9) 4 x2)) (m5 : relzM_change_4 t2 K tz) : xr gz tz ∧ xk_cnt (B + 1) tz ∧ xm_mv 4 t tz := by
  obtain ⟨t4, h4, t5, m6, rfl⟩ := m5
  have hx : g 23 4 = 0 ∨ g 23 7 + 1 = x2 := by
    rcases hR.m4 with q | q
    · exact Or.inl q
    · by_cases q2 : t 6 4 = 0
      · exact Or.inl (hR.k4.trans q2)
      · rw [if_neg (by rw [m2]; exact q2)] at m3
        exact Or.inr (by rw [q, m3]; rw [m2]; rfl)
  have hy : x1 = t 8 4 := by exact m1
  clear m1 m3
  have hK2 := zi_neg (t 3 4)
  have hR1 : xr g1 t4 := by
    subst h1; subst m2; subst m4; subst h4; subst hK; subst hy
    exact xr.mk hR.b0 hR.a0 hR.d0 hR.k0 hR.b1 hR.a1 hR.d1 hR.k1 hR.b2 hR.a2 hR.d2 hR.k2 hR.b3 hR.a3 hR.d3 hR.k3 (by simp [va_up, upd, hR.b4, qzS_countIn_a1, qzS_countIn_a5, qzS_countIn_a7, hK2, hx]) hR.a4 hR.d4 hR.k4 hR.b5 hR.a5 hR.d5 hR.k5 hR.p0 hR.p1 hR.p2 hR.p3 hR.p4 hR.p5 hR.p6 hR.p7 hR.c0 hR.c1 hR.c2 hR.c3 hR.o0 hR.s0 hR.o1 hR.s1 hR.po0 hR.pb0 hR.mo0 hR.ze0 hR.st0 hR.al0 hR.po1 hR.pb1 hR.mo1 hR.ze1 hR.st1 hR.al1 hR.li0 hR.de0 hR.da0 hR.li1 hR.de1 hR.da1 hR.li2 hR.de2 hR.da2 hR.step hR.age hR.quiet hR.many hR.time hR.night hR.bell hR.h0 hR.h1 hR.h2 hR.h3 hR.h4 hR.h5 hR.h6 hR.h7 hR.nc0 hR.nc1 hR.nc2 hR.i0 hR.j0 hR.m0 hR.n0 hR.i1 hR.j1 hR.m1 hR.n1 hR.i2 hR.j2 hR.m2 hR.n2 hR.i3 hR.j3 hR.m3 hR.n3 (by simp [va_up, upd, hR.i4, qzS_countIn_a1, qzS_countIn_a5, qzS_countIn_a7, hK2, hx]) (by simp [va_up, upd, hR.j4, qzS_countIn_a1, qzS_countIn_a5, qzS_countIn_a7, hK2, hx]) (by simp [va_up, upd, hR.m4, qzS_countIn_a1, qzS_countIn_a5, qzS_countIn_a7, hK2, hx]) (by simp [va_up, upd, hR.n4, qzS_countIn_a1, qzS_countIn_a5, qzS_countIn_a7, hK2, hx]) hR.i5 hR.j5 hR.m5 hR.n5 hR.nu0 hR.nu1 hR.nu2 hR.nu3 hR.nu4 hR.nu5 hR.jt hR.jk hR.jw hR.yh0 hR.yh1 hR.yh2 hR.yh3 hR.yh4 hR.yh5 hR.yh6 hR.yh7 hR.yc0 hR.yc1 hR.yc2 hR.yo0 hR.yo1
  have hB1 : xk_cnt B t4 := by
    subst m2; subst m4; subst h4; exact xk_cnt_k (by decide) (xk_cnt_k (by decide) (xk_cnt_k (by decide) hB))
  obtain ⟨a, b, c, d, e, f⟩ := sim_mis_4 hR1 hB1 hB2 h2 m6
  have e5 : t4 5 = t 5 := by subst m2; subst m4; subst h4; rfl
  have e1 : t4 1 = t 1 := by subst m2; subst m4; subst h4; rfl
  have e3 : t4 3 = upd (t 3) 4 (t 3 4 + K) := by subst m2; subst m4; subst h4; rfl
  rw [e5] at e
  refine ⟨a, b, c.trans e1, fun j hj => ?_, ?_, e, f⟩
  · rw [d, e3]; exact if_neg hj
  · have q : tz 3 4 = t 3 4 + K := by rw [d, e3]; exact if_pos rfl
    rw [hK] at q
    exact Or.inl q
theorem sim_mv_4_op {g g1 gz t t1 t2 tz : xk_St} {x1 x2 K : Int32} {B : Nat} (hR : xr g t) (hB : xk_cnt B t) (hB2 : B < 2147483647) (hK : K = -1) (h1 : g1 = va_up g 23 (upd (upd (upd (g 23) 1 (qzS_countOut_a1 (g 23 1))) 6 (qzS_countOut_a6 (g 23 6) 1)) 8 (qzS_countOut_a8 (g 23 8) 1))) (h2 : relzU_disturbIfMiscounted_4 g1 gz)
    (m1 : if ((t 6) 4) = 0 then (x1 = (t 8) 4) else (x1 = ((t 8) 4) + 1)) (m2 : t1 = va_up t 8 (upd (t 8) 4 x1)) (m3 : x2 = (t1 9) 4) (m4 : t2 = va_up t1 9 (upd (t1 9) 4 x2)) (m5 : relzM_change_4 t2 K tz) : xr gz tz ∧ xk_cnt (B + 1) tz ∧ xm_mv 4 t tz := by
  obtain ⟨t4, h4, t5, m6, rfl⟩ := m5
  have hx : g 23 4 = 0 ∨ g 23 6 + 1 = x1 := by
    rcases hR.j4 with q | q
    · exact Or.inl q
    · by_cases q2 : t 6 4 = 0
      · exact Or.inl (hR.k4.trans q2)
      · rw [if_neg (q2)] at m1
        exact Or.inr (by rw [q, m1])
  have hy : x2 = t 9 4 := by rw [m3, m2]; rfl
  clear m1 m3
  have hK2 := zi_neg (t 3 4)
  have hR1 : xr g1 t4 := by
    subst h1; subst m2; subst m4; subst h4; subst hK; subst hy
    exact xr.mk hR.b0 hR.a0 hR.d0 hR.k0 hR.b1 hR.a1 hR.d1 hR.k1 hR.b2 hR.a2 hR.d2 hR.k2 hR.b3 hR.a3 hR.d3 hR.k3 (by simp [va_up, upd, hR.b4, qzS_countOut_a1, qzS_countOut_a6, qzS_countOut_a8, hK2, hx]) hR.a4 hR.d4 hR.k4 hR.b5 hR.a5 hR.d5 hR.k5 hR.p0 hR.p1 hR.p2 hR.p3 hR.p4 hR.p5 hR.p6 hR.p7 hR.c0 hR.c1 hR.c2 hR.c3 hR.o0 hR.s0 hR.o1 hR.s1 hR.po0 hR.pb0 hR.mo0 hR.ze0 hR.st0 hR.al0 hR.po1 hR.pb1 hR.mo1 hR.ze1 hR.st1 hR.al1 hR.li0 hR.de0 hR.da0 hR.li1 hR.de1 hR.da1 hR.li2 hR.de2 hR.da2 hR.step hR.age hR.quiet hR.many hR.time hR.night hR.bell hR.h0 hR.h1 hR.h2 hR.h3 hR.h4 hR.h5 hR.h6 hR.h7 hR.nc0 hR.nc1 hR.nc2 hR.i0 hR.j0 hR.m0 hR.n0 hR.i1 hR.j1 hR.m1 hR.n1 hR.i2 hR.j2 hR.m2 hR.n2 hR.i3 hR.j3 hR.m3 hR.n3 (by simp [va_up, upd, hR.i4, qzS_countOut_a1, qzS_countOut_a6, qzS_countOut_a8, hK2, hx]) (by simp [va_up, upd, hR.j4, qzS_countOut_a1, qzS_countOut_a6, qzS_countOut_a8, hK2, hx]) (by simp [va_up, upd, hR.m4, qzS_countOut_a1, qzS_countOut_a6, qzS_countOut_a8, hK2, hx]) (by simp [va_up, upd, hR.n4, qzS_countOut_a1, qzS_countOut_a6, qzS_countOut_a8, hK2, hx]) hR.i5 hR.j5 hR.m5 hR.n5 hR.nu0 hR.nu1 hR.nu2 hR.nu3 hR.nu4 hR.nu5 hR.jt hR.jk hR.jw hR.yh0 hR.yh1 hR.yh2 hR.yh3 hR.yh4 hR.yh5 hR.yh6 hR.yh7 hR.yc0 hR.yc1 hR.yc2 hR.yo0 hR.yo1
  have hB1 : xk_cnt B t4 := by
    subst m2; subst m4; subst h4; exact xk_cnt_k (by decide) (xk_cnt_k (by decide) (xk_cnt_k (by decide) hB))
  obtain ⟨a, b, c, d, e, f⟩ := sim_mis_4 hR1 hB1 hB2 h2 m6
  have e5 : t4 5 = t 5 := by subst m2; subst m4; subst h4; rfl
  have e1 : t4 1 = t 1 := by subst m2; subst m4; subst h4; rfl
  have e3 : t4 3 = upd (t 3) 4 (t 3 4 + K) := by subst m2; subst m4; subst h4; rfl
  rw [e5] at e
  refine ⟨a, b, c.trans e1, fun j hj => ?_, ?_, e, f⟩
  · rw [d, e3]; exact if_neg hj
  · have q : tz 3 4 = t 3 4 + K := by rw [d, e3]; exact if_pos rfl
    rw [hK] at q
    exact Or.inr (q.trans hK2)
theorem sim_mv_4_om {g g1 gz t t1 t2 tz : xk_St} {x1 x2 K : Int32} {B : Nat} (hR : xr g t) (hB : xk_cnt B t) (hB2 : B < 2147483647) (hK : K = -1) (h1 : g1 = va_up g 23 (upd (upd (upd (g 23) 1 (qzS_countOut_a1 (g 23 1))) 6 (qzS_countOut_a6 (g 23 6) (-1))) 8 (qzS_countOut_a8 (g 23 8) (-1)))) (h2 : relzU_disturbIfMiscounted_4 g1 gz)
    (m1 : x1 = (t 7) 4) (m2 : t1 = va_up t 7 (upd (t 7) 4 x1)) (m3 : if ((t1 6) 4) = 0 then (x2 = (t1 10) 4) else (x2 = ((t1 10) 4) + 1)) (m4 : t2 = va_up t1 10 (upd (t1 10) 4 x2)) (m5 : relzM_change_4 t2 K tz) : xr gz tz ∧ xk_cnt (B + 1) tz ∧ xm_mv 4 t tz := by
  obtain ⟨t4, h4, t5, m6, rfl⟩ := m5
  have hx : g 23 4 = 0 ∨ g 23 8 + 1 = x2 := by
    rcases hR.n4 with q | q
    · exact Or.inl q
    · by_cases q2 : t 6 4 = 0
      · exact Or.inl (hR.k4.trans q2)
      · rw [if_neg (by rw [m2]; exact q2)] at m3
        exact Or.inr (by rw [q, m3]; rw [m2]; rfl)
  have hy : x1 = t 7 4 := by exact m1
  clear m1 m3
  have hK2 := zi_neg (t 3 4)
  have hR1 : xr g1 t4 := by
    subst h1; subst m2; subst m4; subst h4; subst hK; subst hy
    exact xr.mk hR.b0 hR.a0 hR.d0 hR.k0 hR.b1 hR.a1 hR.d1 hR.k1 hR.b2 hR.a2 hR.d2 hR.k2 hR.b3 hR.a3 hR.d3 hR.k3 (by simp [va_up, upd, hR.b4, qzS_countOut_a1, qzS_countOut_a6, qzS_countOut_a8, hK2, hx]) hR.a4 hR.d4 hR.k4 hR.b5 hR.a5 hR.d5 hR.k5 hR.p0 hR.p1 hR.p2 hR.p3 hR.p4 hR.p5 hR.p6 hR.p7 hR.c0 hR.c1 hR.c2 hR.c3 hR.o0 hR.s0 hR.o1 hR.s1 hR.po0 hR.pb0 hR.mo0 hR.ze0 hR.st0 hR.al0 hR.po1 hR.pb1 hR.mo1 hR.ze1 hR.st1 hR.al1 hR.li0 hR.de0 hR.da0 hR.li1 hR.de1 hR.da1 hR.li2 hR.de2 hR.da2 hR.step hR.age hR.quiet hR.many hR.time hR.night hR.bell hR.h0 hR.h1 hR.h2 hR.h3 hR.h4 hR.h5 hR.h6 hR.h7 hR.nc0 hR.nc1 hR.nc2 hR.i0 hR.j0 hR.m0 hR.n0 hR.i1 hR.j1 hR.m1 hR.n1 hR.i2 hR.j2 hR.m2 hR.n2 hR.i3 hR.j3 hR.m3 hR.n3 (by simp [va_up, upd, hR.i4, qzS_countOut_a1, qzS_countOut_a6, qzS_countOut_a8, hK2, hx]) (by simp [va_up, upd, hR.j4, qzS_countOut_a1, qzS_countOut_a6, qzS_countOut_a8, hK2, hx]) (by simp [va_up, upd, hR.m4, qzS_countOut_a1, qzS_countOut_a6, qzS_countOut_a8, hK2, hx]) (by simp [va_up, upd, hR.n4, qzS_countOut_a1, qzS_countOut_a6, qzS_countOut_a8, hK2, hx]) hR.i5 hR.j5 hR.m5 hR.n5 hR.nu0 hR.nu1 hR.nu2 hR.nu3 hR.nu4 hR.nu5 hR.jt hR.jk hR.jw hR.yh0 hR.yh1 hR.yh2 hR.yh3 hR.yh4 hR.yh5 hR.yh6 hR.yh7 hR.yc0 hR.yc1 hR.yc2 hR.yo0 hR.yo1
  have hB1 : xk_cnt B t4 := by
    subst m2; subst m4; subst h4; exact xk_cnt_k (by decide) (xk_cnt_k (by decide) (xk_cnt_k (by decide) hB))
  obtain ⟨a, b, c, d, e, f⟩ := sim_mis_4 hR1 hB1 hB2 h2 m6
  have e5 : t4 5 = t 5 := by subst m2; subst m4; subst h4; rfl
  have e1 : t4 1 = t 1 := by subst m2; subst m4; subst h4; rfl
  have e3 : t4 3 = upd (t 3) 4 (t 3 4 + K) := by subst m2; subst m4; subst h4; rfl
  rw [e5] at e
  refine ⟨a, b, c.trans e1, fun j hj => ?_, ?_, e, f⟩
  · rw [d, e3]; exact if_neg hj
  · have q : tz 3 4 = t 3 4 + K := by rw [d, e3]; exact if_pos rfl
    rw [hK] at q
    exact Or.inr (q.trans hK2)
theorem sim_dis_5 {g gz t tz : xk_St} {B : Nat} (hR : xr g t) (hB : xk_cnt B t) (hB2 : B < 2147483647) (hU : relzU_disturb_5 g gz) (hM : relzM_disturb_5 t tz) : xr gz tz ∧ xk_cnt (B + 1) tz ∧ tz 1 = t 1 ∧ tz 3 = t 3 ∧ (∀ j : Nat, t 5 j ≠ 0 → tz 5 j ≠ 0) ∧ tz 5 5 ≠ 0 := by
  obtain ⟨g3, hU, rfl⟩ := hU
  obtain ⟨t3, hM, rfl⟩ := hM
  rw [hR.d5] at hU
  by_cases c1 : t 5 5 = 0
  · rw [if_pos c1] at hU hM
    obtain ⟨g1, h1, g2, h2, rfl⟩ := hU
    obtain ⟨t1, h3, t2, h4, rfl⟩ := hM
    have hR1 : xr g1 t1 := by
      subst h1; subst h3
      exact xr.mk hR.b0 hR.a0 hR.d0 hR.k0 hR.b1 hR.a1 hR.d1 hR.k1 hR.b2 hR.a2 hR.d2 hR.k2 hR.b3 hR.a3 hR.d3 hR.k3 hR.b4 hR.a4 hR.d4 hR.k4 hR.b5 hR.a5 (by simp [va_up, upd, hR.d5]) hR.k5 hR.p0 hR.p1 hR.p2 hR.p3 hR.p4 hR.p5 hR.p6 hR.p7 hR.c0 hR.c1 hR.c2 hR.c3 hR.o0 hR.s0 hR.o1 hR.s1 hR.po0 hR.pb0 hR.mo0 hR.ze0 hR.st0 hR.al0 hR.po1 hR.pb1 hR.mo1 hR.ze1 hR.st1 hR.al1 hR.li0 hR.de0 hR.da0 hR.li1 hR.de1 hR.da1 hR.li2 hR.de2 hR.da2 hR.step hR.age hR.quiet hR.many hR.time hR.night hR.bell hR.h0 hR.h1 hR.h2 hR.h3 hR.h4 hR.h5 hR.h6 hR.h7 hR.nc0 hR.nc1 hR.nc2 hR.i0 hR.j0 hR.m0 hR.n0 hR.i1 hR.j1 hR.m1 hR.n1 hR.i2 hR.j2 hR.m2 hR.n2 hR.i3 hR.j3 hR.m3 hR.n3 hR.i4 hR.j4 hR.m4 hR.n4 hR.i5 hR.j5 hR.m5 hR.n5 hR.nu0 hR.nu1 hR.nu2 hR.nu3 hR.nu4 hR.nu5 hR.jt hR.jk hR.jw hR.yh0 hR.yh1 hR.yh2 hR.yh3 hR.yh4 hR.yh5 hR.yh6 hR.yh7 hR.yc0 hR.yc1 hR.yc2 hR.yo0 hR.yo1
    have hB1 : xk_cnt B t1 := by subst h3; exact xk_cnt_k (by decide) hB
    rw [hR1.nu5] at h2
    subst h2
    refine ⟨xr_note hR1 hB1 (by omega) h4, xr_nc hB1 h4, ?_, ?_, fun j hj => ?_, ?_⟩
    · funext j; rw [xr_nf h4 1 j (by decide) (by decide) (by decide) (by decide)]; subst h3; rfl
    · funext j; rw [xr_nf h4 3 j (by decide) (by decide) (by decide) (by decide)]; subst h3; rfl
    · rw [xr_nf h4 5 j (by decide) (by decide) (by decide) (by decide)]; subst h3
      by_cases q : j = 5
      · subst q; simp [va_up, upd]
      · simp [va_up, upd, q, hj]
    · rw [xr_nf h4 5 5 (by decide) (by decide) (by decide) (by decide)]; subst h3; simp [va_up, upd]
  · rw [if_neg c1] at hU hM
    subst hU; subst hM
    exact ⟨hR, xk_cnt_le hB (by omega), rfl, rfl, fun _ h => h, c1⟩
theorem sim_mis_5 {g gz t tz : xk_St} {B : Nat} (hR : xr g t) (hB : xk_cnt B t) (hB2 : B < 2147483647) (hU : relzU_disturbIfMiscounted_5 g gz) (hM : if ((t 3) 5) < 0 then (∃ (g2 : xk_St), relzM_disturb_5 t g2 ∧ (tz = g2)) else (if ((t 3) 5) ≤ 400 then (tz = t) else (∃ (g3 : xk_St), relzM_disturb_5 t g3 ∧ (tz = g3)))) : xr gz tz ∧ xk_cnt (B + 1) tz ∧ tz 1 = t 1 ∧ tz 3 = t 3 ∧ (∀ j : Nat, t 5 j ≠ 0 → tz 5 j ≠ 0) ∧ (tz 3 5 < 0 → tz 5 5 ≠ 0) := by
  obtain ⟨g3, hU, rfl⟩ := hU
  rw [hR.b5] at hU
  by_cases c1 : t 3 5 < 0
  · rw [if_pos c1] at hU hM
    obtain ⟨g1, h1, rfl⟩ := hU
    obtain ⟨t1, h2, rfl⟩ := hM
    obtain ⟨a, b, c, d, e, f⟩ := sim_dis_5 hR hB hB2 h1 h2
    exact ⟨a, b, c, d, e, fun _ => f⟩
  · rw [if_neg c1] at hU hM
    by_cases c2 : t 3 5 ≤ 400
    · rw [if_pos c2] at hU hM
      subst hU; subst hM
      exact ⟨hR, xk_cnt_le hB (by omega), rfl, rfl, fun _ h => h, fun h => absurd h c1⟩
    · rw [if_neg c2] at hU hM
      obtain ⟨g1, h1, rfl⟩ := hU
      obtain ⟨t1, h2, rfl⟩ := hM
      obtain ⟨a, b, c, d, e, f⟩ := sim_dis_5 hR hB hB2 h1 h2
      exact ⟨a, b, c, d, e, fun _ => f⟩
theorem xm_noop_5 {g : xk_St} (h1 : g 24 1 < 0 → g 24 3 ≠ 0) (h2 : g 24 1 ≤ 400) (gz : xk_St) : relzU_disturbIfMiscounted_5 g gz ↔ gz = g := by
  constructor
  · intro h
    obtain ⟨g3, hU, rfl⟩ := h
    by_cases c1 : g 24 1 < 0
    · rw [if_pos c1] at hU
      obtain ⟨g1, ⟨g4, h3, rfl⟩, rfl⟩ := hU
      rw [if_neg (h1 c1)] at h3
      exact h3
    · rw [if_neg c1, if_pos h2] at hU
      exact hU
  · intro h
    refine ⟨gz, ?_, rfl⟩
    by_cases c1 : g 24 1 < 0
    · rw [if_pos c1]
      exact ⟨gz, ⟨gz, by rw [if_neg (h1 c1)]; exact h, rfl⟩, rfl⟩
    · rw [if_neg c1, if_pos h2]
      exact h
theorem xm_dcom_5 {g gz : xk_St} (F : Nat → Int32) (h : relzU_disturb_5 g gz) : relzU_disturb_5 (va_up g 23 F) (va_up gz 23 F) := by
  obtain ⟨g3, hU, rfl⟩ := h
  refine ⟨_, ?_, rfl⟩
  rw [xv_ne (by decide)]
  by_cases c1 : g 24 3 = 0
  · rw [if_pos c1] at hU ⊢
    obtain ⟨g1, rfl, g2, rfl, rfl⟩ := hU
    refine ⟨_, rfl, _, ?_, rfl⟩
    funext c
    by_cases q : c = 23
    · subst q; simp [va_up]
    · simp [va_up, q]
  · rw [if_neg c1] at hU ⊢
    rw [hU]
theorem xm_com_5 {g gz : xk_St} (F : Nat → Int32) (h : relzU_disturbIfMiscounted_5 g gz) : relzU_disturbIfMiscounted_5 (va_up g 23 F) (va_up gz 23 F) := by
  obtain ⟨g3, hU, rfl⟩ := h
  refine ⟨_, ?_, rfl⟩
  rw [xv_ne (by decide)]
  by_cases c1 : g 24 1 < 0
  · rw [if_pos c1] at hU ⊢
    obtain ⟨g1, h1, rfl⟩ := hU
    exact ⟨_, xm_dcom_5 F h1, rfl⟩
  · rw [if_neg c1] at hU ⊢
    by_cases c2 : g 24 1 ≤ 400
    · rw [if_pos c2] at hU ⊢
      rw [hU]
    · rw [if_neg c2] at hU ⊢
      obtain ⟨g1, h1, rfl⟩ := hU
      exact ⟨_, xm_dcom_5 F h1, rfl⟩
theorem sim_mv_5_ip {g g1 gz t t1 t2 tz : xk_St} {x1 x2 K : Int32} {B : Nat} (hR : xr g t) (hB : xk_cnt B t) (hB2 : B < 2147483647) (hK : K = 1) (h1 : g1 = va_up g 24 (upd (upd (upd (g 24) 1 (qzS_countIn_a1 (g 24 1))) 5 (qzS_countIn_a5 (g 24 5) 1)) 7 (qzS_countIn_a7 (g 24 7) 1))) (h2 : relzU_disturbIfMiscounted_5 g1 gz)
    (m1 : if ((t 6) 5) = 0 then (x1 = (t 7) 5) else (x1 = ((t 7) 5) + 1)) (m2 : t1 = va_up t 7 (upd (t 7) 5 x1)) (m3 : x2 = (t1 10) 5) (m4 : t2 = va_up t1 10 (upd (t1 10) 5 x2)) (m5 : relzM_change_5 t2 K tz) : xr gz tz ∧ xk_cnt (B + 1) tz ∧ xm_mv 5 t tz := by
  obtain ⟨t4, h4, t5, m6, rfl⟩ := m5
  have hx : g 24 4 = 0 ∨ g 24 5 + 1 = x1 := by
    rcases hR.i5 with q | q
    · exact Or.inl q
    · by_cases q2 : t 6 5 = 0
      · exact Or.inl (hR.k5.trans q2)
      · rw [if_neg (q2)] at m1
        exact Or.inr (by rw [q, m1])
  have hy : x2 = t 10 5 := by rw [m3, m2]; rfl
  clear m1 m3
  have hK2 := zi_neg (t 3 5)
  have hR1 : xr g1 t4 := by
    subst h1; subst m2; subst m4; subst h4; subst hK; subst hy
    exact xr.mk hR.b0 hR.a0 hR.d0 hR.k0 hR.b1 hR.a1 hR.d1 hR.k1 hR.b2 hR.a2 hR.d2 hR.k2 hR.b3 hR.a3 hR.d3 hR.k3 hR.b4 hR.a4 hR.d4 hR.k4 (by simp [va_up, upd, hR.b5, qzS_countIn_a1, qzS_countIn_a5, qzS_countIn_a7, hK2, hx]) hR.a5 hR.d5 hR.k5 hR.p0 hR.p1 hR.p2 hR.p3 hR.p4 hR.p5 hR.p6 hR.p7 hR.c0 hR.c1 hR.c2 hR.c3 hR.o0 hR.s0 hR.o1 hR.s1 hR.po0 hR.pb0 hR.mo0 hR.ze0 hR.st0 hR.al0 hR.po1 hR.pb1 hR.mo1 hR.ze1 hR.st1 hR.al1 hR.li0 hR.de0 hR.da0 hR.li1 hR.de1 hR.da1 hR.li2 hR.de2 hR.da2 hR.step hR.age hR.quiet hR.many hR.time hR.night hR.bell hR.h0 hR.h1 hR.h2 hR.h3 hR.h4 hR.h5 hR.h6 hR.h7 hR.nc0 hR.nc1 hR.nc2 hR.i0 hR.j0 hR.m0 hR.n0 hR.i1 hR.j1 hR.m1 hR.n1 hR.i2 hR.j2 hR.m2 hR.n2 hR.i3 hR.j3 hR.m3 hR.n3 hR.i4 hR.j4 hR.m4 hR.n4 (by simp [va_up, upd, hR.i5, qzS_countIn_a1, qzS_countIn_a5, qzS_countIn_a7, hK2, hx]) (by simp [va_up, upd, hR.j5, qzS_countIn_a1, qzS_countIn_a5, qzS_countIn_a7, hK2, hx]) (by simp [va_up, upd, hR.m5, qzS_countIn_a1, qzS_countIn_a5, qzS_countIn_a7, hK2, hx]) (by simp [va_up, upd, hR.n5, qzS_countIn_a1, qzS_countIn_a5, qzS_countIn_a7, hK2, hx]) hR.nu0 hR.nu1 hR.nu2 hR.nu3 hR.nu4 hR.nu5 hR.jt hR.jk hR.jw hR.yh0 hR.yh1 hR.yh2 hR.yh3 hR.yh4 hR.yh5 hR.yh6 hR.yh7 hR.yc0 hR.yc1 hR.yc2 hR.yo0 hR.yo1
  have hB1 : xk_cnt B t4 := by
    subst m2; subst m4; subst h4; exact xk_cnt_k (by decide) (xk_cnt_k (by decide) (xk_cnt_k (by decide) hB))
  obtain ⟨a, b, c, d, e, f⟩ := sim_mis_5 hR1 hB1 hB2 h2 m6
  have e5 : t4 5 = t 5 := by subst m2; subst m4; subst h4; rfl
  have e1 : t4 1 = t 1 := by subst m2; subst m4; subst h4; rfl
  have e3 : t4 3 = upd (t 3) 5 (t 3 5 + K) := by subst m2; subst m4; subst h4; rfl
  rw [e5] at e
  refine ⟨a, b, c.trans e1, fun j hj => ?_, ?_, e, f⟩
  · rw [d, e3]; exact if_neg hj
  · have q : tz 3 5 = t 3 5 + K := by rw [d, e3]; exact if_pos rfl
    rw [hK] at q
    exact Or.inl q
theorem sim_mv_5_im {g g1 gz t t1 t2 tz : xk_St} {x1 x2 K : Int32} {B : Nat} (hR : xr g t) (hB : xk_cnt B t) (hB2 : B < 2147483647) (hK : K = 1) (h1 : g1 = va_up g 24 (upd (upd (upd (g 24) 1 (qzS_countIn_a1 (g 24 1))) 5 (qzS_countIn_a5 (g 24 5) (-1))) 7 (qzS_countIn_a7 (g 24 7) (-1)))) (h2 : relzU_disturbIfMiscounted_5 g1 gz)
    (m1 : x1 = (t 8) 5) (m2 : t1 = va_up t 8 (upd (t 8) 5 x1)) (m3 : if ((t1 6) 5) = 0 then (x2 = (t1 9) 5) else (x2 = ((t1 9) 5) + 1)) (m4 : t2 = va_up t1 9 (upd (t1 9) 5 x2)) (m5 : relzM_change_5 t2 K tz) : xr gz tz ∧ xk_cnt (B + 1) tz ∧ xm_mv 5 t tz := by
  obtain ⟨t4, h4, t5, m6, rfl⟩ := m5
  have hx : g 24 4 = 0 ∨ g 24 7 + 1 = x2 := by
    rcases hR.m5 with q | q
    · exact Or.inl q
    · by_cases q2 : t 6 5 = 0
      · exact Or.inl (hR.k5.trans q2)
      · rw [if_neg (by rw [m2]; exact q2)] at m3
        exact Or.inr (by rw [q, m3]; rw [m2]; rfl)
  have hy : x1 = t 8 5 := by exact m1
  clear m1 m3
  have hK2 := zi_neg (t 3 5)
  have hR1 : xr g1 t4 := by
    subst h1; subst m2; subst m4; subst h4; subst hK; subst hy
    exact xr.mk hR.b0 hR.a0 hR.d0 hR.k0 hR.b1 hR.a1 hR.d1 hR.k1 hR.b2 hR.a2 hR.d2 hR.k2 hR.b3 hR.a3 hR.d3 hR.k3 hR.b4 hR.a4 hR.d4 hR.k4 (by simp [va_up, upd, hR.b5, qzS_countIn_a1, qzS_countIn_a5, qzS_countIn_a7, hK2, hx]) hR.a5 hR.d5 hR.k5 hR.p0 hR.p1 hR.p2 hR.p3 hR.p4 hR.p5 hR.p6 hR.p7 hR.c0 hR.c1 hR.c2 hR.c3 hR.o0 hR.s0 hR.o1 hR.s1 hR.po0 hR.pb0 hR.mo0 hR.ze0 hR.st0 hR.al0 hR.po1 hR.pb1 hR.mo1 hR.ze1 hR.st1 hR.al1 hR.li0 hR.de0 hR.da0 hR.li1 hR.de1 hR.da1 hR.li2 hR.de2 hR.da2 hR.step hR.age hR.quiet hR.many hR.time hR.night hR.bell hR.h0 hR.h1 hR.h2 hR.h3 hR.h4 hR.h5 hR.h6 hR.h7 hR.nc0 hR.nc1 hR.nc2 hR.i0 hR.j0 hR.m0 hR.n0 hR.i1 hR.j1 hR.m1 hR.n1 hR.i2 hR.j2 hR.m2 hR.n2 hR.i3 hR.j3 hR.m3 hR.n3 hR.i4 hR.j4 hR.m4 hR.n4 (by simp [va_up, upd, hR.i5, qzS_countIn_a1, qzS_countIn_a5, qzS_countIn_a7, hK2, hx]) (by simp [va_up, upd, hR.j5, qzS_countIn_a1, qzS_countIn_a5, qzS_countIn_a7, hK2, hx]) (by simp [va_up, upd, hR.m5, qzS_countIn_a1, qzS_countIn_a5, qzS_countIn_a7, hK2, hx]) (by simp [va_up, upd, hR.n5, qzS_countIn_a1, qzS_countIn_a5, qzS_countIn_a7, hK2, hx]) hR.nu0 hR.nu1 hR.nu2 hR.nu3 hR.nu4 hR.nu5 hR.jt hR.jk hR.jw hR.yh0 hR.yh1 hR.yh2 hR.yh3 hR.yh4 hR.yh5 hR.yh6 hR.yh7 hR.yc0 hR.yc1 hR.yc2 hR.yo0 hR.yo1
  have hB1 : xk_cnt B t4 := by
    subst m2; subst m4; subst h4; exact xk_cnt_k (by decide) (xk_cnt_k (by decide) (xk_cnt_k (by decide) hB))
  obtain ⟨a, b, c, d, e, f⟩ := sim_mis_5 hR1 hB1 hB2 h2 m6
  have e5 : t4 5 = t 5 := by subst m2; subst m4; subst h4; rfl
  have e1 : t4 1 = t 1 := by subst m2; subst m4; subst h4; rfl
  have e3 : t4 3 = upd (t 3) 5 (t 3 5 + K) := by subst m2; subst m4; subst h4; rfl
  rw [e5] at e
  refine ⟨a, b, c.trans e1, fun j hj => ?_, ?_, e, f⟩
  · rw [d, e3]; exact if_neg hj
  · have q : tz 3 5 = t 3 5 + K := by rw [d, e3]; exact if_pos rfl
    rw [hK] at q
    exact Or.inl q
theorem sim_mv_5_op {g g1 gz t t1 t2 tz : xk_St} {x1 x2 K : Int32} {B : Nat} (hR : xr g t) (hB : xk_cnt B t) (hB2 : B < 2147483647) (hK : K = -1) (h1 : g1 = va_up g 24 (upd (upd (upd (g 24) 1 (qzS_countOut_a1 (g 24 1))) 6 (qzS_countOut_a6 (g 24 6) 1)) 8 (qzS_countOut_a8 (g 24 8) 1))) (h2 : relzU_disturbIfMiscounted_5 g1 gz)
    (m1 : if ((t 6) 5) = 0 then (x1 = (t 8) 5) else (x1 = ((t 8) 5) + 1)) (m2 : t1 = va_up t 8 (upd (t 8) 5 x1)) (m3 : x2 = (t1 9) 5) (m4 : t2 = va_up t1 9 (upd (t1 9) 5 x2)) (m5 : relzM_change_5 t2 K tz) : xr gz tz ∧ xk_cnt (B + 1) tz ∧ xm_mv 5 t tz := by
  obtain ⟨t4, h4, t5, m6, rfl⟩ := m5
  have hx : g 24 4 = 0 ∨ g 24 6 + 1 = x1 := by
    rcases hR.j5 with q | q
    · exact Or.inl q
    · by_cases q2 : t 6 5 = 0
      · exact Or.inl (hR.k5.trans q2)
      · rw [if_neg (q2)] at m1
        exact Or.inr (by rw [q, m1])
  have hy : x2 = t 9 5 := by rw [m3, m2]; rfl
  clear m1 m3
  have hK2 := zi_neg (t 3 5)
  have hR1 : xr g1 t4 := by
    subst h1; subst m2; subst m4; subst h4; subst hK; subst hy
    exact xr.mk hR.b0 hR.a0 hR.d0 hR.k0 hR.b1 hR.a1 hR.d1 hR.k1 hR.b2 hR.a2 hR.d2 hR.k2 hR.b3 hR.a3 hR.d3 hR.k3 hR.b4 hR.a4 hR.d4 hR.k4 (by simp [va_up, upd, hR.b5, qzS_countOut_a1, qzS_countOut_a6, qzS_countOut_a8, hK2, hx]) hR.a5 hR.d5 hR.k5 hR.p0 hR.p1 hR.p2 hR.p3 hR.p4 hR.p5 hR.p6 hR.p7 hR.c0 hR.c1 hR.c2 hR.c3 hR.o0 hR.s0 hR.o1 hR.s1 hR.po0 hR.pb0 hR.mo0 hR.ze0 hR.st0 hR.al0 hR.po1 hR.pb1 hR.mo1 hR.ze1 hR.st1 hR.al1 hR.li0 hR.de0 hR.da0 hR.li1 hR.de1 hR.da1 hR.li2 hR.de2 hR.da2 hR.step hR.age hR.quiet hR.many hR.time hR.night hR.bell hR.h0 hR.h1 hR.h2 hR.h3 hR.h4 hR.h5 hR.h6 hR.h7 hR.nc0 hR.nc1 hR.nc2 hR.i0 hR.j0 hR.m0 hR.n0 hR.i1 hR.j1 hR.m1 hR.n1 hR.i2 hR.j2 hR.m2 hR.n2 hR.i3 hR.j3 hR.m3 hR.n3 hR.i4 hR.j4 hR.m4 hR.n4 (by simp [va_up, upd, hR.i5, qzS_countOut_a1, qzS_countOut_a6, qzS_countOut_a8, hK2, hx]) (by simp [va_up, upd, hR.j5, qzS_countOut_a1, qzS_countOut_a6, qzS_countOut_a8, hK2, hx]) (by simp [va_up, upd, hR.m5, qzS_countOut_a1, qzS_countOut_a6, qzS_countOut_a8, hK2, hx]) (by simp [va_up, upd, hR.n5, qzS_countOut_a1, qzS_countOut_a6, qzS_countOut_a8, hK2, hx]) hR.nu0 hR.nu1 hR.nu2 hR.nu3 hR.nu4 hR.nu5 hR.jt hR.jk hR.jw hR.yh0 hR.yh1 hR.yh2 hR.yh3 hR.yh4 hR.yh5 hR.yh6 hR.yh7 hR.yc0 hR.yc1 hR.yc2 hR.yo0 hR.yo1
  have hB1 : xk_cnt B t4 := by
    subst m2; subst m4; subst h4; exact xk_cnt_k (by decide) (xk_cnt_k (by decide) (xk_cnt_k (by decide) hB))
  obtain ⟨a, b, c, d, e, f⟩ := sim_mis_5 hR1 hB1 hB2 h2 m6
  have e5 : t4 5 = t 5 := by subst m2; subst m4; subst h4; rfl
  have e1 : t4 1 = t 1 := by subst m2; subst m4; subst h4; rfl
  have e3 : t4 3 = upd (t 3) 5 (t 3 5 + K) := by subst m2; subst m4; subst h4; rfl
  rw [e5] at e
  refine ⟨a, b, c.trans e1, fun j hj => ?_, ?_, e, f⟩
  · rw [d, e3]; exact if_neg hj
  · have q : tz 3 5 = t 3 5 + K := by rw [d, e3]; exact if_pos rfl
    rw [hK] at q
    exact Or.inr (q.trans hK2)
theorem sim_mv_5_om {g g1 gz t t1 t2 tz : xk_St} {x1 x2 K : Int32} {B : Nat} (hR : xr g t) (hB : xk_cnt B t) (hB2 : B < 2147483647) (hK : K = -1) (h1 : g1 = va_up g 24 (upd (upd (upd (g 24) 1 (qzS_countOut_a1 (g 24 1))) 6 (qzS_countOut_a6 (g 24 6) (-1))) 8 (qzS_countOut_a8 (g 24 8) (-1)))) (h2 : relzU_disturbIfMiscounted_5 g1 gz)
    (m1 : x1 = (t 7) 5) (m2 : t1 = va_up t 7 (upd (t 7) 5 x1)) (m3 : if ((t1 6) 5) = 0 then (x2 = (t1 10) 5) else (x2 = ((t1 10) 5) + 1)) (m4 : t2 = va_up t1 10 (upd (t1 10) 5 x2)) (m5 : relzM_change_5 t2 K tz) : xr gz tz ∧ xk_cnt (B + 1) tz ∧ xm_mv 5 t tz := by
  obtain ⟨t4, h4, t5, m6, rfl⟩ := m5
  have hx : g 24 4 = 0 ∨ g 24 8 + 1 = x2 := by
    rcases hR.n5 with q | q
    · exact Or.inl q
    · by_cases q2 : t 6 5 = 0
      · exact Or.inl (hR.k5.trans q2)
      · rw [if_neg (by rw [m2]; exact q2)] at m3
        exact Or.inr (by rw [q, m3]; rw [m2]; rfl)
  have hy : x1 = t 7 5 := by exact m1
  clear m1 m3
  have hK2 := zi_neg (t 3 5)
  have hR1 : xr g1 t4 := by
    subst h1; subst m2; subst m4; subst h4; subst hK; subst hy
    exact xr.mk hR.b0 hR.a0 hR.d0 hR.k0 hR.b1 hR.a1 hR.d1 hR.k1 hR.b2 hR.a2 hR.d2 hR.k2 hR.b3 hR.a3 hR.d3 hR.k3 hR.b4 hR.a4 hR.d4 hR.k4 (by simp [va_up, upd, hR.b5, qzS_countOut_a1, qzS_countOut_a6, qzS_countOut_a8, hK2, hx]) hR.a5 hR.d5 hR.k5 hR.p0 hR.p1 hR.p2 hR.p3 hR.p4 hR.p5 hR.p6 hR.p7 hR.c0 hR.c1 hR.c2 hR.c3 hR.o0 hR.s0 hR.o1 hR.s1 hR.po0 hR.pb0 hR.mo0 hR.ze0 hR.st0 hR.al0 hR.po1 hR.pb1 hR.mo1 hR.ze1 hR.st1 hR.al1 hR.li0 hR.de0 hR.da0 hR.li1 hR.de1 hR.da1 hR.li2 hR.de2 hR.da2 hR.step hR.age hR.quiet hR.many hR.time hR.night hR.bell hR.h0 hR.h1 hR.h2 hR.h3 hR.h4 hR.h5 hR.h6 hR.h7 hR.nc0 hR.nc1 hR.nc2 hR.i0 hR.j0 hR.m0 hR.n0 hR.i1 hR.j1 hR.m1 hR.n1 hR.i2 hR.j2 hR.m2 hR.n2 hR.i3 hR.j3 hR.m3 hR.n3 hR.i4 hR.j4 hR.m4 hR.n4 (by simp [va_up, upd, hR.i5, qzS_countOut_a1, qzS_countOut_a6, qzS_countOut_a8, hK2, hx]) (by simp [va_up, upd, hR.j5, qzS_countOut_a1, qzS_countOut_a6, qzS_countOut_a8, hK2, hx]) (by simp [va_up, upd, hR.m5, qzS_countOut_a1, qzS_countOut_a6, qzS_countOut_a8, hK2, hx]) (by simp [va_up, upd, hR.n5, qzS_countOut_a1, qzS_countOut_a6, qzS_countOut_a8, hK2, hx]) hR.nu0 hR.nu1 hR.nu2 hR.nu3 hR.nu4 hR.nu5 hR.jt hR.jk hR.jw hR.yh0 hR.yh1 hR.yh2 hR.yh3 hR.yh4 hR.yh5 hR.yh6 hR.yh7 hR.yc0 hR.yc1 hR.yc2 hR.yo0 hR.yo1
  have hB1 : xk_cnt B t4 := by
    subst m2; subst m4; subst h4; exact xk_cnt_k (by decide) (xk_cnt_k (by decide) (xk_cnt_k (by decide) hB))
  obtain ⟨a, b, c, d, e, f⟩ := sim_mis_5 hR1 hB1 hB2 h2 m6
  have e5 : t4 5 = t 5 := by subst m2; subst m4; subst h4; rfl
  have e1 : t4 1 = t 1 := by subst m2; subst m4; subst h4; rfl
  have e3 : t4 3 = upd (t 3) 5 (t 3 5 + K) := by subst m2; subst m4; subst h4; rfl
  rw [e5] at e
  refine ⟨a, b, c.trans e1, fun j hj => ?_, ?_, e, f⟩
  · rw [d, e3]; exact if_neg hj
  · have q : tz 3 5 = t 3 5 + K := by rw [d, e3]; exact if_pos rfl
    rw [hK] at q
    exact Or.inr (q.trans hK2)
