theorem xv_same {g : xk_St} {k j : Nat} : va_up g k (upd (g k) j (g k j)) = g := by
  funext c i
  by_cases q : c = k
  · subst q
    rw [xv_eq]
    by_cases q2 : i = j
    · subst q2; exact if_pos rfl
    · exact if_neg q2
  · rw [xv_ne q]
def xi_tm (T : Nat) (t : xk_St) : Prop := ∃ n : Nat, n ≤ T ∧ t 0 27 = nI n
theorem xd_par {n : Nat} (h : n < 2147483648) : qzU_isEven (nI n) = if nI n - nI n / 2 * 2 = 0 then 1 else 0 := by
  unfold qzU_isEven
  have e1 : nI n &&& 1 = nI (n % 2 ^ 1) := pk_andN (by omega) 1 (by decide)
  have e2 : nI n - nI n / nI 2 * nI 2 = nI (n % 2) := pk_rem (by omega) (by decide) (by decide)
  rw [e1, show (2 : Int32) = nI 2 from by decide, e2]
theorem xd_par5 {n : Nat} (h : n < 2147483648) : qzU_isEven (nI n / 5) = if nI n / 5 - nI n / 5 / 2 * 2 = 0 then 1 else 0 := by
  have e : nI n / nI 5 = nI (n / 5) := pk_div (by omega) (by decide) (by decide)
  rw [show (5 : Int32) = nI 5 from by decide, e]
  exact xd_par (by omega)
theorem xd_par10 {n : Nat} (h : n < 2147483648) : qzU_isEven (nI n / 10) = if nI n / 10 - nI n / 10 / 2 * 2 = 0 then 1 else 0 := by
  have e : nI n / nI 10 = nI (n / 10) := pk_div (by omega) (by decide) (by decide)
  rw [show (10 : Int32) = nI 10 from by decide, e]
  exact xd_par (by omega)
theorem xd_drive {st al p x1 x2 x3 : Int32} (m1 : if st = 3 then (x1 = 1) else (if st = 4 then (x1 = 1) else (x1 = 0))) (m2 : if st = 5 then (x2 = 1) else (if st = 0 then (x2 = 1) else (x2 = 0)))
    (m3 : if al = 0 then (if x1 = 0 then (if x2 = 0 then (x3 = 0) else (if p = 100 then (x3 = 0) else (x3 = 1))) else (if p = 0 then (if x2 = 0 then (x3 = 0) else (if p = 100 then (x3 = 0) else (x3 = 1))) else (x3 = (-1)))) else (x3 = 0)) : qzB_drive_a2 p al st = x3 ∧ (al ≠ 0 → x3 = 0) := by
  unfold qzB_drive_a2
  by_cases a : al = 0
  · refine ⟨?_, fun h => absurd a h⟩
    rw [if_pos a] at m3 ⊢
    by_cases h3 : st = 3
    · subst h3
      simp at m1 m2
      subst m1; subst m2
      by_cases hp : p = 0
      · simp [hp] at m3 ⊢; exact m3.symm
      · simp [hp] at m3 ⊢; exact m3.symm
    · by_cases h4 : st = 4
      · subst h4
        simp at m1 m2
        subst m1; subst m2
        by_cases hp : p = 0
        · simp [hp] at m3 ⊢; exact m3.symm
        · simp [hp] at m3 ⊢; exact m3.symm
      · rw [if_neg h3, if_neg h4] at m1
        subst m1
        rw [if_pos rfl] at m3
        rw [if_neg h3, if_neg h4]
        by_cases h5 : st = 5
        · rw [if_pos h5] at m2 ⊢
          subst m2
          rw [if_neg (by decide)] at m3
          by_cases hp : p = 100
          · rw [if_pos hp] at m3 ⊢; exact m3.symm
          · rw [if_neg hp] at m3 ⊢; exact m3.symm
        · rw [if_neg h5] at m2 ⊢
          by_cases h0 : st = 0
          · rw [if_pos h0] at m2 ⊢
            subst m2
            rw [if_neg (by decide)] at m3
            by_cases hp : p = 100
            · rw [if_pos hp] at m3 ⊢; exact m3.symm
            · rw [if_neg hp] at m3 ⊢; exact m3.symm
          · rw [if_neg h0] at m2 ⊢
            subst m2
            rw [if_pos rfl] at m3
            exact m3.symm
  · rw [if_neg a] at m3 ⊢
    exact ⟨m3.symm, fun _ => m3⟩
theorem xd_lit0 {st x y : Int32} (h : if st = 1 then (x = 1) else (x = 0)) (k : if st = 1 then (y = 1) else (y = 0)) : x = y := by
  by_cases a : st = 1
  · rw [if_pos a] at h k; rw [h, k]
  · rw [if_neg a] at h k; rw [h, k]
theorem xd_lit1 {st v e x1 x3 y : Int32} (h1 : if st < 2 then (x1 = 0) else (x1 = 1)) (h3 : if x1 = 0 then (x3 = 0) else (if e = 0 then (x3 = 0) else (x3 = 1))) (he : e = if v = 0 then 1 else 0) (k : if st < 2 then (y = 0) else (if v = 0 then (y = 1) else (y = 0))) : x3 = y := by
  by_cases a : st < 2
  · rw [if_pos a] at h1 k
    rw [if_pos h1] at h3
    rw [h3, k]
  · rw [if_neg a] at h1 k
    rw [if_neg (by rw [h1]; decide)] at h3
    by_cases b : v = 0
    · rw [if_pos b] at he k
      rw [if_neg (by rw [he]; decide)] at h3
      rw [h3, k]
    · rw [if_neg b] at he k
      rw [if_pos he] at h3
      rw [h3, k]
theorem xd_lit2 {st v e x1 x3 y : Int32} (h1 : if st < 2 then (x1 = 0) else (x1 = 1)) (h3 : if x1 = 0 then (x3 = 0) else (if e = 0 then (x3 = 1) else (x3 = 0))) (he : e = if v = 0 then 1 else 0) (k : if st < 2 then (y = 0) else (if v = 0 then (y = 0) else (y = 1))) : x3 = y := by
  by_cases a : st < 2
  · rw [if_pos a] at h1 k
    rw [if_pos h1] at h3
    rw [h3, k]
  · rw [if_neg a] at h1 k
    rw [if_neg (by rw [h1]; decide)] at h3
    by_cases b : v = 0
    · rw [if_pos b] at he k
      rw [if_neg (by rw [he]; decide)] at h3
      rw [h3, k]
    · rw [if_neg b] at he k
      rw [if_pos he] at h3
      rw [h3, k]
theorem xd_bell {st ni ti x10 x12 : Int32} (m1 : if st = 1 then (x10 = 1) else (if st = 2 then (x10 = 1) else (if st = 3 then (if ni = 0 then (x10 = 1) else (x10 = 0)) else (x10 = 0))))
    (m2 : if x10 = 0 then (x12 = 0) else (∃ (x11 : Int32), (if ni = 0 then (x11 = 5) else (x11 = 10)) ∧ (if (ti / x11 - ti / x11 / 2 * 2) = 0 then (x12 = 1) else (x12 = 0))))
    (h5 : qzU_isEven (ti / 5) = if ti / 5 - ti / 5 / 2 * 2 = 0 then 1 else 0) (h10 : qzU_isEven (ti / 10) = if ti / 10 - ti / 10 / 2 * 2 = 0 then 1 else 0) :
    (if (if st = 1 then 1 else (if st = 2 then 1 else (if st = 3 then (if ni = 0 then 1 else 0 : Int32) else 0 : Int32) : Int32) : Int32) = 0 then 0 else (if (qzU_isEven (ti / (if ni = 0 then 5 else 10 : Int32))) = 0 then 0 else 1 : Int32) : Int32) = x12 := by
  have hx : (if st = 1 then 1 else (if st = 2 then 1 else (if st = 3 then (if ni = 0 then 1 else 0 : Int32) else 0 : Int32) : Int32) : Int32) = x10 := by
    by_cases a : st = 1
    · rw [if_pos a] at m1 ⊢; exact m1.symm
    · rw [if_neg a] at m1 ⊢
      by_cases b : st = 2
      · rw [if_pos b] at m1 ⊢; exact m1.symm
      · rw [if_neg b] at m1 ⊢
        by_cases c : st = 3
        · rw [if_pos c] at m1 ⊢
          by_cases d : ni = 0
          · rw [if_pos d] at m1 ⊢; exact m1.symm
          · rw [if_neg d] at m1 ⊢; exact m1.symm
        · rw [if_neg c] at m1 ⊢; exact m1.symm
  rw [hx]
  by_cases a : x10 = 0
  · rw [if_pos a] at m2 ⊢; exact m2.symm
  · rw [if_neg a] at m2 ⊢
    obtain ⟨x11, e1, e2⟩ := m2
    by_cases b : ni = 0
    · rw [if_pos b] at e1 ⊢
      subst e1
      rw [h5]
      by_cases c : ti / 5 - ti / 5 / 2 * 2 = 0
      · rw [if_pos c] at e2 ⊢; rw [if_neg (by decide)]; exact e2.symm
      · rw [if_neg c] at e2 ⊢; rw [if_pos rfl]; exact e2.symm
    · rw [if_neg b] at e1 ⊢
      subst e1
      rw [h10]
      by_cases c : ti / 10 - ti / 10 / 2 * 2 = 0
      · rw [if_pos c] at e2 ⊢; rw [if_neg (by decide)]; exact e2.symm
      · rw [if_neg c] at e2 ⊢; rw [if_pos rfl]; exact e2.symm
theorem xr_motor0 {g t : xk_St} (x : Int32) (hR : xr g t) : xr (va_up g 29 (upd (g 29) 2 x)) (va_up t 16 (upd (t 16) 0 x)) := by
  exact xr.mk hR.b0 hR.a0 hR.d0 hR.k0 hR.b1 hR.a1 hR.d1 hR.k1 hR.b2 hR.a2 hR.d2 hR.k2 hR.b3 hR.a3 hR.d3 hR.k3 hR.b4 hR.a4 hR.d4 hR.k4 hR.b5 hR.a5 hR.d5 hR.k5 hR.p0 hR.p1 hR.p2 hR.p3 hR.p4 hR.p5 hR.p6 hR.p7 hR.c0 hR.c1 hR.c2 hR.c3 hR.o0 hR.s0 hR.o1 hR.s1 hR.po0 hR.pb0 (by simp [va_up, upd, hR.mo0]) hR.ze0 hR.st0 hR.al0 hR.po1 hR.pb1 hR.mo1 hR.ze1 hR.st1 hR.al1 hR.li0 hR.de0 hR.da0 hR.li1 hR.de1 hR.da1 hR.li2 hR.de2 hR.da2 hR.step hR.age hR.quiet hR.many hR.time hR.night hR.bell hR.h0 hR.h1 hR.h2 hR.h3 hR.h4 hR.h5 hR.h6 hR.h7 hR.nc0 hR.nc1 hR.nc2 hR.i0 hR.j0 hR.m0 hR.n0 hR.i1 hR.j1 hR.m1 hR.n1 hR.i2 hR.j2 hR.m2 hR.n2 hR.i3 hR.j3 hR.m3 hR.n3 hR.i4 hR.j4 hR.m4 hR.n4 hR.i5 hR.j5 hR.m5 hR.n5 hR.nu0 hR.nu1 hR.nu2 hR.nu3 hR.nu4 hR.nu5 hR.jt hR.jk hR.jw hR.yh0 hR.yh1 hR.yh2 hR.yh3 hR.yh4 hR.yh5 hR.yh6 hR.yh7 hR.yc0 hR.yc1 hR.yc2 hR.yo0 hR.yo1
theorem xr_motor1 {g t : xk_St} (x : Int32) (hR : xr g t) : xr (va_up g 30 (upd (g 30) 2 x)) (va_up t 16 (upd (t 16) 1 x)) := by
  exact xr.mk hR.b0 hR.a0 hR.d0 hR.k0 hR.b1 hR.a1 hR.d1 hR.k1 hR.b2 hR.a2 hR.d2 hR.k2 hR.b3 hR.a3 hR.d3 hR.k3 hR.b4 hR.a4 hR.d4 hR.k4 hR.b5 hR.a5 hR.d5 hR.k5 hR.p0 hR.p1 hR.p2 hR.p3 hR.p4 hR.p5 hR.p6 hR.p7 hR.c0 hR.c1 hR.c2 hR.c3 hR.o0 hR.s0 hR.o1 hR.s1 hR.po0 hR.pb0 hR.mo0 hR.ze0 hR.st0 hR.al0 hR.po1 hR.pb1 (by simp [va_up, upd, hR.mo1]) hR.ze1 hR.st1 hR.al1 hR.li0 hR.de0 hR.da0 hR.li1 hR.de1 hR.da1 hR.li2 hR.de2 hR.da2 hR.step hR.age hR.quiet hR.many hR.time hR.night hR.bell hR.h0 hR.h1 hR.h2 hR.h3 hR.h4 hR.h5 hR.h6 hR.h7 hR.nc0 hR.nc1 hR.nc2 hR.i0 hR.j0 hR.m0 hR.n0 hR.i1 hR.j1 hR.m1 hR.n1 hR.i2 hR.j2 hR.m2 hR.n2 hR.i3 hR.j3 hR.m3 hR.n3 hR.i4 hR.j4 hR.m4 hR.n4 hR.i5 hR.j5 hR.m5 hR.n5 hR.nu0 hR.nu1 hR.nu2 hR.nu3 hR.nu4 hR.nu5 hR.jt hR.jk hR.jw hR.yh0 hR.yh1 hR.yh2 hR.yh3 hR.yh4 hR.yh5 hR.yh6 hR.yh7 hR.yc0 hR.yc1 hR.yc2 hR.yo0 hR.yo1
theorem xr_lit0 {g t : xk_St} (x : Int32) (hR : xr g t) : xr (va_up g 31 (upd (g 31) 1 x)) (va_up t 21 (upd (t 21) 0 x)) := by
  exact xr.mk hR.b0 hR.a0 hR.d0 hR.k0 hR.b1 hR.a1 hR.d1 hR.k1 hR.b2 hR.a2 hR.d2 hR.k2 hR.b3 hR.a3 hR.d3 hR.k3 hR.b4 hR.a4 hR.d4 hR.k4 hR.b5 hR.a5 hR.d5 hR.k5 hR.p0 hR.p1 hR.p2 hR.p3 hR.p4 hR.p5 hR.p6 hR.p7 hR.c0 hR.c1 hR.c2 hR.c3 hR.o0 hR.s0 hR.o1 hR.s1 hR.po0 hR.pb0 hR.mo0 hR.ze0 hR.st0 hR.al0 hR.po1 hR.pb1 hR.mo1 hR.ze1 hR.st1 hR.al1 (by simp [va_up, upd, hR.li0]) hR.de0 hR.da0 hR.li1 hR.de1 hR.da1 hR.li2 hR.de2 hR.da2 hR.step hR.age hR.quiet hR.many hR.time hR.night hR.bell hR.h0 hR.h1 hR.h2 hR.h3 hR.h4 hR.h5 hR.h6 hR.h7 hR.nc0 hR.nc1 hR.nc2 hR.i0 hR.j0 hR.m0 hR.n0 hR.i1 hR.j1 hR.m1 hR.n1 hR.i2 hR.j2 hR.m2 hR.n2 hR.i3 hR.j3 hR.m3 hR.n3 hR.i4 hR.j4 hR.m4 hR.n4 hR.i5 hR.j5 hR.m5 hR.n5 hR.nu0 hR.nu1 hR.nu2 hR.nu3 hR.nu4 hR.nu5 hR.jt hR.jk hR.jw hR.yh0 hR.yh1 hR.yh2 hR.yh3 hR.yh4 hR.yh5 hR.yh6 hR.yh7 hR.yc0 hR.yc1 hR.yc2 hR.yo0 hR.yo1
theorem xr_lit1 {g t : xk_St} (x : Int32) (hR : xr g t) : xr (va_up g 32 (upd (g 32) 1 x)) (va_up t 21 (upd (t 21) 1 x)) := by
  exact xr.mk hR.b0 hR.a0 hR.d0 hR.k0 hR.b1 hR.a1 hR.d1 hR.k1 hR.b2 hR.a2 hR.d2 hR.k2 hR.b3 hR.a3 hR.d3 hR.k3 hR.b4 hR.a4 hR.d4 hR.k4 hR.b5 hR.a5 hR.d5 hR.k5 hR.p0 hR.p1 hR.p2 hR.p3 hR.p4 hR.p5 hR.p6 hR.p7 hR.c0 hR.c1 hR.c2 hR.c3 hR.o0 hR.s0 hR.o1 hR.s1 hR.po0 hR.pb0 hR.mo0 hR.ze0 hR.st0 hR.al0 hR.po1 hR.pb1 hR.mo1 hR.ze1 hR.st1 hR.al1 hR.li0 hR.de0 hR.da0 (by simp [va_up, upd, hR.li1]) hR.de1 hR.da1 hR.li2 hR.de2 hR.da2 hR.step hR.age hR.quiet hR.many hR.time hR.night hR.bell hR.h0 hR.h1 hR.h2 hR.h3 hR.h4 hR.h5 hR.h6 hR.h7 hR.nc0 hR.nc1 hR.nc2 hR.i0 hR.j0 hR.m0 hR.n0 hR.i1 hR.j1 hR.m1 hR.n1 hR.i2 hR.j2 hR.m2 hR.n2 hR.i3 hR.j3 hR.m3 hR.n3 hR.i4 hR.j4 hR.m4 hR.n4 hR.i5 hR.j5 hR.m5 hR.n5 hR.nu0 hR.nu1 hR.nu2 hR.nu3 hR.nu4 hR.nu5 hR.jt hR.jk hR.jw hR.yh0 hR.yh1 hR.yh2 hR.yh3 hR.yh4 hR.yh5 hR.yh6 hR.yh7 hR.yc0 hR.yc1 hR.yc2 hR.yo0 hR.yo1
theorem xr_lit2 {g t : xk_St} (x : Int32) (hR : xr g t) : xr (va_up g 33 (upd (g 33) 1 x)) (va_up t 21 (upd (t 21) 2 x)) := by
  exact xr.mk hR.b0 hR.a0 hR.d0 hR.k0 hR.b1 hR.a1 hR.d1 hR.k1 hR.b2 hR.a2 hR.d2 hR.k2 hR.b3 hR.a3 hR.d3 hR.k3 hR.b4 hR.a4 hR.d4 hR.k4 hR.b5 hR.a5 hR.d5 hR.k5 hR.p0 hR.p1 hR.p2 hR.p3 hR.p4 hR.p5 hR.p6 hR.p7 hR.c0 hR.c1 hR.c2 hR.c3 hR.o0 hR.s0 hR.o1 hR.s1 hR.po0 hR.pb0 hR.mo0 hR.ze0 hR.st0 hR.al0 hR.po1 hR.pb1 hR.mo1 hR.ze1 hR.st1 hR.al1 hR.li0 hR.de0 hR.da0 hR.li1 hR.de1 hR.da1 (by simp [va_up, upd, hR.li2]) hR.de2 hR.da2 hR.step hR.age hR.quiet hR.many hR.time hR.night hR.bell hR.h0 hR.h1 hR.h2 hR.h3 hR.h4 hR.h5 hR.h6 hR.h7 hR.nc0 hR.nc1 hR.nc2 hR.i0 hR.j0 hR.m0 hR.n0 hR.i1 hR.j1 hR.m1 hR.n1 hR.i2 hR.j2 hR.m2 hR.n2 hR.i3 hR.j3 hR.m3 hR.n3 hR.i4 hR.j4 hR.m4 hR.n4 hR.i5 hR.j5 hR.m5 hR.n5 hR.nu0 hR.nu1 hR.nu2 hR.nu3 hR.nu4 hR.nu5 hR.jt hR.jk hR.jw hR.yh0 hR.yh1 hR.yh2 hR.yh3 hR.yh4 hR.yh5 hR.yh6 hR.yh7 hR.yc0 hR.yc1 hR.yc2 hR.yo0 hR.yo1
theorem xr_bell {g t : xk_St} (x : Int32) (hR : xr g t) : xr (va_up g 0 (upd (g 0) 8 x)) (va_up t 0 (upd (t 0) 25 x)) := by
  exact xr.mk hR.b0 hR.a0 hR.d0 hR.k0 hR.b1 hR.a1 hR.d1 hR.k1 hR.b2 hR.a2 hR.d2 hR.k2 hR.b3 hR.a3 hR.d3 hR.k3 hR.b4 hR.a4 hR.d4 hR.k4 hR.b5 hR.a5 hR.d5 hR.k5 hR.p0 hR.p1 hR.p2 hR.p3 hR.p4 hR.p5 hR.p6 hR.p7 hR.c0 hR.c1 hR.c2 hR.c3 hR.o0 hR.s0 hR.o1 hR.s1 hR.po0 hR.pb0 hR.mo0 hR.ze0 hR.st0 hR.al0 hR.po1 hR.pb1 hR.mo1 hR.ze1 hR.st1 hR.al1 hR.li0 hR.de0 hR.da0 hR.li1 hR.de1 hR.da1 hR.li2 hR.de2 hR.da2 hR.step hR.age hR.quiet hR.many hR.time hR.night (by simp [va_up, upd, hR.bell]) hR.h0 hR.h1 hR.h2 hR.h3 hR.h4 hR.h5 hR.h6 hR.h7 hR.nc0 hR.nc1 hR.nc2 hR.i0 hR.j0 hR.m0 hR.n0 hR.i1 hR.j1 hR.m1 hR.n1 hR.i2 hR.j2 hR.m2 hR.n2 hR.i3 hR.j3 hR.m3 hR.n3 hR.i4 hR.j4 hR.m4 hR.n4 hR.i5 hR.j5 hR.m5 hR.n5 hR.nu0 hR.nu1 hR.nu2 hR.nu3 hR.nu4 hR.nu5 hR.jt hR.jk hR.jw hR.yh0 hR.yh1 hR.yh2 hR.yh3 hR.yh4 hR.yh5 hR.yh6 hR.yh7 hR.yc0 hR.yc1 hR.yc2 hR.yo0 hR.yo1
theorem xr_clear0 {g t : xk_St} (x : Int32) (hR : xr g t) : xr (va_up g 9 (upd (g 9) 5 x)) (va_up t 24 (upd (t 24) 0 x)) := by
  exact xr.mk hR.b0 hR.a0 hR.d0 hR.k0 hR.b1 hR.a1 hR.d1 hR.k1 hR.b2 hR.a2 hR.d2 hR.k2 hR.b3 hR.a3 hR.d3 hR.k3 hR.b4 hR.a4 hR.d4 hR.k4 hR.b5 hR.a5 hR.d5 hR.k5 hR.p0 hR.p1 hR.p2 hR.p3 hR.p4 hR.p5 hR.p6 hR.p7 hR.c0 hR.c1 hR.c2 hR.c3 hR.o0 (by simp [va_up, upd, hR.s0]) hR.o1 hR.s1 hR.po0 hR.pb0 hR.mo0 hR.ze0 hR.st0 hR.al0 hR.po1 hR.pb1 hR.mo1 hR.ze1 hR.st1 hR.al1 hR.li0 hR.de0 hR.da0 hR.li1 hR.de1 hR.da1 hR.li2 hR.de2 hR.da2 hR.step hR.age hR.quiet hR.many hR.time hR.night hR.bell hR.h0 hR.h1 hR.h2 hR.h3 hR.h4 hR.h5 hR.h6 hR.h7 hR.nc0 hR.nc1 hR.nc2 hR.i0 hR.j0 hR.m0 hR.n0 hR.i1 hR.j1 hR.m1 hR.n1 hR.i2 hR.j2 hR.m2 hR.n2 hR.i3 hR.j3 hR.m3 hR.n3 hR.i4 hR.j4 hR.m4 hR.n4 hR.i5 hR.j5 hR.m5 hR.n5 hR.nu0 hR.nu1 hR.nu2 hR.nu3 hR.nu4 hR.nu5 hR.jt hR.jk hR.jw hR.yh0 hR.yh1 hR.yh2 hR.yh3 hR.yh4 hR.yh5 hR.yh6 hR.yh7 hR.yc0 hR.yc1 hR.yc2 hR.yo0 hR.yo1
theorem xr_clear1 {g t : xk_St} (x : Int32) (hR : xr g t) : xr (va_up g 10 (upd (g 10) 5 x)) (va_up t 24 (upd (t 24) 1 x)) := by
  exact xr.mk hR.b0 hR.a0 hR.d0 hR.k0 hR.b1 hR.a1 hR.d1 hR.k1 hR.b2 hR.a2 hR.d2 hR.k2 hR.b3 hR.a3 hR.d3 hR.k3 hR.b4 hR.a4 hR.d4 hR.k4 hR.b5 hR.a5 hR.d5 hR.k5 hR.p0 hR.p1 hR.p2 hR.p3 hR.p4 hR.p5 hR.p6 hR.p7 hR.c0 hR.c1 hR.c2 hR.c3 hR.o0 hR.s0 hR.o1 (by simp [va_up, upd, hR.s1]) hR.po0 hR.pb0 hR.mo0 hR.ze0 hR.st0 hR.al0 hR.po1 hR.pb1 hR.mo1 hR.ze1 hR.st1 hR.al1 hR.li0 hR.de0 hR.da0 hR.li1 hR.de1 hR.da1 hR.li2 hR.de2 hR.da2 hR.step hR.age hR.quiet hR.many hR.time hR.night hR.bell hR.h0 hR.h1 hR.h2 hR.h3 hR.h4 hR.h5 hR.h6 hR.h7 hR.nc0 hR.nc1 hR.nc2 hR.i0 hR.j0 hR.m0 hR.n0 hR.i1 hR.j1 hR.m1 hR.n1 hR.i2 hR.j2 hR.m2 hR.n2 hR.i3 hR.j3 hR.m3 hR.n3 hR.i4 hR.j4 hR.m4 hR.n4 hR.i5 hR.j5 hR.m5 hR.n5 hR.nu0 hR.nu1 hR.nu2 hR.nu3 hR.nu4 hR.nu5 hR.jt hR.jk hR.jw hR.yh0 hR.yh1 hR.yh2 hR.yh3 hR.yh4 hR.yh5 hR.yh6 hR.yh7 hR.yc0 hR.yc1 hR.yc2 hR.yo0 hR.yo1
theorem xr_time {g t : xk_St} (x : Int32) (hR : xr g t) : xr (va_up g 0 (upd (g 0) 5 x)) (va_up t 0 (upd (t 0) 27 x)) := by
  exact xr.mk hR.b0 hR.a0 hR.d0 hR.k0 hR.b1 hR.a1 hR.d1 hR.k1 hR.b2 hR.a2 hR.d2 hR.k2 hR.b3 hR.a3 hR.d3 hR.k3 hR.b4 hR.a4 hR.d4 hR.k4 hR.b5 hR.a5 hR.d5 hR.k5 hR.p0 hR.p1 hR.p2 hR.p3 hR.p4 hR.p5 hR.p6 hR.p7 hR.c0 hR.c1 hR.c2 hR.c3 hR.o0 hR.s0 hR.o1 hR.s1 hR.po0 hR.pb0 hR.mo0 hR.ze0 hR.st0 hR.al0 hR.po1 hR.pb1 hR.mo1 hR.ze1 hR.st1 hR.al1 hR.li0 hR.de0 hR.da0 hR.li1 hR.de1 hR.da1 hR.li2 hR.de2 hR.da2 hR.step hR.age hR.quiet hR.many (by simp [va_up, upd, hR.time]) hR.night hR.bell hR.h0 hR.h1 hR.h2 hR.h3 hR.h4 hR.h5 hR.h6 hR.h7 hR.nc0 hR.nc1 hR.nc2 hR.i0 hR.j0 hR.m0 hR.n0 hR.i1 hR.j1 hR.m1 hR.n1 hR.i2 hR.j2 hR.m2 hR.n2 hR.i3 hR.j3 hR.m3 hR.n3 hR.i4 hR.j4 hR.m4 hR.n4 hR.i5 hR.j5 hR.m5 hR.n5 hR.nu0 hR.nu1 hR.nu2 hR.nu3 hR.nu4 hR.nu5 hR.jt hR.jk hR.jw hR.yh0 hR.yh1 hR.yh2 hR.yh3 hR.yh4 hR.yh5 hR.yh6 hR.yh7 hR.yc0 hR.yc1 hR.yc2 hR.yo0 hR.yo1
theorem xr_out {g t : xk_St} (x : Int32) (hR : xr g t) : xr (va_up g 0 (upd (g 0) 6 x)) t := by
  exact xr.mk hR.b0 hR.a0 hR.d0 hR.k0 hR.b1 hR.a1 hR.d1 hR.k1 hR.b2 hR.a2 hR.d2 hR.k2 hR.b3 hR.a3 hR.d3 hR.k3 hR.b4 hR.a4 hR.d4 hR.k4 hR.b5 hR.a5 hR.d5 hR.k5 hR.p0 hR.p1 hR.p2 hR.p3 hR.p4 hR.p5 hR.p6 hR.p7 hR.c0 hR.c1 hR.c2 hR.c3 hR.o0 hR.s0 hR.o1 hR.s1 hR.po0 hR.pb0 hR.mo0 hR.ze0 hR.st0 hR.al0 hR.po1 hR.pb1 hR.mo1 hR.ze1 hR.st1 hR.al1 hR.li0 hR.de0 hR.da0 hR.li1 hR.de1 hR.da1 hR.li2 hR.de2 hR.da2 hR.step hR.age hR.quiet hR.many hR.time hR.night hR.bell hR.h0 hR.h1 hR.h2 hR.h3 hR.h4 hR.h5 hR.h6 hR.h7 hR.nc0 hR.nc1 hR.nc2 hR.i0 hR.j0 hR.m0 hR.n0 hR.i1 hR.j1 hR.m1 hR.n1 hR.i2 hR.j2 hR.m2 hR.n2 hR.i3 hR.j3 hR.m3 hR.n3 hR.i4 hR.j4 hR.m4 hR.n4 hR.i5 hR.j5 hR.m5 hR.n5 hR.nu0 hR.nu1 hR.nu2 hR.nu3 hR.nu4 hR.nu5 hR.jt hR.jk hR.jw hR.yh0 hR.yh1 hR.yh2 hR.yh3 hR.yh4 hR.yh5 hR.yh6 hR.yh7 hR.yc0 hR.yc1 hR.yc2 hR.yo0 hR.yo1
theorem sim_drive {g ga gb t tz : xk_St} {B T : Nat} (hR : xr g t) (hB : xk_cnt B t) (hT : xi_tm T t) (hT2 : T < 2147483648) (hi : ∀ b : Nat, b < 2 → xi_bb t b) (hV : relzU_driveMotors g ga) (hW : relzU_lightLamps ga gb) (hM : relzM_drive t tz) : xr (va_up gb 0 (upd (gb 0) 8 (qzU_bellIsDue gb))) tz ∧ xk_cnt B tz ∧ (∀ b : Nat, b < 2 → xi_ba tz b) ∧ gb 0 9 = g 0 9 := by
  obtain ⟨g1, u1, g2, u2, rfl⟩ := hV
  obtain ⟨y1, v1, y2, v2, g3, u3, y3, v3, g4, u4, y4, v4, g5, u5, rfl⟩ := hW
  obtain ⟨x1, m1, x2, m2, x3, m3, t1, n1, x4, m4, x5, m5, x6, m6, t2, n2, x7, m7, t3, n3, x8, m8, t4, n4, x9, m9, t5, n5, x10, m10, x12, m12, t6, n6, rfl⟩ := hM
  obtain ⟨n, hn, ht⟩ := hT
  have p5 := xd_par5 (n := n) (by omega)
  have p10 := xd_par10 (n := n) (by omega)
  rw [← ht] at p5 p10
  have a1 := xd_drive m1 m2 m3
  have R1 : xr g1 t1 := by rw [u1, n1, hR.po0, hR.al0, hR.step, a1.1]; exact xr_motor0 _ hR
  have a2 := xd_drive m4 m5 m6
  have R2 : xr ga t2 := by rw [u2, n2, R1.po1, R1.al1, R1.step, a2.1]; exact xr_motor1 _ R1
  have s2 : ∀ j : Nat, t2 0 j = t 0 j := fun j => by rw [n2, n1]; rfl
  have s3 : ∀ j : Nat, t3 0 j = t2 0 j := fun j => by rw [n3]; rfl
  have s4 : ∀ j : Nat, t4 0 j = t2 0 j := fun j => by rw [n4]; exact s3 j
  have s5 : ∀ j : Nat, t5 0 j = t2 0 j := fun j => by rw [n5]; exact s4 j
  have g3s : ∀ j : Nat, g3 0 j = ga 0 j := fun j => by rw [u3]; rfl
  have e1 : y2 = x7 := xd_lit0 (by rw [R2.step] at v2; exact v2) m7
  have R3 : xr g3 t3 := by rw [u3, n3, e1]; exact xr_lit0 _ R2
  rw [s3, s3] at m8
  rw [s4, s4] at m9
  rw [R2.step] at v1
  have e0 : qzU_isEven (ga 0 5 / 5) = if t2 0 27 / 5 - t2 0 27 / 5 / 2 * 2 = 0 then 1 else 0 := by rw [R2.time, s2]; exact p5
  have e2 : y3 = x8 := xd_lit1 v1 v3 e0 m8
  have R4 : xr g4 t4 := by rw [u4, n4, e2]; exact xr_lit1 _ R3
  have e3 : y4 = x9 := xd_lit2 v1 v4 e0 m9
  have R5 : xr gb t5 := by rw [u5, n5, e3]; exact xr_lit2 _ R4
  simp only [s5, s2] at m10
  have m12' : if x10 = 0 then (x12 = 0) else (∃ (x11 : Int32), (if t 0 24 = 0 then (x11 = 5) else (x11 = 10)) ∧ (if (t 0 27 / x11 - t 0 27 / x11 / 2 * 2) = 0 then (x12 = 1) else (x12 = 0))) := by
    simp only [s5, s2] at m12; exact m12
  have e4 : qzU_bellIsDue gb = x12 := by
    unfold qzU_bellIsDue
    rw [R5.step, R5.night, R5.time]
    simp only [s5, s2]
    exact xd_bell m10 m12' p5 p10
  have R6 : xr (va_up gb 0 (upd (gb 0) 8 (qzU_bellIsDue gb))) tz := by rw [n6, e4]; exact xr_bell _ R5
  refine ⟨R6, ?_, fun b hb => ?_, ?_⟩
  · rw [n6, n5, n4, n3, n2, n1]
    exact xk_cnt_f (by decide) (xk_cnt_k (by decide) (xk_cnt_k (by decide) (xk_cnt_k (by decide) (xk_cnt_k (by decide) (xk_cnt_k (by decide) hB)))))
  · have c19 : tz 19 = t 19 := by rw [n6, n5, n4, n3, n2, n1]; rfl
    have c18 : tz 18 = t 18 := by rw [n6, n5, n4, n3, n2, n1]; rfl
    have c16 : tz 16 = upd (upd (t 16) 0 x3) 1 x6 := by rw [n6, n5, n4, n3, n2, n1]; rfl
    have t19 : t1 19 = t 19 := by rw [n1]; rfl
    show (_ ∧ _) ∨ (_ ∧ _ ∧ _)
    rw [c19, c18, c16]
    rcases hi b hb with h | ⟨h1, h2⟩
    · exact Or.inl h
    · refine Or.inr ⟨h1, ?_, h2⟩
      rcases (show b = 0 ∨ b = 1 from by omega) with rfl | rfl
      · exact a1.2 (by rw [h1]; decide)
      · exact a2.2 (by rw [t19, h1]; decide)
  · rw [u5, u4, u3, u2, u1]; rfl
theorem sim_due_0 {g t : xk_St} {x : Int32} (hR : xr g t) (hp : g 0 9 = qzM_isProved t) (m : if ((t 13) 0) = 0 then (x = 0) else (if (t 0 28) = 4 then (if (qzM_isProved t) = 0 then (x = 0) else (if (qzM_anyDisturbed_0 t) = 0 then (if (qzM_isFree_1 t) = 0 then (x = 0) else (if ((t 23) 1) = 0 then (x = 1) else (if ((t 23) 2) = 0 then (x = 1) else (x = 0)))) else (x = 0))) else (x = 0))) : qzU_signalIsDue_0 g = x := by
  have h1 : qzK_isDisturbed (g 19 3) (g 20 3) (g 21 3) = qzM_anyDisturbed_0 t := by unfold qzK_isDisturbed qzM_anyDisturbed_0; rw [hR.d0, hR.d1, hR.d2]
  have h2 : qzS_state (g 20 1) (g 20 3) = 0 ↔ ¬ qzM_isFree_1 t = 0 := by
    unfold qzM_isFree_1
    rw [xd_state, xd_two, Classical.not_not, hR.d1, hR.b1]
  unfold qzU_signalIsDue_0
  rw [hR.o0, hR.step, hp, h1, hR.de1, hR.de2]
  by_cases c1 : t 13 0 = 0
  · rw [if_pos c1] at m ⊢; exact m.symm
  · rw [if_neg c1] at m ⊢
    by_cases c2 : t 0 28 = 4
    · rw [if_pos c2] at m ⊢
      by_cases c3 : qzM_isProved t = 0
      · rw [if_pos c3] at m ⊢; exact m.symm
      · rw [if_neg c3] at m ⊢
        by_cases c4 : qzM_anyDisturbed_0 t = 0
        · rw [if_pos c4] at m ⊢
          by_cases c5 : qzM_isFree_1 t = 0
          · rw [if_pos c5] at m
            rw [if_neg (fun h => (h2.mp h) c5)]; exact m.symm
          · rw [if_neg c5] at m
            rw [if_pos (h2.mpr c5)]
            by_cases c6 : t 23 1 = 0
            · rw [if_pos c6] at m ⊢; exact m.symm
            · rw [if_neg c6] at m ⊢
              by_cases c7 : t 23 2 = 0
              · rw [if_pos c7] at m ⊢; exact m.symm
              · rw [if_neg c7] at m ⊢; exact m.symm
        · rw [if_neg c4] at m ⊢; exact m.symm
    · rw [if_neg c2] at m ⊢; exact m.symm
theorem sim_sig_0 {g g3 t t2 t3 : xk_St} {x : Int32} {B : Nat} (hR : xr g t) (hB : xk_cnt B t) (hB2 : B < 2147483647) (hx : qzU_signalIsDue_0 g = x)
    (hU : if (qzU_signalIsDue_0 g) = (g 9 5) then (g3 = g) else (∃ (g1 : xk_St), g1 = va_up g 9 (upd (g 9) 5 (qzU_signalIsDue_0 g)) ∧ (∃ (x1 : Int32), (if (qzU_signalIsDue_0 g) = 0 then (x1 = 5) else (x1 = 4)) ∧ (∃ (g2 : xk_St), g2 = va_up (va_up (va_up (va_up g1 5 (upd (g1 5) 3 (qzJ_add_a3 (g1 5 3)))) 6 (qzJ_add_b (g1 5 3) (g1 6) (g1 0 5))) 7 (qzJ_add_c (g1 5 3) (g1 7) x1)) 8 (qzJ_add_d (g1 5 3) (g1 8) 0) ∧ (g3 = g2)))))
    (hM : if x = ((t 24) 0) then (t2 = t) else (∃ (x2 : Int32), (if x = 0 then (x2 = 5) else (x2 = 4)) ∧ (∃ (g1 : xk_St), relzM_note t x2 0 g1 ∧ (t2 = g1)))) (hM2 : t3 = va_up t2 24 (upd (t2 24) 0 x)) : xr g3 t3 ∧ xk_cnt (B + 1) t3 ∧ g3 0 = g 0 ∧ t3 17 = t 17 := by
  rw [hx, hR.s0] at hU
  by_cases c : x = t 24 0
  · rw [if_pos c] at hU hM
    subst hU; subst hM; subst c; subst hM2
    rw [xv_same]
    exact ⟨hR, xk_cnt_le hB (by omega), rfl, rfl⟩
  · rw [if_neg c] at hU hM
    obtain ⟨g1, u1, y1, u2, g2, u3, rfl⟩ := hU
    obtain ⟨x2, m1, t1, m2, rfl⟩ := hM
    have hy : y1 = x2 := by
      by_cases q : x = 0
      · rw [if_pos q] at u2 m1; rw [u2, m1]
      · rw [if_neg q] at u2 m1; rw [u2, m1]
    subst hy
    have R1 := xr_clear0 x (xr_note hR hB (by omega) m2)
    have e : g3 = va_up (va_up (va_up (va_up (va_up g 5 (upd (g 5) 3 (qzJ_add_a3 (g 5 3)))) 6 (qzJ_add_b (g 5 3) (g 6) (g 0 5))) 7 (qzJ_add_c (g 5 3) (g 7) y1)) 8 (qzJ_add_d (g 5 3) (g 8) 0)) 9 (upd ((va_up (va_up (va_up (va_up g 5 (upd (g 5) 3 (qzJ_add_a3 (g 5 3)))) 6 (qzJ_add_b (g 5 3) (g 6) (g 0 5))) 7 (qzJ_add_c (g 5 3) (g 7) y1)) 8 (qzJ_add_d (g 5 3) (g 8) 0)) 9) 5 x) := by
      subst u1; subst u3
      funext c
      by_cases q : c = 9
      · subst q; simp [va_up]
      · simp [va_up, q]
    rw [e, hM2]
    refine ⟨R1, xk_cnt_k (by decide) (xr_nc hB m2), ?_, ?_⟩
    · simp [va_up]
    · rw [xv_ne (by decide)]
      funext j
      exact xr_nf m2 17 j (by decide) (by decide) (by decide) (by decide)
theorem sim_due_1 {g t : xk_St} {x : Int32} (hR : xr g t) (hp : g 0 9 = qzM_isProved t) (m : if ((t 13) 1) = 0 then (x = 0) else (if (t 0 28) = 4 then (if (qzM_isProved t) = 0 then (x = 0) else (if (qzM_anyDisturbed_1 t) = 0 then (if (qzM_isFree_4 t) = 0 then (x = 0) else (if ((t 23) 1) = 0 then (x = 1) else (if ((t 23) 2) = 0 then (x = 1) else (x = 0)))) else (x = 0))) else (x = 0))) : qzU_signalIsDue_1 g = x := by
  have h1 : qzK_isDisturbed (g 22 3) (g 23 3) (g 24 3) = qzM_anyDisturbed_1 t := by unfold qzK_isDisturbed qzM_anyDisturbed_1; rw [hR.d3, hR.d4, hR.d5]
  have h2 : qzS_state (g 23 1) (g 23 3) = 0 ↔ ¬ qzM_isFree_4 t = 0 := by
    unfold qzM_isFree_4
    rw [xd_state, xd_two, Classical.not_not, hR.d4, hR.b4]
  unfold qzU_signalIsDue_1
  rw [hR.o1, hR.step, hp, h1, hR.de1, hR.de2]
  by_cases c1 : t 13 1 = 0
  · rw [if_pos c1] at m ⊢; exact m.symm
  · rw [if_neg c1] at m ⊢
    by_cases c2 : t 0 28 = 4
    · rw [if_pos c2] at m ⊢
      by_cases c3 : qzM_isProved t = 0
      · rw [if_pos c3] at m ⊢; exact m.symm
      · rw [if_neg c3] at m ⊢
        by_cases c4 : qzM_anyDisturbed_1 t = 0
        · rw [if_pos c4] at m ⊢
          by_cases c5 : qzM_isFree_4 t = 0
          · rw [if_pos c5] at m
            rw [if_neg (fun h => (h2.mp h) c5)]; exact m.symm
          · rw [if_neg c5] at m
            rw [if_pos (h2.mpr c5)]
            by_cases c6 : t 23 1 = 0
            · rw [if_pos c6] at m ⊢; exact m.symm
            · rw [if_neg c6] at m ⊢
              by_cases c7 : t 23 2 = 0
              · rw [if_pos c7] at m ⊢; exact m.symm
              · rw [if_neg c7] at m ⊢; exact m.symm
        · rw [if_neg c4] at m ⊢; exact m.symm
    · rw [if_neg c2] at m ⊢; exact m.symm
theorem sim_sig_1 {g g3 t t2 t3 : xk_St} {x : Int32} {B : Nat} (hR : xr g t) (hB : xk_cnt B t) (hB2 : B < 2147483647) (hx : qzU_signalIsDue_1 g = x)
    (hU : if (qzU_signalIsDue_1 g) = (g 10 5) then (g3 = g) else (∃ (g1 : xk_St), g1 = va_up g 10 (upd (g 10) 5 (qzU_signalIsDue_1 g)) ∧ (∃ (x1 : Int32), (if (qzU_signalIsDue_1 g) = 0 then (x1 = 5) else (x1 = 4)) ∧ (∃ (g2 : xk_St), g2 = va_up (va_up (va_up (va_up g1 5 (upd (g1 5) 3 (qzJ_add_a3 (g1 5 3)))) 6 (qzJ_add_b (g1 5 3) (g1 6) (g1 0 5))) 7 (qzJ_add_c (g1 5 3) (g1 7) x1)) 8 (qzJ_add_d (g1 5 3) (g1 8) 1) ∧ (g3 = g2)))))
    (hM : if x = ((t 24) 1) then (t2 = t) else (∃ (x2 : Int32), (if x = 0 then (x2 = 5) else (x2 = 4)) ∧ (∃ (g1 : xk_St), relzM_note t x2 1 g1 ∧ (t2 = g1)))) (hM2 : t3 = va_up t2 24 (upd (t2 24) 1 x)) : xr g3 t3 ∧ xk_cnt (B + 1) t3 ∧ g3 0 = g 0 ∧ t3 17 = t 17 := by
  rw [hx, hR.s1] at hU
  by_cases c : x = t 24 1
  · rw [if_pos c] at hU hM
    subst hU; subst hM; subst c; subst hM2
    rw [xv_same]
    exact ⟨hR, xk_cnt_le hB (by omega), rfl, rfl⟩
  · rw [if_neg c] at hU hM
    obtain ⟨g1, u1, y1, u2, g2, u3, rfl⟩ := hU
    obtain ⟨x2, m1, t1, m2, rfl⟩ := hM
    have hy : y1 = x2 := by
      by_cases q : x = 0
      · rw [if_pos q] at u2 m1; rw [u2, m1]
      · rw [if_neg q] at u2 m1; rw [u2, m1]
    subst hy
    have R1 := xr_clear1 x (xr_note hR hB (by omega) m2)
    have e : g3 = va_up (va_up (va_up (va_up (va_up g 5 (upd (g 5) 3 (qzJ_add_a3 (g 5 3)))) 6 (qzJ_add_b (g 5 3) (g 6) (g 0 5))) 7 (qzJ_add_c (g 5 3) (g 7) y1)) 8 (qzJ_add_d (g 5 3) (g 8) 1)) 10 (upd ((va_up (va_up (va_up (va_up g 5 (upd (g 5) 3 (qzJ_add_a3 (g 5 3)))) 6 (qzJ_add_b (g 5 3) (g 6) (g 0 5))) 7 (qzJ_add_c (g 5 3) (g 7) y1)) 8 (qzJ_add_d (g 5 3) (g 8) 1)) 10) 5 x) := by
      subst u1; subst u3
      funext c
      by_cases q : c = 10
      · subst q; simp [va_up]
      · simp [va_up, q]
    rw [e, hM2]
    refine ⟨R1, xk_cnt_k (by decide) (xr_nc hB m2), ?_, ?_⟩
    · simp [va_up]
    · rw [xv_ne (by decide)]
      funext j
      exact xr_nf m2 17 j (by decide) (by decide) (by decide) (by decide)
theorem sim_signals {g gz t tz : xk_St} {B : Nat} (hR : xr g t) (hB : xk_cnt B t) (hB2 : B + 1 < 2147483647) (hp : g 0 9 = qzM_isProved t) (hU : relzU_setSignals g gz) (hM : relzM_signal t tz) : xr gz tz ∧ xk_cnt (B + 2) tz ∧ gz 0 9 = qzM_isProved tz := by
  obtain ⟨g3, u3, g6, u6, rfl⟩ := hU
  obtain ⟨x1, m1, t2, m2, t3, m3, x3, m4, t5, m5, t6, m6, rfl⟩ := hM
  obtain ⟨R1, B1, e1, f1⟩ := sim_sig_0 hR hB (by omega) (sim_due_0 hR hp m1) u3 m2 m3
  have p1 : g3 0 9 = qzM_isProved t3 := by unfold qzM_isProved; rw [e1, f1]; exact hp
  obtain ⟨R2, B2, e2, f2⟩ := sim_sig_1 R1 B1 (by omega) (sim_due_1 R1 p1 m4) u6 m5 m6
  refine ⟨R2, B2, ?_⟩
  unfold qzM_isProved
  rw [e2, f2]
  exact p1
theorem xd_or {c : Prop} [Decidable c] {x y k : Int32} (h : if c then (y = x) else (y = x ||| k)) : y = x ||| (if c then 0 else k) := by
  by_cases q : c
  · rw [if_pos q] at h ⊢; rw [h, Int32.or_zero]
  · rw [if_neg q] at h ⊢; exact h
theorem xd_mot {m x y a b : Int32} (h : if m = (-1) then (y = x ||| a) else (if m = 1 then (y = x ||| b) else (y = x))) : y = x ||| (if m = (-1) then a else 0) ||| (if m = 1 then b else 0) := by
  by_cases q : m = -1
  · rw [if_pos q] at h ⊢; rw [if_neg (by rw [q]; decide), h, Int32.or_zero]
  · rw [if_neg q] at h ⊢
    by_cases q2 : m = 1
    · rw [if_pos q2] at h ⊢; rw [h, Int32.or_zero]
    · rw [if_neg q2] at h ⊢; rw [h, Int32.or_zero, Int32.or_zero]
theorem sim_output {g t : xk_St} {r : Int32} (hR : xr g t) (h : relzM_output t r) : r = qzU_gatherOutput g := by
  obtain ⟨x1, m1, x2, m2, x3, m3, x4, m4, x5, m5, x6, m6, x7, m7, x8, m8, x9, m9, x10, m10, rfl⟩ := h
  have e1 : x1 = if t 0 25 = 0 then 0 else 8 := xd_pick m1
  rw [xd_or m10, xd_or m9, xd_mot m8, xd_or m7, xd_or m6, xd_mot m5, xd_or m4, xd_or m3, xd_or m2, e1]
  unfold qzU_gatherOutput
  rw [hR.bell, hR.li0, hR.li1, hR.li2, hR.mo0, hR.mo1, hR.al0, hR.al1, hR.s0, hR.s1]
  simp only [Int32.or_assoc]
  congr 6
  ac_rfl
