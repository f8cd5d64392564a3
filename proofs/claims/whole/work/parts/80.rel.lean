/-! the relation between the class's state and the reference's -/
theorem xr_upd {f : xk_St} {k b c j : Nat} {x : Int32} (hj : j ≠ b) : va_up f k (upd (f k) b x) c j = f c j := by
  unfold va_up
  by_cases q : c = k
  · subst q; rw [if_pos rfl]; exact if_neg hj
  · rw [if_neg q]
theorem xr_upc {f : xk_St} {k c j : Nat} {F : Nat → Int32} (hc : c ≠ k) : va_up f k F c j = f c j := by
  unfold va_up
  rw [if_neg hc]
structure xr (g t : xk_St) : Prop where
  b0 : g 19 1 = t 3 0
  a0 : g 19 2 = t 4 0
  d0 : g 19 3 = t 5 0
  k0 : g 19 4 = t 6 0
  b1 : g 20 1 = t 3 1
  a1 : g 20 2 = t 4 1
  d1 : g 20 3 = t 5 1
  k1 : g 20 4 = t 6 1
  b2 : g 21 1 = t 3 2
  a2 : g 21 2 = t 4 2
  d2 : g 21 3 = t 5 2
  k2 : g 21 4 = t 6 2
  b3 : g 22 1 = t 3 3
  a3 : g 22 2 = t 4 3
  d3 : g 22 3 = t 5 3
  k3 : g 22 4 = t 6 3
  b4 : g 23 1 = t 3 4
  a4 : g 23 2 = t 4 4
  d4 : g 23 3 = t 5 4
  k4 : g 23 4 = t 6 4
  b5 : g 24 1 = t 3 5
  a5 : g 24 2 = t 4 5
  d5 : g 24 3 = t 5 5
  k5 : g 24 4 = t 6 5
  p0 : g 15 0 = t 1 0
  p1 : g 15 1 = t 1 1
  p2 : g 15 2 = t 1 2
  p3 : g 15 3 = t 1 3
  p4 : g 16 0 = t 1 4
  p5 : g 16 1 = t 1 5
  p6 : g 16 2 = t 1 6
  p7 : g 16 3 = t 1 7
  c0 : g 25 1 = t 11 0
  c1 : g 26 1 = t 11 1
  c2 : g 27 1 = t 11 2
  c3 : g 28 1 = t 11 3
  o0 : g 9 4 = t 13 0
  s0 : g 9 5 = t 24 0
  o1 : g 10 4 = t 13 1
  s1 : g 10 5 = t 24 1
  po0 : g 29 0 = t 14 0
  pb0 : g 29 1 = t 15 0
  mo0 : g 29 2 = t 16 0
  ze0 : g 29 3 = t 17 0
  st0 : g 29 4 = t 18 0
  al0 : g 29 5 = t 19 0
  po1 : g 30 0 = t 14 1
  pb1 : g 30 1 = t 15 1
  mo1 : g 30 2 = t 16 1
  ze1 : g 30 3 = t 17 1
  st1 : g 30 4 = t 18 1
  al1 : g 30 5 = t 19 1
  li0 : g 31 1 = t 21 0
  de0 : g 31 2 = t 23 0
  da0 : g 31 3 = t 22 0
  li1 : g 32 1 = t 21 1
  de1 : g 32 2 = t 23 1
  da1 : g 32 3 = t 22 1
  li2 : g 33 1 = t 21 2
  de2 : g 33 2 = t 23 2
  da2 : g 33 3 = t 22 2
  step : g 4 0 = t 0 28
  age : g 4 1 = t 0 29
  quiet : g 4 2 = t 0 30
  many : g 5 3 = t 0 31
  time : g 0 5 = t 0 27
  night : g 0 7 = t 0 24
  bell : g 0 8 = t 0 25
  h0 : t 2 0 = (if g 17 0 = 0 then 1 else 0)
  h1 : t 2 1 = (if g 17 1 = 0 then 1 else 0)
  h2 : t 2 2 = (if g 17 2 = 0 then 1 else 0)
  h3 : t 2 3 = (if g 17 3 = 0 then 1 else 0)
  h4 : t 2 4 = (if g 18 0 = 0 then 1 else 0)
  h5 : t 2 5 = (if g 18 1 = 0 then 1 else 0)
  h6 : t 2 6 = (if g 18 2 = 0 then 1 else 0)
  h7 : t 2 7 = (if g 18 3 = 0 then 1 else 0)
  nc0 : t 20 0 = (if g 31 0 = 0 then 1 else 0)
  nc1 : t 20 1 = (if g 32 0 = 0 then 1 else 0)
  nc2 : t 20 2 = (if g 33 0 = 0 then 1 else 0)
  i0 : g 19 4 = 0 ∨ g 19 5 = t 7 0
  j0 : g 19 4 = 0 ∨ g 19 6 = t 8 0
  m0 : g 19 4 = 0 ∨ g 19 7 = t 9 0
  n0 : g 19 4 = 0 ∨ g 19 8 = t 10 0
  i1 : g 20 4 = 0 ∨ g 20 5 = t 7 1
  j1 : g 20 4 = 0 ∨ g 20 6 = t 8 1
  m1 : g 20 4 = 0 ∨ g 20 7 = t 9 1
  n1 : g 20 4 = 0 ∨ g 20 8 = t 10 1
  i2 : g 21 4 = 0 ∨ g 21 5 = t 7 2
  j2 : g 21 4 = 0 ∨ g 21 6 = t 8 2
  m2 : g 21 4 = 0 ∨ g 21 7 = t 9 2
  n2 : g 21 4 = 0 ∨ g 21 8 = t 10 2
  i3 : g 22 4 = 0 ∨ g 22 5 = t 7 3
  j3 : g 22 4 = 0 ∨ g 22 6 = t 8 3
  m3 : g 22 4 = 0 ∨ g 22 7 = t 9 3
  n3 : g 22 4 = 0 ∨ g 22 8 = t 10 3
  i4 : g 23 4 = 0 ∨ g 23 5 = t 7 4
  j4 : g 23 4 = 0 ∨ g 23 6 = t 8 4
  m4 : g 23 4 = 0 ∨ g 23 7 = t 9 4
  n4 : g 23 4 = 0 ∨ g 23 8 = t 10 4
  i5 : g 24 4 = 0 ∨ g 24 5 = t 7 5
  j5 : g 24 4 = 0 ∨ g 24 6 = t 8 5
  m5 : g 24 4 = 0 ∨ g 24 7 = t 9 5
  n5 : g 24 4 = 0 ∨ g 24 8 = t 10 5
  nu0 : g 19 0 = 0
  nu1 : g 20 0 = 1
  nu2 : g 21 0 = 2
  nu3 : g 22 0 = 3
  nu4 : g 23 0 = 4
  nu5 : g 24 0 = 5
  jt : g 6 = t 25
  jk : g 7 = t 26
  jw : g 8 = t 27
theorem xr_and63 {k : Nat} (h : k < 2147483648) : nI k &&& 63 = nI (k % 64) := pk_andN (by omega) 6 (by decide)
theorem xr_idx {t : xk_St} {B : Nat} (h : xk_cnt B t) (hB : B < 2147483648) : (t 0 31 &&& 63).toNatClampNeg = (t 0 31 - t 0 31 / 64 * 64).toNatClampNeg := by
  obtain ⟨k, h1, h2⟩ := h
  have e : nI k - nI k / nI 64 * nI 64 = nI (k % 64) := pk_rem (by omega) (by decide) (by decide)
  rw [h1, xr_and63 (by omega), show (64 : Int32) = nI 64 from by decide, e]
theorem xr_note {g t tz : xk_St} {k w : Int32} {B : Nat} (hR : xr g t) (hB : xk_cnt B t) (hB2 : B < 2147483648) (h : relzM_note t k w tz) : xr (va_up (va_up (va_up (va_up g 5 (upd (g 5) 3 (qzJ_add_a3 (g 5 3)))) 6 (qzJ_add_b (g 5 3) (g 6) (g 0 5))) 7 (qzJ_add_c (g 5 3) (g 7) k)) 8 (qzJ_add_d (g 5 3) (g 8) w)) tz := by
  have hm := xr_idx hB hB2
  obtain ⟨t1, rfl, t2, rfl, t3, rfl, t4, rfl, rfl⟩ := h
  obtain ⟨eb0, ea0, ed0, ek0, eb1, ea1, ed1, ek1, eb2, ea2, ed2, ek2, eb3, ea3, ed3, ek3, eb4, ea4, ed4, ek4, eb5, ea5, ed5, ek5, ep0, ep1, ep2, ep3, ep4, ep5, ep6, ep7, ec0, ec1, ec2, ec3, eo0, es0, eo1, es1, epo0, epb0, emo0, eze0, est0, eal0, epo1, epb1, emo1, eze1, est1, eal1, eli0, ede0, eda0, eli1, ede1, eda1, eli2, ede2, eda2, estep, eage, equiet, emany, etime, enight, ebell, eh0, eh1, eh2, eh3, eh4, eh5, eh6, eh7, enc0, enc1, enc2, ei0, ej0, em0, en0, ei1, ej1, em1, en1, ei2, ej2, em2, en2, ei3, ej3, em3, en3, ei4, ej4, em4, en4, ei5, ej5, em5, en5, enu0, enu1, enu2, enu3, enu4, enu5, ejt, ejk, ejw⟩ := id hR
  refine ⟨?_, ?_, ?_, ?_, ?_, ?_, ?_, ?_, ?_, ?_, ?_, ?_, ?_, ?_, ?_, ?_, ?_, ?_, ?_, ?_, ?_, ?_, ?_, ?_, ?_, ?_, ?_, ?_, ?_, ?_, ?_, ?_, ?_, ?_, ?_, ?_, ?_, ?_, ?_, ?_, ?_, ?_, ?_, ?_, ?_, ?_, ?_, ?_, ?_, ?_, ?_, ?_, ?_, ?_, ?_, ?_, ?_, ?_, ?_, ?_, ?_, ?_, ?_, ?_, ?_, ?_, ?_, ?_, ?_, ?_, ?_, ?_, ?_, ?_, ?_, ?_, ?_, ?_, ?_, ?_, ?_, ?_, ?_, ?_, ?_, ?_, ?_, ?_, ?_, ?_, ?_, ?_, ?_, ?_, ?_, ?_, ?_, ?_, ?_, ?_, ?_, ?_, ?_, ?_, ?_, ?_, ?_, ?_, ?_, ?_, ?_, ?_⟩
  all_goals first | (simp only [va_up, upd]; simp; assumption) | skip
  all_goals first | (simp [va_up, upd, qzJ_add_a3, qzJ_add_b, qzJ_add_c, qzJ_add_d, emany, etime, ejt, ejk, ejw, hm]; done) | skip
theorem xr_nf {t tz : xk_St} {k w : Int32} (h : relzM_note t k w tz) : ∀ c j : Nat, c ≠ 0 → c ≠ 25 → c ≠ 26 → c ≠ 27 → tz c j = t c j := by
  obtain ⟨t1, rfl, t2, rfl, t3, rfl, t4, rfl, rfl⟩ := h
  intro c j h1 h2 h3 h4
  simp [va_up, upd, h1, h2, h3, h4]
theorem xr_nf0 {t tz : xk_St} {k w : Int32} (h : relzM_note t k w tz) : ∀ j : Nat, j ≠ 31 → tz 0 j = t 0 j := by
  obtain ⟨t1, rfl, t2, rfl, t3, rfl, t4, rfl, rfl⟩ := h
  intro j h1
  simp [va_up, upd, h1]
theorem xr_nc {t tz : xk_St} {k w : Int32} {B : Nat} (hB : xk_cnt B t) (h : relzM_note t k w tz) : xk_cnt (B + 1) tz := by
  obtain ⟨t1, rfl, t2, rfl, t3, rfl, t4, rfl, rfl⟩ := h
  exact xk_cnt_s (xk_cnt_k (by decide) (xk_cnt_k (by decide) (xk_cnt_k (by decide) hB)))
