/-- what holds of a section and its two heads after n calls -/
def xi_pn (n : Nat) (t : xk_St) : Prop := ∀ s : Nat, s < 6 → ∃ z : Int, t 3 s = Int32.ofInt z ∧ 3 * z + 2 * (xi_k (t 1 (s + s / 3)) + xi_k (t 1 (s + s / 3 + 1))) ≤ 2 * n ∧ -(3 * z) + 2 * (xi_k (t 1 (s + s / 3)) + xi_k (t 1 (s + s / 3 + 1))) ≤ 2 * n ∧ (z < 0 → t 5 s ≠ 0)
def xJ (n : Nat) (g t : xk_St) : Prop := xr g t ∧ xk_cnt (26000 * n) t ∧ xi_pn n t ∧ xk_kept g ∧ (∀ e : Nat, e < 4 → g (25 + e) 2 = 0) ∧ (∀ e : Nat, e < 4 → xi_co t e) ∧ (∀ k : Nat, k < 3 → xi_lp (1000 * n) t k) ∧ (∀ b : Nat, b < 2 → xi_ba t b) ∧ xi_tm (1000 * n) t ∧ g 0 9 = qzM_isProved t ∧ g 0 6 = qzU_gatherOutput g
theorem xJ.r {n : Nat} {g t : xk_St} (h : xJ n g t) : xr g t := h.1
theorem xJ.c {n : Nat} {g t : xk_St} (h : xJ n g t) : xk_cnt (26000 * n) t := h.2.1
theorem xJ.n {n : Nat} {g t : xk_St} (h : xJ n g t) : xi_pn n t := h.2.2.1
theorem xJ.p {n : Nat} {g t : xk_St} (h : xJ n g t) : xk_kept g := h.2.2.2.1
theorem xJ.pr {n : Nat} {g t : xk_St} (h : xJ n g t) : g 0 9 = qzM_isProved t := h.2.2.2.2.2.2.2.2.2.1
theorem xJ.o {n : Nat} {g t : xk_St} (h : xJ n g t) : g 0 6 = qzU_gatherOutput g := h.2.2.2.2.2.2.2.2.2.2
theorem xi_lp_le {a b : Nat} {t : xk_St} {k : Nat} (h : xi_lp a t k) (hab : a ≤ b) : xi_lp b t k := by
  obtain ⟨n, h1, h2, h3⟩ := h
  exact ⟨n, by omega, h2, h3⟩
theorem xi_tm_le {a b : Nat} {t : xk_St} (h : xi_tm a t) (hab : a ≤ b) : xi_tm b t := by
  obtain ⟨n, h1, h2⟩ := h
  exact ⟨n, by omega, h2⟩
theorem xi_pn_of {n : Nat} {t t1 : xk_St} (h : xi_pn n t) (e1 : t1 1 = t 1) (e3 : t1 3 = t 3) (e5 : ∀ j : Nat, t 5 j ≠ 0 → t1 5 j ≠ 0) : xi_pn (n + 1) t1 := fun s hs => by
  obtain ⟨z, a, b, c, d⟩ := h s hs
  rw [e1, e3]
  exact ⟨z, a, by omega, by omega, fun hz => e5 _ (d hz)⟩
theorem xi_pn_pulse {n H : Nat} {k : Int32} {t t1 : xk_St} (h : xi_pn n t) (e1 : t1 1 = upd (t 1) H k) (e3 : t1 3 = t 3) (e5 : t1 5 = t 5) : xi_pn (n + 1) t1 := fun s hs => by
  obtain ⟨z, a, b, c, d⟩ := h s hs
  have q1 := xi_k0 k
  have q2 := xi_k0 (t 1 H)
  have qe : ∀ j : Nat, j ≠ H → t1 1 j = t 1 j := fun j hj => by rw [e1]; exact if_neg hj
  have qs : t1 1 H = k := by rw [e1]; exact if_pos rfl
  have hsum : xi_k (t1 1 (s + s / 3)) + xi_k (t1 1 (s + s / 3 + 1)) ≤ xi_k (t 1 (s + s / 3)) + xi_k (t 1 (s + s / 3 + 1)) + 1 := by
    by_cases h1 : s + s / 3 = H
    · rw [qe (s + s / 3 + 1) (by omega), h1, qs]; omega
    · by_cases h2 : s + s / 3 + 1 = H
      · rw [qe (s + s / 3) h1, h2, qs]; omega
      · rw [qe _ h1, qe _ h2]; omega
  rw [e3, e5]
  exact ⟨z, a, by omega, by omega, d⟩
theorem xi_pn_reset {n r : Nat} {t t1 : xk_St} (h : xi_pn n t) (e1 : t1 1 = t 1) (e3 : t1 3 = upd (t 3) r 0) (e5 : ∀ j : Nat, j ≠ r → t1 5 j = t 5 j) : xi_pn (n + 1) t1 := fun s hs => by
  obtain ⟨z, a, b, c, d⟩ := h s hs
  rw [e1, e3]
  by_cases q : s = r
  · subst q
    exact ⟨0, if_pos rfl, by omega, by omega, fun hz => absurd hz (by omega)⟩
  · exact ⟨z, by rw [← a]; exact if_neg q, by omega, by omega, fun hz => by rw [e5 s q]; exact d hz⟩
theorem xJ_step {n : Nat} {g g1 t t1 : xk_St} (h : xJ n g t) (R : xr g1 t1) (C : xk_cnt (26000 * n + 3) t1) (P : xi_pn (n + 1) t1) (p : xk_kept g1) (F : ∀ c : Nat, c ∈ [11, 16, 17, 18, 19, 22, 23] → t1 c = t c) (tm : t1 0 27 = t 0 27) (E : ∀ c : Nat, c ∈ [25, 26, 27, 28] → g1 c = g c) (hp : g1 0 9 = g 0 9) (ho : g1 0 6 = g 0 6) (hg : qzU_gatherOutput g1 = qzU_gatherOutput g) : xJ (n + 1) g1 t1 := by
  obtain ⟨hR, hC, hq, hpp, he, hco, hlp, hba, htm, hpr, hou⟩ := h
  refine ⟨R, xk_cnt_le C (by omega), P, p, fun e hh => ?_, fun e hh => xi_co_of (hco e hh) (F 11 (by decide)), fun k hk => xi_lp_le (xi_lp_of (hlp k hk) (F 22 (by decide)) (F 23 (by decide))) (by omega), fun b hb => xi_ba_of (hba b hb) (F 19 (by decide)) (F 18 (by decide)) (F 16 (by decide)), ?_, ?_, ?_⟩
  · rw [E (25 + e) (by rcases (show e = 0 ∨ e = 1 ∨ e = 2 ∨ e = 3 from by omega) with rfl | rfl | rfl | rfl <;> decide)]; exact he e hh
  · obtain ⟨m, h1, h2⟩ := htm
    exact ⟨m, by omega, by rw [tm]; exact h2⟩
  · rw [hp, hpr]; unfold qzM_isProved; rw [F 17 (by decide)]
  · rw [ho, hg]; exact hou
theorem xJ_more (n : Nat) (g t : xk_St) (h : xJ n g t) : xJ (n + 1) g t :=
  xJ_step h h.r (xk_cnt_le h.c (by omega)) (xi_pn_of h.n rfl rfl (fun _ q => q)) h.p (fun _ _ => rfl) rfl (fun _ _ => rfl) rfl rfl rfl
/-- the reference's word of what it has thrown -/
abbrev xg (t : xk_St) (x : Int32) : xk_St := va_up t 0 (upd (t 0) 0 x)
theorem xg_r {g t : xk_St} (x : Int32) (hR : xr g t) : xr g (xg t x) := by
  exact xr.mk hR.b0 hR.a0 hR.d0 hR.k0 hR.b1 hR.a1 hR.d1 hR.k1 hR.b2 hR.a2 hR.d2 hR.k2 hR.b3 hR.a3 hR.d3 hR.k3 hR.b4 hR.a4 hR.d4 hR.k4 hR.b5 hR.a5 hR.d5 hR.k5 hR.p0 hR.p1 hR.p2 hR.p3 hR.p4 hR.p5 hR.p6 hR.p7 hR.c0 hR.c1 hR.c2 hR.c3 hR.o0 hR.s0 hR.o1 hR.s1 hR.po0 hR.pb0 hR.mo0 hR.ze0 hR.st0 hR.al0 hR.po1 hR.pb1 hR.mo1 hR.ze1 hR.st1 hR.al1 hR.li0 hR.de0 hR.da0 hR.li1 hR.de1 hR.da1 hR.li2 hR.de2 hR.da2 hR.step hR.age hR.quiet hR.many hR.time hR.night hR.bell hR.h0 hR.h1 hR.h2 hR.h3 hR.h4 hR.h5 hR.h6 hR.h7 hR.nc0 hR.nc1 hR.nc2 hR.i0 hR.j0 hR.m0 hR.n0 hR.i1 hR.j1 hR.m1 hR.n1 hR.i2 hR.j2 hR.m2 hR.n2 hR.i3 hR.j3 hR.m3 hR.n3 hR.i4 hR.j4 hR.m4 hR.n4 hR.i5 hR.j5 hR.m5 hR.n5 hR.nu0 hR.nu1 hR.nu2 hR.nu3 hR.nu4 hR.nu5 hR.jt hR.jk hR.jw hR.yh0 hR.yh1 hR.yh2 hR.yh3 hR.yh4 hR.yh5 hR.yh6 hR.yh7 hR.yc0 hR.yc1 hR.yc2 hR.yo0 hR.yo1
theorem xg_c {B : Nat} {t : xk_St} (x : Int32) (h : xk_cnt B t) : xk_cnt B (xg t x) := xk_cnt_f (by decide) h
theorem xJ_g {n : Nat} {g t : xk_St} (x : Int32) (h : xJ n g t) : xJ n g (xg t x) := by
  obtain ⟨hR, hC, hq, hpp, he, hco, hlp, hba, htm, hpr, hou⟩ := h
  exact ⟨xg_r x hR, xg_c x hC, hq, hpp, he, hco, hlp, hba, htm, hpr, hou⟩
theorem xJ_gm {n : Nat} {g t : xk_St} (x : Int32) (h : xJ n g t) : xJ (n + 1) g (xg t x) := xJ_more _ _ _ (xJ_g x h)
theorem xg_goes {t t1 : xk_St} {k0 k1 k2 r : Int32} (h : relzM_goes t k0 k1 k2 r t1) : (k0 = 0 ∧ r = 0 ∧ t1 = xg t 1) ∨ (¬ k0 = 0 ∧ k1 = 0 ∧ r = 0 ∧ t1 = xg t 2) ∨ (¬ k0 = 0 ∧ ¬ k1 = 0 ∧ k2 = 0 ∧ r = 0 ∧ t1 = xg t 3) ∨ (¬ k0 = 0 ∧ ¬ k1 = 0 ∧ ¬ k2 = 0 ∧ r = 1 ∧ t1 = xg t 0) := by
  obtain ⟨x1, h1, t2, h2, x2, h3, h4, -, h5⟩ := h
  by_cases a : k0 = 0
  · rw [if_pos a] at h1; subst h1; rw [if_neg (by decide)] at h3; exact Or.inl ⟨a, h4.trans h3, h5.trans h2⟩
  · rw [if_neg a] at h1
    by_cases b : k1 = 0
    · rw [if_pos b] at h1; subst h1; rw [if_neg (by decide)] at h3; exact Or.inr (Or.inl ⟨a, b, h4.trans h3, h5.trans h2⟩)
    · rw [if_neg b] at h1
      by_cases c : k2 = 0
      · rw [if_pos c] at h1; subst h1; rw [if_neg (by decide)] at h3; exact Or.inr (Or.inr (Or.inl ⟨a, b, c, h4.trans h3, h5.trans h2⟩))
      · rw [if_neg c] at h1; subst h1; rw [if_pos rfl] at h3; exact Or.inr (Or.inr (Or.inr ⟨a, b, c, h4.trans h3, h5.trans h2⟩))
theorem xg_goes0 {t t1 : xk_St} {r : Int32} (h : relzM_goes_0 t r t1) : t1 = xg t 1 := by
  obtain ⟨g1, h1, -, -, h2⟩ := h; exact h2.trans h1
theorem xg_goes1 {t t1 : xk_St} {r : Int32} (h : relzM_goes_111 t r t1) : t1 = xg t 0 := by
  obtain ⟨g1, h1, -, -, h2⟩ := h; exact h2.trans h1
theorem xg_0 (t : xk_St) (x : Int32) : xg t x 0 0 = x := by simp [xg, va_up, upd]
theorem xk_kept_t {g t : xk_St} (R : xr g t) (h : xk_kept g) : ∀ k : Nat, k < 8 → xk_p (t 1 k) := fun k hk => by
  rcases (show k = 0 ∨ k = 1 ∨ k = 2 ∨ k = 3 ∨ k = 4 ∨ k = 5 ∨ k = 6 ∨ k = 7 from by omega) with rfl | rfl | rfl | rfl | rfl | rfl | rfl | rfl
  · rw [← R.p0]; exact (h 0).1
  · rw [← R.p1]; exact (h 1).1
  · rw [← R.p2]; exact (h 2).1
  · rw [← R.p3]; exact (h 3).1
  · rw [← R.p4]; exact (h 0).2
  · rw [← R.p5]; exact (h 1).2
  · rw [← R.p6]; exact (h 2).2
  · rw [← R.p7]; exact (h 3).2
theorem xJ_I {n : Nat} {g t : xk_St} (h : xJ n g t) : xI (2 * n + 2) (1000 * n) (26000 * n) g t := by
  obtain ⟨hR, hC, hq, hpp, he, hco, hlp, hba, htm, hpr, hou⟩ := h
  refine ⟨hR, hC, fun s hs => ?_, xk_kept_t hR hpp, he, hco, hlp, hba, htm, hpr, hou⟩
  obtain ⟨z, a, b, c, d⟩ := hq s hs
  have r1 := xi_k0 (t 1 (s + s / 3))
  have r2 := xi_k0 (t 1 (s + s / 3 + 1))
  exact ⟨z, a, by omega, by omega, d⟩
theorem xI_J {n T B : Nat} {g t : xk_St} (h : xI (2 * n + 2) T B g t) (hT : T ≤ 1000 * (n + 1)) (hB : B ≤ 26000 * (n + 1)) (hz : ∀ k : Nat, k < 8 → t 1 k = 0) (hk : xk_kept g) : xJ (n + 1) g t := by
  obtain ⟨hR, hC, hq, hpp, he, hco, hlp, hba, htm, hpr, hou⟩ := h
  refine ⟨hR, xk_cnt_le hC hB, fun s hs => ?_, hk, he, hco, fun k hk => xi_lp_le (hlp k hk) hT, hba, xi_tm_le htm hT, hpr, hou⟩
  obtain ⟨z, a, b, c, d⟩ := hq s hs
  have z1 : xi_k (t 1 (s + s / 3)) = 0 := by rw [hz _ (by omega)]; rfl
  have z2 : xi_k (t 1 (s + s / 3 + 1)) = 0 := by rw [hz _ (by omega)]; rfl
  rw [z1, z2] at b c
  rw [z1, z2]
  exact ⟨z, a, by omega, by omega, d⟩
theorem xk_tks_kept : ∀ (k : Nat) (g gz : xk_St), xk_tks k g gz → xk_kept g → xk_kept gz := by
  intro k
  induction k with
  | zero =>
    intro g gz h hk
    have h : gz = g := h
    rw [h]; exact hk
  | succ k ih =>
    intro g gz h hk
    obtain ⟨g1, r, u1, hu⟩ := h
    exact ih g1 gz hu (ikzU_tick _ _ _ u1 hk)
theorem sim_tks {W : Int} (hW : W ≤ 1100) : ∀ (k T B : Nat) (g gz t tz : xk_St), T + k < 999998 → B + 26 * k + 26 < 2147483647 → xI W T B g t → xk_tks k g gz → xk_tkm k t tz → xI W (T + k) (B + 26 * k) gz tz ∧ (0 < k → ∀ h : Nat, h < 8 → tz 1 h = 0) := by
  intro k
  induction k with
  | zero =>
    intro T B g gz t tz hT hB h hu hm
    have hu : gz = g := hu
    have hm : tz = t := hm
    subst hu; subst hm
    exact ⟨h, fun h => absurd h (by omega)⟩
  | succ k ih =>
    intro T B g gz t tz hT hB h hu hm
    obtain ⟨g1, r, u1, hu⟩ := hu
    obtain ⟨t1, m1, hm⟩ := hm
    obtain ⟨a, -, c⟩ := sim_oneTick hW (by omega) (by omega) h u1 m1
    obtain ⟨a2, c2⟩ := ih (T + 1) (B + 26) g1 gz t1 tz (by omega) (by omega) a hu hm
    refine ⟨?_, fun _ => ?_⟩
    · rw [show T + (k + 1) = T + 1 + k from by omega, show B + 26 * (k + 1) = B + 26 + 26 * k from by omega]; exact a2
    · by_cases q : k = 0
      · subst q
        have hm : tz = t1 := hm
        subst hm
        exact c
      · exact c2 (by omega)
theorem sim_ticks {n k : Nat} {g gz t t1 tz : xk_St} {r a : Int32} (hn : n < 512) (hk : k ≤ 1000) (h : xJ n g t) (h1 : relzM_goes_111 t r t1) (hu : xk_tks k g gz) (hm : xk_tkm k t1 tz) (ho : relzM_output tz a) : gz 0 6 = a ∧ xJ (n + 1) gz tz := by
  have h1 := xg_goes1 h1
  subst h1
  by_cases q : k = 0
  · subst q
    have hu : gz = g := hu
    have hm : tz = xg t 0 := hm
    subst hu; subst hm
    have h2 := xJ_gm 0 h
    exact ⟨by rw [h2.o]; exact (sim_output h2.r ho).symm, h2⟩
  · obtain ⟨a1, c1⟩ := sim_tks (W := 2 * n + 2) (by omega) k (1000 * n) (26000 * n) g gz _ tz (by omega) (by omega) (xJ_I (xJ_g 0 h)) hu hm
    have h2 : xJ (n + 1) gz tz := xI_J a1 (by omega) (by omega) (c1 (by omega)) (xk_tks_kept k _ _ hu h.p)
    exact ⟨by rw [h2.o]; exact (sim_output h2.r ho).symm, h2⟩
theorem sim_tick {n : Nat} {g gz t tz : xk_St} {r a : Int32} (hn : n < 512) (h : xJ n g t) (hu : relzU_tick g r gz) (hm : relzM_tick t a tz) : r = a ∧ xJ (n + 1) gz tz := by
  obtain ⟨t1, h1, t2, h2, r1, h3, h4, h5⟩ := hm
  subst h1; subst h4; subst h5
  obtain ⟨a1, a2, c1⟩ := sim_oneTick (W := 2 * n + 2) (by omega) (by omega) (by omega) (xJ_I (xJ_g 0 h)) hu h2
  have h2 := xI_J a1 (by omega) (by omega) c1 (ikzU_tick _ _ _ hu h.p)
  exact ⟨by rw [a2]; exact (sim_output h2.r h3).symm, h2⟩
theorem xk_tks_tick {k : Nat} {g gz : xk_St} (h : xk_tks (k + 1) g gz) : ∃ (g1 : xk_St) (r : Int32), relzU_tick g r g1 ∧ xk_tks k g1 gz := h
section XTM
variable {l : Launch} {y : MethodName} {bt : ByteArray} {n : Nat} {hh : List (Nat × Nat × Nat × Nat)} {WS : List Cond} {rm : Room} {G : va_G} {cl : List vw_C} {tys : List (ClassId × FieldType)} {own : String} {texts : List (Nat × String)} {excs : List String × List MethodName} {N : List (String × String)} {av : List Value} {wc : va_W} {S S2 : Type}
theorem xt_Hmap {post : Int32 → S → Prop} {w1 : S → va_W} {post2 : Int32 → S2 → Prop} {w2 : S2 → va_W} (h : xt_H l y bt n hh WS rm G cl tys own texts excs N av wc post w1) (f : S → S2) (hw : ∀ u, w2 (f u) = w1 u) (hp : ∀ r u, post r u → post2 r (f u)) : xt_H l y bt n hh WS rm G cl tys own texts excs N av wc post2 w2 := by
  intro sz p e ha hc hk s m args below hf happ hP hK
  obtain ⟨n9, o, h1, h2, h3, ⟨⟨r, u, q1, q2, q3⟩, q4⟩, q5⟩ := h sz p e ha hc hk s m args below hf happ hP hK
  exact ⟨n9, o, h1, h2, h3, ⟨⟨r, f u, q1, hp r u q2, by unfold xk_B; rw [hw u]; exact q3⟩, q4⟩, q5⟩
end XTM
