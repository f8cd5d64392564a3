theorem xq_lt {k : Int32} {N : Nat} (hN : N < 2000) (h : ∀ j : Nat, j < N → ¬ k = nI j) : k < 0 ∨ ¬ k < nI N := by
  by_cases q : k < 0
  · exact Or.inl q
  · obtain ⟨m, h1, rfl⟩ := xk_nn q
    refine Or.inr (fun h2 => ?_)
    rw [nI_ltI (by omega) (by omega)] at h2
    exact h m h2 rfl
theorem xq_gt {k : Int32} {N : Nat} (hN : N < 2000) (h : ∀ j : Nat, j ≤ N → ¬ k = nI j) : k < 0 ∨ nI N < k := by
  by_cases q : k < 0
  · exact Or.inl q
  · obtain ⟨m, h1, rfl⟩ := xk_nn q
    refine Or.inr ?_
    rw [nI_ltI (by omega) (by omega)]
    refine Nat.lt_of_not_le (fun h2 => h m h2 rfl)
theorem xq2 {k : Int32} (h0 : ¬ k = 0) (h1 : ¬ k = 1) : k < 0 ∨ ¬ k < 2 := by
  rw [show (2 : Int32) = nI 2 from by decide]
  refine xq_lt (by decide) (fun j hj => ?_)
  rcases (show j = 0 ∨ j = 1 from by omega) with rfl | rfl
  · exact h0
  · exact h1
theorem xq3 {k : Int32} (h0 : ¬ k = 0) (h1 : ¬ k = 1) (h2 : ¬ k = 2) : k < 0 ∨ ¬ k < 3 := by
  rw [show (3 : Int32) = nI 3 from by decide]
  refine xq_lt (by decide) (fun j hj => ?_)
  rcases (show j = 0 ∨ j = 1 ∨ j = 2 from by omega) with rfl | rfl | rfl
  · exact h0
  · exact h1
  · exact h2
theorem xq4 {k : Int32} (h0 : ¬ k = 0) (h1 : ¬ k = 1) (h2 : ¬ k = 2) (h3 : ¬ k = 3) : k < 0 ∨ ¬ k < 4 := by
  rw [show (4 : Int32) = nI 4 from by decide]
  refine xq_lt (by decide) (fun j hj => ?_)
  rcases (show j = 0 ∨ j = 1 ∨ j = 2 ∨ j = 3 from by omega) with rfl | rfl | rfl | rfl
  · exact h0
  · exact h1
  · exact h2
  · exact h3
theorem xw2 {k : Int32} (h0 : ¬ k = 0) (h1 : ¬ k = 1) (h2 : ¬ k = 2) : k < 0 ∨ 2 < k := by
  rw [show (2 : Int32) = nI 2 from by decide]
  refine xq_gt (by decide) (fun j hj => ?_)
  rcases (show j = 0 ∨ j = 1 ∨ j = 2 from by omega) with rfl | rfl | rfl
  · exact h0
  · exact h1
  · exact h2
theorem xw3 {k : Int32} (h0 : ¬ k = 0) (h1 : ¬ k = 1) (h2 : ¬ k = 2) (h3 : ¬ k = 3) : k < 0 ∨ 3 < k := by
  rw [show (3 : Int32) = nI 3 from by decide]
  refine xq_gt (by decide) (fun j hj => ?_)
  rcases (show j = 0 ∨ j = 1 ∨ j = 2 ∨ j = 3 from by omega) with rfl | rfl | rfl | rfl
  · exact h0
  · exact h1
  · exact h2
  · exact h3
theorem xw10 {k : Int32} (h0 : ¬ k = 0) (h1 : ¬ k = 1) (h2 : ¬ k = 2) (h3 : ¬ k = 3) (h4 : ¬ k = 4) (h5 : ¬ k = 5) (h6 : ¬ k = 6) (h7 : ¬ k = 7) (h8 : ¬ k = 8) (h9 : ¬ k = 9) (h10 : ¬ k = 10) : k < 0 ∨ 10 < k := by
  rw [show (10 : Int32) = nI 10 from by decide]
  refine xq_gt (by decide) (fun j hj => ?_)
  rcases (show j = 0 ∨ j = 1 ∨ j = 2 ∨ j = 3 ∨ j = 4 ∨ j = 5 ∨ j = 6 ∨ j = 7 ∨ j = 8 ∨ j = 9 ∨ j = 10 from by omega) with rfl | rfl | rfl | rfl | rfl | rfl | rfl | rfl | rfl | rfl | rfl
  · exact h0
  · exact h1
  · exact h2
  · exact h3
  · exact h4
  · exact h5
  · exact h6
  · exact h7
  · exact h8
  · exact h9
  · exact h10
theorem xq_tr {k : Int32} (h0 : ¬ k = 0) (h1 : ¬ k = 1) : qzM_isTrack k = 0 := by unfold qzM_isTrack; rw [if_neg h0, if_neg h1]
theorem xq_hd {k j : Int32} (h0 : ¬ k = 0) (h1 : ¬ k = 1) : qzM_isHead k j = 0 := by unfold qzM_isHead; rw [if_pos (xq_tr h0 h1)]
theorem xq_sc {k j : Int32} (h0 : ¬ k = 0) (h1 : ¬ k = 1) : qzM_isSection k j = 0 := by unfold qzM_isSection; rw [if_pos (xq_tr h0 h1)]
theorem xq_hd2 {k j : Int32} (h : j < 0 ∨ ¬ j < 4) : qzM_isHead k j = 0 := by
  unfold qzM_isHead
  by_cases q : qzM_isTrack k = 0
  · rw [if_pos q]
  · rw [if_neg q]
    by_cases q2 : j < 0
    · rw [if_pos q2]
    · rw [if_neg q2, if_pos (xk_ge (h.resolve_left q2))]
theorem xq_sc2 {k j : Int32} (h : j < 0 ∨ ¬ j < 3) : qzM_isSection k j = 0 := by
  unfold qzM_isSection
  by_cases q : qzM_isTrack k = 0
  · rw [if_pos q]
  · rw [if_neg q]
    by_cases q2 : j < 0
    · rw [if_pos q2]
    · rw [if_neg q2, if_pos (xk_ge (h.resolve_left q2))]
theorem xq_lt1 {k : Int32} (h : ¬ 0 < k) : k < 1 := by
  rw [Int32.lt_iff_toInt_lt] at h ⊢
  rw [show (0 : Int32).toInt = 0 from by decide] at h
  rw [show (1 : Int32).toInt = 1 from by decide]
  omega
theorem xq_nlt1 {k : Int32} (h : 0 < k) : ¬ k < 1 := by
  rw [Int32.lt_iff_toInt_lt] at h ⊢
  rw [show (0 : Int32).toInt = 0 from by decide] at h
  rw [show (1 : Int32).toInt = 1 from by decide]
  omega
theorem xq_nle {a b : Int32} (h : ¬ a ≤ b) : b < a := by
  rw [Int32.le_iff_toInt_le] at h
  rw [Int32.lt_iff_toInt_lt]
  omega
theorem xq_nle2 {a b : Int32} (h : b < a) : ¬ a ≤ b := by
  rw [Int32.lt_iff_toInt_lt] at h
  rw [Int32.le_iff_toInt_le]
  omega
theorem xq_b (x : Int32) : xk_b (if x = 0 then 0 else 1) := by
  by_cases h : x = 0
  · rw [if_pos h]; exact Or.inl rfl
  · rw [if_neg h]; exact Or.inr rfl
theorem xl_pulse (l : Launch) (hst : l.stackTraces = false) (G : va_G) (ac : Nat → ClassId) (ad am : Nat → Nat) (n : Nat) (g t : xk_St) (k0 k1 k2 : Int32) (hn : n < 512) (hJ : xJ n g t) : xp_pulse l G ac ad am n g t k0 k1 k2 := by
  have hR := hJ.r
  by_cases a0 : k0 = 0
  · subst a0
    by_cases b0 : k1 = 0
    · subst b0
      by_cases c1 : k2 = 1
      · by_cases d : t 1 0 = 0
        · exact xc_pulse_ret (kzU_pulse_0_0_p (h2 := by rw [hR.p0]; exact d) (h1 := c1) l G ac ad g k2) ⟨rfl, rfl⟩ ⟨Nat.le_of_ble_eq_true rfl, Nat.le_of_ble_eq_true rfl⟩ (kzM_pulse_0_0 l G ac am t k2 (26000 * n) hJ.c (by omega)) ⟨rfl, rfl⟩ ⟨Nat.le_of_ble_eq_true rfl, Nat.le_of_ble_eq_true rfl⟩ (fun gz t2 hu ht => by
        obtain ⟨g1, u1, u2⟩ := hu
        exact pf_pulse_0 hJ (Or.inl c1) d (u2.trans u1) ht)
        · exact xc_pulse_IS (xzU_pulse_bk00 l hst G ac ad g k2 (by rw [hR.p0]; exact d) (Or.inl c1)) ⟨rfl, rfl⟩ ⟨Nat.le_of_ble_eq_true rfl, Nat.le_of_ble_eq_true rfl⟩ (kzM_pulse_0_0 l G ac am t k2 (26000 * n) hJ.c (by omega)) ⟨rfl, rfl⟩ ⟨Nat.le_of_ble_eq_true rfl, Nat.le_of_ble_eq_true rfl⟩ (fun t2 ht => pt_pulse_0_k hJ (Or.inl c1) d ht)
      · by_cases c2 : k2 = -1
        · by_cases d : t 1 0 = 0
          · exact xc_pulse_ret (kzU_pulse_0_0_m (h2 := by rw [hR.p0]; exact d) (h1 := c1) (h3 := c2) l G ac ad g k2) ⟨rfl, rfl⟩ ⟨Nat.le_of_ble_eq_true rfl, Nat.le_of_ble_eq_true rfl⟩ (kzM_pulse_0_0 l G ac am t k2 (26000 * n) hJ.c (by omega)) ⟨rfl, rfl⟩ ⟨Nat.le_of_ble_eq_true rfl, Nat.le_of_ble_eq_true rfl⟩ (fun gz t2 hu ht => by
        obtain ⟨g1, u1, u2⟩ := hu
        exact pf_pulse_0 hJ (Or.inr c2) d (u2.trans u1) ht)
          · exact xc_pulse_IS (xzU_pulse_bk00 l hst G ac ad g k2 (by rw [hR.p0]; exact d) (Or.inr c2)) ⟨rfl, rfl⟩ ⟨Nat.le_of_ble_eq_true rfl, Nat.le_of_ble_eq_true rfl⟩ (kzM_pulse_0_0 l G ac am t k2 (26000 * n) hJ.c (by omega)) ⟨rfl, rfl⟩ ⟨Nat.le_of_ble_eq_true rfl, Nat.le_of_ble_eq_true rfl⟩ (fun t2 ht => pt_pulse_0_k hJ (Or.inr c2) d ht)
        · exact xc_pulse_IA (xzU_pulse_bd00 l hst G ac ad g k2 c1 c2) ⟨rfl, rfl⟩ ⟨Nat.le_of_ble_eq_true rfl, Nat.le_of_ble_eq_true rfl⟩ (kzM_pulse_0_0 l G ac am t k2 (26000 * n) hJ.c (by omega)) ⟨rfl, rfl⟩ ⟨Nat.le_of_ble_eq_true rfl, Nat.le_of_ble_eq_true rfl⟩ (fun t2 ht => pt_pulse_0_d hJ c1 c2 ht)
    · by_cases b1 : k1 = 1
      · subst b1
        by_cases c1 : k2 = 1
        · by_cases d : t 1 1 = 0
          · exact xc_pulse_ret (kzU_pulse_0_1_p (h2 := by rw [hR.p1]; exact d) (h1 := c1) l G ac ad g k2) ⟨rfl, rfl⟩ ⟨Nat.le_of_ble_eq_true rfl, Nat.le_of_ble_eq_true rfl⟩ (kzM_pulse_0_1 l G ac am t k2 (26000 * n) hJ.c (by omega)) ⟨rfl, rfl⟩ ⟨Nat.le_of_ble_eq_true rfl, Nat.le_of_ble_eq_true rfl⟩ (fun gz t2 hu ht => by
        obtain ⟨g1, u1, u2⟩ := hu
        exact pf_pulse_1 hJ (Or.inl c1) d (u2.trans u1) ht)
          · exact xc_pulse_IS (xzU_pulse_bk01 l hst G ac ad g k2 (by rw [hR.p1]; exact d) (Or.inl c1)) ⟨rfl, rfl⟩ ⟨Nat.le_of_ble_eq_true rfl, Nat.le_of_ble_eq_true rfl⟩ (kzM_pulse_0_1 l G ac am t k2 (26000 * n) hJ.c (by omega)) ⟨rfl, rfl⟩ ⟨Nat.le_of_ble_eq_true rfl, Nat.le_of_ble_eq_true rfl⟩ (fun t2 ht => pt_pulse_1_k hJ (Or.inl c1) d ht)
        · by_cases c2 : k2 = -1
          · by_cases d : t 1 1 = 0
            · exact xc_pulse_ret (kzU_pulse_0_1_m (h2 := by rw [hR.p1]; exact d) (h1 := c1) (h3 := c2) l G ac ad g k2) ⟨rfl, rfl⟩ ⟨Nat.le_of_ble_eq_true rfl, Nat.le_of_ble_eq_true rfl⟩ (kzM_pulse_0_1 l G ac am t k2 (26000 * n) hJ.c (by omega)) ⟨rfl, rfl⟩ ⟨Nat.le_of_ble_eq_true rfl, Nat.le_of_ble_eq_true rfl⟩ (fun gz t2 hu ht => by
        obtain ⟨g1, u1, u2⟩ := hu
        exact pf_pulse_1 hJ (Or.inr c2) d (u2.trans u1) ht)
            · exact xc_pulse_IS (xzU_pulse_bk01 l hst G ac ad g k2 (by rw [hR.p1]; exact d) (Or.inr c2)) ⟨rfl, rfl⟩ ⟨Nat.le_of_ble_eq_true rfl, Nat.le_of_ble_eq_true rfl⟩ (kzM_pulse_0_1 l G ac am t k2 (26000 * n) hJ.c (by omega)) ⟨rfl, rfl⟩ ⟨Nat.le_of_ble_eq_true rfl, Nat.le_of_ble_eq_true rfl⟩ (fun t2 ht => pt_pulse_1_k hJ (Or.inr c2) d ht)
          · exact xc_pulse_IA (xzU_pulse_bd01 l hst G ac ad g k2 c1 c2) ⟨rfl, rfl⟩ ⟨Nat.le_of_ble_eq_true rfl, Nat.le_of_ble_eq_true rfl⟩ (kzM_pulse_0_1 l G ac am t k2 (26000 * n) hJ.c (by omega)) ⟨rfl, rfl⟩ ⟨Nat.le_of_ble_eq_true rfl, Nat.le_of_ble_eq_true rfl⟩ (fun t2 ht => pt_pulse_1_d hJ c1 c2 ht)
      · by_cases b2 : k1 = 2
        · subst b2
          by_cases c1 : k2 = 1
          · by_cases d : t 1 2 = 0
            · exact xc_pulse_ret (kzU_pulse_0_2_p (h2 := by rw [hR.p2]; exact d) (h1 := c1) l G ac ad g k2) ⟨rfl, rfl⟩ ⟨Nat.le_of_ble_eq_true rfl, Nat.le_of_ble_eq_true rfl⟩ (kzM_pulse_0_2 l G ac am t k2 (26000 * n) hJ.c (by omega)) ⟨rfl, rfl⟩ ⟨Nat.le_of_ble_eq_true rfl, Nat.le_of_ble_eq_true rfl⟩ (fun gz t2 hu ht => by
        obtain ⟨g1, u1, u2⟩ := hu
        exact pf_pulse_2 hJ (Or.inl c1) d (u2.trans u1) ht)
            · exact xc_pulse_IS (xzU_pulse_bk02 l hst G ac ad g k2 (by rw [hR.p2]; exact d) (Or.inl c1)) ⟨rfl, rfl⟩ ⟨Nat.le_of_ble_eq_true rfl, Nat.le_of_ble_eq_true rfl⟩ (kzM_pulse_0_2 l G ac am t k2 (26000 * n) hJ.c (by omega)) ⟨rfl, rfl⟩ ⟨Nat.le_of_ble_eq_true rfl, Nat.le_of_ble_eq_true rfl⟩ (fun t2 ht => pt_pulse_2_k hJ (Or.inl c1) d ht)
          · by_cases c2 : k2 = -1
            · by_cases d : t 1 2 = 0
              · exact xc_pulse_ret (kzU_pulse_0_2_m (h2 := by rw [hR.p2]; exact d) (h1 := c1) (h3 := c2) l G ac ad g k2) ⟨rfl, rfl⟩ ⟨Nat.le_of_ble_eq_true rfl, Nat.le_of_ble_eq_true rfl⟩ (kzM_pulse_0_2 l G ac am t k2 (26000 * n) hJ.c (by omega)) ⟨rfl, rfl⟩ ⟨Nat.le_of_ble_eq_true rfl, Nat.le_of_ble_eq_true rfl⟩ (fun gz t2 hu ht => by
        obtain ⟨g1, u1, u2⟩ := hu
        exact pf_pulse_2 hJ (Or.inr c2) d (u2.trans u1) ht)
              · exact xc_pulse_IS (xzU_pulse_bk02 l hst G ac ad g k2 (by rw [hR.p2]; exact d) (Or.inr c2)) ⟨rfl, rfl⟩ ⟨Nat.le_of_ble_eq_true rfl, Nat.le_of_ble_eq_true rfl⟩ (kzM_pulse_0_2 l G ac am t k2 (26000 * n) hJ.c (by omega)) ⟨rfl, rfl⟩ ⟨Nat.le_of_ble_eq_true rfl, Nat.le_of_ble_eq_true rfl⟩ (fun t2 ht => pt_pulse_2_k hJ (Or.inr c2) d ht)
            · exact xc_pulse_IA (xzU_pulse_bd02 l hst G ac ad g k2 c1 c2) ⟨rfl, rfl⟩ ⟨Nat.le_of_ble_eq_true rfl, Nat.le_of_ble_eq_true rfl⟩ (kzM_pulse_0_2 l G ac am t k2 (26000 * n) hJ.c (by omega)) ⟨rfl, rfl⟩ ⟨Nat.le_of_ble_eq_true rfl, Nat.le_of_ble_eq_true rfl⟩ (fun t2 ht => pt_pulse_2_d hJ c1 c2 ht)
        · by_cases b3 : k1 = 3
          · subst b3
            by_cases c1 : k2 = 1
            · by_cases d : t 1 3 = 0
              · exact xc_pulse_ret (kzU_pulse_0_3_p (h2 := by rw [hR.p3]; exact d) (h1 := c1) l G ac ad g k2) ⟨rfl, rfl⟩ ⟨Nat.le_of_ble_eq_true rfl, Nat.le_of_ble_eq_true rfl⟩ (kzM_pulse_0_3 l G ac am t k2 (26000 * n) hJ.c (by omega)) ⟨rfl, rfl⟩ ⟨Nat.le_of_ble_eq_true rfl, Nat.le_of_ble_eq_true rfl⟩ (fun gz t2 hu ht => by
        obtain ⟨g1, u1, u2⟩ := hu
        exact pf_pulse_3 hJ (Or.inl c1) d (u2.trans u1) ht)
              · exact xc_pulse_IS (xzU_pulse_bk03 l hst G ac ad g k2 (by rw [hR.p3]; exact d) (Or.inl c1)) ⟨rfl, rfl⟩ ⟨Nat.le_of_ble_eq_true rfl, Nat.le_of_ble_eq_true rfl⟩ (kzM_pulse_0_3 l G ac am t k2 (26000 * n) hJ.c (by omega)) ⟨rfl, rfl⟩ ⟨Nat.le_of_ble_eq_true rfl, Nat.le_of_ble_eq_true rfl⟩ (fun t2 ht => pt_pulse_3_k hJ (Or.inl c1) d ht)
            · by_cases c2 : k2 = -1
              · by_cases d : t 1 3 = 0
                · exact xc_pulse_ret (kzU_pulse_0_3_m (h2 := by rw [hR.p3]; exact d) (h1 := c1) (h3 := c2) l G ac ad g k2) ⟨rfl, rfl⟩ ⟨Nat.le_of_ble_eq_true rfl, Nat.le_of_ble_eq_true rfl⟩ (kzM_pulse_0_3 l G ac am t k2 (26000 * n) hJ.c (by omega)) ⟨rfl, rfl⟩ ⟨Nat.le_of_ble_eq_true rfl, Nat.le_of_ble_eq_true rfl⟩ (fun gz t2 hu ht => by
        obtain ⟨g1, u1, u2⟩ := hu
        exact pf_pulse_3 hJ (Or.inr c2) d (u2.trans u1) ht)
                · exact xc_pulse_IS (xzU_pulse_bk03 l hst G ac ad g k2 (by rw [hR.p3]; exact d) (Or.inr c2)) ⟨rfl, rfl⟩ ⟨Nat.le_of_ble_eq_true rfl, Nat.le_of_ble_eq_true rfl⟩ (kzM_pulse_0_3 l G ac am t k2 (26000 * n) hJ.c (by omega)) ⟨rfl, rfl⟩ ⟨Nat.le_of_ble_eq_true rfl, Nat.le_of_ble_eq_true rfl⟩ (fun t2 ht => pt_pulse_3_k hJ (Or.inr c2) d ht)
              · exact xc_pulse_IA (xzU_pulse_bd03 l hst G ac ad g k2 c1 c2) ⟨rfl, rfl⟩ ⟨Nat.le_of_ble_eq_true rfl, Nat.le_of_ble_eq_true rfl⟩ (kzM_pulse_0_3 l G ac am t k2 (26000 * n) hJ.c (by omega)) ⟨rfl, rfl⟩ ⟨Nat.le_of_ble_eq_true rfl, Nat.le_of_ble_eq_true rfl⟩ (fun t2 ht => pt_pulse_3_d hJ c1 c2 ht)
          · exact xc_pulse_NS (xzU_pulse_bh0 l hst G ac ad g k1 k2 (xq4 b0 b1 b2 b3)) ⟨rfl, rfl⟩ ⟨Nat.le_of_ble_eq_true rfl, Nat.le_of_ble_eq_true rfl⟩ (kzM_pulse_bad l G ac am t 0 k1 k2 (26000 * n) (xq_hd2 (xq4 b0 b1 b2 b3)) hJ.c (by omega)) ⟨rfl, rfl⟩ ⟨Nat.le_of_ble_eq_true rfl, Nat.le_of_ble_eq_true rfl⟩ (fun t2 ht => pf_pulse_bad hJ ht)
  · by_cases a1 : k0 = 1
    · subst a1
      by_cases b0 : k1 = 0
      · subst b0
        by_cases c1 : k2 = 1
        · by_cases d : t 1 4 = 0
          · exact xc_pulse_ret (kzU_pulse_1_0_p (h2 := by rw [hR.p4]; exact d) (h1 := c1) l G ac ad g k2) ⟨rfl, rfl⟩ ⟨Nat.le_of_ble_eq_true rfl, Nat.le_of_ble_eq_true rfl⟩ (kzM_pulse_1_0 l G ac am t k2 (26000 * n) hJ.c (by omega)) ⟨rfl, rfl⟩ ⟨Nat.le_of_ble_eq_true rfl, Nat.le_of_ble_eq_true rfl⟩ (fun gz t2 hu ht => by
        obtain ⟨g1, u1, u2⟩ := hu
        exact pf_pulse_4 hJ (Or.inl c1) d (u2.trans u1) ht)
          · exact xc_pulse_IS (xzU_pulse_bk10 l hst G ac ad g k2 (by rw [hR.p4]; exact d) (Or.inl c1)) ⟨rfl, rfl⟩ ⟨Nat.le_of_ble_eq_true rfl, Nat.le_of_ble_eq_true rfl⟩ (kzM_pulse_1_0 l G ac am t k2 (26000 * n) hJ.c (by omega)) ⟨rfl, rfl⟩ ⟨Nat.le_of_ble_eq_true rfl, Nat.le_of_ble_eq_true rfl⟩ (fun t2 ht => pt_pulse_4_k hJ (Or.inl c1) d ht)
        · by_cases c2 : k2 = -1
          · by_cases d : t 1 4 = 0
            · exact xc_pulse_ret (kzU_pulse_1_0_m (h2 := by rw [hR.p4]; exact d) (h1 := c1) (h3 := c2) l G ac ad g k2) ⟨rfl, rfl⟩ ⟨Nat.le_of_ble_eq_true rfl, Nat.le_of_ble_eq_true rfl⟩ (kzM_pulse_1_0 l G ac am t k2 (26000 * n) hJ.c (by omega)) ⟨rfl, rfl⟩ ⟨Nat.le_of_ble_eq_true rfl, Nat.le_of_ble_eq_true rfl⟩ (fun gz t2 hu ht => by
        obtain ⟨g1, u1, u2⟩ := hu
        exact pf_pulse_4 hJ (Or.inr c2) d (u2.trans u1) ht)
            · exact xc_pulse_IS (xzU_pulse_bk10 l hst G ac ad g k2 (by rw [hR.p4]; exact d) (Or.inr c2)) ⟨rfl, rfl⟩ ⟨Nat.le_of_ble_eq_true rfl, Nat.le_of_ble_eq_true rfl⟩ (kzM_pulse_1_0 l G ac am t k2 (26000 * n) hJ.c (by omega)) ⟨rfl, rfl⟩ ⟨Nat.le_of_ble_eq_true rfl, Nat.le_of_ble_eq_true rfl⟩ (fun t2 ht => pt_pulse_4_k hJ (Or.inr c2) d ht)
          · exact xc_pulse_IA (xzU_pulse_bd10 l hst G ac ad g k2 c1 c2) ⟨rfl, rfl⟩ ⟨Nat.le_of_ble_eq_true rfl, Nat.le_of_ble_eq_true rfl⟩ (kzM_pulse_1_0 l G ac am t k2 (26000 * n) hJ.c (by omega)) ⟨rfl, rfl⟩ ⟨Nat.le_of_ble_eq_true rfl, Nat.le_of_ble_eq_true rfl⟩ (fun t2 ht => pt_pulse_4_d hJ c1 c2 ht)
      · by_cases b1 : k1 = 1
        · subst b1
          by_cases c1 : k2 = 1
          · by_cases d : t 1 5 = 0
            · exact xc_pulse_ret (kzU_pulse_1_1_p (h2 := by rw [hR.p5]; exact d) (h1 := c1) l G ac ad g k2) ⟨rfl, rfl⟩ ⟨Nat.le_of_ble_eq_true rfl, Nat.le_of_ble_eq_true rfl⟩ (kzM_pulse_1_1 l G ac am t k2 (26000 * n) hJ.c (by omega)) ⟨rfl, rfl⟩ ⟨Nat.le_of_ble_eq_true rfl, Nat.le_of_ble_eq_true rfl⟩ (fun gz t2 hu ht => by
        obtain ⟨g1, u1, u2⟩ := hu
        exact pf_pulse_5 hJ (Or.inl c1) d (u2.trans u1) ht)
            · exact xc_pulse_IS (xzU_pulse_bk11 l hst G ac ad g k2 (by rw [hR.p5]; exact d) (Or.inl c1)) ⟨rfl, rfl⟩ ⟨Nat.le_of_ble_eq_true rfl, Nat.le_of_ble_eq_true rfl⟩ (kzM_pulse_1_1 l G ac am t k2 (26000 * n) hJ.c (by omega)) ⟨rfl, rfl⟩ ⟨Nat.le_of_ble_eq_true rfl, Nat.le_of_ble_eq_true rfl⟩ (fun t2 ht => pt_pulse_5_k hJ (Or.inl c1) d ht)
          · by_cases c2 : k2 = -1
            · by_cases d : t 1 5 = 0
              · exact xc_pulse_ret (kzU_pulse_1_1_m (h2 := by rw [hR.p5]; exact d) (h1 := c1) (h3 := c2) l G ac ad g k2) ⟨rfl, rfl⟩ ⟨Nat.le_of_ble_eq_true rfl, Nat.le_of_ble_eq_true rfl⟩ (kzM_pulse_1_1 l G ac am t k2 (26000 * n) hJ.c (by omega)) ⟨rfl, rfl⟩ ⟨Nat.le_of_ble_eq_true rfl, Nat.le_of_ble_eq_true rfl⟩ (fun gz t2 hu ht => by
        obtain ⟨g1, u1, u2⟩ := hu
        exact pf_pulse_5 hJ (Or.inr c2) d (u2.trans u1) ht)
              · exact xc_pulse_IS (xzU_pulse_bk11 l hst G ac ad g k2 (by rw [hR.p5]; exact d) (Or.inr c2)) ⟨rfl, rfl⟩ ⟨Nat.le_of_ble_eq_true rfl, Nat.le_of_ble_eq_true rfl⟩ (kzM_pulse_1_1 l G ac am t k2 (26000 * n) hJ.c (by omega)) ⟨rfl, rfl⟩ ⟨Nat.le_of_ble_eq_true rfl, Nat.le_of_ble_eq_true rfl⟩ (fun t2 ht => pt_pulse_5_k hJ (Or.inr c2) d ht)
            · exact xc_pulse_IA (xzU_pulse_bd11 l hst G ac ad g k2 c1 c2) ⟨rfl, rfl⟩ ⟨Nat.le_of_ble_eq_true rfl, Nat.le_of_ble_eq_true rfl⟩ (kzM_pulse_1_1 l G ac am t k2 (26000 * n) hJ.c (by omega)) ⟨rfl, rfl⟩ ⟨Nat.le_of_ble_eq_true rfl, Nat.le_of_ble_eq_true rfl⟩ (fun t2 ht => pt_pulse_5_d hJ c1 c2 ht)
        · by_cases b2 : k1 = 2
          · subst b2
            by_cases c1 : k2 = 1
            · by_cases d : t 1 6 = 0
              · exact xc_pulse_ret (kzU_pulse_1_2_p (h2 := by rw [hR.p6]; exact d) (h1 := c1) l G ac ad g k2) ⟨rfl, rfl⟩ ⟨Nat.le_of_ble_eq_true rfl, Nat.le_of_ble_eq_true rfl⟩ (kzM_pulse_1_2 l G ac am t k2 (26000 * n) hJ.c (by omega)) ⟨rfl, rfl⟩ ⟨Nat.le_of_ble_eq_true rfl, Nat.le_of_ble_eq_true rfl⟩ (fun gz t2 hu ht => by
        obtain ⟨g1, u1, u2⟩ := hu
        exact pf_pulse_6 hJ (Or.inl c1) d (u2.trans u1) ht)
              · exact xc_pulse_IS (xzU_pulse_bk12 l hst G ac ad g k2 (by rw [hR.p6]; exact d) (Or.inl c1)) ⟨rfl, rfl⟩ ⟨Nat.le_of_ble_eq_true rfl, Nat.le_of_ble_eq_true rfl⟩ (kzM_pulse_1_2 l G ac am t k2 (26000 * n) hJ.c (by omega)) ⟨rfl, rfl⟩ ⟨Nat.le_of_ble_eq_true rfl, Nat.le_of_ble_eq_true rfl⟩ (fun t2 ht => pt_pulse_6_k hJ (Or.inl c1) d ht)
            · by_cases c2 : k2 = -1
              · by_cases d : t 1 6 = 0
                · exact xc_pulse_ret (kzU_pulse_1_2_m (h2 := by rw [hR.p6]; exact d) (h1 := c1) (h3 := c2) l G ac ad g k2) ⟨rfl, rfl⟩ ⟨Nat.le_of_ble_eq_true rfl, Nat.le_of_ble_eq_true rfl⟩ (kzM_pulse_1_2 l G ac am t k2 (26000 * n) hJ.c (by omega)) ⟨rfl, rfl⟩ ⟨Nat.le_of_ble_eq_true rfl, Nat.le_of_ble_eq_true rfl⟩ (fun gz t2 hu ht => by
        obtain ⟨g1, u1, u2⟩ := hu
        exact pf_pulse_6 hJ (Or.inr c2) d (u2.trans u1) ht)
                · exact xc_pulse_IS (xzU_pulse_bk12 l hst G ac ad g k2 (by rw [hR.p6]; exact d) (Or.inr c2)) ⟨rfl, rfl⟩ ⟨Nat.le_of_ble_eq_true rfl, Nat.le_of_ble_eq_true rfl⟩ (kzM_pulse_1_2 l G ac am t k2 (26000 * n) hJ.c (by omega)) ⟨rfl, rfl⟩ ⟨Nat.le_of_ble_eq_true rfl, Nat.le_of_ble_eq_true rfl⟩ (fun t2 ht => pt_pulse_6_k hJ (Or.inr c2) d ht)
              · exact xc_pulse_IA (xzU_pulse_bd12 l hst G ac ad g k2 c1 c2) ⟨rfl, rfl⟩ ⟨Nat.le_of_ble_eq_true rfl, Nat.le_of_ble_eq_true rfl⟩ (kzM_pulse_1_2 l G ac am t k2 (26000 * n) hJ.c (by omega)) ⟨rfl, rfl⟩ ⟨Nat.le_of_ble_eq_true rfl, Nat.le_of_ble_eq_true rfl⟩ (fun t2 ht => pt_pulse_6_d hJ c1 c2 ht)
          · by_cases b3 : k1 = 3
            · subst b3
              by_cases c1 : k2 = 1
              · by_cases d : t 1 7 = 0
                · exact xc_pulse_ret (kzU_pulse_1_3_p (h2 := by rw [hR.p7]; exact d) (h1 := c1) l G ac ad g k2) ⟨rfl, rfl⟩ ⟨Nat.le_of_ble_eq_true rfl, Nat.le_of_ble_eq_true rfl⟩ (kzM_pulse_1_3 l G ac am t k2 (26000 * n) hJ.c (by omega)) ⟨rfl, rfl⟩ ⟨Nat.le_of_ble_eq_true rfl, Nat.le_of_ble_eq_true rfl⟩ (fun gz t2 hu ht => by
        obtain ⟨g1, u1, u2⟩ := hu
        exact pf_pulse_7 hJ (Or.inl c1) d (u2.trans u1) ht)
                · exact xc_pulse_IS (xzU_pulse_bk13 l hst G ac ad g k2 (by rw [hR.p7]; exact d) (Or.inl c1)) ⟨rfl, rfl⟩ ⟨Nat.le_of_ble_eq_true rfl, Nat.le_of_ble_eq_true rfl⟩ (kzM_pulse_1_3 l G ac am t k2 (26000 * n) hJ.c (by omega)) ⟨rfl, rfl⟩ ⟨Nat.le_of_ble_eq_true rfl, Nat.le_of_ble_eq_true rfl⟩ (fun t2 ht => pt_pulse_7_k hJ (Or.inl c1) d ht)
              · by_cases c2 : k2 = -1
                · by_cases d : t 1 7 = 0
                  · exact xc_pulse_ret (kzU_pulse_1_3_m (h2 := by rw [hR.p7]; exact d) (h1 := c1) (h3 := c2) l G ac ad g k2) ⟨rfl, rfl⟩ ⟨Nat.le_of_ble_eq_true rfl, Nat.le_of_ble_eq_true rfl⟩ (kzM_pulse_1_3 l G ac am t k2 (26000 * n) hJ.c (by omega)) ⟨rfl, rfl⟩ ⟨Nat.le_of_ble_eq_true rfl, Nat.le_of_ble_eq_true rfl⟩ (fun gz t2 hu ht => by
        obtain ⟨g1, u1, u2⟩ := hu
        exact pf_pulse_7 hJ (Or.inr c2) d (u2.trans u1) ht)
                  · exact xc_pulse_IS (xzU_pulse_bk13 l hst G ac ad g k2 (by rw [hR.p7]; exact d) (Or.inr c2)) ⟨rfl, rfl⟩ ⟨Nat.le_of_ble_eq_true rfl, Nat.le_of_ble_eq_true rfl⟩ (kzM_pulse_1_3 l G ac am t k2 (26000 * n) hJ.c (by omega)) ⟨rfl, rfl⟩ ⟨Nat.le_of_ble_eq_true rfl, Nat.le_of_ble_eq_true rfl⟩ (fun t2 ht => pt_pulse_7_k hJ (Or.inr c2) d ht)
                · exact xc_pulse_IA (xzU_pulse_bd13 l hst G ac ad g k2 c1 c2) ⟨rfl, rfl⟩ ⟨Nat.le_of_ble_eq_true rfl, Nat.le_of_ble_eq_true rfl⟩ (kzM_pulse_1_3 l G ac am t k2 (26000 * n) hJ.c (by omega)) ⟨rfl, rfl⟩ ⟨Nat.le_of_ble_eq_true rfl, Nat.le_of_ble_eq_true rfl⟩ (fun t2 ht => pt_pulse_7_d hJ c1 c2 ht)
            · exact xc_pulse_NS (xzU_pulse_bh1 l hst G ac ad g k1 k2 (xq4 b0 b1 b2 b3)) ⟨rfl, rfl⟩ ⟨Nat.le_of_ble_eq_true rfl, Nat.le_of_ble_eq_true rfl⟩ (kzM_pulse_bad l G ac am t 1 k1 k2 (26000 * n) (xq_hd2 (xq4 b0 b1 b2 b3)) hJ.c (by omega)) ⟨rfl, rfl⟩ ⟨Nat.le_of_ble_eq_true rfl, Nat.le_of_ble_eq_true rfl⟩ (fun t2 ht => pf_pulse_bad hJ ht)
    · exact xc_pulse_NS (xzU_pulse_bt l hst G ac ad g k0 k1 k2 (xq2 a0 a1)) ⟨rfl, rfl⟩ ⟨Nat.le_of_ble_eq_true rfl, Nat.le_of_ble_eq_true rfl⟩ (kzM_pulse_bad l G ac am t k0 k1 k2 (26000 * n) (xq_hd a0 a1) hJ.c (by omega)) ⟨rfl, rfl⟩ ⟨Nat.le_of_ble_eq_true rfl, Nat.le_of_ble_eq_true rfl⟩ (fun t2 ht => pf_pulse_bad hJ ht)
theorem xl_health (l : Launch) (hst : l.stackTraces = false) (G : va_G) (ac : Nat → ClassId) (ad am : Nat → Nat) (o : Nat) (f : Nat → Int64) (n : Nat) (g t : xk_St) (k0 k1 k2 : Int32) (hb2 : xk_b k2) (hn : n < 512) (hJ : xJ n g t) : xp_health l G ac ad am o f n g t k0 k1 k2 := by
  have hR := hJ.r
  by_cases a0 : k0 = 0
  · subst a0
    by_cases b0 : k1 = 0
    · subst b0
      exact xc_health_ret (kzU_health_0_0 l G ac ad g k2 hb2) ⟨rfl, rfl⟩ ⟨Nat.le_of_ble_eq_true rfl, Nat.le_of_ble_eq_true rfl⟩ (kzM_health_0_0 l G ac am t k2 (26000 * n) hb2 hJ.c (by omega)) ⟨rfl, rfl⟩ ⟨Nat.le_of_ble_eq_true rfl, Nat.le_of_ble_eq_true rfl⟩ (fun a gz a2 t2 hu ht => pf_health_0 hn hJ hb2 hu ht)
    · by_cases b1 : k1 = 1
      · subst b1
        exact xc_health_ret (kzU_health_0_1 l G ac ad g k2 hb2) ⟨rfl, rfl⟩ ⟨Nat.le_of_ble_eq_true rfl, Nat.le_of_ble_eq_true rfl⟩ (kzM_health_0_1 l G ac am t k2 (26000 * n) hb2 hJ.c (by omega)) ⟨rfl, rfl⟩ ⟨Nat.le_of_ble_eq_true rfl, Nat.le_of_ble_eq_true rfl⟩ (fun a gz a2 t2 hu ht => pf_health_1 hn hJ hb2 hu ht)
      · by_cases b2 : k1 = 2
        · subst b2
          exact xc_health_ret (kzU_health_0_2 l G ac ad g k2 hb2) ⟨rfl, rfl⟩ ⟨Nat.le_of_ble_eq_true rfl, Nat.le_of_ble_eq_true rfl⟩ (kzM_health_0_2 l G ac am t k2 (26000 * n) hb2 hJ.c (by omega)) ⟨rfl, rfl⟩ ⟨Nat.le_of_ble_eq_true rfl, Nat.le_of_ble_eq_true rfl⟩ (fun a gz a2 t2 hu ht => pf_health_2 hn hJ hb2 hu ht)
        · by_cases b3 : k1 = 3
          · subst b3
            exact xc_health_ret (kzU_health_0_3 l G ac ad g k2 hb2) ⟨rfl, rfl⟩ ⟨Nat.le_of_ble_eq_true rfl, Nat.le_of_ble_eq_true rfl⟩ (kzM_health_0_3 l G ac am t k2 (26000 * n) hb2 hJ.c (by omega)) ⟨rfl, rfl⟩ ⟨Nat.le_of_ble_eq_true rfl, Nat.le_of_ble_eq_true rfl⟩ (fun a gz a2 t2 hu ht => pf_health_3 hn hJ hb2 hu ht)
          · exact xc_health_NS (xzU_health_bh0 l hst G ac ad g k1 k2 (xq4 b0 b1 b2 b3)) ⟨rfl, rfl⟩ ⟨Nat.le_of_ble_eq_true rfl, Nat.le_of_ble_eq_true rfl⟩ (kzM_health_bad l G ac am t 0 k1 k2 (26000 * n) (xq_hd2 (xq4 b0 b1 b2 b3)) hb2 hJ.c (by omega)) ⟨rfl, rfl⟩ ⟨Nat.le_of_ble_eq_true rfl, Nat.le_of_ble_eq_true rfl⟩ (fun a2 t2 ht => pt_health_bad hJ ht)
  · by_cases a1 : k0 = 1
    · subst a1
      by_cases b0 : k1 = 0
      · subst b0
        exact xc_health_ret (kzU_health_1_0 l G ac ad g k2 hb2) ⟨rfl, rfl⟩ ⟨Nat.le_of_ble_eq_true rfl, Nat.le_of_ble_eq_true rfl⟩ (kzM_health_1_0 l G ac am t k2 (26000 * n) hb2 hJ.c (by omega)) ⟨rfl, rfl⟩ ⟨Nat.le_of_ble_eq_true rfl, Nat.le_of_ble_eq_true rfl⟩ (fun a gz a2 t2 hu ht => pf_health_4 hn hJ hb2 hu ht)
      · by_cases b1 : k1 = 1
        · subst b1
          exact xc_health_ret (kzU_health_1_1 l G ac ad g k2 hb2) ⟨rfl, rfl⟩ ⟨Nat.le_of_ble_eq_true rfl, Nat.le_of_ble_eq_true rfl⟩ (kzM_health_1_1 l G ac am t k2 (26000 * n) hb2 hJ.c (by omega)) ⟨rfl, rfl⟩ ⟨Nat.le_of_ble_eq_true rfl, Nat.le_of_ble_eq_true rfl⟩ (fun a gz a2 t2 hu ht => pf_health_5 hn hJ hb2 hu ht)
        · by_cases b2 : k1 = 2
          · subst b2
            exact xc_health_ret (kzU_health_1_2 l G ac ad g k2 hb2) ⟨rfl, rfl⟩ ⟨Nat.le_of_ble_eq_true rfl, Nat.le_of_ble_eq_true rfl⟩ (kzM_health_1_2 l G ac am t k2 (26000 * n) hb2 hJ.c (by omega)) ⟨rfl, rfl⟩ ⟨Nat.le_of_ble_eq_true rfl, Nat.le_of_ble_eq_true rfl⟩ (fun a gz a2 t2 hu ht => pf_health_6 hn hJ hb2 hu ht)
          · by_cases b3 : k1 = 3
            · subst b3
              exact xc_health_ret (kzU_health_1_3 l G ac ad g k2 hb2) ⟨rfl, rfl⟩ ⟨Nat.le_of_ble_eq_true rfl, Nat.le_of_ble_eq_true rfl⟩ (kzM_health_1_3 l G ac am t k2 (26000 * n) hb2 hJ.c (by omega)) ⟨rfl, rfl⟩ ⟨Nat.le_of_ble_eq_true rfl, Nat.le_of_ble_eq_true rfl⟩ (fun a gz a2 t2 hu ht => pf_health_7 hn hJ hb2 hu ht)
            · exact xc_health_NS (xzU_health_bh1 l hst G ac ad g k1 k2 (xq4 b0 b1 b2 b3)) ⟨rfl, rfl⟩ ⟨Nat.le_of_ble_eq_true rfl, Nat.le_of_ble_eq_true rfl⟩ (kzM_health_bad l G ac am t 1 k1 k2 (26000 * n) (xq_hd2 (xq4 b0 b1 b2 b3)) hb2 hJ.c (by omega)) ⟨rfl, rfl⟩ ⟨Nat.le_of_ble_eq_true rfl, Nat.le_of_ble_eq_true rfl⟩ (fun a2 t2 ht => pt_health_bad hJ ht)
    · exact xc_health_NS (xzU_health_bt l hst G ac ad g k0 k1 k2 (xq2 a0 a1)) ⟨rfl, rfl⟩ ⟨Nat.le_of_ble_eq_true rfl, Nat.le_of_ble_eq_true rfl⟩ (kzM_health_bad l G ac am t k0 k1 k2 (26000 * n) (xq_hd a0 a1) hb2 hJ.c (by omega)) ⟨rfl, rfl⟩ ⟨Nat.le_of_ble_eq_true rfl, Nat.le_of_ble_eq_true rfl⟩ (fun a2 t2 ht => pt_health_bad hJ ht)
theorem xl_ticks (l : Launch) (hst : l.stackTraces = false) (G : va_G) (ac : Nat → ClassId) (ad am : Nat → Nat) (o : Nat) (f : Nat → Int64) (n : Nat) (g t : xk_St) (k0 : Int32) (hn : n < 512) (hJ : xJ n g t) : xp_ticks l G ac ad am o f n g t k0 := by
  have hR := hJ.r
  by_cases q : k0 < 0
  · exact xc_ticks_IA (xzU_ticks_bad l hst G ac ad g k0 (Or.inl q)) ⟨rfl, rfl⟩ ⟨Nat.le_of_ble_eq_true rfl, Nat.le_of_ble_eq_true rfl⟩ (kzM_ticks_neg l G ac am t k0 (26000 * n) q hJ.c (by omega)) ⟨rfl, rfl⟩ ⟨Nat.le_of_ble_eq_true rfl, Nat.le_of_ble_eq_true rfl⟩ (fun a2 t2 ht => pt_ticks_neg hJ ht)
  · by_cases q2 : k0 ≤ 1000
    · obtain ⟨m, h1, rfl⟩ := xk_nn q
      have hm : m ≤ 1000 := by rw [show (1000 : Int32) = nI 1000 from by decide] at q2; exact (nI_leI (by omega) (by decide)).mp q2
      exact xc_ticks_ret (kzU_ticks l G ac ad g m hm hJ.p) ⟨rfl, rfl⟩ ⟨Nat.le_of_ble_eq_true rfl, Nat.le_of_ble_eq_true rfl⟩ (kzM_ticks l G ac am t m (26000 * n) hm hJ.c (by omega)) ⟨rfl, rfl⟩ ⟨Nat.le_of_ble_eq_true rfl, Nat.le_of_ble_eq_true rfl⟩ (fun a gz a2 t2 hu ht => by
        obtain ⟨r1, t1, w1, w2, w3⟩ := ht
        obtain ⟨e1, e2⟩ := sim_ticks hn hm hJ w1 hu.1 w2 w3
        refine ⟨?_, hu.2.trans e1, e2⟩
        rw [izzM_ticks m t1 t2 w2, xg_goes1 w1]; exact xg_0 t 0)
    · exact xc_ticks_IA (xzU_ticks_bad l hst G ac ad g k0 (Or.inr q2)) ⟨rfl, rfl⟩ ⟨Nat.le_of_ble_eq_true rfl, Nat.le_of_ble_eq_true rfl⟩ (kzM_ticks_big l G ac am t k0 (26000 * n) q (xq_nle q2) hJ.c (by omega)) ⟨rfl, rfl⟩ ⟨Nat.le_of_ble_eq_true rfl, Nat.le_of_ble_eq_true rfl⟩ (fun a2 t2 ht => pt_ticks_big hJ ht)
theorem xl_barrier (l : Launch) (hst : l.stackTraces = false) (G : va_G) (ac : Nat → ClassId) (ad am : Nat → Nat) (o : Nat) (f : Nat → Int64) (n : Nat) (g t : xk_St) (k0 k1 : Int32) (hn : n < 512) (hJ : xJ n g t) : xp_barrier l G ac ad am o f n g t k0 k1 := by
  have hR := hJ.r
  by_cases a0 : k0 = 0
  · subst a0
    by_cases c1 : k1 < 0
    · exact xc_barrier_IA (xzU_barrier_bp0 l hst G ac ad g k1 (Or.inl c1)) ⟨rfl, rfl⟩ ⟨Nat.le_of_ble_eq_true rfl, Nat.le_of_ble_eq_true rfl⟩ (kzM_barrier_0 l G ac am t k1 (26000 * n) hJ.c (by omega)) ⟨rfl, rfl⟩ ⟨Nat.le_of_ble_eq_true rfl, Nat.le_of_ble_eq_true rfl⟩ (fun a2 t2 ht => pt_barrier_0 hJ (Or.inl c1) ht)
    · by_cases c2 : 100 < k1
      · exact xc_barrier_IA (xzU_barrier_bp0 l hst G ac ad g k1 (Or.inr (xq_nle2 c2))) ⟨rfl, rfl⟩ ⟨Nat.le_of_ble_eq_true rfl, Nat.le_of_ble_eq_true rfl⟩ (kzM_barrier_0 l G ac am t k1 (26000 * n) hJ.c (by omega)) ⟨rfl, rfl⟩ ⟨Nat.le_of_ble_eq_true rfl, Nat.le_of_ble_eq_true rfl⟩ (fun a2 t2 ht => pt_barrier_0 hJ (Or.inr c2) ht)
      · exact xc_barrier_ret (kzU_barrier_0 l G ac ad g k1 c1 c2) ⟨rfl, rfl⟩ ⟨Nat.le_of_ble_eq_true rfl, Nat.le_of_ble_eq_true rfl⟩ (kzM_barrier_0 l G ac am t k1 (26000 * n) hJ.c (by omega)) ⟨rfl, rfl⟩ ⟨Nat.le_of_ble_eq_true rfl, Nat.le_of_ble_eq_true rfl⟩ (fun a gz a2 t2 hu ht => pf_barrier_0 hJ c1 c2 hu ht)
  · by_cases a1 : k0 = 1
    · subst a1
      by_cases c1 : k1 < 0
      · exact xc_barrier_IA (xzU_barrier_bp1 l hst G ac ad g k1 (Or.inl c1)) ⟨rfl, rfl⟩ ⟨Nat.le_of_ble_eq_true rfl, Nat.le_of_ble_eq_true rfl⟩ (kzM_barrier_1 l G ac am t k1 (26000 * n) hJ.c (by omega)) ⟨rfl, rfl⟩ ⟨Nat.le_of_ble_eq_true rfl, Nat.le_of_ble_eq_true rfl⟩ (fun a2 t2 ht => pt_barrier_1 hJ (Or.inl c1) ht)
      · by_cases c2 : 100 < k1
        · exact xc_barrier_IA (xzU_barrier_bp1 l hst G ac ad g k1 (Or.inr (xq_nle2 c2))) ⟨rfl, rfl⟩ ⟨Nat.le_of_ble_eq_true rfl, Nat.le_of_ble_eq_true rfl⟩ (kzM_barrier_1 l G ac am t k1 (26000 * n) hJ.c (by omega)) ⟨rfl, rfl⟩ ⟨Nat.le_of_ble_eq_true rfl, Nat.le_of_ble_eq_true rfl⟩ (fun a2 t2 ht => pt_barrier_1 hJ (Or.inr c2) ht)
        · exact xc_barrier_ret (kzU_barrier_1 l G ac ad g k1 c1 c2) ⟨rfl, rfl⟩ ⟨Nat.le_of_ble_eq_true rfl, Nat.le_of_ble_eq_true rfl⟩ (kzM_barrier_1 l G ac am t k1 (26000 * n) hJ.c (by omega)) ⟨rfl, rfl⟩ ⟨Nat.le_of_ble_eq_true rfl, Nat.le_of_ble_eq_true rfl⟩ (fun a gz a2 t2 hu ht => pf_barrier_1 hJ c1 c2 hu ht)
    · exact xc_barrier_NS (xzU_barrier_bb l hst G ac ad g k0 k1 (xq2 a0 a1)) ⟨rfl, rfl⟩ ⟨Nat.le_of_ble_eq_true rfl, Nat.le_of_ble_eq_true rfl⟩ (kzM_barrier_bad l G ac am t k0 k1 (26000 * n) a0 a1 hJ.c (by omega)) ⟨rfl, rfl⟩ ⟨Nat.le_of_ble_eq_true rfl, Nat.le_of_ble_eq_true rfl⟩ (fun a2 t2 ht => pt_barrier_bad hJ ht)
theorem xl_current (l : Launch) (hst : l.stackTraces = false) (G : va_G) (ac : Nat → ClassId) (ad am : Nat → Nat) (o : Nat) (f : Nat → Int64) (n : Nat) (g t : xk_St) (k0 k1 : Int32) (hb1 : xk_b k1) (hn : n < 512) (hJ : xJ n g t) : xp_current l G ac ad am o f n g t k0 k1 := by
  have hR := hJ.r
  by_cases a0 : k0 = 0
  · subst a0
    exact xc_current_ret (kzU_current_0 l G ac ad g k1 hb1) ⟨rfl, rfl⟩ ⟨Nat.le_of_ble_eq_true rfl, Nat.le_of_ble_eq_true rfl⟩ (kzM_current_0 l G ac am t k1 (26000 * n) hb1 hJ.c (by omega)) ⟨rfl, rfl⟩ ⟨Nat.le_of_ble_eq_true rfl, Nat.le_of_ble_eq_true rfl⟩ (fun a gz a2 t2 hu ht => pf_current_0 hJ hb1 hu ht)
  · by_cases a1 : k0 = 1
    · subst a1
      exact xc_current_ret (kzU_current_1 l G ac ad g k1 hb1) ⟨rfl, rfl⟩ ⟨Nat.le_of_ble_eq_true rfl, Nat.le_of_ble_eq_true rfl⟩ (kzM_current_1 l G ac am t k1 (26000 * n) hb1 hJ.c (by omega)) ⟨rfl, rfl⟩ ⟨Nat.le_of_ble_eq_true rfl, Nat.le_of_ble_eq_true rfl⟩ (fun a gz a2 t2 hu ht => pf_current_1 hJ hb1 hu ht)
    · by_cases a2 : k0 = 2
      · subst a2
        exact xc_current_ret (kzU_current_2 l G ac ad g k1 hb1) ⟨rfl, rfl⟩ ⟨Nat.le_of_ble_eq_true rfl, Nat.le_of_ble_eq_true rfl⟩ (kzM_current_2 l G ac am t k1 (26000 * n) hb1 hJ.c (by omega)) ⟨rfl, rfl⟩ ⟨Nat.le_of_ble_eq_true rfl, Nat.le_of_ble_eq_true rfl⟩ (fun a gz a2 t2 hu ht => pf_current_2 hJ hb1 hu ht)
      · by_cases c1 : k0 < 0
        · exact xc_current_NS (xzU_current_bad l hst G ac ad g k0 k1 (Or.inl c1)) ⟨rfl, rfl⟩ ⟨Nat.le_of_ble_eq_true rfl, Nat.le_of_ble_eq_true rfl⟩ (kzM_current_neg l G ac am t k0 k1 (26000 * n) c1 hb1 hJ.c (by omega)) ⟨rfl, rfl⟩ ⟨Nat.le_of_ble_eq_true rfl, Nat.le_of_ble_eq_true rfl⟩ (fun a2 t2 ht => pt_current_neg hJ ht)
        · have c2 := (xq3 a0 a1 a2).resolve_left c1
          exact xc_current_NS (xzU_current_bad l hst G ac ad g k0 k1 (Or.inr c2)) ⟨rfl, rfl⟩ ⟨Nat.le_of_ble_eq_true rfl, Nat.le_of_ble_eq_true rfl⟩ (kzM_current_big l G ac am t k0 k1 (26000 * n) c1 (xk_ge c2) hb1 hJ.c (by omega)) ⟨rfl, rfl⟩ ⟨Nat.le_of_ble_eq_true rfl, Nat.le_of_ble_eq_true rfl⟩ (fun a2 t2 ht => pt_current_big hJ ht)
theorem xl_order (l : Launch) (hst : l.stackTraces = false) (G : va_G) (ac : Nat → ClassId) (ad am : Nat → Nat) (o : Nat) (f : Nat → Int64) (n : Nat) (g t : xk_St) (k0 : Int32) (hn : n < 512) (hJ : xJ n g t) : xp_order l G ac ad am o f n g t k0 := by
  have hR := hJ.r
  by_cases a0 : k0 = 0
  · subst a0
    exact xc_order_ret (kzU_order_0 l G ac ad g) ⟨rfl, rfl⟩ ⟨Nat.le_of_ble_eq_true rfl, Nat.le_of_ble_eq_true rfl⟩ (kzM_order_0 l G ac am t (26000 * n) hJ.c (by omega)) ⟨rfl, rfl⟩ ⟨Nat.le_of_ble_eq_true rfl, Nat.le_of_ble_eq_true rfl⟩ (fun a gz a2 t2 hu ht => pf_order_0 hn hJ hu ht)
  · by_cases a1 : k0 = 1
    · subst a1
      exact xc_order_ret (kzU_order_1 l G ac ad g) ⟨rfl, rfl⟩ ⟨Nat.le_of_ble_eq_true rfl, Nat.le_of_ble_eq_true rfl⟩ (kzM_order_1 l G ac am t (26000 * n) hJ.c (by omega)) ⟨rfl, rfl⟩ ⟨Nat.le_of_ble_eq_true rfl, Nat.le_of_ble_eq_true rfl⟩ (fun a gz a2 t2 hu ht => pf_order_1 hn hJ hu ht)
    · exact xc_order_NS (xzU_order_bt l hst G ac ad g k0 (xq2 a0 a1)) ⟨rfl, rfl⟩ ⟨Nat.le_of_ble_eq_true rfl, Nat.le_of_ble_eq_true rfl⟩ (kzM_order_bad l G ac am t k0 (26000 * n) (xq_tr a0 a1) hJ.c (by omega)) ⟨rfl, rfl⟩ ⟨Nat.le_of_ble_eq_true rfl, Nat.le_of_ble_eq_true rfl⟩ (fun a2 t2 ht => pt_order_bad hJ ht)
theorem xl_cancel (l : Launch) (hst : l.stackTraces = false) (G : va_G) (ac : Nat → ClassId) (ad am : Nat → Nat) (o : Nat) (f : Nat → Int64) (n : Nat) (g t : xk_St) (k0 : Int32) (hn : n < 512) (hJ : xJ n g t) : xp_cancel l G ac ad am o f n g t k0 := by
  have hR := hJ.r
  by_cases a0 : k0 = 0
  · subst a0
    exact xc_cancel_ret (kzU_cancel_0 l G ac ad g (by rw [hR.o0]; exact hR.yo0)) ⟨rfl, rfl⟩ ⟨Nat.le_of_ble_eq_true rfl, Nat.le_of_ble_eq_true rfl⟩ (kzM_cancel_0 l G ac am t (26000 * n) hR.yo0 hJ.c (by omega)) ⟨rfl, rfl⟩ ⟨Nat.le_of_ble_eq_true rfl, Nat.le_of_ble_eq_true rfl⟩ (fun a gz a2 t2 hu ht => pf_cancel_0 hJ hu ht)
  · by_cases a1 : k0 = 1
    · subst a1
      exact xc_cancel_ret (kzU_cancel_1 l G ac ad g (by rw [hR.o1]; exact hR.yo1)) ⟨rfl, rfl⟩ ⟨Nat.le_of_ble_eq_true rfl, Nat.le_of_ble_eq_true rfl⟩ (kzM_cancel_1 l G ac am t (26000 * n) hR.yo1 hJ.c (by omega)) ⟨rfl, rfl⟩ ⟨Nat.le_of_ble_eq_true rfl, Nat.le_of_ble_eq_true rfl⟩ (fun a gz a2 t2 hu ht => pf_cancel_1 hJ hu ht)
    · exact xc_cancel_NS (xzU_cancel_bt l hst G ac ad g k0 (xq2 a0 a1)) ⟨rfl, rfl⟩ ⟨Nat.le_of_ble_eq_true rfl, Nat.le_of_ble_eq_true rfl⟩ (kzM_cancel_bad l G ac am t k0 (26000 * n) (xq_tr a0 a1) hJ.c (by omega)) ⟨rfl, rfl⟩ ⟨Nat.le_of_ble_eq_true rfl, Nat.le_of_ble_eq_true rfl⟩ (fun a2 t2 ht => pt_cancel_bad hJ ht)
theorem xl_earliest (l : Launch) (hst : l.stackTraces = false) (G : va_G) (ac : Nat → ClassId) (ad am : Nat → Nat) (o : Nat) (f : Nat → Int64) (n : Nat) (g t : xk_St) (k0 : Int32) (hn : n < 512) (hJ : xJ n g t) : xp_earliest l G ac ad am o f n g t k0 := by
  have hR := hJ.r
  by_cases a0 : k0 = 0
  · subst a0
    exact xc_earliest_qry (kzU_earliest_0 l G ac ad g) ⟨rfl, rfl⟩ ⟨Nat.le_of_ble_eq_true rfl, Nat.le_of_ble_eq_true rfl⟩ (kzM_earliest_0 l G ac am t (26000 * n) hJ.c (by omega)) ⟨rfl, rfl⟩ ⟨Nat.le_of_ble_eq_true rfl, Nat.le_of_ble_eq_true rfl⟩ (fun a2 t2 ht => pf_earliest_0 hJ ht)
  · by_cases a1 : k0 = 1
    · subst a1
      exact xc_earliest_qry (kzU_earliest_1 l G ac ad g) ⟨rfl, rfl⟩ ⟨Nat.le_of_ble_eq_true rfl, Nat.le_of_ble_eq_true rfl⟩ (kzM_earliest_1 l G ac am t (26000 * n) hJ.c (by omega)) ⟨rfl, rfl⟩ ⟨Nat.le_of_ble_eq_true rfl, Nat.le_of_ble_eq_true rfl⟩ (fun a2 t2 ht => pf_earliest_1 hJ ht)
    · exact xc_earliest_NS (xzU_earliest_bt l hst G ac ad g k0 (xq2 a0 a1)) ⟨rfl, rfl⟩ ⟨Nat.le_of_ble_eq_true rfl, Nat.le_of_ble_eq_true rfl⟩ (kzM_earliest_bad l G ac am t k0 (26000 * n) (xq_tr a0 a1) hJ.c (by omega)) ⟨rfl, rfl⟩ ⟨Nat.le_of_ble_eq_true rfl, Nat.le_of_ble_eq_true rfl⟩ (fun a2 t2 ht => pt_earliest_bad hJ ht)
theorem xl_ask (l : Launch) (hst : l.stackTraces = false) (G : va_G) (ac : Nat → ClassId) (ad am : Nat → Nat) (n : Nat) (g t : xk_St) (k0 k1 k2 : Int32) (hn : n < 512) (hJ : xJ n g t) : xp_ask l G ac ad am n g t k0 k1 k2 := by
  have hR := hJ.r
  by_cases a0 : k0 = 0
  · subst a0
    by_cases b0 : k1 = 0
    · subst b0
      by_cases c1 : 0 < k2
      · by_cases d : t 5 0 = 0
        · exact xc_ask_IS (xzU_ask_nd00 l hst G ac ad g k2 c1 (by rw [hR.d0]; exact d)) ⟨rfl, rfl⟩ ⟨Nat.le_of_ble_eq_true rfl, Nat.le_of_ble_eq_true rfl⟩ (kzM_ask_0_0 l G ac am t k2 (26000 * n) (xq_nlt1 c1) hJ.c (by omega)) ⟨rfl, rfl⟩ ⟨Nat.le_of_ble_eq_true rfl, Nat.le_of_ble_eq_true rfl⟩ (fun t2 ht => pt_ask_0 hJ d ht)
        · exact xc_ask_ret (kzU_ask_0_0 l G ac ad g k2 c1 (by rw [hR.d0]; exact d)) ⟨rfl, rfl⟩ ⟨Nat.le_of_ble_eq_true rfl, Nat.le_of_ble_eq_true rfl⟩ (kzM_ask_0_0 l G ac am t k2 (26000 * n) (xq_nlt1 c1) hJ.c (by omega)) ⟨rfl, rfl⟩ ⟨Nat.le_of_ble_eq_true rfl, Nat.le_of_ble_eq_true rfl⟩ (fun gz t2 hu ht => pf_ask_0 hJ d hu ht)
      · exact xc_ask_NS (xzU_ask_bw00 l hst G ac ad g k2 c1) ⟨rfl, rfl⟩ ⟨Nat.le_of_ble_eq_true rfl, Nat.le_of_ble_eq_true rfl⟩ (kzM_ask_who l G ac am t 0 0 k2 (26000 * n) (by decide) (xq_lt1 c1) hJ.c (by omega)) ⟨rfl, rfl⟩ ⟨Nat.le_of_ble_eq_true rfl, Nat.le_of_ble_eq_true rfl⟩ (fun t2 ht => pt_ask_who hJ ht)
    · by_cases b1 : k1 = 1
      · subst b1
        by_cases c1 : 0 < k2
        · by_cases d : t 5 1 = 0
          · exact xc_ask_IS (xzU_ask_nd01 l hst G ac ad g k2 c1 (by rw [hR.d1]; exact d)) ⟨rfl, rfl⟩ ⟨Nat.le_of_ble_eq_true rfl, Nat.le_of_ble_eq_true rfl⟩ (kzM_ask_0_1 l G ac am t k2 (26000 * n) (xq_nlt1 c1) hJ.c (by omega)) ⟨rfl, rfl⟩ ⟨Nat.le_of_ble_eq_true rfl, Nat.le_of_ble_eq_true rfl⟩ (fun t2 ht => pt_ask_1 hJ d ht)
          · exact xc_ask_ret (kzU_ask_0_1 l G ac ad g k2 c1 (by rw [hR.d1]; exact d)) ⟨rfl, rfl⟩ ⟨Nat.le_of_ble_eq_true rfl, Nat.le_of_ble_eq_true rfl⟩ (kzM_ask_0_1 l G ac am t k2 (26000 * n) (xq_nlt1 c1) hJ.c (by omega)) ⟨rfl, rfl⟩ ⟨Nat.le_of_ble_eq_true rfl, Nat.le_of_ble_eq_true rfl⟩ (fun gz t2 hu ht => pf_ask_1 hJ d hu ht)
        · exact xc_ask_NS (xzU_ask_bw01 l hst G ac ad g k2 c1) ⟨rfl, rfl⟩ ⟨Nat.le_of_ble_eq_true rfl, Nat.le_of_ble_eq_true rfl⟩ (kzM_ask_who l G ac am t 0 1 k2 (26000 * n) (by decide) (xq_lt1 c1) hJ.c (by omega)) ⟨rfl, rfl⟩ ⟨Nat.le_of_ble_eq_true rfl, Nat.le_of_ble_eq_true rfl⟩ (fun t2 ht => pt_ask_who hJ ht)
      · by_cases b2 : k1 = 2
        · subst b2
          by_cases c1 : 0 < k2
          · by_cases d : t 5 2 = 0
            · exact xc_ask_IS (xzU_ask_nd02 l hst G ac ad g k2 c1 (by rw [hR.d2]; exact d)) ⟨rfl, rfl⟩ ⟨Nat.le_of_ble_eq_true rfl, Nat.le_of_ble_eq_true rfl⟩ (kzM_ask_0_2 l G ac am t k2 (26000 * n) (xq_nlt1 c1) hJ.c (by omega)) ⟨rfl, rfl⟩ ⟨Nat.le_of_ble_eq_true rfl, Nat.le_of_ble_eq_true rfl⟩ (fun t2 ht => pt_ask_2 hJ d ht)
            · exact xc_ask_ret (kzU_ask_0_2 l G ac ad g k2 c1 (by rw [hR.d2]; exact d)) ⟨rfl, rfl⟩ ⟨Nat.le_of_ble_eq_true rfl, Nat.le_of_ble_eq_true rfl⟩ (kzM_ask_0_2 l G ac am t k2 (26000 * n) (xq_nlt1 c1) hJ.c (by omega)) ⟨rfl, rfl⟩ ⟨Nat.le_of_ble_eq_true rfl, Nat.le_of_ble_eq_true rfl⟩ (fun gz t2 hu ht => pf_ask_2 hJ d hu ht)
          · exact xc_ask_NS (xzU_ask_bw02 l hst G ac ad g k2 c1) ⟨rfl, rfl⟩ ⟨Nat.le_of_ble_eq_true rfl, Nat.le_of_ble_eq_true rfl⟩ (kzM_ask_who l G ac am t 0 2 k2 (26000 * n) (by decide) (xq_lt1 c1) hJ.c (by omega)) ⟨rfl, rfl⟩ ⟨Nat.le_of_ble_eq_true rfl, Nat.le_of_ble_eq_true rfl⟩ (fun t2 ht => pt_ask_who hJ ht)
        · exact xc_ask_NS (xzU_ask_bs0 l hst G ac ad g k1 k2 (xq3 b0 b1 b2)) ⟨rfl, rfl⟩ ⟨Nat.le_of_ble_eq_true rfl, Nat.le_of_ble_eq_true rfl⟩ (kzM_ask_bad l G ac am t 0 k1 k2 (26000 * n) (xq_sc2 (xq3 b0 b1 b2)) hJ.c (by omega)) ⟨rfl, rfl⟩ ⟨Nat.le_of_ble_eq_true rfl, Nat.le_of_ble_eq_true rfl⟩ (fun t2 ht => pt_ask_bad hJ ht)
  · by_cases a1 : k0 = 1
    · subst a1
      by_cases b0 : k1 = 0
      · subst b0
        by_cases c1 : 0 < k2
        · by_cases d : t 5 3 = 0
          · exact xc_ask_IS (xzU_ask_nd10 l hst G ac ad g k2 c1 (by rw [hR.d3]; exact d)) ⟨rfl, rfl⟩ ⟨Nat.le_of_ble_eq_true rfl, Nat.le_of_ble_eq_true rfl⟩ (kzM_ask_1_0 l G ac am t k2 (26000 * n) (xq_nlt1 c1) hJ.c (by omega)) ⟨rfl, rfl⟩ ⟨Nat.le_of_ble_eq_true rfl, Nat.le_of_ble_eq_true rfl⟩ (fun t2 ht => pt_ask_3 hJ d ht)
          · exact xc_ask_ret (kzU_ask_1_0 l G ac ad g k2 c1 (by rw [hR.d3]; exact d)) ⟨rfl, rfl⟩ ⟨Nat.le_of_ble_eq_true rfl, Nat.le_of_ble_eq_true rfl⟩ (kzM_ask_1_0 l G ac am t k2 (26000 * n) (xq_nlt1 c1) hJ.c (by omega)) ⟨rfl, rfl⟩ ⟨Nat.le_of_ble_eq_true rfl, Nat.le_of_ble_eq_true rfl⟩ (fun gz t2 hu ht => pf_ask_3 hJ d hu ht)
        · exact xc_ask_NS (xzU_ask_bw10 l hst G ac ad g k2 c1) ⟨rfl, rfl⟩ ⟨Nat.le_of_ble_eq_true rfl, Nat.le_of_ble_eq_true rfl⟩ (kzM_ask_who l G ac am t 1 0 k2 (26000 * n) (by decide) (xq_lt1 c1) hJ.c (by omega)) ⟨rfl, rfl⟩ ⟨Nat.le_of_ble_eq_true rfl, Nat.le_of_ble_eq_true rfl⟩ (fun t2 ht => pt_ask_who hJ ht)
      · by_cases b1 : k1 = 1
        · subst b1
          by_cases c1 : 0 < k2
          · by_cases d : t 5 4 = 0
            · exact xc_ask_IS (xzU_ask_nd11 l hst G ac ad g k2 c1 (by rw [hR.d4]; exact d)) ⟨rfl, rfl⟩ ⟨Nat.le_of_ble_eq_true rfl, Nat.le_of_ble_eq_true rfl⟩ (kzM_ask_1_1 l G ac am t k2 (26000 * n) (xq_nlt1 c1) hJ.c (by omega)) ⟨rfl, rfl⟩ ⟨Nat.le_of_ble_eq_true rfl, Nat.le_of_ble_eq_true rfl⟩ (fun t2 ht => pt_ask_4 hJ d ht)
            · exact xc_ask_ret (kzU_ask_1_1 l G ac ad g k2 c1 (by rw [hR.d4]; exact d)) ⟨rfl, rfl⟩ ⟨Nat.le_of_ble_eq_true rfl, Nat.le_of_ble_eq_true rfl⟩ (kzM_ask_1_1 l G ac am t k2 (26000 * n) (xq_nlt1 c1) hJ.c (by omega)) ⟨rfl, rfl⟩ ⟨Nat.le_of_ble_eq_true rfl, Nat.le_of_ble_eq_true rfl⟩ (fun gz t2 hu ht => pf_ask_4 hJ d hu ht)
          · exact xc_ask_NS (xzU_ask_bw11 l hst G ac ad g k2 c1) ⟨rfl, rfl⟩ ⟨Nat.le_of_ble_eq_true rfl, Nat.le_of_ble_eq_true rfl⟩ (kzM_ask_who l G ac am t 1 1 k2 (26000 * n) (by decide) (xq_lt1 c1) hJ.c (by omega)) ⟨rfl, rfl⟩ ⟨Nat.le_of_ble_eq_true rfl, Nat.le_of_ble_eq_true rfl⟩ (fun t2 ht => pt_ask_who hJ ht)
        · by_cases b2 : k1 = 2
          · subst b2
            by_cases c1 : 0 < k2
            · by_cases d : t 5 5 = 0
              · exact xc_ask_IS (xzU_ask_nd12 l hst G ac ad g k2 c1 (by rw [hR.d5]; exact d)) ⟨rfl, rfl⟩ ⟨Nat.le_of_ble_eq_true rfl, Nat.le_of_ble_eq_true rfl⟩ (kzM_ask_1_2 l G ac am t k2 (26000 * n) (xq_nlt1 c1) hJ.c (by omega)) ⟨rfl, rfl⟩ ⟨Nat.le_of_ble_eq_true rfl, Nat.le_of_ble_eq_true rfl⟩ (fun t2 ht => pt_ask_5 hJ d ht)
              · exact xc_ask_ret (kzU_ask_1_2 l G ac ad g k2 c1 (by rw [hR.d5]; exact d)) ⟨rfl, rfl⟩ ⟨Nat.le_of_ble_eq_true rfl, Nat.le_of_ble_eq_true rfl⟩ (kzM_ask_1_2 l G ac am t k2 (26000 * n) (xq_nlt1 c1) hJ.c (by omega)) ⟨rfl, rfl⟩ ⟨Nat.le_of_ble_eq_true rfl, Nat.le_of_ble_eq_true rfl⟩ (fun gz t2 hu ht => pf_ask_5 hJ d hu ht)
            · exact xc_ask_NS (xzU_ask_bw12 l hst G ac ad g k2 c1) ⟨rfl, rfl⟩ ⟨Nat.le_of_ble_eq_true rfl, Nat.le_of_ble_eq_true rfl⟩ (kzM_ask_who l G ac am t 1 2 k2 (26000 * n) (by decide) (xq_lt1 c1) hJ.c (by omega)) ⟨rfl, rfl⟩ ⟨Nat.le_of_ble_eq_true rfl, Nat.le_of_ble_eq_true rfl⟩ (fun t2 ht => pt_ask_who hJ ht)
          · exact xc_ask_NS (xzU_ask_bs1 l hst G ac ad g k1 k2 (xq3 b0 b1 b2)) ⟨rfl, rfl⟩ ⟨Nat.le_of_ble_eq_true rfl, Nat.le_of_ble_eq_true rfl⟩ (kzM_ask_bad l G ac am t 1 k1 k2 (26000 * n) (xq_sc2 (xq3 b0 b1 b2)) hJ.c (by omega)) ⟨rfl, rfl⟩ ⟨Nat.le_of_ble_eq_true rfl, Nat.le_of_ble_eq_true rfl⟩ (fun t2 ht => pt_ask_bad hJ ht)
    · exact xc_ask_NS (xzU_ask_bt l hst G ac ad g k0 k1 k2 (xq2 a0 a1)) ⟨rfl, rfl⟩ ⟨Nat.le_of_ble_eq_true rfl, Nat.le_of_ble_eq_true rfl⟩ (kzM_ask_bad l G ac am t k0 k1 k2 (26000 * n) (xq_sc a0 a1) hJ.c (by omega)) ⟨rfl, rfl⟩ ⟨Nat.le_of_ble_eq_true rfl, Nat.le_of_ble_eq_true rfl⟩ (fun t2 ht => pt_ask_bad hJ ht)
theorem xl_confirm (l : Launch) (hst : l.stackTraces = false) (G : va_G) (ac : Nat → ClassId) (ad am : Nat → Nat) (o : Nat) (f : Nat → Int64) (n : Nat) (g t : xk_St) (k0 k1 k2 : Int32) (hn : n < 512) (hJ : xJ n g t) : xp_confirm l G ac ad am o f n g t k0 k1 k2 := by
  have hR := hJ.r
  by_cases a0 : k0 = 0
  · subst a0
    by_cases b0 : k1 = 0
    · subst b0
      by_cases c1 : 0 < k2
      · by_cases d1 : t 6 0 = 0
        · exact xc_confirm_IS (xzU_confirm_na00 l hst G ac ad g k2 c1 (Or.inl (by rw [hR.k0]; exact d1))) ⟨rfl, rfl⟩ ⟨Nat.le_of_ble_eq_true rfl, Nat.le_of_ble_eq_true rfl⟩ (kzM_confirm_0_0 l G ac am t k2 (26000 * n) (xq_nlt1 c1) hJ.c (by omega)) ⟨rfl, rfl⟩ ⟨Nat.le_of_ble_eq_true rfl, Nat.le_of_ble_eq_true rfl⟩ (fun a2 t2 ht => pt_confirm_0 hJ (Or.inl d1) ht)
        · by_cases d2 : t 6 0 = k2
          · exact xc_confirm_IS (xzU_confirm_na00 l hst G ac ad g k2 c1 (Or.inr (by rw [hR.k0]; exact d2))) ⟨rfl, rfl⟩ ⟨Nat.le_of_ble_eq_true rfl, Nat.le_of_ble_eq_true rfl⟩ (kzM_confirm_0_0 l G ac am t k2 (26000 * n) (xq_nlt1 c1) hJ.c (by omega)) ⟨rfl, rfl⟩ ⟨Nat.le_of_ble_eq_true rfl, Nat.le_of_ble_eq_true rfl⟩ (fun a2 t2 ht => pt_confirm_0 hJ (Or.inr d2) ht)
          · exact xc_confirm_ret (kzU_confirm_0_0 l G ac ad g k2 c1 (by rw [hR.k0]; exact d1) (by rw [hR.k0]; exact d2)) ⟨rfl, rfl⟩ ⟨Nat.le_of_ble_eq_true rfl, Nat.le_of_ble_eq_true rfl⟩ (kzM_confirm_0_0 l G ac am t k2 (26000 * n) (xq_nlt1 c1) hJ.c (by omega)) ⟨rfl, rfl⟩ ⟨Nat.le_of_ble_eq_true rfl, Nat.le_of_ble_eq_true rfl⟩ (fun a gz a2 t2 hu ht => pf_confirm_0 hn hJ d1 d2 hu ht)
      · exact xc_confirm_NS (xzU_confirm_bw00 l hst G ac ad g k2 c1) ⟨rfl, rfl⟩ ⟨Nat.le_of_ble_eq_true rfl, Nat.le_of_ble_eq_true rfl⟩ (kzM_confirm_who l G ac am t 0 0 k2 (26000 * n) (by decide) (xq_lt1 c1) hJ.c (by omega)) ⟨rfl, rfl⟩ ⟨Nat.le_of_ble_eq_true rfl, Nat.le_of_ble_eq_true rfl⟩ (fun a2 t2 ht => pt_confirm_who hJ ht)
    · by_cases b1 : k1 = 1
      · subst b1
        by_cases c1 : 0 < k2
        · by_cases d1 : t 6 1 = 0
          · exact xc_confirm_IS (xzU_confirm_na01 l hst G ac ad g k2 c1 (Or.inl (by rw [hR.k1]; exact d1))) ⟨rfl, rfl⟩ ⟨Nat.le_of_ble_eq_true rfl, Nat.le_of_ble_eq_true rfl⟩ (kzM_confirm_0_1 l G ac am t k2 (26000 * n) (xq_nlt1 c1) hJ.c (by omega)) ⟨rfl, rfl⟩ ⟨Nat.le_of_ble_eq_true rfl, Nat.le_of_ble_eq_true rfl⟩ (fun a2 t2 ht => pt_confirm_1 hJ (Or.inl d1) ht)
          · by_cases d2 : t 6 1 = k2
            · exact xc_confirm_IS (xzU_confirm_na01 l hst G ac ad g k2 c1 (Or.inr (by rw [hR.k1]; exact d2))) ⟨rfl, rfl⟩ ⟨Nat.le_of_ble_eq_true rfl, Nat.le_of_ble_eq_true rfl⟩ (kzM_confirm_0_1 l G ac am t k2 (26000 * n) (xq_nlt1 c1) hJ.c (by omega)) ⟨rfl, rfl⟩ ⟨Nat.le_of_ble_eq_true rfl, Nat.le_of_ble_eq_true rfl⟩ (fun a2 t2 ht => pt_confirm_1 hJ (Or.inr d2) ht)
            · exact xc_confirm_ret (kzU_confirm_0_1 l G ac ad g k2 c1 (by rw [hR.k1]; exact d1) (by rw [hR.k1]; exact d2)) ⟨rfl, rfl⟩ ⟨Nat.le_of_ble_eq_true rfl, Nat.le_of_ble_eq_true rfl⟩ (kzM_confirm_0_1 l G ac am t k2 (26000 * n) (xq_nlt1 c1) hJ.c (by omega)) ⟨rfl, rfl⟩ ⟨Nat.le_of_ble_eq_true rfl, Nat.le_of_ble_eq_true rfl⟩ (fun a gz a2 t2 hu ht => pf_confirm_1 hn hJ d1 d2 hu ht)
        · exact xc_confirm_NS (xzU_confirm_bw01 l hst G ac ad g k2 c1) ⟨rfl, rfl⟩ ⟨Nat.le_of_ble_eq_true rfl, Nat.le_of_ble_eq_true rfl⟩ (kzM_confirm_who l G ac am t 0 1 k2 (26000 * n) (by decide) (xq_lt1 c1) hJ.c (by omega)) ⟨rfl, rfl⟩ ⟨Nat.le_of_ble_eq_true rfl, Nat.le_of_ble_eq_true rfl⟩ (fun a2 t2 ht => pt_confirm_who hJ ht)
      · by_cases b2 : k1 = 2
        · subst b2
          by_cases c1 : 0 < k2
          · by_cases d1 : t 6 2 = 0
            · exact xc_confirm_IS (xzU_confirm_na02 l hst G ac ad g k2 c1 (Or.inl (by rw [hR.k2]; exact d1))) ⟨rfl, rfl⟩ ⟨Nat.le_of_ble_eq_true rfl, Nat.le_of_ble_eq_true rfl⟩ (kzM_confirm_0_2 l G ac am t k2 (26000 * n) (xq_nlt1 c1) hJ.c (by omega)) ⟨rfl, rfl⟩ ⟨Nat.le_of_ble_eq_true rfl, Nat.le_of_ble_eq_true rfl⟩ (fun a2 t2 ht => pt_confirm_2 hJ (Or.inl d1) ht)
            · by_cases d2 : t 6 2 = k2
              · exact xc_confirm_IS (xzU_confirm_na02 l hst G ac ad g k2 c1 (Or.inr (by rw [hR.k2]; exact d2))) ⟨rfl, rfl⟩ ⟨Nat.le_of_ble_eq_true rfl, Nat.le_of_ble_eq_true rfl⟩ (kzM_confirm_0_2 l G ac am t k2 (26000 * n) (xq_nlt1 c1) hJ.c (by omega)) ⟨rfl, rfl⟩ ⟨Nat.le_of_ble_eq_true rfl, Nat.le_of_ble_eq_true rfl⟩ (fun a2 t2 ht => pt_confirm_2 hJ (Or.inr d2) ht)
              · exact xc_confirm_ret (kzU_confirm_0_2 l G ac ad g k2 c1 (by rw [hR.k2]; exact d1) (by rw [hR.k2]; exact d2)) ⟨rfl, rfl⟩ ⟨Nat.le_of_ble_eq_true rfl, Nat.le_of_ble_eq_true rfl⟩ (kzM_confirm_0_2 l G ac am t k2 (26000 * n) (xq_nlt1 c1) hJ.c (by omega)) ⟨rfl, rfl⟩ ⟨Nat.le_of_ble_eq_true rfl, Nat.le_of_ble_eq_true rfl⟩ (fun a gz a2 t2 hu ht => pf_confirm_2 hn hJ d1 d2 hu ht)
          · exact xc_confirm_NS (xzU_confirm_bw02 l hst G ac ad g k2 c1) ⟨rfl, rfl⟩ ⟨Nat.le_of_ble_eq_true rfl, Nat.le_of_ble_eq_true rfl⟩ (kzM_confirm_who l G ac am t 0 2 k2 (26000 * n) (by decide) (xq_lt1 c1) hJ.c (by omega)) ⟨rfl, rfl⟩ ⟨Nat.le_of_ble_eq_true rfl, Nat.le_of_ble_eq_true rfl⟩ (fun a2 t2 ht => pt_confirm_who hJ ht)
        · exact xc_confirm_NS (xzU_confirm_bs0 l hst G ac ad g k1 k2 (xq3 b0 b1 b2)) ⟨rfl, rfl⟩ ⟨Nat.le_of_ble_eq_true rfl, Nat.le_of_ble_eq_true rfl⟩ (kzM_confirm_bad l G ac am t 0 k1 k2 (26000 * n) (xq_sc2 (xq3 b0 b1 b2)) hJ.c (by omega)) ⟨rfl, rfl⟩ ⟨Nat.le_of_ble_eq_true rfl, Nat.le_of_ble_eq_true rfl⟩ (fun a2 t2 ht => pt_confirm_bad hJ ht)
  · by_cases a1 : k0 = 1
    · subst a1
      by_cases b0 : k1 = 0
      · subst b0
        by_cases c1 : 0 < k2
        · by_cases d1 : t 6 3 = 0
          · exact xc_confirm_IS (xzU_confirm_na10 l hst G ac ad g k2 c1 (Or.inl (by rw [hR.k3]; exact d1))) ⟨rfl, rfl⟩ ⟨Nat.le_of_ble_eq_true rfl, Nat.le_of_ble_eq_true rfl⟩ (kzM_confirm_1_0 l G ac am t k2 (26000 * n) (xq_nlt1 c1) hJ.c (by omega)) ⟨rfl, rfl⟩ ⟨Nat.le_of_ble_eq_true rfl, Nat.le_of_ble_eq_true rfl⟩ (fun a2 t2 ht => pt_confirm_3 hJ (Or.inl d1) ht)
          · by_cases d2 : t 6 3 = k2
            · exact xc_confirm_IS (xzU_confirm_na10 l hst G ac ad g k2 c1 (Or.inr (by rw [hR.k3]; exact d2))) ⟨rfl, rfl⟩ ⟨Nat.le_of_ble_eq_true rfl, Nat.le_of_ble_eq_true rfl⟩ (kzM_confirm_1_0 l G ac am t k2 (26000 * n) (xq_nlt1 c1) hJ.c (by omega)) ⟨rfl, rfl⟩ ⟨Nat.le_of_ble_eq_true rfl, Nat.le_of_ble_eq_true rfl⟩ (fun a2 t2 ht => pt_confirm_3 hJ (Or.inr d2) ht)
            · exact xc_confirm_ret (kzU_confirm_1_0 l G ac ad g k2 c1 (by rw [hR.k3]; exact d1) (by rw [hR.k3]; exact d2)) ⟨rfl, rfl⟩ ⟨Nat.le_of_ble_eq_true rfl, Nat.le_of_ble_eq_true rfl⟩ (kzM_confirm_1_0 l G ac am t k2 (26000 * n) (xq_nlt1 c1) hJ.c (by omega)) ⟨rfl, rfl⟩ ⟨Nat.le_of_ble_eq_true rfl, Nat.le_of_ble_eq_true rfl⟩ (fun a gz a2 t2 hu ht => pf_confirm_3 hn hJ d1 d2 hu ht)
        · exact xc_confirm_NS (xzU_confirm_bw10 l hst G ac ad g k2 c1) ⟨rfl, rfl⟩ ⟨Nat.le_of_ble_eq_true rfl, Nat.le_of_ble_eq_true rfl⟩ (kzM_confirm_who l G ac am t 1 0 k2 (26000 * n) (by decide) (xq_lt1 c1) hJ.c (by omega)) ⟨rfl, rfl⟩ ⟨Nat.le_of_ble_eq_true rfl, Nat.le_of_ble_eq_true rfl⟩ (fun a2 t2 ht => pt_confirm_who hJ ht)
      · by_cases b1 : k1 = 1
        · subst b1
          by_cases c1 : 0 < k2
          · by_cases d1 : t 6 4 = 0
            · exact xc_confirm_IS (xzU_confirm_na11 l hst G ac ad g k2 c1 (Or.inl (by rw [hR.k4]; exact d1))) ⟨rfl, rfl⟩ ⟨Nat.le_of_ble_eq_true rfl, Nat.le_of_ble_eq_true rfl⟩ (kzM_confirm_1_1 l G ac am t k2 (26000 * n) (xq_nlt1 c1) hJ.c (by omega)) ⟨rfl, rfl⟩ ⟨Nat.le_of_ble_eq_true rfl, Nat.le_of_ble_eq_true rfl⟩ (fun a2 t2 ht => pt_confirm_4 hJ (Or.inl d1) ht)
            · by_cases d2 : t 6 4 = k2
              · exact xc_confirm_IS (xzU_confirm_na11 l hst G ac ad g k2 c1 (Or.inr (by rw [hR.k4]; exact d2))) ⟨rfl, rfl⟩ ⟨Nat.le_of_ble_eq_true rfl, Nat.le_of_ble_eq_true rfl⟩ (kzM_confirm_1_1 l G ac am t k2 (26000 * n) (xq_nlt1 c1) hJ.c (by omega)) ⟨rfl, rfl⟩ ⟨Nat.le_of_ble_eq_true rfl, Nat.le_of_ble_eq_true rfl⟩ (fun a2 t2 ht => pt_confirm_4 hJ (Or.inr d2) ht)
              · exact xc_confirm_ret (kzU_confirm_1_1 l G ac ad g k2 c1 (by rw [hR.k4]; exact d1) (by rw [hR.k4]; exact d2)) ⟨rfl, rfl⟩ ⟨Nat.le_of_ble_eq_true rfl, Nat.le_of_ble_eq_true rfl⟩ (kzM_confirm_1_1 l G ac am t k2 (26000 * n) (xq_nlt1 c1) hJ.c (by omega)) ⟨rfl, rfl⟩ ⟨Nat.le_of_ble_eq_true rfl, Nat.le_of_ble_eq_true rfl⟩ (fun a gz a2 t2 hu ht => pf_confirm_4 hn hJ d1 d2 hu ht)
          · exact xc_confirm_NS (xzU_confirm_bw11 l hst G ac ad g k2 c1) ⟨rfl, rfl⟩ ⟨Nat.le_of_ble_eq_true rfl, Nat.le_of_ble_eq_true rfl⟩ (kzM_confirm_who l G ac am t 1 1 k2 (26000 * n) (by decide) (xq_lt1 c1) hJ.c (by omega)) ⟨rfl, rfl⟩ ⟨Nat.le_of_ble_eq_true rfl, Nat.le_of_ble_eq_true rfl⟩ (fun a2 t2 ht => pt_confirm_who hJ ht)
        · by_cases b2 : k1 = 2
          · subst b2
            by_cases c1 : 0 < k2
            · by_cases d1 : t 6 5 = 0
              · exact xc_confirm_IS (xzU_confirm_na12 l hst G ac ad g k2 c1 (Or.inl (by rw [hR.k5]; exact d1))) ⟨rfl, rfl⟩ ⟨Nat.le_of_ble_eq_true rfl, Nat.le_of_ble_eq_true rfl⟩ (kzM_confirm_1_2 l G ac am t k2 (26000 * n) (xq_nlt1 c1) hJ.c (by omega)) ⟨rfl, rfl⟩ ⟨Nat.le_of_ble_eq_true rfl, Nat.le_of_ble_eq_true rfl⟩ (fun a2 t2 ht => pt_confirm_5 hJ (Or.inl d1) ht)
              · by_cases d2 : t 6 5 = k2
                · exact xc_confirm_IS (xzU_confirm_na12 l hst G ac ad g k2 c1 (Or.inr (by rw [hR.k5]; exact d2))) ⟨rfl, rfl⟩ ⟨Nat.le_of_ble_eq_true rfl, Nat.le_of_ble_eq_true rfl⟩ (kzM_confirm_1_2 l G ac am t k2 (26000 * n) (xq_nlt1 c1) hJ.c (by omega)) ⟨rfl, rfl⟩ ⟨Nat.le_of_ble_eq_true rfl, Nat.le_of_ble_eq_true rfl⟩ (fun a2 t2 ht => pt_confirm_5 hJ (Or.inr d2) ht)
                · exact xc_confirm_ret (kzU_confirm_1_2 l G ac ad g k2 c1 (by rw [hR.k5]; exact d1) (by rw [hR.k5]; exact d2)) ⟨rfl, rfl⟩ ⟨Nat.le_of_ble_eq_true rfl, Nat.le_of_ble_eq_true rfl⟩ (kzM_confirm_1_2 l G ac am t k2 (26000 * n) (xq_nlt1 c1) hJ.c (by omega)) ⟨rfl, rfl⟩ ⟨Nat.le_of_ble_eq_true rfl, Nat.le_of_ble_eq_true rfl⟩ (fun a gz a2 t2 hu ht => pf_confirm_5 hn hJ d1 d2 hu ht)
            · exact xc_confirm_NS (xzU_confirm_bw12 l hst G ac ad g k2 c1) ⟨rfl, rfl⟩ ⟨Nat.le_of_ble_eq_true rfl, Nat.le_of_ble_eq_true rfl⟩ (kzM_confirm_who l G ac am t 1 2 k2 (26000 * n) (by decide) (xq_lt1 c1) hJ.c (by omega)) ⟨rfl, rfl⟩ ⟨Nat.le_of_ble_eq_true rfl, Nat.le_of_ble_eq_true rfl⟩ (fun a2 t2 ht => pt_confirm_who hJ ht)
          · exact xc_confirm_NS (xzU_confirm_bs1 l hst G ac ad g k1 k2 (xq3 b0 b1 b2)) ⟨rfl, rfl⟩ ⟨Nat.le_of_ble_eq_true rfl, Nat.le_of_ble_eq_true rfl⟩ (kzM_confirm_bad l G ac am t 1 k1 k2 (26000 * n) (xq_sc2 (xq3 b0 b1 b2)) hJ.c (by omega)) ⟨rfl, rfl⟩ ⟨Nat.le_of_ble_eq_true rfl, Nat.le_of_ble_eq_true rfl⟩ (fun a2 t2 ht => pt_confirm_bad hJ ht)
    · exact xc_confirm_NS (xzU_confirm_bt l hst G ac ad g k0 k1 k2 (xq2 a0 a1)) ⟨rfl, rfl⟩ ⟨Nat.le_of_ble_eq_true rfl, Nat.le_of_ble_eq_true rfl⟩ (kzM_confirm_bad l G ac am t k0 k1 k2 (26000 * n) (xq_sc a0 a1) hJ.c (by omega)) ⟨rfl, rfl⟩ ⟨Nat.le_of_ble_eq_true rfl, Nat.le_of_ble_eq_true rfl⟩ (fun a2 t2 ht => pt_confirm_bad hJ ht)
theorem xl_section (l : Launch) (hst : l.stackTraces = false) (G : va_G) (ac : Nat → ClassId) (ad am : Nat → Nat) (o : Nat) (f : Nat → Int64) (n : Nat) (g t : xk_St) (k0 k1 k2 : Int32) (hn : n < 512) (hJ : xJ n g t) : xp_section l G ac ad am o f n g t k0 k1 k2 := by
  have hR := hJ.r
  by_cases a0 : k0 = 0
  · subst a0
    by_cases b0 : k1 = 0
    · subst b0
      by_cases c0 : k2 = 0
      · subst c0
        exact xc_section_qry (kzU_section_0_0_0 l G ac ad g) ⟨rfl, rfl⟩ ⟨Nat.le_of_ble_eq_true rfl, Nat.le_of_ble_eq_true rfl⟩ (kzM_section_0_0 l G ac am t 0 (26000 * n) hJ.c (by omega)) ⟨rfl, rfl⟩ ⟨Nat.le_of_ble_eq_true rfl, Nat.le_of_ble_eq_true rfl⟩ (fun a2 t2 ht => pf_section_0_0 hJ ht)
      · by_cases c1 : k2 = 1
        · subst c1
          exact xc_section_qry (kzU_section_0_0_1 l G ac ad g) ⟨rfl, rfl⟩ ⟨Nat.le_of_ble_eq_true rfl, Nat.le_of_ble_eq_true rfl⟩ (kzM_section_0_0 l G ac am t 1 (26000 * n) hJ.c (by omega)) ⟨rfl, rfl⟩ ⟨Nat.le_of_ble_eq_true rfl, Nat.le_of_ble_eq_true rfl⟩ (fun a2 t2 ht => pf_section_0_1 hJ ht)
        · by_cases c2 : k2 = 2
          · subst c2
            exact xc_section_qry (kzU_section_0_0_2 l G ac ad g) ⟨rfl, rfl⟩ ⟨Nat.le_of_ble_eq_true rfl, Nat.le_of_ble_eq_true rfl⟩ (kzM_section_0_0 l G ac am t 2 (26000 * n) hJ.c (by omega)) ⟨rfl, rfl⟩ ⟨Nat.le_of_ble_eq_true rfl, Nat.le_of_ble_eq_true rfl⟩ (fun a2 t2 ht => pf_section_0_2 hJ ht)
          · by_cases c3 : k2 = 3
            · subst c3
              exact xc_section_qry (kzU_section_0_0_3 l G ac ad g) ⟨rfl, rfl⟩ ⟨Nat.le_of_ble_eq_true rfl, Nat.le_of_ble_eq_true rfl⟩ (kzM_section_0_0 l G ac am t 3 (26000 * n) hJ.c (by omega)) ⟨rfl, rfl⟩ ⟨Nat.le_of_ble_eq_true rfl, Nat.le_of_ble_eq_true rfl⟩ (fun a2 t2 ht => pf_section_0_3 hJ ht)
            · exact xc_section_IA (xzU_section_bq00 l hst G ac ad g k2 (xw3 c0 c1 c2 c3)) ⟨rfl, rfl⟩ ⟨Nat.le_of_ble_eq_true rfl, Nat.le_of_ble_eq_true rfl⟩ (kzM_section_0_0 l G ac am t k2 (26000 * n) hJ.c (by omega)) ⟨rfl, rfl⟩ ⟨Nat.le_of_ble_eq_true rfl, Nat.le_of_ble_eq_true rfl⟩ (fun a2 t2 ht => pt_section_0 hJ (xw3 c0 c1 c2 c3) ht)
    · by_cases b1 : k1 = 1
      · subst b1
        by_cases c0 : k2 = 0
        · subst c0
          exact xc_section_qry (kzU_section_0_1_0 l G ac ad g) ⟨rfl, rfl⟩ ⟨Nat.le_of_ble_eq_true rfl, Nat.le_of_ble_eq_true rfl⟩ (kzM_section_0_1 l G ac am t 0 (26000 * n) hJ.c (by omega)) ⟨rfl, rfl⟩ ⟨Nat.le_of_ble_eq_true rfl, Nat.le_of_ble_eq_true rfl⟩ (fun a2 t2 ht => pf_section_1_0 hJ ht)
        · by_cases c1 : k2 = 1
          · subst c1
            exact xc_section_qry (kzU_section_0_1_1 l G ac ad g) ⟨rfl, rfl⟩ ⟨Nat.le_of_ble_eq_true rfl, Nat.le_of_ble_eq_true rfl⟩ (kzM_section_0_1 l G ac am t 1 (26000 * n) hJ.c (by omega)) ⟨rfl, rfl⟩ ⟨Nat.le_of_ble_eq_true rfl, Nat.le_of_ble_eq_true rfl⟩ (fun a2 t2 ht => pf_section_1_1 hJ ht)
          · by_cases c2 : k2 = 2
            · subst c2
              exact xc_section_qry (kzU_section_0_1_2 l G ac ad g) ⟨rfl, rfl⟩ ⟨Nat.le_of_ble_eq_true rfl, Nat.le_of_ble_eq_true rfl⟩ (kzM_section_0_1 l G ac am t 2 (26000 * n) hJ.c (by omega)) ⟨rfl, rfl⟩ ⟨Nat.le_of_ble_eq_true rfl, Nat.le_of_ble_eq_true rfl⟩ (fun a2 t2 ht => pf_section_1_2 hJ ht)
            · by_cases c3 : k2 = 3
              · subst c3
                exact xc_section_qry (kzU_section_0_1_3 l G ac ad g) ⟨rfl, rfl⟩ ⟨Nat.le_of_ble_eq_true rfl, Nat.le_of_ble_eq_true rfl⟩ (kzM_section_0_1 l G ac am t 3 (26000 * n) hJ.c (by omega)) ⟨rfl, rfl⟩ ⟨Nat.le_of_ble_eq_true rfl, Nat.le_of_ble_eq_true rfl⟩ (fun a2 t2 ht => pf_section_1_3 hJ ht)
              · exact xc_section_IA (xzU_section_bq01 l hst G ac ad g k2 (xw3 c0 c1 c2 c3)) ⟨rfl, rfl⟩ ⟨Nat.le_of_ble_eq_true rfl, Nat.le_of_ble_eq_true rfl⟩ (kzM_section_0_1 l G ac am t k2 (26000 * n) hJ.c (by omega)) ⟨rfl, rfl⟩ ⟨Nat.le_of_ble_eq_true rfl, Nat.le_of_ble_eq_true rfl⟩ (fun a2 t2 ht => pt_section_1 hJ (xw3 c0 c1 c2 c3) ht)
      · by_cases b2 : k1 = 2
        · subst b2
          by_cases c0 : k2 = 0
          · subst c0
            exact xc_section_qry (kzU_section_0_2_0 l G ac ad g) ⟨rfl, rfl⟩ ⟨Nat.le_of_ble_eq_true rfl, Nat.le_of_ble_eq_true rfl⟩ (kzM_section_0_2 l G ac am t 0 (26000 * n) hJ.c (by omega)) ⟨rfl, rfl⟩ ⟨Nat.le_of_ble_eq_true rfl, Nat.le_of_ble_eq_true rfl⟩ (fun a2 t2 ht => pf_section_2_0 hJ ht)
          · by_cases c1 : k2 = 1
            · subst c1
              exact xc_section_qry (kzU_section_0_2_1 l G ac ad g) ⟨rfl, rfl⟩ ⟨Nat.le_of_ble_eq_true rfl, Nat.le_of_ble_eq_true rfl⟩ (kzM_section_0_2 l G ac am t 1 (26000 * n) hJ.c (by omega)) ⟨rfl, rfl⟩ ⟨Nat.le_of_ble_eq_true rfl, Nat.le_of_ble_eq_true rfl⟩ (fun a2 t2 ht => pf_section_2_1 hJ ht)
            · by_cases c2 : k2 = 2
              · subst c2
                exact xc_section_qry (kzU_section_0_2_2 l G ac ad g) ⟨rfl, rfl⟩ ⟨Nat.le_of_ble_eq_true rfl, Nat.le_of_ble_eq_true rfl⟩ (kzM_section_0_2 l G ac am t 2 (26000 * n) hJ.c (by omega)) ⟨rfl, rfl⟩ ⟨Nat.le_of_ble_eq_true rfl, Nat.le_of_ble_eq_true rfl⟩ (fun a2 t2 ht => pf_section_2_2 hJ ht)
              · by_cases c3 : k2 = 3
                · subst c3
                  exact xc_section_qry (kzU_section_0_2_3 l G ac ad g) ⟨rfl, rfl⟩ ⟨Nat.le_of_ble_eq_true rfl, Nat.le_of_ble_eq_true rfl⟩ (kzM_section_0_2 l G ac am t 3 (26000 * n) hJ.c (by omega)) ⟨rfl, rfl⟩ ⟨Nat.le_of_ble_eq_true rfl, Nat.le_of_ble_eq_true rfl⟩ (fun a2 t2 ht => pf_section_2_3 hJ ht)
                · exact xc_section_IA (xzU_section_bq02 l hst G ac ad g k2 (xw3 c0 c1 c2 c3)) ⟨rfl, rfl⟩ ⟨Nat.le_of_ble_eq_true rfl, Nat.le_of_ble_eq_true rfl⟩ (kzM_section_0_2 l G ac am t k2 (26000 * n) hJ.c (by omega)) ⟨rfl, rfl⟩ ⟨Nat.le_of_ble_eq_true rfl, Nat.le_of_ble_eq_true rfl⟩ (fun a2 t2 ht => pt_section_2 hJ (xw3 c0 c1 c2 c3) ht)
        · exact xc_section_NS (xzU_section_bs0 l hst G ac ad g k1 k2 (xq3 b0 b1 b2)) ⟨rfl, rfl⟩ ⟨Nat.le_of_ble_eq_true rfl, Nat.le_of_ble_eq_true rfl⟩ (kzM_section_bad l G ac am t 0 k1 k2 (26000 * n) (xq_sc2 (xq3 b0 b1 b2)) hJ.c (by omega)) ⟨rfl, rfl⟩ ⟨Nat.le_of_ble_eq_true rfl, Nat.le_of_ble_eq_true rfl⟩ (fun a2 t2 ht => pt_section_bad hJ ht)
  · by_cases a1 : k0 = 1
    · subst a1
      by_cases b0 : k1 = 0
      · subst b0
        by_cases c0 : k2 = 0
        · subst c0
          exact xc_section_qry (kzU_section_1_0_0 l G ac ad g) ⟨rfl, rfl⟩ ⟨Nat.le_of_ble_eq_true rfl, Nat.le_of_ble_eq_true rfl⟩ (kzM_section_1_0 l G ac am t 0 (26000 * n) hJ.c (by omega)) ⟨rfl, rfl⟩ ⟨Nat.le_of_ble_eq_true rfl, Nat.le_of_ble_eq_true rfl⟩ (fun a2 t2 ht => pf_section_3_0 hJ ht)
        · by_cases c1 : k2 = 1
          · subst c1
            exact xc_section_qry (kzU_section_1_0_1 l G ac ad g) ⟨rfl, rfl⟩ ⟨Nat.le_of_ble_eq_true rfl, Nat.le_of_ble_eq_true rfl⟩ (kzM_section_1_0 l G ac am t 1 (26000 * n) hJ.c (by omega)) ⟨rfl, rfl⟩ ⟨Nat.le_of_ble_eq_true rfl, Nat.le_of_ble_eq_true rfl⟩ (fun a2 t2 ht => pf_section_3_1 hJ ht)
          · by_cases c2 : k2 = 2
            · subst c2
              exact xc_section_qry (kzU_section_1_0_2 l G ac ad g) ⟨rfl, rfl⟩ ⟨Nat.le_of_ble_eq_true rfl, Nat.le_of_ble_eq_true rfl⟩ (kzM_section_1_0 l G ac am t 2 (26000 * n) hJ.c (by omega)) ⟨rfl, rfl⟩ ⟨Nat.le_of_ble_eq_true rfl, Nat.le_of_ble_eq_true rfl⟩ (fun a2 t2 ht => pf_section_3_2 hJ ht)
            · by_cases c3 : k2 = 3
              · subst c3
                exact xc_section_qry (kzU_section_1_0_3 l G ac ad g) ⟨rfl, rfl⟩ ⟨Nat.le_of_ble_eq_true rfl, Nat.le_of_ble_eq_true rfl⟩ (kzM_section_1_0 l G ac am t 3 (26000 * n) hJ.c (by omega)) ⟨rfl, rfl⟩ ⟨Nat.le_of_ble_eq_true rfl, Nat.le_of_ble_eq_true rfl⟩ (fun a2 t2 ht => pf_section_3_3 hJ ht)
              · exact xc_section_IA (xzU_section_bq10 l hst G ac ad g k2 (xw3 c0 c1 c2 c3)) ⟨rfl, rfl⟩ ⟨Nat.le_of_ble_eq_true rfl, Nat.le_of_ble_eq_true rfl⟩ (kzM_section_1_0 l G ac am t k2 (26000 * n) hJ.c (by omega)) ⟨rfl, rfl⟩ ⟨Nat.le_of_ble_eq_true rfl, Nat.le_of_ble_eq_true rfl⟩ (fun a2 t2 ht => pt_section_3 hJ (xw3 c0 c1 c2 c3) ht)
      · by_cases b1 : k1 = 1
        · subst b1
          by_cases c0 : k2 = 0
          · subst c0
            exact xc_section_qry (kzU_section_1_1_0 l G ac ad g) ⟨rfl, rfl⟩ ⟨Nat.le_of_ble_eq_true rfl, Nat.le_of_ble_eq_true rfl⟩ (kzM_section_1_1 l G ac am t 0 (26000 * n) hJ.c (by omega)) ⟨rfl, rfl⟩ ⟨Nat.le_of_ble_eq_true rfl, Nat.le_of_ble_eq_true rfl⟩ (fun a2 t2 ht => pf_section_4_0 hJ ht)
          · by_cases c1 : k2 = 1
            · subst c1
              exact xc_section_qry (kzU_section_1_1_1 l G ac ad g) ⟨rfl, rfl⟩ ⟨Nat.le_of_ble_eq_true rfl, Nat.le_of_ble_eq_true rfl⟩ (kzM_section_1_1 l G ac am t 1 (26000 * n) hJ.c (by omega)) ⟨rfl, rfl⟩ ⟨Nat.le_of_ble_eq_true rfl, Nat.le_of_ble_eq_true rfl⟩ (fun a2 t2 ht => pf_section_4_1 hJ ht)
            · by_cases c2 : k2 = 2
              · subst c2
                exact xc_section_qry (kzU_section_1_1_2 l G ac ad g) ⟨rfl, rfl⟩ ⟨Nat.le_of_ble_eq_true rfl, Nat.le_of_ble_eq_true rfl⟩ (kzM_section_1_1 l G ac am t 2 (26000 * n) hJ.c (by omega)) ⟨rfl, rfl⟩ ⟨Nat.le_of_ble_eq_true rfl, Nat.le_of_ble_eq_true rfl⟩ (fun a2 t2 ht => pf_section_4_2 hJ ht)
              · by_cases c3 : k2 = 3
                · subst c3
                  exact xc_section_qry (kzU_section_1_1_3 l G ac ad g) ⟨rfl, rfl⟩ ⟨Nat.le_of_ble_eq_true rfl, Nat.le_of_ble_eq_true rfl⟩ (kzM_section_1_1 l G ac am t 3 (26000 * n) hJ.c (by omega)) ⟨rfl, rfl⟩ ⟨Nat.le_of_ble_eq_true rfl, Nat.le_of_ble_eq_true rfl⟩ (fun a2 t2 ht => pf_section_4_3 hJ ht)
                · exact xc_section_IA (xzU_section_bq11 l hst G ac ad g k2 (xw3 c0 c1 c2 c3)) ⟨rfl, rfl⟩ ⟨Nat.le_of_ble_eq_true rfl, Nat.le_of_ble_eq_true rfl⟩ (kzM_section_1_1 l G ac am t k2 (26000 * n) hJ.c (by omega)) ⟨rfl, rfl⟩ ⟨Nat.le_of_ble_eq_true rfl, Nat.le_of_ble_eq_true rfl⟩ (fun a2 t2 ht => pt_section_4 hJ (xw3 c0 c1 c2 c3) ht)
        · by_cases b2 : k1 = 2
          · subst b2
            by_cases c0 : k2 = 0
            · subst c0
              exact xc_section_qry (kzU_section_1_2_0 l G ac ad g) ⟨rfl, rfl⟩ ⟨Nat.le_of_ble_eq_true rfl, Nat.le_of_ble_eq_true rfl⟩ (kzM_section_1_2 l G ac am t 0 (26000 * n) hJ.c (by omega)) ⟨rfl, rfl⟩ ⟨Nat.le_of_ble_eq_true rfl, Nat.le_of_ble_eq_true rfl⟩ (fun a2 t2 ht => pf_section_5_0 hJ ht)
            · by_cases c1 : k2 = 1
              · subst c1
                exact xc_section_qry (kzU_section_1_2_1 l G ac ad g) ⟨rfl, rfl⟩ ⟨Nat.le_of_ble_eq_true rfl, Nat.le_of_ble_eq_true rfl⟩ (kzM_section_1_2 l G ac am t 1 (26000 * n) hJ.c (by omega)) ⟨rfl, rfl⟩ ⟨Nat.le_of_ble_eq_true rfl, Nat.le_of_ble_eq_true rfl⟩ (fun a2 t2 ht => pf_section_5_1 hJ ht)
              · by_cases c2 : k2 = 2
                · subst c2
                  exact xc_section_qry (kzU_section_1_2_2 l G ac ad g) ⟨rfl, rfl⟩ ⟨Nat.le_of_ble_eq_true rfl, Nat.le_of_ble_eq_true rfl⟩ (kzM_section_1_2 l G ac am t 2 (26000 * n) hJ.c (by omega)) ⟨rfl, rfl⟩ ⟨Nat.le_of_ble_eq_true rfl, Nat.le_of_ble_eq_true rfl⟩ (fun a2 t2 ht => pf_section_5_2 hJ ht)
                · by_cases c3 : k2 = 3
                  · subst c3
                    exact xc_section_qry (kzU_section_1_2_3 l G ac ad g) ⟨rfl, rfl⟩ ⟨Nat.le_of_ble_eq_true rfl, Nat.le_of_ble_eq_true rfl⟩ (kzM_section_1_2 l G ac am t 3 (26000 * n) hJ.c (by omega)) ⟨rfl, rfl⟩ ⟨Nat.le_of_ble_eq_true rfl, Nat.le_of_ble_eq_true rfl⟩ (fun a2 t2 ht => pf_section_5_3 hJ ht)
                  · exact xc_section_IA (xzU_section_bq12 l hst G ac ad g k2 (xw3 c0 c1 c2 c3)) ⟨rfl, rfl⟩ ⟨Nat.le_of_ble_eq_true rfl, Nat.le_of_ble_eq_true rfl⟩ (kzM_section_1_2 l G ac am t k2 (26000 * n) hJ.c (by omega)) ⟨rfl, rfl⟩ ⟨Nat.le_of_ble_eq_true rfl, Nat.le_of_ble_eq_true rfl⟩ (fun a2 t2 ht => pt_section_5 hJ (xw3 c0 c1 c2 c3) ht)
          · exact xc_section_NS (xzU_section_bs1 l hst G ac ad g k1 k2 (xq3 b0 b1 b2)) ⟨rfl, rfl⟩ ⟨Nat.le_of_ble_eq_true rfl, Nat.le_of_ble_eq_true rfl⟩ (kzM_section_bad l G ac am t 1 k1 k2 (26000 * n) (xq_sc2 (xq3 b0 b1 b2)) hJ.c (by omega)) ⟨rfl, rfl⟩ ⟨Nat.le_of_ble_eq_true rfl, Nat.le_of_ble_eq_true rfl⟩ (fun a2 t2 ht => pt_section_bad hJ ht)
    · exact xc_section_NS (xzU_section_bt l hst G ac ad g k0 k1 k2 (xq2 a0 a1)) ⟨rfl, rfl⟩ ⟨Nat.le_of_ble_eq_true rfl, Nat.le_of_ble_eq_true rfl⟩ (kzM_section_bad l G ac am t k0 k1 k2 (26000 * n) (xq_sc a0 a1) hJ.c (by omega)) ⟨rfl, rfl⟩ ⟨Nat.le_of_ble_eq_true rfl, Nat.le_of_ble_eq_true rfl⟩ (fun a2 t2 ht => pt_section_bad hJ ht)
theorem xl_about (l : Launch) (hst : l.stackTraces = false) (G : va_G) (ac : Nat → ClassId) (ad am : Nat → Nat) (o : Nat) (f : Nat → Int64) (n : Nat) (g t : xk_St) (k0 : Int32) (hn : n < 512) (hJ : xJ n g t) : xp_about l G ac ad am o f n g t k0 := by
  have hR := hJ.r
  by_cases a0 : k0 = 0
  · subst a0
    exact xc_about_qry (kzU_about_0 l G ac ad g) ⟨rfl, rfl⟩ ⟨Nat.le_of_ble_eq_true rfl, Nat.le_of_ble_eq_true rfl⟩ (kzM_about l G ac am t 0 (26000 * n) hJ.c (by omega)) ⟨rfl, rfl⟩ ⟨Nat.le_of_ble_eq_true rfl, Nat.le_of_ble_eq_true rfl⟩ (fun a2 t2 ht => pf_about_0 hJ ht)
  · by_cases a1 : k0 = 1
    · subst a1
      exact xc_about_qry (kzU_about_1 l G ac ad g) ⟨rfl, rfl⟩ ⟨Nat.le_of_ble_eq_true rfl, Nat.le_of_ble_eq_true rfl⟩ (kzM_about l G ac am t 1 (26000 * n) hJ.c (by omega)) ⟨rfl, rfl⟩ ⟨Nat.le_of_ble_eq_true rfl, Nat.le_of_ble_eq_true rfl⟩ (fun a2 t2 ht => pf_about_1 hJ ht)
    · by_cases a2 : k0 = 2
      · subst a2
        exact xc_about_qry (kzU_about_2 l G ac ad g) ⟨rfl, rfl⟩ ⟨Nat.le_of_ble_eq_true rfl, Nat.le_of_ble_eq_true rfl⟩ (kzM_about l G ac am t 2 (26000 * n) hJ.c (by omega)) ⟨rfl, rfl⟩ ⟨Nat.le_of_ble_eq_true rfl, Nat.le_of_ble_eq_true rfl⟩ (fun a2 t2 ht => pf_about_2 hJ ht)
      · by_cases a3 : k0 = 3
        · subst a3
          exact xc_about_qry (kzU_about_3 l G ac ad g) ⟨rfl, rfl⟩ ⟨Nat.le_of_ble_eq_true rfl, Nat.le_of_ble_eq_true rfl⟩ (kzM_about l G ac am t 3 (26000 * n) hJ.c (by omega)) ⟨rfl, rfl⟩ ⟨Nat.le_of_ble_eq_true rfl, Nat.le_of_ble_eq_true rfl⟩ (fun a2 t2 ht => pf_about_3 hJ ht)
        · by_cases a4 : k0 = 4
          · subst a4
            exact xc_about_qry (kzU_about_4 l G ac ad g) ⟨rfl, rfl⟩ ⟨Nat.le_of_ble_eq_true rfl, Nat.le_of_ble_eq_true rfl⟩ (kzM_about l G ac am t 4 (26000 * n) hJ.c (by omega)) ⟨rfl, rfl⟩ ⟨Nat.le_of_ble_eq_true rfl, Nat.le_of_ble_eq_true rfl⟩ (fun a2 t2 ht => pf_about_4 hJ ht)
          · by_cases a5 : k0 = 5
            · subst a5
              exact xc_about_qry (kzU_about_5 l G ac ad g) ⟨rfl, rfl⟩ ⟨Nat.le_of_ble_eq_true rfl, Nat.le_of_ble_eq_true rfl⟩ (kzM_about l G ac am t 5 (26000 * n) hJ.c (by omega)) ⟨rfl, rfl⟩ ⟨Nat.le_of_ble_eq_true rfl, Nat.le_of_ble_eq_true rfl⟩ (fun a2 t2 ht => pf_about_5 hJ ht)
            · by_cases a6 : k0 = 6
              · subst a6
                exact xc_about_qry (kzU_about_6 l G ac ad g) ⟨rfl, rfl⟩ ⟨Nat.le_of_ble_eq_true rfl, Nat.le_of_ble_eq_true rfl⟩ (kzM_about l G ac am t 6 (26000 * n) hJ.c (by omega)) ⟨rfl, rfl⟩ ⟨Nat.le_of_ble_eq_true rfl, Nat.le_of_ble_eq_true rfl⟩ (fun a2 t2 ht => pf_about_6 hJ ht)
              · by_cases a7 : k0 = 7
                · subst a7
                  exact xc_about_qry (kzU_about_7 l G ac ad g) ⟨rfl, rfl⟩ ⟨Nat.le_of_ble_eq_true rfl, Nat.le_of_ble_eq_true rfl⟩ (kzM_about l G ac am t 7 (26000 * n) hJ.c (by omega)) ⟨rfl, rfl⟩ ⟨Nat.le_of_ble_eq_true rfl, Nat.le_of_ble_eq_true rfl⟩ (fun a2 t2 ht => pf_about_7 hJ ht)
                · by_cases a8 : k0 = 8
                  · subst a8
                    exact xc_about_qry (kzU_about_8 l G ac ad g) ⟨rfl, rfl⟩ ⟨Nat.le_of_ble_eq_true rfl, Nat.le_of_ble_eq_true rfl⟩ (kzM_about l G ac am t 8 (26000 * n) hJ.c (by omega)) ⟨rfl, rfl⟩ ⟨Nat.le_of_ble_eq_true rfl, Nat.le_of_ble_eq_true rfl⟩ (fun a2 t2 ht => pf_about_8 hJ ht)
                  · by_cases a9 : k0 = 9
                    · subst a9
                      exact xc_about_qry (kzU_about_9 l G ac ad g) ⟨rfl, rfl⟩ ⟨Nat.le_of_ble_eq_true rfl, Nat.le_of_ble_eq_true rfl⟩ (kzM_about l G ac am t 9 (26000 * n) hJ.c (by omega)) ⟨rfl, rfl⟩ ⟨Nat.le_of_ble_eq_true rfl, Nat.le_of_ble_eq_true rfl⟩ (fun a2 t2 ht => pf_about_9 hJ ht)
                    · by_cases a10 : k0 = 10
                      · subst a10
                        exact xc_about_qry (kzU_about_10 l G ac ad g) ⟨rfl, rfl⟩ ⟨Nat.le_of_ble_eq_true rfl, Nat.le_of_ble_eq_true rfl⟩ (kzM_about l G ac am t 10 (26000 * n) hJ.c (by omega)) ⟨rfl, rfl⟩ ⟨Nat.le_of_ble_eq_true rfl, Nat.le_of_ble_eq_true rfl⟩ (fun a2 t2 ht => pf_about_10 hJ ht)
                      · exact xc_about_IA (xzU_about_bad l hst G ac ad g k0 (xw10 a0 a1 a2 a3 a4 a5 a6 a7 a8 a9 a10)) ⟨rfl, rfl⟩ ⟨Nat.le_of_ble_eq_true rfl, Nat.le_of_ble_eq_true rfl⟩ (kzM_about l G ac am t k0 (26000 * n) hJ.c (by omega)) ⟨rfl, rfl⟩ ⟨Nat.le_of_ble_eq_true rfl, Nat.le_of_ble_eq_true rfl⟩ (fun z2 t2 ht => pt_about hJ (xw10 a0 a1 a2 a3 a4 a5 a6 a7 a8 a9 a10) ht)
theorem xl_event (l : Launch) (hst : l.stackTraces = false) (G : va_G) (ac : Nat → ClassId) (ad am : Nat → Nat) (o : Nat) (f : Nat → Int64) (n : Nat) (g t : xk_St) (k0 k1 : Int32) (hn : n < 512) (hJ : xJ n g t) : xp_event l G ac ad am o f n g t k0 k1 := by
  have hR := hJ.r
  by_cases c1 : k0 < 0
  · have hk : qzJ_keeps (g 5 3) k0 = 0 := by unfold qzJ_keeps; rw [if_pos c1]
    exact xc_event_NS (xzU_event_bad l hst G ac ad g k0 k1 hk) ⟨rfl, rfl⟩ ⟨Nat.le_of_ble_eq_true rfl, Nat.le_of_ble_eq_true rfl⟩ (kzM_event_neg l G ac am t k0 k1 (26000 * n) c1 hJ.c (by omega)) ⟨rfl, rfl⟩ ⟨Nat.le_of_ble_eq_true rfl, Nat.le_of_ble_eq_true rfl⟩ (fun a2 t2 ht => pt_event_neg hJ ht)
  · by_cases c2 : t 0 31 ≤ k0
    · have hk : qzJ_keeps (g 5 3) k0 = 0 := by unfold qzJ_keeps; rw [if_neg c1, hR.many, if_pos c2]
      exact xc_event_NS (xzU_event_bad l hst G ac ad g k0 k1 hk) ⟨rfl, rfl⟩ ⟨Nat.le_of_ble_eq_true rfl, Nat.le_of_ble_eq_true rfl⟩ (kzM_event_late l G ac am t k0 k1 (26000 * n) c1 c2 hJ.c (by omega)) ⟨rfl, rfl⟩ ⟨Nat.le_of_ble_eq_true rfl, Nat.le_of_ble_eq_true rfl⟩ (fun a2 t2 ht => pt_event_late hJ ht)
    · by_cases c3 : k0 < t 0 31 - 64
      · have hk : qzJ_keeps (g 5 3) k0 = 0 := by unfold qzJ_keeps; rw [if_neg c1, hR.many, if_neg c2, if_pos c3]
        exact xc_event_NS (xzU_event_bad l hst G ac ad g k0 k1 hk) ⟨rfl, rfl⟩ ⟨Nat.le_of_ble_eq_true rfl, Nat.le_of_ble_eq_true rfl⟩ (kzM_event_old l G ac am t k0 k1 (26000 * n) c1 c2 c3 hJ.c (by omega)) ⟨rfl, rfl⟩ ⟨Nat.le_of_ble_eq_true rfl, Nat.le_of_ble_eq_true rfl⟩ (fun a2 t2 ht => pt_event_old hJ ht)
      · have hk : ¬ qzJ_keeps (g 5 3) k0 = 0 := by unfold qzJ_keeps; rw [if_neg c1, hR.many, if_neg c2, if_neg c3]; decide
        by_cases d0 : k1 = 0
        · subst d0
          exact xc_event_qry (kzU_event_0 l G ac ad g k0 hk) ⟨rfl, rfl⟩ ⟨Nat.le_of_ble_eq_true rfl, Nat.le_of_ble_eq_true rfl⟩ (kzM_event_ok l G ac am t k0 0 (26000 * n) c1 c2 c3 hJ.c (by omega)) ⟨rfl, rfl⟩ ⟨Nat.le_of_ble_eq_true rfl, Nat.le_of_ble_eq_true rfl⟩ (fun a2 t2 ht => pf_event_0 hJ c1 ht)
        · by_cases d1 : k1 = 1
          · subst d1
            exact xc_event_qry (kzU_event_1 l G ac ad g k0 hk) ⟨rfl, rfl⟩ ⟨Nat.le_of_ble_eq_true rfl, Nat.le_of_ble_eq_true rfl⟩ (kzM_event_ok l G ac am t k0 1 (26000 * n) c1 c2 c3 hJ.c (by omega)) ⟨rfl, rfl⟩ ⟨Nat.le_of_ble_eq_true rfl, Nat.le_of_ble_eq_true rfl⟩ (fun a2 t2 ht => pf_event_1 hJ c1 ht)
          · by_cases d2 : k1 = 2
            · subst d2
              exact xc_event_qry (kzU_event_2 l G ac ad g k0 hk) ⟨rfl, rfl⟩ ⟨Nat.le_of_ble_eq_true rfl, Nat.le_of_ble_eq_true rfl⟩ (kzM_event_ok l G ac am t k0 2 (26000 * n) c1 c2 c3 hJ.c (by omega)) ⟨rfl, rfl⟩ ⟨Nat.le_of_ble_eq_true rfl, Nat.le_of_ble_eq_true rfl⟩ (fun a2 t2 ht => pf_event_2 hJ c1 ht)
            · exact xc_event_IA (xzU_event_bq l hst G ac ad g k0 k1 hk (xw2 d0 d1 d2)) ⟨rfl, rfl⟩ ⟨Nat.le_of_ble_eq_true rfl, Nat.le_of_ble_eq_true rfl⟩ (kzM_event_ok l G ac am t k0 k1 (26000 * n) c1 c2 c3 hJ.c (by omega)) ⟨rfl, rfl⟩ ⟨Nat.le_of_ble_eq_true rfl, Nat.le_of_ble_eq_true rfl⟩ (fun a2 t2 ht => pt_event hJ (xw2 d0 d1 d2) ht)
theorem go_pulse (l : Launch) (hst : l.stackTraces = false) : lz_Go l xJ 112 := by
  intro p e s m below meth c Q b L xs G ac A C ad am o i n t g f H locs ls cells slots hi hL hn hcs hI hP hD hS hl kk
  obtain ⟨PU, rM, PM, hU, hM, hrM, hRM, hp⟩ := xl_pulse l hst G ac ad am n g t (xs (i + 1)) (xs (i + 2)) (xs (i + 3)) hn hI
  exact br_pulse C hi hL rfl rfl rfl hcs (fun u => u) PU hU rM PM hM hrM hRM (fun r u t2 hu ht => (hp r u t2 hu ht).1) hP hD hS hl (fun r u t2 H locs ls hu ht hP hD hS hl => kk t2 f u H locs ls (hp r u t2 hu ht).2 hP hD hS hl)
theorem go_health (l : Launch) (hst : l.stackTraces = false) : lz_Go l xJ 172 := by
  intro p e s m below meth c Q b L xs G ac A C ad am o i n t g f H locs ls cells slots hi hL hn hcs hI hP hD hS hl kk
  obtain ⟨PU, rM, PM, hU, hM, hrM, hRM, hp⟩ := xl_health l hst G ac ad am o f n g t (xs (i + 1)) (xs (i + 2)) (if xs (i + 3) = 0 then 0 else 1) (xq_b (xs (i + 3))) hn hI
  exact br_health C hi hL rfl rfl rfl rfl hcs (fun u => u) PU hU rM PM hM hrM hRM (fun r u a t2 hu ht => (hp r u a t2 hu ht).1) hP hD hS hl (fun r u a t2 H locs ls hu ht hP hD hS hl => kk t2 u.2 u.1 H locs ls (hp r u a t2 hu ht).2 hP hD hS hl)
theorem go_tick (l : Launch) (hst : l.stackTraces = false) : lz_Go l xJ 275 := by
  intro p e s m below meth c Q b L xs G ac A C ad am o i n t g f H locs ls cells slots hi hL hn hcs hI hP hD hS hl kk
  exact br_tick C hi hL hcs (fun u => u) xk_r5 _ (kzU_tick l G ac ad g hI.p) ⟨rfl, rfl⟩ ⟨Nat.le_of_ble_eq_true rfl, Nat.le_of_ble_eq_true rfl⟩ xk_r6 _ (kzM_tick l G ac am t (26000 * n) hI.c (by omega)) ⟨rfl, rfl⟩ ⟨Nat.le_of_ble_eq_true rfl, Nat.le_of_ble_eq_true rfl⟩ (fun r u a t2 hu ht => (sim_tick hn hI hu ht).1) hP hD hS hl (fun r u a t2 H locs ls hu ht hP hD hS hl => kk t2 f u H locs ls (sim_tick hn hI hu ht).2 hP hD hS hl)
theorem go_ticks (l : Launch) (hst : l.stackTraces = false) : lz_Go l xJ 288 := by
  intro p e s m below meth c Q b L xs G ac A C ad am o i n t g f H locs ls cells slots hi hL hn hcs hI hP hD hS hl kk
  obtain ⟨PU, rM, PM, hU, hM, hrM, hRM, hp⟩ := xl_ticks l hst G ac ad am o f n g t (xs (i + 1)) hn hI
  exact br_ticks C hi hL rfl hcs (fun u => u) PU hU rM PM hM hrM hRM (fun r u a t2 hu ht => (hp r u a t2 hu ht).1) hP hD hS hl (fun r u a t2 H locs ls hu ht hP hD hS hl => kk t2 u.2 u.1 H locs ls (hp r u a t2 hu ht).2 hP hD hS hl)
theorem go_barrier (l : Launch) (hst : l.stackTraces = false) : lz_Go l xJ 344 := by
  intro p e s m below meth c Q b L xs G ac A C ad am o i n t g f H locs ls cells slots hi hL hn hcs hI hP hD hS hl kk
  obtain ⟨PU, rM, PM, hU, hM, hrM, hRM, hp⟩ := xl_barrier l hst G ac ad am o f n g t (xs (i + 1)) (xs (i + 2)) hn hI
  exact br_barrier C hi hL rfl rfl hcs (fun u => u) PU hU rM PM hM hrM hRM (fun r u a t2 hu ht => (hp r u a t2 hu ht).1) hP hD hS hl (fun r u a t2 H locs ls hu ht hP hD hS hl => kk t2 u.2 u.1 H locs ls (hp r u a t2 hu ht).2 hP hD hS hl)
theorem go_current (l : Launch) (hst : l.stackTraces = false) : lz_Go l xJ 412 := by
  intro p e s m below meth c Q b L xs G ac A C ad am o i n t g f H locs ls cells slots hi hL hn hcs hI hP hD hS hl kk
  obtain ⟨PU, rM, PM, hU, hM, hrM, hRM, hp⟩ := xl_current l hst G ac ad am o f n g t (xs (i + 1)) (if xs (i + 2) = 0 then 0 else 1) (xq_b (xs (i + 2))) hn hI
  exact br_current C hi hL rfl rfl rfl hcs (fun u => u) PU hU rM PM hM hrM hRM (fun r u a t2 hu ht => (hp r u a t2 hu ht).1) hP hD hS hl (fun r u a t2 H locs ls hu ht hP hD hS hl => kk t2 u.2 u.1 H locs ls (hp r u a t2 hu ht).2 hP hD hS hl)
theorem go_night (l : Launch) (hst : l.stackTraces = false) : lz_Go l xJ 503 := by
  intro p e s m below meth c Q b L xs G ac A C ad am o i n t g f H locs ls cells slots hi hL hn hcs hI hP hD hS hl kk
  have hb := xq_b (xs (i + 1))
  exact br_night C hi hL rfl rfl hcs (fun u => u) xk_r0 _ (kzU_night l G ac ad g _ hb) ⟨rfl, rfl⟩ ⟨Nat.le_of_ble_eq_true rfl, Nat.le_of_ble_eq_true rfl⟩ xk_r0 _ (kzM_night l G ac am t _ (26000 * n) hb hI.c (by omega)) ⟨rfl, rfl⟩ ⟨Nat.le_of_ble_eq_true rfl, Nat.le_of_ble_eq_true rfl⟩ (fun r u a t2 hu ht => (pf_night hI hu ht).1) hP hD hS hl (fun r u a t2 H locs ls hu ht hP hD hS hl => kk t2 f u H locs ls (pf_night hI hu ht).2 hP hD hS hl)
theorem go_order (l : Launch) (hst : l.stackTraces = false) : lz_Go l xJ 544 := by
  intro p e s m below meth c Q b L xs G ac A C ad am o i n t g f H locs ls cells slots hi hL hn hcs hI hP hD hS hl kk
  obtain ⟨PU, rM, PM, hU, hM, hrM, hRM, hp⟩ := xl_order l hst G ac ad am o f n g t (xs (i + 1)) hn hI
  exact br_order C hi hL rfl hcs (fun u => u) PU hU rM PM hM hrM hRM (fun r u a t2 hu ht => (hp r u a t2 hu ht).1) hP hD hS hl (fun r u a t2 H locs ls hu ht hP hD hS hl => kk t2 u.2 u.1 H locs ls (hp r u a t2 hu ht).2 hP hD hS hl)
theorem go_cancel (l : Launch) (hst : l.stackTraces = false) : lz_Go l xJ 600 := by
  intro p e s m below meth c Q b L xs G ac A C ad am o i n t g f H locs ls cells slots hi hL hn hcs hI hP hD hS hl kk
  obtain ⟨PU, rM, PM, hU, hM, hrM, hRM, hp⟩ := xl_cancel l hst G ac ad am o f n g t (xs (i + 1)) hn hI
  exact br_cancel C hi hL rfl hcs (fun u => u) PU hU rM PM hM hrM hRM (fun r u a t2 hu ht => (hp r u a t2 hu ht).1) hP hD hS hl (fun r u a t2 H locs ls hu ht hP hD hS hl => kk t2 u.2 u.1 H locs ls (hp r u a t2 hu ht).2 hP hD hS hl)
theorem go_ask (l : Launch) (hst : l.stackTraces = false) : lz_Go l xJ 663 := by
  intro p e s m below meth c Q b L xs G ac A C ad am o i n t g f H locs ls cells slots hi hL hn hcs hI hP hD hS hl kk
  obtain ⟨PU, rM, PM, hU, hM, hrM, hRM, hp⟩ := xl_ask l hst G ac ad am n g t (xs (i + 1)) (xs (i + 2)) (xs (i + 3)) hn hI
  exact br_ask C hi hL rfl rfl rfl hcs (fun u => u) PU hU rM PM hM hrM hRM (fun r u t2 hu ht => (hp r u t2 hu ht).1) hP hD hS hl (fun r u t2 H locs ls hu ht hP hD hS hl => kk t2 f u H locs ls (hp r u t2 hu ht).2 hP hD hS hl)
theorem go_confirm (l : Launch) (hst : l.stackTraces = false) : lz_Go l xJ 723 := by
  intro p e s m below meth c Q b L xs G ac A C ad am o i n t g f H locs ls cells slots hi hL hn hcs hI hP hD hS hl kk
  obtain ⟨PU, rM, PM, hU, hM, hrM, hRM, hp⟩ := xl_confirm l hst G ac ad am o f n g t (xs (i + 1)) (xs (i + 2)) (xs (i + 3)) hn hI
  exact br_confirm C hi hL rfl rfl rfl hcs (fun u => u) PU hU rM PM hM hrM hRM (fun r u a t2 hu ht => (hp r u a t2 hu ht).1) hP hD hS hl (fun r u a t2 H locs ls hu ht hP hD hS hl => kk t2 u.2 u.1 H locs ls (hp r u a t2 hu ht).2 hP hD hS hl)
theorem go_section (l : Launch) (hst : l.stackTraces = false) : lz_Go l xJ 810 := by
  intro p e s m below meth c Q b L xs G ac A C ad am o i n t g f H locs ls cells slots hi hL hn hcs hI hP hD hS hl kk
  obtain ⟨PU, rM, PM, hU, hM, hrM, hRM, hp⟩ := xl_section l hst G ac ad am o f n g t (xs (i + 1)) (xs (i + 2)) (xs (i + 3)) hn hI
  exact br_section C hi hL rfl rfl rfl hcs (fun u => u) PU hU rM PM hM hrM hRM (fun r u a t2 hu ht => (hp r u a t2 hu ht).1) hP hD hS hl (fun r u a t2 H locs ls hu ht hP hD hS hl => kk t2 u.2 u.1 H locs ls (hp r u a t2 hu ht).2 hP hD hS hl)
theorem go_earliest (l : Launch) (hst : l.stackTraces = false) : lz_Go l xJ 890 := by
  intro p e s m below meth c Q b L xs G ac A C ad am o i n t g f H locs ls cells slots hi hL hn hcs hI hP hD hS hl kk
  obtain ⟨PU, rM, PM, hU, hM, hrM, hRM, hp⟩ := xl_earliest l hst G ac ad am o f n g t (xs (i + 1)) hn hI
  exact br_earliest C hi hL rfl hcs (fun u => u) PU hU rM PM hM hrM hRM (fun r u a t2 hu ht => (hp r u a t2 hu ht).1) hP hD hS hl (fun r u a t2 H locs ls hu ht hP hD hS hl => kk t2 u.2 u.1 H locs ls (hp r u a t2 hu ht).2 hP hD hS hl)
theorem go_about (l : Launch) (hst : l.stackTraces = false) : lz_Go l xJ 946 := by
  intro p e s m below meth c Q b L xs G ac A C ad am o i n t g f H locs ls cells slots hi hL hn hcs hI hP hD hS hl kk
  obtain ⟨PU, rM, PM, hU, hM, hrM, hRM, hp⟩ := xl_about l hst G ac ad am o f n g t (xs (i + 1)) hn hI
  exact br_about C hi hL rfl hcs (fun u => u) PU hU rM PM hM hrM hRM (fun r u a t2 hu ht => (hp r u a t2 hu ht).1) hP hD hS hl (fun r u a t2 H locs ls hu ht hP hD hS hl => kk t2 u.2 u.1 H locs ls (hp r u a t2 hu ht).2 hP hD hS hl)
theorem go_event (l : Launch) (hst : l.stackTraces = false) : lz_Go l xJ 1002 := by
  intro p e s m below meth c Q b L xs G ac A C ad am o i n t g f H locs ls cells slots hi hL hn hcs hI hP hD hS hl kk
  obtain ⟨PU, rM, PM, hU, hM, hrM, hRM, hp⟩ := xl_event l hst G ac ad am o f n g t (xs (i + 1)) (xs (i + 2)) hn hI
  exact br_event C hi hL rfl rfl hcs (fun u => u) PU hU rM PM hM hrM hRM (fun r u a t2 hu ht => (hp r u a t2 hu ht).1) hP hD hS hl (fun r u a t2 H locs ls hu ht hP hD hS hl => kk t2 u.2 u.1 H locs ls (hp r u a t2 hu ht).2 hP hD hS hl)
