theorem sim_use_0 {g g3 t t3 : xk_St} {B : Nat} (hR : xr g t) (hB : xk_cnt B t) (hB2 : B < 2147483647)
    (hU : if (g 9 4) = 0 then (g3 = g) else (if (g 20 1) ≤ 0 then (g3 = g) else (if (g 20 2) = 0 then (∃ (g1 : xk_St), g1 = va_up g 9 (upd (g 9) 4 0) ∧ (∃ (g2 : xk_St), g2 = va_up (va_up (va_up (va_up g1 5 (upd (g1 5) 3 (qzJ_add_a3 (g1 5 3)))) 6 (qzJ_add_b (g1 5 3) (g1 6) (g1 0 5))) 7 (qzJ_add_c (g1 5 3) (g1 7) 9)) 8 (qzJ_add_d (g1 5 3) (g1 8) 0) ∧ (g3 = g2))) else (g3 = g))))
    (hM : if ((t 13) 0) = 0 then (t3 = t) else (if ((t 3) 1) ≤ 0 then (t3 = t) else (if ((t 4) 1) = 0 then (∃ (t1 : xk_St), t1 = va_up t 13 (upd (t 13) 0 0) ∧ (∃ (t2 : xk_St), relzM_note t1 9 0 t2 ∧ (t3 = t2))) else (t3 = t)))) : xr g3 t3 ∧ xk_cnt (B + 1) t3 := by
  rw [hR.o0, hR.b1, hR.a1] at hU
  by_cases c1 : t 13 0 = 0
  · rw [if_pos c1] at hU hM
    subst hU; subst hM
    exact ⟨hR, xk_cnt_le hB (by omega)⟩
  · rw [if_neg c1] at hU hM
    by_cases c2 : t 3 1 ≤ 0
    · rw [if_pos c2] at hU hM
      subst hU; subst hM
      exact ⟨hR, xk_cnt_le hB (by omega)⟩
    · rw [if_neg c2] at hU hM
      by_cases c3 : t 4 1 = 0
      · rw [if_pos c3] at hU hM
        obtain ⟨g1, h4, g2, rfl, rfl⟩ := hU
        obtain ⟨t1, h5, t2, h6, rfl⟩ := hM
        have hB4 : xk_cnt B t1 := by subst h5; exact xk_cnt_k (by decide) hB
        have hR2 : xr g1 t1 := by
          subst h4; subst h5
          obtain ⟨eb0, ea0, ed0, ek0, eb1, ea1, ed1, ek1, eb2, ea2, ed2, ek2, eb3, ea3, ed3, ek3, eb4, ea4, ed4, ek4, eb5, ea5, ed5, ek5, ep0, ep1, ep2, ep3, ep4, ep5, ep6, ep7, ec0, ec1, ec2, ec3, eo0, es0, eo1, es1, epo0, epb0, emo0, eze0, est0, eal0, epo1, epb1, emo1, eze1, est1, eal1, eli0, ede0, eda0, eli1, ede1, eda1, eli2, ede2, eda2, estep, eage, equiet, emany, etime, enight, ebell, eh0, eh1, eh2, eh3, eh4, eh5, eh6, eh7, enc0, enc1, enc2, ei0, ej0, em0, en0, ei1, ej1, em1, en1, ei2, ej2, em2, en2, ei3, ej3, em3, en3, ei4, ej4, em4, en4, ei5, ej5, em5, en5, enu0, enu1, enu2, enu3, enu4, enu5, ejt, ejk, ejw⟩ := id hR
          refine ⟨?_, ?_, ?_, ?_, ?_, ?_, ?_, ?_, ?_, ?_, ?_, ?_, ?_, ?_, ?_, ?_, ?_, ?_, ?_, ?_, ?_, ?_, ?_, ?_, ?_, ?_, ?_, ?_, ?_, ?_, ?_, ?_, ?_, ?_, ?_, ?_, ?_, ?_, ?_, ?_, ?_, ?_, ?_, ?_, ?_, ?_, ?_, ?_, ?_, ?_, ?_, ?_, ?_, ?_, ?_, ?_, ?_, ?_, ?_, ?_, ?_, ?_, ?_, ?_, ?_, ?_, ?_, ?_, ?_, ?_, ?_, ?_, ?_, ?_, ?_, ?_, ?_, ?_, ?_, ?_, ?_, ?_, ?_, ?_, ?_, ?_, ?_, ?_, ?_, ?_, ?_, ?_, ?_, ?_, ?_, ?_, ?_, ?_, ?_, ?_, ?_, ?_, ?_, ?_, ?_, ?_, ?_, ?_, ?_, ?_, ?_, ?_⟩
          all_goals first | (simp only [va_up, upd]; simp; assumption) | skip
          all_goals first | (simp [va_up, upd, ]; done) | skip
        exact ⟨xr_note hR2 hB4 (by omega) h6, xr_nc hB4 h6⟩
      · rw [if_neg c3] at hU hM
        subst hU; subst hM
        exact ⟨hR, xk_cnt_le hB (by omega)⟩
theorem sim_use_1 {g g3 t t3 : xk_St} {B : Nat} (hR : xr g t) (hB : xk_cnt B t) (hB2 : B < 2147483647)
    (hU : if (g 10 4) = 0 then (g3 = g) else (if (g 23 1) ≤ 0 then (g3 = g) else (if (g 23 2) = 0 then (∃ (g1 : xk_St), g1 = va_up g 10 (upd (g 10) 4 0) ∧ (∃ (g2 : xk_St), g2 = va_up (va_up (va_up (va_up g1 5 (upd (g1 5) 3 (qzJ_add_a3 (g1 5 3)))) 6 (qzJ_add_b (g1 5 3) (g1 6) (g1 0 5))) 7 (qzJ_add_c (g1 5 3) (g1 7) 9)) 8 (qzJ_add_d (g1 5 3) (g1 8) 1) ∧ (g3 = g2))) else (g3 = g))))
    (hM : if ((t 13) 1) = 0 then (t3 = t) else (if ((t 3) 4) ≤ 0 then (t3 = t) else (if ((t 4) 4) = 0 then (∃ (t1 : xk_St), t1 = va_up t 13 (upd (t 13) 1 0) ∧ (∃ (t2 : xk_St), relzM_note t1 9 1 t2 ∧ (t3 = t2))) else (t3 = t)))) : xr g3 t3 ∧ xk_cnt (B + 1) t3 := by
  rw [hR.o1, hR.b4, hR.a4] at hU
  by_cases c1 : t 13 1 = 0
  · rw [if_pos c1] at hU hM
    subst hU; subst hM
    exact ⟨hR, xk_cnt_le hB (by omega)⟩
  · rw [if_neg c1] at hU hM
    by_cases c2 : t 3 4 ≤ 0
    · rw [if_pos c2] at hU hM
      subst hU; subst hM
      exact ⟨hR, xk_cnt_le hB (by omega)⟩
    · rw [if_neg c2] at hU hM
      by_cases c3 : t 4 4 = 0
      · rw [if_pos c3] at hU hM
        obtain ⟨g1, h4, g2, rfl, rfl⟩ := hU
        obtain ⟨t1, h5, t2, h6, rfl⟩ := hM
        have hB4 : xk_cnt B t1 := by subst h5; exact xk_cnt_k (by decide) hB
        have hR2 : xr g1 t1 := by
          subst h4; subst h5
          obtain ⟨eb0, ea0, ed0, ek0, eb1, ea1, ed1, ek1, eb2, ea2, ed2, ek2, eb3, ea3, ed3, ek3, eb4, ea4, ed4, ek4, eb5, ea5, ed5, ek5, ep0, ep1, ep2, ep3, ep4, ep5, ep6, ep7, ec0, ec1, ec2, ec3, eo0, es0, eo1, es1, epo0, epb0, emo0, eze0, est0, eal0, epo1, epb1, emo1, eze1, est1, eal1, eli0, ede0, eda0, eli1, ede1, eda1, eli2, ede2, eda2, estep, eage, equiet, emany, etime, enight, ebell, eh0, eh1, eh2, eh3, eh4, eh5, eh6, eh7, enc0, enc1, enc2, ei0, ej0, em0, en0, ei1, ej1, em1, en1, ei2, ej2, em2, en2, ei3, ej3, em3, en3, ei4, ej4, em4, en4, ei5, ej5, em5, en5, enu0, enu1, enu2, enu3, enu4, enu5, ejt, ejk, ejw⟩ := id hR
          refine ⟨?_, ?_, ?_, ?_, ?_, ?_, ?_, ?_, ?_, ?_, ?_, ?_, ?_, ?_, ?_, ?_, ?_, ?_, ?_, ?_, ?_, ?_, ?_, ?_, ?_, ?_, ?_, ?_, ?_, ?_, ?_, ?_, ?_, ?_, ?_, ?_, ?_, ?_, ?_, ?_, ?_, ?_, ?_, ?_, ?_, ?_, ?_, ?_, ?_, ?_, ?_, ?_, ?_, ?_, ?_, ?_, ?_, ?_, ?_, ?_, ?_, ?_, ?_, ?_, ?_, ?_, ?_, ?_, ?_, ?_, ?_, ?_, ?_, ?_, ?_, ?_, ?_, ?_, ?_, ?_, ?_, ?_, ?_, ?_, ?_, ?_, ?_, ?_, ?_, ?_, ?_, ?_, ?_, ?_, ?_, ?_, ?_, ?_, ?_, ?_, ?_, ?_, ?_, ?_, ?_, ?_, ?_, ?_, ?_, ?_, ?_, ?_⟩
          all_goals first | (simp only [va_up, upd]; simp; assumption) | skip
          all_goals first | (simp [va_up, upd, ]; done) | skip
        exact ⟨xr_note hR2 hB4 (by omega) h6, xr_nc hB4 h6⟩
      · rw [if_neg c3] at hU hM
        subst hU; subst hM
        exact ⟨hR, xk_cnt_le hB (by omega)⟩
theorem sim_useOrders {g gz t tz : xk_St} {B : Nat} (hR : xr g t) (hB : xk_cnt B t) (hB2 : B + 2 < 2147483647) (hU : relzU_useUpOrders g gz) (hM : relzM_useOrders t tz) : xr gz tz ∧ xk_cnt (B + 2) tz := by
  obtain ⟨g3, u3, g6, u6, rfl⟩ := hU
  obtain ⟨t3, m3, t6, m6, rfl⟩ := hM
  obtain ⟨R1, B1⟩ := sim_use_0 hR hB (by omega) u3 m3
  exact sim_use_1 R1 B1 (by omega) u6 m6
