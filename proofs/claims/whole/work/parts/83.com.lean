def xi_co (t : xk_St) (e : Nat) : Prop := t 11 e = -1 ∨ ∃ n : Nat, n ≤ 214 ∧ t 11 e = nI n
theorem xr_max {n : Nat} (h : n ≤ 214) : (if nI n ≤ 0 then (0 : Int32) else nI n - 1) = Int32.ofNat (n - 1) := by
  rcases Nat.eq_zero_or_pos n with h0 | h0
  · subst h0; decide
  · obtain ⟨k, rfl⟩ : ∃ k, n = k + 1 := ⟨n - 1, by omega⟩
    rw [if_neg (nI_nle (by omega) (by omega)), nI_pred]; rfl
theorem xr_mx {x : Int32} (hi : x = -1 ∨ ∃ n : Nat, n ≤ 214 ∧ x = nI n) (h : ¬ x = -1) : (if x - 1 < 0 then (0 : Int32) else x - 1) = (if x ≤ 0 then 0 else x - 1) := by
  rcases hi with hi | ⟨n, h1, rfl⟩
  · exact absurd hi h
  · rcases Nat.eq_zero_or_pos n with h0 | h0
    · subst h0; decide
    · obtain ⟨k, rfl⟩ : ∃ k, n = k + 1 := ⟨n - 1, by omega⟩
      rw [if_neg (nI_nle (by omega) (by omega)), nI_pred, if_neg (nI_pos (by omega))]
theorem sim_com_0 {g g1 t t5 : xk_St} (hR : xr g t) (hi : xi_co t 0) (he : g 25 2 = t 12 0)
    (hU : g1 = va_up g 25 (upd (upd (g 25) 1 (qzE_follow_a1 (g 25 1) (g 25 2) (g 19 1) (g 19 2))) 2 qzE_follow_a2))
    (hM : if ((t 12) 0) = 0 then (if ((t 11) 0) = (-1) then (t5 = t) else (∃ (x : Int32), (if ((t 3) 0) = 0 then (x = (-1)) else (if ((t 11) 0) ≤ 0 then (x = 0) else (x = ((t 11) 0) - 1))) ∧ (∃ (t1 : xk_St), t1 = va_up t 11 (upd (t 11) 0 x) ∧ (t5 = t1)))) else (if ((t 4) 0) = 0 then (if ((t 11) 0) = (-1) then (∃ (t4 : xk_St), t4 = va_up t 11 (upd (t 11) 0 214) ∧ (t5 = t4)) else (∃ (x : Int32), (if ((t 3) 0) = 0 then (x = (-1)) else (if ((t 11) 0) ≤ 0 then (x = 0) else (x = ((t 11) 0) - 1))) ∧ (∃ (t1 : xk_St), t1 = va_up t 11 (upd (t 11) 0 x) ∧ (t5 = t1)))) else (if ((t 11) 0) = (-1) then (t5 = t) else (∃ (x : Int32), (if ((t 3) 0) = 0 then (x = (-1)) else (if ((t 11) 0) ≤ 0 then (x = 0) else (x = ((t 11) 0) - 1))) ∧ (∃ (t1 : xk_St), t1 = va_up t 11 (upd (t 11) 0 x) ∧ (t5 = t1)))))) : xr g1 t5 ∧ xi_co t5 0 ∧ (∀ j : Nat, j ≠ 0 → t5 11 j = t 11 j) ∧ (∀ c j : Nat, c ≠ 11 → t5 c j = t c j) ∧ (∀ c j : Nat, c ≠ 25 → g1 c j = g c j) ∧ g1 25 2 = 0 := by
  rw [he, hR.c0, hR.b0, hR.a0] at hU
  have hseg : ∀ {t5 : xk_St}, ¬ t 11 0 = -1 → (∃ (x : Int32), (if ((t 3) 0) = 0 then (x = (-1)) else (if ((t 11) 0) ≤ 0 then (x = 0) else (x = ((t 11) 0) - 1))) ∧ (∃ (t1 : xk_St), t1 = va_up t 11 (upd (t 11) 0 x) ∧ (t5 = t1))) → g1 = va_up g 25 (upd (upd (g 25) 1 (if t 3 0 = 0 then -1 else (if t 11 0 ≤ 0 then 0 else t 11 0 - 1))) 2 0) → xr g1 t5 ∧ xi_co t5 0 ∧ (∀ j : Nat, j ≠ 0 → t5 11 j = t 11 j) ∧ (∀ c j : Nat, c ≠ 11 → t5 c j = t c j) ∧ (∀ c j : Nat, c ≠ 25 → g1 c j = g c j) ∧ g1 25 2 = 0 := by
    intro t5 hne hs hu
    obtain ⟨x, hx, t1, rfl, rfl⟩ := hs
    have hx' : x = (if t 3 0 = 0 then -1 else (if t 11 0 ≤ 0 then 0 else t 11 0 - 1)) := by
      by_cases q1 : t 3 0 = 0
      · rw [if_pos q1] at hx ⊢; exact hx
      · rw [if_neg q1] at hx ⊢
        by_cases q2 : t 11 0 ≤ 0
        · rw [if_pos q2] at hx ⊢; exact hx
        · rw [if_neg q2] at hx ⊢; exact hx
    have hco : x = -1 ∨ ∃ n : Nat, n ≤ 214 ∧ x = nI n := by
      rcases hi with hi | ⟨n, h1, h2⟩
      · exact absurd hi hne
      · rw [hx']
        by_cases q1 : t 3 0 = 0
        · rw [if_pos q1]; exact Or.inl rfl
        · rw [if_neg q1, h2, xr_max h1]; exact Or.inr ⟨n - 1, by omega, rfl⟩
    rw [← hx'] at hu
    subst hu
    refine ⟨?_, ?_, fun j hj => by simp [va_up, upd, hj], fun c j hc => by simp [va_up, upd, hc], fun c j hc => by simp [va_up, upd, hc], by simp [va_up, upd]⟩
    · skip
      obtain ⟨eb0, ea0, ed0, ek0, eb1, ea1, ed1, ek1, eb2, ea2, ed2, ek2, eb3, ea3, ed3, ek3, eb4, ea4, ed4, ek4, eb5, ea5, ed5, ek5, ep0, ep1, ep2, ep3, ep4, ep5, ep6, ep7, ec0, ec1, ec2, ec3, eo0, es0, eo1, es1, epo0, epb0, emo0, eze0, est0, eal0, epo1, epb1, emo1, eze1, est1, eal1, eli0, ede0, eda0, eli1, ede1, eda1, eli2, ede2, eda2, estep, eage, equiet, emany, etime, enight, ebell, eh0, eh1, eh2, eh3, eh4, eh5, eh6, eh7, enc0, enc1, enc2, ei0, ej0, em0, en0, ei1, ej1, em1, en1, ei2, ej2, em2, en2, ei3, ej3, em3, en3, ei4, ej4, em4, en4, ei5, ej5, em5, en5, enu0, enu1, enu2, enu3, enu4, enu5, ejt, ejk, ejw⟩ := id hR
      refine ⟨?_, ?_, ?_, ?_, ?_, ?_, ?_, ?_, ?_, ?_, ?_, ?_, ?_, ?_, ?_, ?_, ?_, ?_, ?_, ?_, ?_, ?_, ?_, ?_, ?_, ?_, ?_, ?_, ?_, ?_, ?_, ?_, ?_, ?_, ?_, ?_, ?_, ?_, ?_, ?_, ?_, ?_, ?_, ?_, ?_, ?_, ?_, ?_, ?_, ?_, ?_, ?_, ?_, ?_, ?_, ?_, ?_, ?_, ?_, ?_, ?_, ?_, ?_, ?_, ?_, ?_, ?_, ?_, ?_, ?_, ?_, ?_, ?_, ?_, ?_, ?_, ?_, ?_, ?_, ?_, ?_, ?_, ?_, ?_, ?_, ?_, ?_, ?_, ?_, ?_, ?_, ?_, ?_, ?_, ?_, ?_, ?_, ?_, ?_, ?_, ?_, ?_, ?_, ?_, ?_, ?_, ?_, ?_, ?_, ?_, ?_, ?_⟩
      all_goals first | (simp only [va_up, upd]; simp; assumption) | skip
      all_goals first | (simp [va_up, upd, ]; done) | skip
    · rcases hco with h | ⟨n, h1, h2⟩
      · exact Or.inl (by simp [va_up, upd, h])
      · exact Or.inr ⟨n, h1, by simp [va_up, upd, h2]⟩
  have hstay : t5 = t → g1 = va_up g 25 (upd (upd (g 25) 1 (t 11 0)) 2 0) → xr g1 t5 ∧ xi_co t5 0 ∧ (∀ j : Nat, j ≠ 0 → t5 11 j = t 11 j) ∧ (∀ c j : Nat, c ≠ 11 → t5 c j = t c j) ∧ (∀ c j : Nat, c ≠ 25 → g1 c j = g c j) ∧ g1 25 2 = 0 := by
    intro h1 hu
    subst h1; subst hu
    refine ⟨?_, hi, fun _ _ => rfl, fun _ _ _ => rfl, fun c j hc => by simp [va_up, upd, hc], by simp [va_up, upd]⟩
    obtain ⟨eb0, ea0, ed0, ek0, eb1, ea1, ed1, ek1, eb2, ea2, ed2, ek2, eb3, ea3, ed3, ek3, eb4, ea4, ed4, ek4, eb5, ea5, ed5, ek5, ep0, ep1, ep2, ep3, ep4, ep5, ep6, ep7, ec0, ec1, ec2, ec3, eo0, es0, eo1, es1, epo0, epb0, emo0, eze0, est0, eal0, epo1, epb1, emo1, eze1, est1, eal1, eli0, ede0, eda0, eli1, ede1, eda1, eli2, ede2, eda2, estep, eage, equiet, emany, etime, enight, ebell, eh0, eh1, eh2, eh3, eh4, eh5, eh6, eh7, enc0, enc1, enc2, ei0, ej0, em0, en0, ei1, ej1, em1, en1, ei2, ej2, em2, en2, ei3, ej3, em3, en3, ei4, ej4, em4, en4, ei5, ej5, em5, en5, enu0, enu1, enu2, enu3, enu4, enu5, ejt, ejk, ejw⟩ := id hR
    refine ⟨?_, ?_, ?_, ?_, ?_, ?_, ?_, ?_, ?_, ?_, ?_, ?_, ?_, ?_, ?_, ?_, ?_, ?_, ?_, ?_, ?_, ?_, ?_, ?_, ?_, ?_, ?_, ?_, ?_, ?_, ?_, ?_, ?_, ?_, ?_, ?_, ?_, ?_, ?_, ?_, ?_, ?_, ?_, ?_, ?_, ?_, ?_, ?_, ?_, ?_, ?_, ?_, ?_, ?_, ?_, ?_, ?_, ?_, ?_, ?_, ?_, ?_, ?_, ?_, ?_, ?_, ?_, ?_, ?_, ?_, ?_, ?_, ?_, ?_, ?_, ?_, ?_, ?_, ?_, ?_, ?_, ?_, ?_, ?_, ?_, ?_, ?_, ?_, ?_, ?_, ?_, ?_, ?_, ?_, ?_, ?_, ?_, ?_, ?_, ?_, ?_, ?_, ?_, ?_, ?_, ?_, ?_, ?_, ?_, ?_, ?_, ?_⟩
    all_goals first | (simp only [va_up, upd]; simp; assumption) | skip
    all_goals first | (simp [va_up, upd, ]; done) | skip
  by_cases c1 : t 12 0 = 0
  · rw [if_pos c1] at hM
    by_cases c2 : t 11 0 = -1
    · rw [if_pos c2] at hM
      exact hstay hM (by rw [hU]; simp [qzE_follow_a1, qzE_follow_a2, c1, c2])
    · rw [if_neg c2] at hM
      exact hseg c2 hM (by rw [hU]; simp [qzE_follow_a1, qzE_follow_a2, c1, c2, xr_mx hi c2])
  · rw [if_neg c1] at hM
    by_cases c3 : t 4 0 = 0
    · rw [if_pos c3] at hM
      by_cases c2 : t 11 0 = -1
      · rw [if_pos c2] at hM
        obtain ⟨t4, rfl, rfl⟩ := hM
        have hu : g1 = va_up g 25 (upd (upd (g 25) 1 214) 2 0) := by rw [hU]; simp [qzE_follow_a1, qzE_follow_a2, c1, c2, c3]
        subst hu
        refine ⟨?_, Or.inr ⟨214, by omega, by simp [va_up, upd]; decide⟩, fun j hj => by simp [va_up, upd, hj], fun c j hc => by simp [va_up, upd, hc], fun c j hc => by simp [va_up, upd, hc], by simp [va_up, upd]⟩
        obtain ⟨eb0, ea0, ed0, ek0, eb1, ea1, ed1, ek1, eb2, ea2, ed2, ek2, eb3, ea3, ed3, ek3, eb4, ea4, ed4, ek4, eb5, ea5, ed5, ek5, ep0, ep1, ep2, ep3, ep4, ep5, ep6, ep7, ec0, ec1, ec2, ec3, eo0, es0, eo1, es1, epo0, epb0, emo0, eze0, est0, eal0, epo1, epb1, emo1, eze1, est1, eal1, eli0, ede0, eda0, eli1, ede1, eda1, eli2, ede2, eda2, estep, eage, equiet, emany, etime, enight, ebell, eh0, eh1, eh2, eh3, eh4, eh5, eh6, eh7, enc0, enc1, enc2, ei0, ej0, em0, en0, ei1, ej1, em1, en1, ei2, ej2, em2, en2, ei3, ej3, em3, en3, ei4, ej4, em4, en4, ei5, ej5, em5, en5, enu0, enu1, enu2, enu3, enu4, enu5, ejt, ejk, ejw⟩ := id hR
        refine ⟨?_, ?_, ?_, ?_, ?_, ?_, ?_, ?_, ?_, ?_, ?_, ?_, ?_, ?_, ?_, ?_, ?_, ?_, ?_, ?_, ?_, ?_, ?_, ?_, ?_, ?_, ?_, ?_, ?_, ?_, ?_, ?_, ?_, ?_, ?_, ?_, ?_, ?_, ?_, ?_, ?_, ?_, ?_, ?_, ?_, ?_, ?_, ?_, ?_, ?_, ?_, ?_, ?_, ?_, ?_, ?_, ?_, ?_, ?_, ?_, ?_, ?_, ?_, ?_, ?_, ?_, ?_, ?_, ?_, ?_, ?_, ?_, ?_, ?_, ?_, ?_, ?_, ?_, ?_, ?_, ?_, ?_, ?_, ?_, ?_, ?_, ?_, ?_, ?_, ?_, ?_, ?_, ?_, ?_, ?_, ?_, ?_, ?_, ?_, ?_, ?_, ?_, ?_, ?_, ?_, ?_, ?_, ?_, ?_, ?_, ?_, ?_⟩
        all_goals first | (simp only [va_up, upd]; simp; assumption) | skip
        all_goals first | (simp [va_up, upd, ]; done) | skip
      · rw [if_neg c2] at hM
        exact hseg c2 hM (by rw [hU]; simp [qzE_follow_a1, qzE_follow_a2, c1, c2, c3, xr_mx hi c2])
    · rw [if_neg c3] at hM
      by_cases c2 : t 11 0 = -1
      · rw [if_pos c2] at hM
        exact hstay hM (by rw [hU]; simp [qzE_follow_a1, qzE_follow_a2, c1, c2, c3])
      · rw [if_neg c2] at hM
        exact hseg c2 hM (by rw [hU]; simp [qzE_follow_a1, qzE_follow_a2, c1, c2, c3, xr_mx hi c2])
theorem sim_com_1 {g g1 t t5 : xk_St} (hR : xr g t) (hi : xi_co t 1) (he : g 26 2 = t 12 1)
    (hU : g1 = va_up g 26 (upd (upd (g 26) 1 (qzE_follow_a1 (g 26 1) (g 26 2) (g 21 1) (g 21 2))) 2 qzE_follow_a2))
    (hM : if ((t 12) 1) = 0 then (if ((t 11) 1) = (-1) then (t5 = t) else (∃ (x : Int32), (if ((t 3) 2) = 0 then (x = (-1)) else (if ((t 11) 1) ≤ 0 then (x = 0) else (x = ((t 11) 1) - 1))) ∧ (∃ (t1 : xk_St), t1 = va_up t 11 (upd (t 11) 1 x) ∧ (t5 = t1)))) else (if ((t 4) 2) = 0 then (if ((t 11) 1) = (-1) then (∃ (t4 : xk_St), t4 = va_up t 11 (upd (t 11) 1 214) ∧ (t5 = t4)) else (∃ (x : Int32), (if ((t 3) 2) = 0 then (x = (-1)) else (if ((t 11) 1) ≤ 0 then (x = 0) else (x = ((t 11) 1) - 1))) ∧ (∃ (t1 : xk_St), t1 = va_up t 11 (upd (t 11) 1 x) ∧ (t5 = t1)))) else (if ((t 11) 1) = (-1) then (t5 = t) else (∃ (x : Int32), (if ((t 3) 2) = 0 then (x = (-1)) else (if ((t 11) 1) ≤ 0 then (x = 0) else (x = ((t 11) 1) - 1))) ∧ (∃ (t1 : xk_St), t1 = va_up t 11 (upd (t 11) 1 x) ∧ (t5 = t1)))))) : xr g1 t5 ∧ xi_co t5 1 ∧ (∀ j : Nat, j ≠ 1 → t5 11 j = t 11 j) ∧ (∀ c j : Nat, c ≠ 11 → t5 c j = t c j) ∧ (∀ c j : Nat, c ≠ 26 → g1 c j = g c j) ∧ g1 26 2 = 0 := by
  rw [he, hR.c1, hR.b2, hR.a2] at hU
  have hseg : ∀ {t5 : xk_St}, ¬ t 11 1 = -1 → (∃ (x : Int32), (if ((t 3) 2) = 0 then (x = (-1)) else (if ((t 11) 1) ≤ 0 then (x = 0) else (x = ((t 11) 1) - 1))) ∧ (∃ (t1 : xk_St), t1 = va_up t 11 (upd (t 11) 1 x) ∧ (t5 = t1))) → g1 = va_up g 26 (upd (upd (g 26) 1 (if t 3 2 = 0 then -1 else (if t 11 1 ≤ 0 then 0 else t 11 1 - 1))) 2 0) → xr g1 t5 ∧ xi_co t5 1 ∧ (∀ j : Nat, j ≠ 1 → t5 11 j = t 11 j) ∧ (∀ c j : Nat, c ≠ 11 → t5 c j = t c j) ∧ (∀ c j : Nat, c ≠ 26 → g1 c j = g c j) ∧ g1 26 2 = 0 := by
    intro t5 hne hs hu
    obtain ⟨x, hx, t1, rfl, rfl⟩ := hs
    have hx' : x = (if t 3 2 = 0 then -1 else (if t 11 1 ≤ 0 then 0 else t 11 1 - 1)) := by
      by_cases q1 : t 3 2 = 0
      · rw [if_pos q1] at hx ⊢; exact hx
      · rw [if_neg q1] at hx ⊢
        by_cases q2 : t 11 1 ≤ 0
        · rw [if_pos q2] at hx ⊢; exact hx
        · rw [if_neg q2] at hx ⊢; exact hx
    have hco : x = -1 ∨ ∃ n : Nat, n ≤ 214 ∧ x = nI n := by
      rcases hi with hi | ⟨n, h1, h2⟩
      · exact absurd hi hne
      · rw [hx']
        by_cases q1 : t 3 2 = 0
        · rw [if_pos q1]; exact Or.inl rfl
        · rw [if_neg q1, h2, xr_max h1]; exact Or.inr ⟨n - 1, by omega, rfl⟩
    rw [← hx'] at hu
    subst hu
    refine ⟨?_, ?_, fun j hj => by simp [va_up, upd, hj], fun c j hc => by simp [va_up, upd, hc], fun c j hc => by simp [va_up, upd, hc], by simp [va_up, upd]⟩
    · skip
      obtain ⟨eb0, ea0, ed0, ek0, eb1, ea1, ed1, ek1, eb2, ea2, ed2, ek2, eb3, ea3, ed3, ek3, eb4, ea4, ed4, ek4, eb5, ea5, ed5, ek5, ep0, ep1, ep2, ep3, ep4, ep5, ep6, ep7, ec0, ec1, ec2, ec3, eo0, es0, eo1, es1, epo0, epb0, emo0, eze0, est0, eal0, epo1, epb1, emo1, eze1, est1, eal1, eli0, ede0, eda0, eli1, ede1, eda1, eli2, ede2, eda2, estep, eage, equiet, emany, etime, enight, ebell, eh0, eh1, eh2, eh3, eh4, eh5, eh6, eh7, enc0, enc1, enc2, ei0, ej0, em0, en0, ei1, ej1, em1, en1, ei2, ej2, em2, en2, ei3, ej3, em3, en3, ei4, ej4, em4, en4, ei5, ej5, em5, en5, enu0, enu1, enu2, enu3, enu4, enu5, ejt, ejk, ejw⟩ := id hR
      refine ⟨?_, ?_, ?_, ?_, ?_, ?_, ?_, ?_, ?_, ?_, ?_, ?_, ?_, ?_, ?_, ?_, ?_, ?_, ?_, ?_, ?_, ?_, ?_, ?_, ?_, ?_, ?_, ?_, ?_, ?_, ?_, ?_, ?_, ?_, ?_, ?_, ?_, ?_, ?_, ?_, ?_, ?_, ?_, ?_, ?_, ?_, ?_, ?_, ?_, ?_, ?_, ?_, ?_, ?_, ?_, ?_, ?_, ?_, ?_, ?_, ?_, ?_, ?_, ?_, ?_, ?_, ?_, ?_, ?_, ?_, ?_, ?_, ?_, ?_, ?_, ?_, ?_, ?_, ?_, ?_, ?_, ?_, ?_, ?_, ?_, ?_, ?_, ?_, ?_, ?_, ?_, ?_, ?_, ?_, ?_, ?_, ?_, ?_, ?_, ?_, ?_, ?_, ?_, ?_, ?_, ?_, ?_, ?_, ?_, ?_, ?_, ?_⟩
      all_goals first | (simp only [va_up, upd]; simp; assumption) | skip
      all_goals first | (simp [va_up, upd, ]; done) | skip
    · rcases hco with h | ⟨n, h1, h2⟩
      · exact Or.inl (by simp [va_up, upd, h])
      · exact Or.inr ⟨n, h1, by simp [va_up, upd, h2]⟩
  have hstay : t5 = t → g1 = va_up g 26 (upd (upd (g 26) 1 (t 11 1)) 2 0) → xr g1 t5 ∧ xi_co t5 1 ∧ (∀ j : Nat, j ≠ 1 → t5 11 j = t 11 j) ∧ (∀ c j : Nat, c ≠ 11 → t5 c j = t c j) ∧ (∀ c j : Nat, c ≠ 26 → g1 c j = g c j) ∧ g1 26 2 = 0 := by
    intro h1 hu
    subst h1; subst hu
    refine ⟨?_, hi, fun _ _ => rfl, fun _ _ _ => rfl, fun c j hc => by simp [va_up, upd, hc], by simp [va_up, upd]⟩
    obtain ⟨eb0, ea0, ed0, ek0, eb1, ea1, ed1, ek1, eb2, ea2, ed2, ek2, eb3, ea3, ed3, ek3, eb4, ea4, ed4, ek4, eb5, ea5, ed5, ek5, ep0, ep1, ep2, ep3, ep4, ep5, ep6, ep7, ec0, ec1, ec2, ec3, eo0, es0, eo1, es1, epo0, epb0, emo0, eze0, est0, eal0, epo1, epb1, emo1, eze1, est1, eal1, eli0, ede0, eda0, eli1, ede1, eda1, eli2, ede2, eda2, estep, eage, equiet, emany, etime, enight, ebell, eh0, eh1, eh2, eh3, eh4, eh5, eh6, eh7, enc0, enc1, enc2, ei0, ej0, em0, en0, ei1, ej1, em1, en1, ei2, ej2, em2, en2, ei3, ej3, em3, en3, ei4, ej4, em4, en4, ei5, ej5, em5, en5, enu0, enu1, enu2, enu3, enu4, enu5, ejt, ejk, ejw⟩ := id hR
    refine ⟨?_, ?_, ?_, ?_, ?_, ?_, ?_, ?_, ?_, ?_, ?_, ?_, ?_, ?_, ?_, ?_, ?_, ?_, ?_, ?_, ?_, ?_, ?_, ?_, ?_, ?_, ?_, ?_, ?_, ?_, ?_, ?_, ?_, ?_, ?_, ?_, ?_, ?_, ?_, ?_, ?_, ?_, ?_, ?_, ?_, ?_, ?_, ?_, ?_, ?_, ?_, ?_, ?_, ?_, ?_, ?_, ?_, ?_, ?_, ?_, ?_, ?_, ?_, ?_, ?_, ?_, ?_, ?_, ?_, ?_, ?_, ?_, ?_, ?_, ?_, ?_, ?_, ?_, ?_, ?_, ?_, ?_, ?_, ?_, ?_, ?_, ?_, ?_, ?_, ?_, ?_, ?_, ?_, ?_, ?_, ?_, ?_, ?_, ?_, ?_, ?_, ?_, ?_, ?_, ?_, ?_, ?_, ?_, ?_, ?_, ?_, ?_⟩
    all_goals first | (simp only [va_up, upd]; simp; assumption) | skip
    all_goals first | (simp [va_up, upd, ]; done) | skip
  by_cases c1 : t 12 1 = 0
  · rw [if_pos c1] at hM
    by_cases c2 : t 11 1 = -1
    · rw [if_pos c2] at hM
      exact hstay hM (by rw [hU]; simp [qzE_follow_a1, qzE_follow_a2, c1, c2])
    · rw [if_neg c2] at hM
      exact hseg c2 hM (by rw [hU]; simp [qzE_follow_a1, qzE_follow_a2, c1, c2, xr_mx hi c2])
  · rw [if_neg c1] at hM
    by_cases c3 : t 4 2 = 0
    · rw [if_pos c3] at hM
      by_cases c2 : t 11 1 = -1
      · rw [if_pos c2] at hM
        obtain ⟨t4, rfl, rfl⟩ := hM
        have hu : g1 = va_up g 26 (upd (upd (g 26) 1 214) 2 0) := by rw [hU]; simp [qzE_follow_a1, qzE_follow_a2, c1, c2, c3]
        subst hu
        refine ⟨?_, Or.inr ⟨214, by omega, by simp [va_up, upd]; decide⟩, fun j hj => by simp [va_up, upd, hj], fun c j hc => by simp [va_up, upd, hc], fun c j hc => by simp [va_up, upd, hc], by simp [va_up, upd]⟩
        obtain ⟨eb0, ea0, ed0, ek0, eb1, ea1, ed1, ek1, eb2, ea2, ed2, ek2, eb3, ea3, ed3, ek3, eb4, ea4, ed4, ek4, eb5, ea5, ed5, ek5, ep0, ep1, ep2, ep3, ep4, ep5, ep6, ep7, ec0, ec1, ec2, ec3, eo0, es0, eo1, es1, epo0, epb0, emo0, eze0, est0, eal0, epo1, epb1, emo1, eze1, est1, eal1, eli0, ede0, eda0, eli1, ede1, eda1, eli2, ede2, eda2, estep, eage, equiet, emany, etime, enight, ebell, eh0, eh1, eh2, eh3, eh4, eh5, eh6, eh7, enc0, enc1, enc2, ei0, ej0, em0, en0, ei1, ej1, em1, en1, ei2, ej2, em2, en2, ei3, ej3, em3, en3, ei4, ej4, em4, en4, ei5, ej5, em5, en5, enu0, enu1, enu2, enu3, enu4, enu5, ejt, ejk, ejw⟩ := id hR
        refine ⟨?_, ?_, ?_, ?_, ?_, ?_, ?_, ?_, ?_, ?_, ?_, ?_, ?_, ?_, ?_, ?_, ?_, ?_, ?_, ?_, ?_, ?_, ?_, ?_, ?_, ?_, ?_, ?_, ?_, ?_, ?_, ?_, ?_, ?_, ?_, ?_, ?_, ?_, ?_, ?_, ?_, ?_, ?_, ?_, ?_, ?_, ?_, ?_, ?_, ?_, ?_, ?_, ?_, ?_, ?_, ?_, ?_, ?_, ?_, ?_, ?_, ?_, ?_, ?_, ?_, ?_, ?_, ?_, ?_, ?_, ?_, ?_, ?_, ?_, ?_, ?_, ?_, ?_, ?_, ?_, ?_, ?_, ?_, ?_, ?_, ?_, ?_, ?_, ?_, ?_, ?_, ?_, ?_, ?_, ?_, ?_, ?_, ?_, ?_, ?_, ?_, ?_, ?_, ?_, ?_, ?_, ?_, ?_, ?_, ?_, ?_, ?_⟩
        all_goals first | (simp only [va_up, upd]; simp; assumption) | skip
        all_goals first | (simp [va_up, upd, ]; done) | skip
      · rw [if_neg c2] at hM
        exact hseg c2 hM (by rw [hU]; simp [qzE_follow_a1, qzE_follow_a2, c1, c2, c3, xr_mx hi c2])
    · rw [if_neg c3] at hM
      by_cases c2 : t 11 1 = -1
      · rw [if_pos c2] at hM
        exact hstay hM (by rw [hU]; simp [qzE_follow_a1, qzE_follow_a2, c1, c2, c3])
      · rw [if_neg c2] at hM
        exact hseg c2 hM (by rw [hU]; simp [qzE_follow_a1, qzE_follow_a2, c1, c2, c3, xr_mx hi c2])
theorem sim_com_2 {g g1 t t5 : xk_St} (hR : xr g t) (hi : xi_co t 2) (he : g 27 2 = t 12 2)
    (hU : g1 = va_up g 27 (upd (upd (g 27) 1 (qzE_follow_a1 (g 27 1) (g 27 2) (g 22 1) (g 22 2))) 2 qzE_follow_a2))
    (hM : if ((t 12) 2) = 0 then (if ((t 11) 2) = (-1) then (t5 = t) else (∃ (x : Int32), (if ((t 3) 3) = 0 then (x = (-1)) else (if ((t 11) 2) ≤ 0 then (x = 0) else (x = ((t 11) 2) - 1))) ∧ (∃ (t1 : xk_St), t1 = va_up t 11 (upd (t 11) 2 x) ∧ (t5 = t1)))) else (if ((t 4) 3) = 0 then (if ((t 11) 2) = (-1) then (∃ (t4 : xk_St), t4 = va_up t 11 (upd (t 11) 2 214) ∧ (t5 = t4)) else (∃ (x : Int32), (if ((t 3) 3) = 0 then (x = (-1)) else (if ((t 11) 2) ≤ 0 then (x = 0) else (x = ((t 11) 2) - 1))) ∧ (∃ (t1 : xk_St), t1 = va_up t 11 (upd (t 11) 2 x) ∧ (t5 = t1)))) else (if ((t 11) 2) = (-1) then (t5 = t) else (∃ (x : Int32), (if ((t 3) 3) = 0 then (x = (-1)) else (if ((t 11) 2) ≤ 0 then (x = 0) else (x = ((t 11) 2) - 1))) ∧ (∃ (t1 : xk_St), t1 = va_up t 11 (upd (t 11) 2 x) ∧ (t5 = t1)))))) : xr g1 t5 ∧ xi_co t5 2 ∧ (∀ j : Nat, j ≠ 2 → t5 11 j = t 11 j) ∧ (∀ c j : Nat, c ≠ 11 → t5 c j = t c j) ∧ (∀ c j : Nat, c ≠ 27 → g1 c j = g c j) ∧ g1 27 2 = 0 := by
  rw [he, hR.c2, hR.b3, hR.a3] at hU
  have hseg : ∀ {t5 : xk_St}, ¬ t 11 2 = -1 → (∃ (x : Int32), (if ((t 3) 3) = 0 then (x = (-1)) else (if ((t 11) 2) ≤ 0 then (x = 0) else (x = ((t 11) 2) - 1))) ∧ (∃ (t1 : xk_St), t1 = va_up t 11 (upd (t 11) 2 x) ∧ (t5 = t1))) → g1 = va_up g 27 (upd (upd (g 27) 1 (if t 3 3 = 0 then -1 else (if t 11 2 ≤ 0 then 0 else t 11 2 - 1))) 2 0) → xr g1 t5 ∧ xi_co t5 2 ∧ (∀ j : Nat, j ≠ 2 → t5 11 j = t 11 j) ∧ (∀ c j : Nat, c ≠ 11 → t5 c j = t c j) ∧ (∀ c j : Nat, c ≠ 27 → g1 c j = g c j) ∧ g1 27 2 = 0 := by
    intro t5 hne hs hu
    obtain ⟨x, hx, t1, rfl, rfl⟩ := hs
    have hx' : x = (if t 3 3 = 0 then -1 else (if t 11 2 ≤ 0 then 0 else t 11 2 - 1)) := by
      by_cases q1 : t 3 3 = 0
      · rw [if_pos q1] at hx ⊢; exact hx
      · rw [if_neg q1] at hx ⊢
        by_cases q2 : t 11 2 ≤ 0
        · rw [if_pos q2] at hx ⊢; exact hx
        · rw [if_neg q2] at hx ⊢; exact hx
    have hco : x = -1 ∨ ∃ n : Nat, n ≤ 214 ∧ x = nI n := by
      rcases hi with hi | ⟨n, h1, h2⟩
      · exact absurd hi hne
      · rw [hx']
        by_cases q1 : t 3 3 = 0
        · rw [if_pos q1]; exact Or.inl rfl
        · rw [if_neg q1, h2, xr_max h1]; exact Or.inr ⟨n - 1, by omega, rfl⟩
    rw [← hx'] at hu
    subst hu
    refine ⟨?_, ?_, fun j hj => by simp [va_up, upd, hj], fun c j hc => by simp [va_up, upd, hc], fun c j hc => by simp [va_up, upd, hc], by simp [va_up, upd]⟩
    · skip
      obtain ⟨eb0, ea0, ed0, ek0, eb1, ea1, ed1, ek1, eb2, ea2, ed2, ek2, eb3, ea3, ed3, ek3, eb4, ea4, ed4, ek4, eb5, ea5, ed5, ek5, ep0, ep1, ep2, ep3, ep4, ep5, ep6, ep7, ec0, ec1, ec2, ec3, eo0, es0, eo1, es1, epo0, epb0, emo0, eze0, est0, eal0, epo1, epb1, emo1, eze1, est1, eal1, eli0, ede0, eda0, eli1, ede1, eda1, eli2, ede2, eda2, estep, eage, equiet, emany, etime, enight, ebell, eh0, eh1, eh2, eh3, eh4, eh5, eh6, eh7, enc0, enc1, enc2, ei0, ej0, em0, en0, ei1, ej1, em1, en1, ei2, ej2, em2, en2, ei3, ej3, em3, en3, ei4, ej4, em4, en4, ei5, ej5, em5, en5, enu0, enu1, enu2, enu3, enu4, enu5, ejt, ejk, ejw⟩ := id hR
      refine ⟨?_, ?_, ?_, ?_, ?_, ?_, ?_, ?_, ?_, ?_, ?_, ?_, ?_, ?_, ?_, ?_, ?_, ?_, ?_, ?_, ?_, ?_, ?_, ?_, ?_, ?_, ?_, ?_, ?_, ?_, ?_, ?_, ?_, ?_, ?_, ?_, ?_, ?_, ?_, ?_, ?_, ?_, ?_, ?_, ?_, ?_, ?_, ?_, ?_, ?_, ?_, ?_, ?_, ?_, ?_, ?_, ?_, ?_, ?_, ?_, ?_, ?_, ?_, ?_, ?_, ?_, ?_, ?_, ?_, ?_, ?_, ?_, ?_, ?_, ?_, ?_, ?_, ?_, ?_, ?_, ?_, ?_, ?_, ?_, ?_, ?_, ?_, ?_, ?_, ?_, ?_, ?_, ?_, ?_, ?_, ?_, ?_, ?_, ?_, ?_, ?_, ?_, ?_, ?_, ?_, ?_, ?_, ?_, ?_, ?_, ?_, ?_⟩
      all_goals first | (simp only [va_up, upd]; simp; assumption) | skip
      all_goals first | (simp [va_up, upd, ]; done) | skip
    · rcases hco with h | ⟨n, h1, h2⟩
      · exact Or.inl (by simp [va_up, upd, h])
      · exact Or.inr ⟨n, h1, by simp [va_up, upd, h2]⟩
  have hstay : t5 = t → g1 = va_up g 27 (upd (upd (g 27) 1 (t 11 2)) 2 0) → xr g1 t5 ∧ xi_co t5 2 ∧ (∀ j : Nat, j ≠ 2 → t5 11 j = t 11 j) ∧ (∀ c j : Nat, c ≠ 11 → t5 c j = t c j) ∧ (∀ c j : Nat, c ≠ 27 → g1 c j = g c j) ∧ g1 27 2 = 0 := by
    intro h1 hu
    subst h1; subst hu
    refine ⟨?_, hi, fun _ _ => rfl, fun _ _ _ => rfl, fun c j hc => by simp [va_up, upd, hc], by simp [va_up, upd]⟩
    obtain ⟨eb0, ea0, ed0, ek0, eb1, ea1, ed1, ek1, eb2, ea2, ed2, ek2, eb3, ea3, ed3, ek3, eb4, ea4, ed4, ek4, eb5, ea5, ed5, ek5, ep0, ep1, ep2, ep3, ep4, ep5, ep6, ep7, ec0, ec1, ec2, ec3, eo0, es0, eo1, es1, epo0, epb0, emo0, eze0, est0, eal0, epo1, epb1, emo1, eze1, est1, eal1, eli0, ede0, eda0, eli1, ede1, eda1, eli2, ede2, eda2, estep, eage, equiet, emany, etime, enight, ebell, eh0, eh1, eh2, eh3, eh4, eh5, eh6, eh7, enc0, enc1, enc2, ei0, ej0, em0, en0, ei1, ej1, em1, en1, ei2, ej2, em2, en2, ei3, ej3, em3, en3, ei4, ej4, em4, en4, ei5, ej5, em5, en5, enu0, enu1, enu2, enu3, enu4, enu5, ejt, ejk, ejw⟩ := id hR
    refine ⟨?_, ?_, ?_, ?_, ?_, ?_, ?_, ?_, ?_, ?_, ?_, ?_, ?_, ?_, ?_, ?_, ?_, ?_, ?_, ?_, ?_, ?_, ?_, ?_, ?_, ?_, ?_, ?_, ?_, ?_, ?_, ?_, ?_, ?_, ?_, ?_, ?_, ?_, ?_, ?_, ?_, ?_, ?_, ?_, ?_, ?_, ?_, ?_, ?_, ?_, ?_, ?_, ?_, ?_, ?_, ?_, ?_, ?_, ?_, ?_, ?_, ?_, ?_, ?_, ?_, ?_, ?_, ?_, ?_, ?_, ?_, ?_, ?_, ?_, ?_, ?_, ?_, ?_, ?_, ?_, ?_, ?_, ?_, ?_, ?_, ?_, ?_, ?_, ?_, ?_, ?_, ?_, ?_, ?_, ?_, ?_, ?_, ?_, ?_, ?_, ?_, ?_, ?_, ?_, ?_, ?_, ?_, ?_, ?_, ?_, ?_, ?_⟩
    all_goals first | (simp only [va_up, upd]; simp; assumption) | skip
    all_goals first | (simp [va_up, upd, ]; done) | skip
  by_cases c1 : t 12 2 = 0
  · rw [if_pos c1] at hM
    by_cases c2 : t 11 2 = -1
    · rw [if_pos c2] at hM
      exact hstay hM (by rw [hU]; simp [qzE_follow_a1, qzE_follow_a2, c1, c2])
    · rw [if_neg c2] at hM
      exact hseg c2 hM (by rw [hU]; simp [qzE_follow_a1, qzE_follow_a2, c1, c2, xr_mx hi c2])
  · rw [if_neg c1] at hM
    by_cases c3 : t 4 3 = 0
    · rw [if_pos c3] at hM
      by_cases c2 : t 11 2 = -1
      · rw [if_pos c2] at hM
        obtain ⟨t4, rfl, rfl⟩ := hM
        have hu : g1 = va_up g 27 (upd (upd (g 27) 1 214) 2 0) := by rw [hU]; simp [qzE_follow_a1, qzE_follow_a2, c1, c2, c3]
        subst hu
        refine ⟨?_, Or.inr ⟨214, by omega, by simp [va_up, upd]; decide⟩, fun j hj => by simp [va_up, upd, hj], fun c j hc => by simp [va_up, upd, hc], fun c j hc => by simp [va_up, upd, hc], by simp [va_up, upd]⟩
        obtain ⟨eb0, ea0, ed0, ek0, eb1, ea1, ed1, ek1, eb2, ea2, ed2, ek2, eb3, ea3, ed3, ek3, eb4, ea4, ed4, ek4, eb5, ea5, ed5, ek5, ep0, ep1, ep2, ep3, ep4, ep5, ep6, ep7, ec0, ec1, ec2, ec3, eo0, es0, eo1, es1, epo0, epb0, emo0, eze0, est0, eal0, epo1, epb1, emo1, eze1, est1, eal1, eli0, ede0, eda0, eli1, ede1, eda1, eli2, ede2, eda2, estep, eage, equiet, emany, etime, enight, ebell, eh0, eh1, eh2, eh3, eh4, eh5, eh6, eh7, enc0, enc1, enc2, ei0, ej0, em0, en0, ei1, ej1, em1, en1, ei2, ej2, em2, en2, ei3, ej3, em3, en3, ei4, ej4, em4, en4, ei5, ej5, em5, en5, enu0, enu1, enu2, enu3, enu4, enu5, ejt, ejk, ejw⟩ := id hR
        refine ⟨?_, ?_, ?_, ?_, ?_, ?_, ?_, ?_, ?_, ?_, ?_, ?_, ?_, ?_, ?_, ?_, ?_, ?_, ?_, ?_, ?_, ?_, ?_, ?_, ?_, ?_, ?_, ?_, ?_, ?_, ?_, ?_, ?_, ?_, ?_, ?_, ?_, ?_, ?_, ?_, ?_, ?_, ?_, ?_, ?_, ?_, ?_, ?_, ?_, ?_, ?_, ?_, ?_, ?_, ?_, ?_, ?_, ?_, ?_, ?_, ?_, ?_, ?_, ?_, ?_, ?_, ?_, ?_, ?_, ?_, ?_, ?_, ?_, ?_, ?_, ?_, ?_, ?_, ?_, ?_, ?_, ?_, ?_, ?_, ?_, ?_, ?_, ?_, ?_, ?_, ?_, ?_, ?_, ?_, ?_, ?_, ?_, ?_, ?_, ?_, ?_, ?_, ?_, ?_, ?_, ?_, ?_, ?_, ?_, ?_, ?_, ?_⟩
        all_goals first | (simp only [va_up, upd]; simp; assumption) | skip
        all_goals first | (simp [va_up, upd, ]; done) | skip
      · rw [if_neg c2] at hM
        exact hseg c2 hM (by rw [hU]; simp [qzE_follow_a1, qzE_follow_a2, c1, c2, c3, xr_mx hi c2])
    · rw [if_neg c3] at hM
      by_cases c2 : t 11 2 = -1
      · rw [if_pos c2] at hM
        exact hstay hM (by rw [hU]; simp [qzE_follow_a1, qzE_follow_a2, c1, c2, c3])
      · rw [if_neg c2] at hM
        exact hseg c2 hM (by rw [hU]; simp [qzE_follow_a1, qzE_follow_a2, c1, c2, c3, xr_mx hi c2])
theorem sim_com_3 {g g1 t t5 : xk_St} (hR : xr g t) (hi : xi_co t 3) (he : g 28 2 = t 12 3)
    (hU : g1 = va_up g 28 (upd (upd (g 28) 1 (qzE_follow_a1 (g 28 1) (g 28 2) (g 24 1) (g 24 2))) 2 qzE_follow_a2))
    (hM : if ((t 12) 3) = 0 then (if ((t 11) 3) = (-1) then (t5 = t) else (∃ (x : Int32), (if ((t 3) 5) = 0 then (x = (-1)) else (if ((t 11) 3) ≤ 0 then (x = 0) else (x = ((t 11) 3) - 1))) ∧ (∃ (t1 : xk_St), t1 = va_up t 11 (upd (t 11) 3 x) ∧ (t5 = t1)))) else (if ((t 4) 5) = 0 then (if ((t 11) 3) = (-1) then (∃ (t4 : xk_St), t4 = va_up t 11 (upd (t 11) 3 214) ∧ (t5 = t4)) else (∃ (x : Int32), (if ((t 3) 5) = 0 then (x = (-1)) else (if ((t 11) 3) ≤ 0 then (x = 0) else (x = ((t 11) 3) - 1))) ∧ (∃ (t1 : xk_St), t1 = va_up t 11 (upd (t 11) 3 x) ∧ (t5 = t1)))) else (if ((t 11) 3) = (-1) then (t5 = t) else (∃ (x : Int32), (if ((t 3) 5) = 0 then (x = (-1)) else (if ((t 11) 3) ≤ 0 then (x = 0) else (x = ((t 11) 3) - 1))) ∧ (∃ (t1 : xk_St), t1 = va_up t 11 (upd (t 11) 3 x) ∧ (t5 = t1)))))) : xr g1 t5 ∧ xi_co t5 3 ∧ (∀ j : Nat, j ≠ 3 → t5 11 j = t 11 j) ∧ (∀ c j : Nat, c ≠ 11 → t5 c j = t c j) ∧ (∀ c j : Nat, c ≠ 28 → g1 c j = g c j) ∧ g1 28 2 = 0 := by
  rw [he, hR.c3, hR.b5, hR.a5] at hU
  have hseg : ∀ {t5 : xk_St}, ¬ t 11 3 = -1 → (∃ (x : Int32), (if ((t 3) 5) = 0 then (x = (-1)) else (if ((t 11) 3) ≤ 0 then (x = 0) else (x = ((t 11) 3) - 1))) ∧ (∃ (t1 : xk_St), t1 = va_up t 11 (upd (t 11) 3 x) ∧ (t5 = t1))) → g1 = va_up g 28 (upd (upd (g 28) 1 (if t 3 5 = 0 then -1 else (if t 11 3 ≤ 0 then 0 else t 11 3 - 1))) 2 0) → xr g1 t5 ∧ xi_co t5 3 ∧ (∀ j : Nat, j ≠ 3 → t5 11 j = t 11 j) ∧ (∀ c j : Nat, c ≠ 11 → t5 c j = t c j) ∧ (∀ c j : Nat, c ≠ 28 → g1 c j = g c j) ∧ g1 28 2 = 0 := by
    intro t5 hne hs hu
    obtain ⟨x, hx, t1, rfl, rfl⟩ := hs
    have hx' : x = (if t 3 5 = 0 then -1 else (if t 11 3 ≤ 0 then 0 else t 11 3 - 1)) := by
      by_cases q1 : t 3 5 = 0
      · rw [if_pos q1] at hx ⊢; exact hx
      · rw [if_neg q1] at hx ⊢
        by_cases q2 : t 11 3 ≤ 0
        · rw [if_pos q2] at hx ⊢; exact hx
        · rw [if_neg q2] at hx ⊢; exact hx
    have hco : x = -1 ∨ ∃ n : Nat, n ≤ 214 ∧ x = nI n := by
      rcases hi with hi | ⟨n, h1, h2⟩
      · exact absurd hi hne
      · rw [hx']
        by_cases q1 : t 3 5 = 0
        · rw [if_pos q1]; exact Or.inl rfl
        · rw [if_neg q1, h2, xr_max h1]; exact Or.inr ⟨n - 1, by omega, rfl⟩
    rw [← hx'] at hu
    subst hu
    refine ⟨?_, ?_, fun j hj => by simp [va_up, upd, hj], fun c j hc => by simp [va_up, upd, hc], fun c j hc => by simp [va_up, upd, hc], by simp [va_up, upd]⟩
    · skip
      obtain ⟨eb0, ea0, ed0, ek0, eb1, ea1, ed1, ek1, eb2, ea2, ed2, ek2, eb3, ea3, ed3, ek3, eb4, ea4, ed4, ek4, eb5, ea5, ed5, ek5, ep0, ep1, ep2, ep3, ep4, ep5, ep6, ep7, ec0, ec1, ec2, ec3, eo0, es0, eo1, es1, epo0, epb0, emo0, eze0, est0, eal0, epo1, epb1, emo1, eze1, est1, eal1, eli0, ede0, eda0, eli1, ede1, eda1, eli2, ede2, eda2, estep, eage, equiet, emany, etime, enight, ebell, eh0, eh1, eh2, eh3, eh4, eh5, eh6, eh7, enc0, enc1, enc2, ei0, ej0, em0, en0, ei1, ej1, em1, en1, ei2, ej2, em2, en2, ei3, ej3, em3, en3, ei4, ej4, em4, en4, ei5, ej5, em5, en5, enu0, enu1, enu2, enu3, enu4, enu5, ejt, ejk, ejw⟩ := id hR
      refine ⟨?_, ?_, ?_, ?_, ?_, ?_, ?_, ?_, ?_, ?_, ?_, ?_, ?_, ?_, ?_, ?_, ?_, ?_, ?_, ?_, ?_, ?_, ?_, ?_, ?_, ?_, ?_, ?_, ?_, ?_, ?_, ?_, ?_, ?_, ?_, ?_, ?_, ?_, ?_, ?_, ?_, ?_, ?_, ?_, ?_, ?_, ?_, ?_, ?_, ?_, ?_, ?_, ?_, ?_, ?_, ?_, ?_, ?_, ?_, ?_, ?_, ?_, ?_, ?_, ?_, ?_, ?_, ?_, ?_, ?_, ?_, ?_, ?_, ?_, ?_, ?_, ?_, ?_, ?_, ?_, ?_, ?_, ?_, ?_, ?_, ?_, ?_, ?_, ?_, ?_, ?_, ?_, ?_, ?_, ?_, ?_, ?_, ?_, ?_, ?_, ?_, ?_, ?_, ?_, ?_, ?_, ?_, ?_, ?_, ?_, ?_, ?_⟩
      all_goals first | (simp only [va_up, upd]; simp; assumption) | skip
      all_goals first | (simp [va_up, upd, ]; done) | skip
    · rcases hco with h | ⟨n, h1, h2⟩
      · exact Or.inl (by simp [va_up, upd, h])
      · exact Or.inr ⟨n, h1, by simp [va_up, upd, h2]⟩
  have hstay : t5 = t → g1 = va_up g 28 (upd (upd (g 28) 1 (t 11 3)) 2 0) → xr g1 t5 ∧ xi_co t5 3 ∧ (∀ j : Nat, j ≠ 3 → t5 11 j = t 11 j) ∧ (∀ c j : Nat, c ≠ 11 → t5 c j = t c j) ∧ (∀ c j : Nat, c ≠ 28 → g1 c j = g c j) ∧ g1 28 2 = 0 := by
    intro h1 hu
    subst h1; subst hu
    refine ⟨?_, hi, fun _ _ => rfl, fun _ _ _ => rfl, fun c j hc => by simp [va_up, upd, hc], by simp [va_up, upd]⟩
    obtain ⟨eb0, ea0, ed0, ek0, eb1, ea1, ed1, ek1, eb2, ea2, ed2, ek2, eb3, ea3, ed3, ek3, eb4, ea4, ed4, ek4, eb5, ea5, ed5, ek5, ep0, ep1, ep2, ep3, ep4, ep5, ep6, ep7, ec0, ec1, ec2, ec3, eo0, es0, eo1, es1, epo0, epb0, emo0, eze0, est0, eal0, epo1, epb1, emo1, eze1, est1, eal1, eli0, ede0, eda0, eli1, ede1, eda1, eli2, ede2, eda2, estep, eage, equiet, emany, etime, enight, ebell, eh0, eh1, eh2, eh3, eh4, eh5, eh6, eh7, enc0, enc1, enc2, ei0, ej0, em0, en0, ei1, ej1, em1, en1, ei2, ej2, em2, en2, ei3, ej3, em3, en3, ei4, ej4, em4, en4, ei5, ej5, em5, en5, enu0, enu1, enu2, enu3, enu4, enu5, ejt, ejk, ejw⟩ := id hR
    refine ⟨?_, ?_, ?_, ?_, ?_, ?_, ?_, ?_, ?_, ?_, ?_, ?_, ?_, ?_, ?_, ?_, ?_, ?_, ?_, ?_, ?_, ?_, ?_, ?_, ?_, ?_, ?_, ?_, ?_, ?_, ?_, ?_, ?_, ?_, ?_, ?_, ?_, ?_, ?_, ?_, ?_, ?_, ?_, ?_, ?_, ?_, ?_, ?_, ?_, ?_, ?_, ?_, ?_, ?_, ?_, ?_, ?_, ?_, ?_, ?_, ?_, ?_, ?_, ?_, ?_, ?_, ?_, ?_, ?_, ?_, ?_, ?_, ?_, ?_, ?_, ?_, ?_, ?_, ?_, ?_, ?_, ?_, ?_, ?_, ?_, ?_, ?_, ?_, ?_, ?_, ?_, ?_, ?_, ?_, ?_, ?_, ?_, ?_, ?_, ?_, ?_, ?_, ?_, ?_, ?_, ?_, ?_, ?_, ?_, ?_, ?_, ?_⟩
    all_goals first | (simp only [va_up, upd]; simp; assumption) | skip
    all_goals first | (simp [va_up, upd, ]; done) | skip
  by_cases c1 : t 12 3 = 0
  · rw [if_pos c1] at hM
    by_cases c2 : t 11 3 = -1
    · rw [if_pos c2] at hM
      exact hstay hM (by rw [hU]; simp [qzE_follow_a1, qzE_follow_a2, c1, c2])
    · rw [if_neg c2] at hM
      exact hseg c2 hM (by rw [hU]; simp [qzE_follow_a1, qzE_follow_a2, c1, c2, xr_mx hi c2])
  · rw [if_neg c1] at hM
    by_cases c3 : t 4 5 = 0
    · rw [if_pos c3] at hM
      by_cases c2 : t 11 3 = -1
      · rw [if_pos c2] at hM
        obtain ⟨t4, rfl, rfl⟩ := hM
        have hu : g1 = va_up g 28 (upd (upd (g 28) 1 214) 2 0) := by rw [hU]; simp [qzE_follow_a1, qzE_follow_a2, c1, c2, c3]
        subst hu
        refine ⟨?_, Or.inr ⟨214, by omega, by simp [va_up, upd]; decide⟩, fun j hj => by simp [va_up, upd, hj], fun c j hc => by simp [va_up, upd, hc], fun c j hc => by simp [va_up, upd, hc], by simp [va_up, upd]⟩
        obtain ⟨eb0, ea0, ed0, ek0, eb1, ea1, ed1, ek1, eb2, ea2, ed2, ek2, eb3, ea3, ed3, ek3, eb4, ea4, ed4, ek4, eb5, ea5, ed5, ek5, ep0, ep1, ep2, ep3, ep4, ep5, ep6, ep7, ec0, ec1, ec2, ec3, eo0, es0, eo1, es1, epo0, epb0, emo0, eze0, est0, eal0, epo1, epb1, emo1, eze1, est1, eal1, eli0, ede0, eda0, eli1, ede1, eda1, eli2, ede2, eda2, estep, eage, equiet, emany, etime, enight, ebell, eh0, eh1, eh2, eh3, eh4, eh5, eh6, eh7, enc0, enc1, enc2, ei0, ej0, em0, en0, ei1, ej1, em1, en1, ei2, ej2, em2, en2, ei3, ej3, em3, en3, ei4, ej4, em4, en4, ei5, ej5, em5, en5, enu0, enu1, enu2, enu3, enu4, enu5, ejt, ejk, ejw⟩ := id hR
        refine ⟨?_, ?_, ?_, ?_, ?_, ?_, ?_, ?_, ?_, ?_, ?_, ?_, ?_, ?_, ?_, ?_, ?_, ?_, ?_, ?_, ?_, ?_, ?_, ?_, ?_, ?_, ?_, ?_, ?_, ?_, ?_, ?_, ?_, ?_, ?_, ?_, ?_, ?_, ?_, ?_, ?_, ?_, ?_, ?_, ?_, ?_, ?_, ?_, ?_, ?_, ?_, ?_, ?_, ?_, ?_, ?_, ?_, ?_, ?_, ?_, ?_, ?_, ?_, ?_, ?_, ?_, ?_, ?_, ?_, ?_, ?_, ?_, ?_, ?_, ?_, ?_, ?_, ?_, ?_, ?_, ?_, ?_, ?_, ?_, ?_, ?_, ?_, ?_, ?_, ?_, ?_, ?_, ?_, ?_, ?_, ?_, ?_, ?_, ?_, ?_, ?_, ?_, ?_, ?_, ?_, ?_, ?_, ?_, ?_, ?_, ?_, ?_⟩
        all_goals first | (simp only [va_up, upd]; simp; assumption) | skip
        all_goals first | (simp [va_up, upd, ]; done) | skip
      · rw [if_neg c2] at hM
        exact hseg c2 hM (by rw [hU]; simp [qzE_follow_a1, qzE_follow_a2, c1, c2, c3, xr_mx hi c2])
    · rw [if_neg c3] at hM
      by_cases c2 : t 11 3 = -1
      · rw [if_pos c2] at hM
        exact hstay hM (by rw [hU]; simp [qzE_follow_a1, qzE_follow_a2, c1, c2, c3])
      · rw [if_neg c2] at hM
        exact hseg c2 hM (by rw [hU]; simp [qzE_follow_a1, qzE_follow_a2, c1, c2, c3, xr_mx hi c2])
theorem sim_comings {g gz t tz : xk_St} (hR : xr g t) (hi : ∀ e : Nat, e < 4 → xi_co t e) (he : ∀ e : Nat, e < 4 → g (25 + e) 2 = t 12 e) (hU : relzU_followComings g gz) (hM : relzM_allComings t tz) : xr gz tz ∧ (∀ e : Nat, e < 4 → xi_co tz e) ∧ (∀ e : Nat, e < 4 → gz (25 + e) 2 = 0) ∧ (∀ c j : Nat, c ≠ 11 → tz c j = t c j) := by
  obtain ⟨g1, u0, g2, u1, g3, u2, g4, u3, rfl⟩ := hU
  obtain ⟨t1, m0, t2, m1, t3, m2, t4, m3, rfl⟩ := hM
  have R0 := hR
  obtain ⟨R1, i0, k0, f0, p0, z0⟩ := sim_com_0 R0 (hi 0 (by decide)) (he 0 (by decide)) u0 m0
  obtain ⟨R2, i1, k1, f1, p1, z1⟩ := sim_com_1 R1 (by show _ ∨ _; rw [k0 1 (by decide)]; exact hi 1 (by decide)) ((p0 26 2 (by decide)).trans ((he 1 (by decide)).trans (f0 12 1 (by decide)).symm)) u1 m1
  obtain ⟨R3, i2, k2, f2, p2, z2⟩ := sim_com_2 R2 (by show _ ∨ _; rw [k1 2 (by decide), k0 2 (by decide)]; exact hi 2 (by decide)) ((p1 27 2 (by decide)).trans (((p0 27 2 (by decide)).trans ((he 2 (by decide)).trans (f0 12 2 (by decide)).symm)).trans (f1 12 2 (by decide)).symm)) u2 m2
  obtain ⟨R4, i3, k3, f3, p3, z3⟩ := sim_com_3 R3 (by show _ ∨ _; rw [k2 3 (by decide), k1 3 (by decide), k0 3 (by decide)]; exact hi 3 (by decide)) ((p2 28 2 (by decide)).trans (((p1 28 2 (by decide)).trans (((p0 28 2 (by decide)).trans ((he 3 (by decide)).trans (f0 12 3 (by decide)).symm)).trans (f1 12 3 (by decide)).symm)).trans (f2 12 3 (by decide)).symm)) u3 m3
  refine ⟨R4, fun e h => ?_, fun e h => ?_, fun c j hc => by rw [f3 c j hc, f2 c j hc, f1 c j hc, f0 c j hc]⟩
  · rcases (show e = 0 ∨ e = 1 ∨ e = 2 ∨ e = 3 from by omega) with rfl | rfl | rfl | rfl
    · show _ ∨ _
      rw [k3 0 (by decide), k2 0 (by decide), k1 0 (by decide)]; exact i0
    · show _ ∨ _
      rw [k3 1 (by decide), k2 1 (by decide)]; exact i1
    · show _ ∨ _
      rw [k3 2 (by decide)]; exact i2
    · exact i3
  · rcases (show e = 0 ∨ e = 1 ∨ e = 2 ∨ e = 3 from by omega) with rfl | rfl | rfl | rfl
    · exact (p3 25 2 (by decide)).trans ((p2 25 2 (by decide)).trans ((p1 25 2 (by decide)).trans (z0)))
    · exact (p3 26 2 (by decide)).trans ((p2 26 2 (by decide)).trans (z1))
    · exact (p3 27 2 (by decide)).trans (z2)
    · exact z3
