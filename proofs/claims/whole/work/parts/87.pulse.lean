theorem sim_ax_0_p {g gz t tz : xk_St} {B : Nat} (hR : xr g t) (hB : xk_cnt B t) (hB2 : B + 1 < 2147483647) (he : ∀ e : Nat, e < 4 → g (25 + e) 2 = t 12 e) (hU : relzU_countAxle_0_0_p g gz) (hM : relzM_counts_0_0 t 1 tz) : xr gz tz ∧ xk_cnt (B + 2) tz ∧ xm_ok 0 t tz ∧ (∀ e : Nat, e < 4 → gz (25 + e) 2 = tz 12 e) := by
  have ht := frzM_counts_0_0 _ _ _ hM
  have hg := frzU_countAxle_0_0_p _ _ hU
  obtain ⟨x1, n1, ta, n2, x2, n3, tb, n4, tc, n5, td, n6, rfl⟩ := hM
  rw [if_pos rfl] at n1
  rw [if_neg (by decide)] at n3
  rw [if_pos rfl] at n6
  obtain ⟨g1, u1, g2, u2, g3, u3, rfl⟩ := hU
  obtain ⟨te, n7, rfl⟩ := n6
  have R0 : xr g1 t := by rw [u1]; exact xr_ent_0 hR (fun j hj => if_neg hj)
  obtain ⟨R1, B1, M1⟩ := sim_mv_0_ip R0 hB (by omega) (by decide) u2 u3 n1 n2 n3 n4 n5
  have M2 := xm_one (H := 0) M1 (by decide)
  have e1 : tc 12 = t 12 := by rw [frzM_change_0 _ _ _ n5 12 (by decide), n4, xv_ne (by decide), n2, xv_ne (by decide)]
  have e2 : ∀ e : Nat, e < 4 → gz (25 + e) 2 = g1 (25 + e) 2 := fun e h => by rw [frzU_disturbIfMiscounted_0 _ _ u3 (25 + e) (by rcases (show e = 0 ∨ e = 1 ∨ e = 2 ∨ e = 3 from by omega) with rfl | rfl | rfl | rfl <;> decide), u2, xv_ne (by omega)]
  refine ⟨by rw [n7]; exact xr_came R1, by rw [n7]; exact xk_cnt_k (by decide) (xk_cnt_le B1 (by omega)), by rw [n7]; exact ⟨M2.1, M2.2⟩, fun e h => ?_⟩
  rw [e2 e h, n7, u1, xv_eq, e1]
  by_cases q : e = 0
  · subst q; rw [xv_eq]; simp [upd]
  · rw [xv_ne (by omega)]; simp [upd, q]; exact he e h
theorem sim_ax_0_m {g gz t tz : xk_St} {B : Nat} (hR : xr g t) (hB : xk_cnt B t) (hB2 : B + 1 < 2147483647) (he : ∀ e : Nat, e < 4 → g (25 + e) 2 = t 12 e) (hU : relzU_countAxle_0_0_m g gz) (hM : relzM_counts_0_0 t (-1) tz) : xr gz tz ∧ xk_cnt (B + 2) tz ∧ xm_ok 0 t tz ∧ (∀ e : Nat, e < 4 → gz (25 + e) 2 = tz 12 e) := by
  have ht := frzM_counts_0_0 _ _ _ hM
  have hg := frzU_countAxle_0_0_m _ _ hU
  obtain ⟨x1, n1, ta, n2, x2, n3, tb, n4, tc, n5, td, n6, rfl⟩ := hM
  rw [if_neg (by decide)] at n1
  rw [if_pos rfl] at n3
  rw [if_neg (by decide)] at n6
  obtain ⟨g1, u1, g2, u2, rfl⟩ := hU
  subst n6
  obtain ⟨R1, B1, M1⟩ := sim_mv_0_om hR hB (by omega) rfl u1 u2 n1 n2 n3 n4 n5
  refine ⟨R1, xk_cnt_le B1 (by omega), xm_one M1 (by decide), fun e h => ?_⟩
  rw [hg (25 + e) (by rcases (show e = 0 ∨ e = 1 ∨ e = 2 ∨ e = 3 from by omega) with rfl | rfl | rfl | rfl <;> decide), frzM_change_0 _ _ _ n5 12 (by decide), n4, xv_ne (by decide), n2, xv_ne (by decide)]
  exact he e h
theorem sim_ax_1_p {g gz t tz : xk_St} {B : Nat} (hR : xr g t) (hB : xk_cnt B t) (hB2 : B + 1 < 2147483647) (he : ∀ e : Nat, e < 4 → g (25 + e) 2 = t 12 e) (hU : relzU_countAxle_0_1_p g gz) (hM : relzM_counts_0_1 t 1 tz) : xr gz tz ∧ xk_cnt (B + 2) tz ∧ xm_ok 1 t tz ∧ (∀ e : Nat, e < 4 → gz (25 + e) 2 = tz 12 e) := by
  have ht := frzM_counts_0_1 _ _ _ hM
  have hg := frzU_countAxle_0_1_p _ _ hU
  obtain ⟨x1, n1, ta, n2, x2, n3, tb, n4, tc, n5, x3, n6, td, n7, x4, n8, te, n9, tf, n10, rfl⟩ := hM
  rw [if_pos rfl] at n1
  rw [if_neg (by decide)] at n3
  rw [if_pos rfl] at n6
  rw [if_neg (by decide)] at n8
  obtain ⟨g1, u1, g2, u2, g3, u3, g4, u4, rfl⟩ := hU
  obtain ⟨R1, B1, M1⟩ := sim_mv_0_op hR hB (by omega) rfl u1 u2 n1 n2 n3 n4 n5
  obtain ⟨R2, B2, M2⟩ := sim_mv_1_ip R1 B1 (by omega) rfl u3 u4 n6 n7 n8 n9 n10
  exact ⟨R2, B2, xm_two M1 M2 (by decide) (by decide) (by decide), fun e h => by rw [hg (25 + e) (by rcases (show e = 0 ∨ e = 1 ∨ e = 2 ∨ e = 3 from by omega) with rfl | rfl | rfl | rfl <;> decide), ht 12 (by decide)]; exact he e h⟩
theorem sim_ax_1_m {g gz t tz : xk_St} {B : Nat} (hR : xr g t) (hB : xk_cnt B t) (hB2 : B + 1 < 2147483647) (he : ∀ e : Nat, e < 4 → g (25 + e) 2 = t 12 e) (hz : (t 3 0 + 1 < 0 → t 5 0 ≠ 0) ∧ t 3 0 + 1 ≤ 400) (hU : relzU_countAxle_0_1_m g gz) (hM : relzM_counts_0_1 t (-1) tz) : xr gz tz ∧ xk_cnt (B + 2) tz ∧ xm_ok 1 t tz ∧ (∀ e : Nat, e < 4 → gz (25 + e) 2 = tz 12 e) := by
  have ht := frzM_counts_0_1 _ _ _ hM
  have hg := frzU_countAxle_0_1_m _ _ hU
  obtain ⟨x1, n1, ta, n2, x2, n3, tb, n4, tc, n5, x3, n6, td, n7, x4, n8, te, n9, tf, n10, rfl⟩ := hM
  rw [if_neg (by decide)] at n1
  rw [if_pos rfl] at n3
  rw [if_neg (by decide)] at n6
  rw [if_pos rfl] at n8
  obtain ⟨g1, u1, g2, u2, g3, u3, g4, u4, rfl⟩ := hU
  have e1 : g2 19 = g 19 := by rw [frzU_disturbIfMiscounted_1 _ _ u2 19 (by decide), u1, xv_ne (by decide)]
  rw [e1] at u3
  have v1 : (va_up g 19 (upd (upd (upd (g 19) 1 (qzS_countIn_a1 (g 19 1))) 5 (qzS_countIn_a5 (g 19 5) (-1))) 7 (qzS_countIn_a7 (g 19 7) (-1)))) 19 1 = t 3 0 + 1 := by rw [xv_eq, ← hR.b0]; rfl
  have v2 : (va_up g 19 (upd (upd (upd (g 19) 1 (qzS_countIn_a1 (g 19 1))) 5 (qzS_countIn_a5 (g 19 5) (-1))) 7 (qzS_countIn_a7 (g 19 7) (-1)))) 19 3 = t 5 0 := by rw [xv_eq, ← hR.d0]; rfl
  have v3 : (va_up g2 19 (upd (upd (upd (g 19) 1 (qzS_countIn_a1 (g 19 1))) 5 (qzS_countIn_a5 (g 19 5) (-1))) 7 (qzS_countIn_a7 (g 19 7) (-1)))) 19 1 = t 3 0 + 1 := by rw [xv_eq, ← hR.b0]; rfl
  have v4 : (va_up g2 19 (upd (upd (upd (g 19) 1 (qzS_countIn_a1 (g 19 1))) 5 (qzS_countIn_a5 (g 19 5) (-1))) 7 (qzS_countIn_a7 (g 19 7) (-1)))) 19 3 = t 5 0 := by rw [xv_eq, ← hR.d0]; rfl
  have w1 := (xm_noop_0 (g := va_up g 19 (upd (upd (upd (g 19) 1 (qzS_countIn_a1 (g 19 1))) 5 (qzS_countIn_a5 (g 19 5) (-1))) 7 (qzS_countIn_a7 (g 19 7) (-1)))) (by rw [v1, v2]; exact hz.1) (by rw [v1]; exact hz.2) _).mpr rfl
  rw [u3] at u4
  have w2 := (xm_noop_0 (g := va_up g2 19 (upd (upd (upd (g 19) 1 (qzS_countIn_a1 (g 19 1))) 5 (qzS_countIn_a5 (g 19 5) (-1))) 7 (qzS_countIn_a7 (g 19 7) (-1)))) (by rw [v3, v4]; exact hz.1) (by rw [v3]; exact hz.2) _).mp u4
  have w3 := xm_com_1 (upd (upd (upd (g 19) 1 (qzS_countIn_a1 (g 19 1))) 5 (qzS_countIn_a5 (g 19 5) (-1))) 7 (qzS_countIn_a7 (g 19 7) (-1))) u2
  rw [← w2, u1, xv_swap (by decide)] at w3
  obtain ⟨R1, B1, M1⟩ := sim_mv_0_im hR hB (by omega) (by decide) rfl w1 n1 n2 n3 n4 n5
  obtain ⟨R2, B2, M2⟩ := sim_mv_1_om R1 B1 (by omega) rfl (by rw [xv_ne (by decide)]) w3 n6 n7 n8 n9 n10
  exact ⟨R2, B2, xm_two M1 M2 (by decide) (by decide) (by decide), fun e h => by rw [hg (25 + e) (by rcases (show e = 0 ∨ e = 1 ∨ e = 2 ∨ e = 3 from by omega) with rfl | rfl | rfl | rfl <;> decide), ht 12 (by decide)]; exact he e h⟩
theorem sim_ax_2_p {g gz t tz : xk_St} {B : Nat} (hR : xr g t) (hB : xk_cnt B t) (hB2 : B + 1 < 2147483647) (he : ∀ e : Nat, e < 4 → g (25 + e) 2 = t 12 e) (hU : relzU_countAxle_0_2_p g gz) (hM : relzM_counts_0_2 t 1 tz) : xr gz tz ∧ xk_cnt (B + 2) tz ∧ xm_ok 2 t tz ∧ (∀ e : Nat, e < 4 → gz (25 + e) 2 = tz 12 e) := by
  have ht := frzM_counts_0_2 _ _ _ hM
  have hg := frzU_countAxle_0_2_p _ _ hU
  obtain ⟨x1, n1, ta, n2, x2, n3, tb, n4, tc, n5, x3, n6, td, n7, x4, n8, te, n9, tf, n10, rfl⟩ := hM
  rw [if_pos rfl] at n1
  rw [if_neg (by decide)] at n3
  rw [if_pos rfl] at n6
  rw [if_neg (by decide)] at n8
  obtain ⟨g1, u1, g2, u2, g3, u3, g4, u4, rfl⟩ := hU
  obtain ⟨R1, B1, M1⟩ := sim_mv_1_op hR hB (by omega) rfl u1 u2 n1 n2 n3 n4 n5
  obtain ⟨R2, B2, M2⟩ := sim_mv_2_ip R1 B1 (by omega) rfl u3 u4 n6 n7 n8 n9 n10
  exact ⟨R2, B2, xm_two M1 M2 (by decide) (by decide) (by decide), fun e h => by rw [hg (25 + e) (by rcases (show e = 0 ∨ e = 1 ∨ e = 2 ∨ e = 3 from by omega) with rfl | rfl | rfl | rfl <;> decide), ht 12 (by decide)]; exact he e h⟩
theorem sim_ax_2_m {g gz t tz : xk_St} {B : Nat} (hR : xr g t) (hB : xk_cnt B t) (hB2 : B + 1 < 2147483647) (he : ∀ e : Nat, e < 4 → g (25 + e) 2 = t 12 e) (hz : (t 3 1 + 1 < 0 → t 5 1 ≠ 0) ∧ t 3 1 + 1 ≤ 400) (hU : relzU_countAxle_0_2_m g gz) (hM : relzM_counts_0_2 t (-1) tz) : xr gz tz ∧ xk_cnt (B + 2) tz ∧ xm_ok 2 t tz ∧ (∀ e : Nat, e < 4 → gz (25 + e) 2 = tz 12 e) := by
  have ht := frzM_counts_0_2 _ _ _ hM
  have hg := frzU_countAxle_0_2_m _ _ hU
  obtain ⟨x1, n1, ta, n2, x2, n3, tb, n4, tc, n5, x3, n6, td, n7, x4, n8, te, n9, tf, n10, rfl⟩ := hM
  rw [if_neg (by decide)] at n1
  rw [if_pos rfl] at n3
  rw [if_neg (by decide)] at n6
  rw [if_pos rfl] at n8
  obtain ⟨g1, u1, g2, u2, g3, u3, g4, u4, rfl⟩ := hU
  have e1 : g2 20 = g 20 := by rw [frzU_disturbIfMiscounted_2 _ _ u2 20 (by decide), u1, xv_ne (by decide)]
  rw [e1] at u3
  have v1 : (va_up g 20 (upd (upd (upd (g 20) 1 (qzS_countIn_a1 (g 20 1))) 5 (qzS_countIn_a5 (g 20 5) (-1))) 7 (qzS_countIn_a7 (g 20 7) (-1)))) 20 1 = t 3 1 + 1 := by rw [xv_eq, ← hR.b1]; rfl
  have v2 : (va_up g 20 (upd (upd (upd (g 20) 1 (qzS_countIn_a1 (g 20 1))) 5 (qzS_countIn_a5 (g 20 5) (-1))) 7 (qzS_countIn_a7 (g 20 7) (-1)))) 20 3 = t 5 1 := by rw [xv_eq, ← hR.d1]; rfl
  have v3 : (va_up g2 20 (upd (upd (upd (g 20) 1 (qzS_countIn_a1 (g 20 1))) 5 (qzS_countIn_a5 (g 20 5) (-1))) 7 (qzS_countIn_a7 (g 20 7) (-1)))) 20 1 = t 3 1 + 1 := by rw [xv_eq, ← hR.b1]; rfl
  have v4 : (va_up g2 20 (upd (upd (upd (g 20) 1 (qzS_countIn_a1 (g 20 1))) 5 (qzS_countIn_a5 (g 20 5) (-1))) 7 (qzS_countIn_a7 (g 20 7) (-1)))) 20 3 = t 5 1 := by rw [xv_eq, ← hR.d1]; rfl
  have w1 := (xm_noop_1 (g := va_up g 20 (upd (upd (upd (g 20) 1 (qzS_countIn_a1 (g 20 1))) 5 (qzS_countIn_a5 (g 20 5) (-1))) 7 (qzS_countIn_a7 (g 20 7) (-1)))) (by rw [v1, v2]; exact hz.1) (by rw [v1]; exact hz.2) _).mpr rfl
  rw [u3] at u4
  have w2 := (xm_noop_1 (g := va_up g2 20 (upd (upd (upd (g 20) 1 (qzS_countIn_a1 (g 20 1))) 5 (qzS_countIn_a5 (g 20 5) (-1))) 7 (qzS_countIn_a7 (g 20 7) (-1)))) (by rw [v3, v4]; exact hz.1) (by rw [v3]; exact hz.2) _).mp u4
  have w3 := xm_com_2 (upd (upd (upd (g 20) 1 (qzS_countIn_a1 (g 20 1))) 5 (qzS_countIn_a5 (g 20 5) (-1))) 7 (qzS_countIn_a7 (g 20 7) (-1))) u2
  rw [← w2, u1, xv_swap (by decide)] at w3
  obtain ⟨R1, B1, M1⟩ := sim_mv_1_im hR hB (by omega) (by decide) rfl w1 n1 n2 n3 n4 n5
  obtain ⟨R2, B2, M2⟩ := sim_mv_2_om R1 B1 (by omega) rfl (by rw [xv_ne (by decide)]) w3 n6 n7 n8 n9 n10
  exact ⟨R2, B2, xm_two M1 M2 (by decide) (by decide) (by decide), fun e h => by rw [hg (25 + e) (by rcases (show e = 0 ∨ e = 1 ∨ e = 2 ∨ e = 3 from by omega) with rfl | rfl | rfl | rfl <;> decide), ht 12 (by decide)]; exact he e h⟩
theorem sim_ax_3_p {g gz t tz : xk_St} {B : Nat} (hR : xr g t) (hB : xk_cnt B t) (hB2 : B + 1 < 2147483647) (he : ∀ e : Nat, e < 4 → g (25 + e) 2 = t 12 e) (hU : relzU_countAxle_0_3_p g gz) (hM : relzM_counts_0_3 t 1 tz) : xr gz tz ∧ xk_cnt (B + 2) tz ∧ xm_ok 3 t tz ∧ (∀ e : Nat, e < 4 → gz (25 + e) 2 = tz 12 e) := by
  have ht := frzM_counts_0_3 _ _ _ hM
  have hg := frzU_countAxle_0_3_p _ _ hU
  obtain ⟨x1, n1, ta, n2, x2, n3, tb, n4, tc, n5, td, n6, rfl⟩ := hM
  rw [if_pos rfl] at n1
  rw [if_neg (by decide)] at n3
  rw [if_neg (by decide)] at n6
  obtain ⟨g1, u1, g2, u2, rfl⟩ := hU
  subst n6
  obtain ⟨R1, B1, M1⟩ := sim_mv_2_op hR hB (by omega) rfl u1 u2 n1 n2 n3 n4 n5
  refine ⟨R1, xk_cnt_le B1 (by omega), xm_one M1 (by decide), fun e h => ?_⟩
  rw [hg (25 + e) (by rcases (show e = 0 ∨ e = 1 ∨ e = 2 ∨ e = 3 from by omega) with rfl | rfl | rfl | rfl <;> decide), frzM_change_2 _ _ _ n5 12 (by decide), n4, xv_ne (by decide), n2, xv_ne (by decide)]
  exact he e h
theorem sim_ax_3_m {g gz t tz : xk_St} {B : Nat} (hR : xr g t) (hB : xk_cnt B t) (hB2 : B + 1 < 2147483647) (he : ∀ e : Nat, e < 4 → g (25 + e) 2 = t 12 e) (hz : (t 3 2 + 1 < 0 → t 5 2 ≠ 0) ∧ t 3 2 + 1 ≤ 400) (hU : relzU_countAxle_0_3_m g gz) (hM : relzM_counts_0_3 t (-1) tz) : xr gz tz ∧ xk_cnt (B + 2) tz ∧ xm_ok 3 t tz ∧ (∀ e : Nat, e < 4 → gz (25 + e) 2 = tz 12 e) := by
  have ht := frzM_counts_0_3 _ _ _ hM
  have hg := frzU_countAxle_0_3_m _ _ hU
  obtain ⟨x1, n1, ta, n2, x2, n3, tb, n4, tc, n5, td, n6, rfl⟩ := hM
  rw [if_neg (by decide)] at n1
  rw [if_pos rfl] at n3
  rw [if_pos rfl] at n6
  obtain ⟨g1, u1, g2, u2, g3, u3, rfl⟩ := hU
  obtain ⟨te, n7, rfl⟩ := n6
  have R0 : xr g1 t := by rw [u1]; exact xr_ent_1 hR (fun j hj => if_neg hj)
  obtain ⟨R1, B1, M1⟩ := sim_mv_2_im R0 hB (by omega) (by decide) u2 u3 n1 n2 n3 n4 n5
  have M2 := xm_one (H := 3) M1 (by decide)
  have e1 : tc 12 = t 12 := by rw [frzM_change_2 _ _ _ n5 12 (by decide), n4, xv_ne (by decide), n2, xv_ne (by decide)]
  have e2 : ∀ e : Nat, e < 4 → gz (25 + e) 2 = g1 (25 + e) 2 := fun e h => by rw [frzU_disturbIfMiscounted_2 _ _ u3 (25 + e) (by rcases (show e = 0 ∨ e = 1 ∨ e = 2 ∨ e = 3 from by omega) with rfl | rfl | rfl | rfl <;> decide), u2, xv_ne (by omega)]
  refine ⟨by rw [n7]; exact xr_came R1, by rw [n7]; exact xk_cnt_k (by decide) (xk_cnt_le B1 (by omega)), by rw [n7]; exact ⟨M2.1, M2.2⟩, fun e h => ?_⟩
  rw [e2 e h, n7, u1, xv_eq, e1]
  by_cases q : e = 1
  · subst q; rw [xv_eq]; simp [upd]
  · rw [xv_ne (by omega)]; simp [upd, q]; exact he e h
theorem sim_ax_4_p {g gz t tz : xk_St} {B : Nat} (hR : xr g t) (hB : xk_cnt B t) (hB2 : B + 1 < 2147483647) (he : ∀ e : Nat, e < 4 → g (25 + e) 2 = t 12 e) (hU : relzU_countAxle_1_0_p g gz) (hM : relzM_counts_1_0 t 1 tz) : xr gz tz ∧ xk_cnt (B + 2) tz ∧ xm_ok 4 t tz ∧ (∀ e : Nat, e < 4 → gz (25 + e) 2 = tz 12 e) := by
  have ht := frzM_counts_1_0 _ _ _ hM
  have hg := frzU_countAxle_1_0_p _ _ hU
  obtain ⟨x1, n1, ta, n2, x2, n3, tb, n4, tc, n5, td, n6, rfl⟩ := hM
  rw [if_pos rfl] at n1
  rw [if_neg (by decide)] at n3
  rw [if_pos rfl] at n6
  obtain ⟨g1, u1, g2, u2, g3, u3, rfl⟩ := hU
  obtain ⟨te, n7, rfl⟩ := n6
  have R0 : xr g1 t := by rw [u1]; exact xr_ent_2 hR (fun j hj => if_neg hj)
  obtain ⟨R1, B1, M1⟩ := sim_mv_3_ip R0 hB (by omega) (by decide) u2 u3 n1 n2 n3 n4 n5
  have M2 := xm_one (H := 4) M1 (by decide)
  have e1 : tc 12 = t 12 := by rw [frzM_change_3 _ _ _ n5 12 (by decide), n4, xv_ne (by decide), n2, xv_ne (by decide)]
  have e2 : ∀ e : Nat, e < 4 → gz (25 + e) 2 = g1 (25 + e) 2 := fun e h => by rw [frzU_disturbIfMiscounted_3 _ _ u3 (25 + e) (by rcases (show e = 0 ∨ e = 1 ∨ e = 2 ∨ e = 3 from by omega) with rfl | rfl | rfl | rfl <;> decide), u2, xv_ne (by omega)]
  refine ⟨by rw [n7]; exact xr_came R1, by rw [n7]; exact xk_cnt_k (by decide) (xk_cnt_le B1 (by omega)), by rw [n7]; exact ⟨M2.1, M2.2⟩, fun e h => ?_⟩
  rw [e2 e h, n7, u1, xv_eq, e1]
  by_cases q : e = 2
  · subst q; rw [xv_eq]; simp [upd]
  · rw [xv_ne (by omega)]; simp [upd, q]; exact he e h
theorem sim_ax_4_m {g gz t tz : xk_St} {B : Nat} (hR : xr g t) (hB : xk_cnt B t) (hB2 : B + 1 < 2147483647) (he : ∀ e : Nat, e < 4 → g (25 + e) 2 = t 12 e) (hU : relzU_countAxle_1_0_m g gz) (hM : relzM_counts_1_0 t (-1) tz) : xr gz tz ∧ xk_cnt (B + 2) tz ∧ xm_ok 4 t tz ∧ (∀ e : Nat, e < 4 → gz (25 + e) 2 = tz 12 e) := by
  have ht := frzM_counts_1_0 _ _ _ hM
  have hg := frzU_countAxle_1_0_m _ _ hU
  obtain ⟨x1, n1, ta, n2, x2, n3, tb, n4, tc, n5, td, n6, rfl⟩ := hM
  rw [if_neg (by decide)] at n1
  rw [if_pos rfl] at n3
  rw [if_neg (by decide)] at n6
  obtain ⟨g1, u1, g2, u2, rfl⟩ := hU
  subst n6
  obtain ⟨R1, B1, M1⟩ := sim_mv_3_om hR hB (by omega) rfl u1 u2 n1 n2 n3 n4 n5
  refine ⟨R1, xk_cnt_le B1 (by omega), xm_one M1 (by decide), fun e h => ?_⟩
  rw [hg (25 + e) (by rcases (show e = 0 ∨ e = 1 ∨ e = 2 ∨ e = 3 from by omega) with rfl | rfl | rfl | rfl <;> decide), frzM_change_3 _ _ _ n5 12 (by decide), n4, xv_ne (by decide), n2, xv_ne (by decide)]
  exact he e h
theorem sim_ax_5_p {g gz t tz : xk_St} {B : Nat} (hR : xr g t) (hB : xk_cnt B t) (hB2 : B + 1 < 2147483647) (he : ∀ e : Nat, e < 4 → g (25 + e) 2 = t 12 e) (hU : relzU_countAxle_1_1_p g gz) (hM : relzM_counts_1_1 t 1 tz) : xr gz tz ∧ xk_cnt (B + 2) tz ∧ xm_ok 5 t tz ∧ (∀ e : Nat, e < 4 → gz (25 + e) 2 = tz 12 e) := by
  have ht := frzM_counts_1_1 _ _ _ hM
  have hg := frzU_countAxle_1_1_p _ _ hU
  obtain ⟨x1, n1, ta, n2, x2, n3, tb, n4, tc, n5, x3, n6, td, n7, x4, n8, te, n9, tf, n10, rfl⟩ := hM
  rw [if_pos rfl] at n1
  rw [if_neg (by decide)] at n3
  rw [if_pos rfl] at n6
  rw [if_neg (by decide)] at n8
  obtain ⟨g1, u1, g2, u2, g3, u3, g4, u4, rfl⟩ := hU
  obtain ⟨R1, B1, M1⟩ := sim_mv_3_op hR hB (by omega) rfl u1 u2 n1 n2 n3 n4 n5
  obtain ⟨R2, B2, M2⟩ := sim_mv_4_ip R1 B1 (by omega) rfl u3 u4 n6 n7 n8 n9 n10
  exact ⟨R2, B2, xm_two M1 M2 (by decide) (by decide) (by decide), fun e h => by rw [hg (25 + e) (by rcases (show e = 0 ∨ e = 1 ∨ e = 2 ∨ e = 3 from by omega) with rfl | rfl | rfl | rfl <;> decide), ht 12 (by decide)]; exact he e h⟩
theorem sim_ax_5_m {g gz t tz : xk_St} {B : Nat} (hR : xr g t) (hB : xk_cnt B t) (hB2 : B + 1 < 2147483647) (he : ∀ e : Nat, e < 4 → g (25 + e) 2 = t 12 e) (hz : (t 3 3 + 1 < 0 → t 5 3 ≠ 0) ∧ t 3 3 + 1 ≤ 400) (hU : relzU_countAxle_1_1_m g gz) (hM : relzM_counts_1_1 t (-1) tz) : xr gz tz ∧ xk_cnt (B + 2) tz ∧ xm_ok 5 t tz ∧ (∀ e : Nat, e < 4 → gz (25 + e) 2 = tz 12 e) := by
  have ht := frzM_counts_1_1 _ _ _ hM
  have hg := frzU_countAxle_1_1_m _ _ hU
  obtain ⟨x1, n1, ta, n2, x2, n3, tb, n4, tc, n5, x3, n6, td, n7, x4, n8, te, n9, tf, n10, rfl⟩ := hM
  rw [if_neg (by decide)] at n1
  rw [if_pos rfl] at n3
  rw [if_neg (by decide)] at n6
  rw [if_pos rfl] at n8
  obtain ⟨g1, u1, g2, u2, g3, u3, g4, u4, rfl⟩ := hU
  have e1 : g2 22 = g 22 := by rw [frzU_disturbIfMiscounted_4 _ _ u2 22 (by decide), u1, xv_ne (by decide)]
  rw [e1] at u3
  have v1 : (va_up g 22 (upd (upd (upd (g 22) 1 (qzS_countIn_a1 (g 22 1))) 5 (qzS_countIn_a5 (g 22 5) (-1))) 7 (qzS_countIn_a7 (g 22 7) (-1)))) 22 1 = t 3 3 + 1 := by rw [xv_eq, ← hR.b3]; rfl
  have v2 : (va_up g 22 (upd (upd (upd (g 22) 1 (qzS_countIn_a1 (g 22 1))) 5 (qzS_countIn_a5 (g 22 5) (-1))) 7 (qzS_countIn_a7 (g 22 7) (-1)))) 22 3 = t 5 3 := by rw [xv_eq, ← hR.d3]; rfl
  have v3 : (va_up g2 22 (upd (upd (upd (g 22) 1 (qzS_countIn_a1 (g 22 1))) 5 (qzS_countIn_a5 (g 22 5) (-1))) 7 (qzS_countIn_a7 (g 22 7) (-1)))) 22 1 = t 3 3 + 1 := by rw [xv_eq, ← hR.b3]; rfl
  have v4 : (va_up g2 22 (upd (upd (upd (g 22) 1 (qzS_countIn_a1 (g 22 1))) 5 (qzS_countIn_a5 (g 22 5) (-1))) 7 (qzS_countIn_a7 (g 22 7) (-1)))) 22 3 = t 5 3 := by rw [xv_eq, ← hR.d3]; rfl
  have w1 := (xm_noop_3 (g := va_up g 22 (upd (upd (upd (g 22) 1 (qzS_countIn_a1 (g 22 1))) 5 (qzS_countIn_a5 (g 22 5) (-1))) 7 (qzS_countIn_a7 (g 22 7) (-1)))) (by rw [v1, v2]; exact hz.1) (by rw [v1]; exact hz.2) _).mpr rfl
  rw [u3] at u4
  have w2 := (xm_noop_3 (g := va_up g2 22 (upd (upd (upd (g 22) 1 (qzS_countIn_a1 (g 22 1))) 5 (qzS_countIn_a5 (g 22 5) (-1))) 7 (qzS_countIn_a7 (g 22 7) (-1)))) (by rw [v3, v4]; exact hz.1) (by rw [v3]; exact hz.2) _).mp u4
  have w3 := xm_com_4 (upd (upd (upd (g 22) 1 (qzS_countIn_a1 (g 22 1))) 5 (qzS_countIn_a5 (g 22 5) (-1))) 7 (qzS_countIn_a7 (g 22 7) (-1))) u2
  rw [← w2, u1, xv_swap (by decide)] at w3
  obtain ⟨R1, B1, M1⟩ := sim_mv_3_im hR hB (by omega) (by decide) rfl w1 n1 n2 n3 n4 n5
  obtain ⟨R2, B2, M2⟩ := sim_mv_4_om R1 B1 (by omega) rfl (by rw [xv_ne (by decide)]) w3 n6 n7 n8 n9 n10
  exact ⟨R2, B2, xm_two M1 M2 (by decide) (by decide) (by decide), fun e h => by rw [hg (25 + e) (by rcases (show e = 0 ∨ e = 1 ∨ e = 2 ∨ e = 3 from by omega) with rfl | rfl | rfl | rfl <;> decide), ht 12 (by decide)]; exact he e h⟩
theorem sim_ax_6_p {g gz t tz : xk_St} {B : Nat} (hR : xr g t) (hB : xk_cnt B t) (hB2 : B + 1 < 2147483647) (he : ∀ e : Nat, e < 4 → g (25 + e) 2 = t 12 e) (hU : relzU_countAxle_1_2_p g gz) (hM : relzM_counts_1_2 t 1 tz) : xr gz tz ∧ xk_cnt (B + 2) tz ∧ xm_ok 6 t tz ∧ (∀ e : Nat, e < 4 → gz (25 + e) 2 = tz 12 e) := by
  have ht := frzM_counts_1_2 _ _ _ hM
  have hg := frzU_countAxle_1_2_p _ _ hU
  obtain ⟨x1, n1, ta, n2, x2, n3, tb, n4, tc, n5, x3, n6, td, n7, x4, n8, te, n9, tf, n10, rfl⟩ := hM
  rw [if_pos rfl] at n1
  rw [if_neg (by decide)] at n3
  rw [if_pos rfl] at n6
  rw [if_neg (by decide)] at n8
  obtain ⟨g1, u1, g2, u2, g3, u3, g4, u4, rfl⟩ := hU
  obtain ⟨R1, B1, M1⟩ := sim_mv_4_op hR hB (by omega) rfl u1 u2 n1 n2 n3 n4 n5
  obtain ⟨R2, B2, M2⟩ := sim_mv_5_ip R1 B1 (by omega) rfl u3 u4 n6 n7 n8 n9 n10
  exact ⟨R2, B2, xm_two M1 M2 (by decide) (by decide) (by decide), fun e h => by rw [hg (25 + e) (by rcases (show e = 0 ∨ e = 1 ∨ e = 2 ∨ e = 3 from by omega) with rfl | rfl | rfl | rfl <;> decide), ht 12 (by decide)]; exact he e h⟩
theorem sim_ax_6_m {g gz t tz : xk_St} {B : Nat} (hR : xr g t) (hB : xk_cnt B t) (hB2 : B + 1 < 2147483647) (he : ∀ e : Nat, e < 4 → g (25 + e) 2 = t 12 e) (hz : (t 3 4 + 1 < 0 → t 5 4 ≠ 0) ∧ t 3 4 + 1 ≤ 400) (hU : relzU_countAxle_1_2_m g gz) (hM : relzM_counts_1_2 t (-1) tz) : xr gz tz ∧ xk_cnt (B + 2) tz ∧ xm_ok 6 t tz ∧ (∀ e : Nat, e < 4 → gz (25 + e) 2 = tz 12 e) := by
  have ht := frzM_counts_1_2 _ _ _ hM
  have hg := frzU_countAxle_1_2_m _ _ hU
  obtain ⟨x1, n1, ta, n2, x2, n3, tb, n4, tc, n5, x3, n6, td, n7, x4, n8, te, n9, tf, n10, rfl⟩ := hM
  rw [if_neg (by decide)] at n1
  rw [if_pos rfl] at n3
  rw [if_neg (by decide)] at n6
  rw [if_pos rfl] at n8
  obtain ⟨g1, u1, g2, u2, g3, u3, g4, u4, rfl⟩ := hU
  have e1 : g2 23 = g 23 := by rw [frzU_disturbIfMiscounted_5 _ _ u2 23 (by decide), u1, xv_ne (by decide)]
  rw [e1] at u3
  have v1 : (va_up g 23 (upd (upd (upd (g 23) 1 (qzS_countIn_a1 (g 23 1))) 5 (qzS_countIn_a5 (g 23 5) (-1))) 7 (qzS_countIn_a7 (g 23 7) (-1)))) 23 1 = t 3 4 + 1 := by rw [xv_eq, ← hR.b4]; rfl
  have v2 : (va_up g 23 (upd (upd (upd (g 23) 1 (qzS_countIn_a1 (g 23 1))) 5 (qzS_countIn_a5 (g 23 5) (-1))) 7 (qzS_countIn_a7 (g 23 7) (-1)))) 23 3 = t 5 4 := by rw [xv_eq, ← hR.d4]; rfl
  have v3 : (va_up g2 23 (upd (upd (upd (g 23) 1 (qzS_countIn_a1 (g 23 1))) 5 (qzS_countIn_a5 (g 23 5) (-1))) 7 (qzS_countIn_a7 (g 23 7) (-1)))) 23 1 = t 3 4 + 1 := by rw [xv_eq, ← hR.b4]; rfl
  have v4 : (va_up g2 23 (upd (upd (upd (g 23) 1 (qzS_countIn_a1 (g 23 1))) 5 (qzS_countIn_a5 (g 23 5) (-1))) 7 (qzS_countIn_a7 (g 23 7) (-1)))) 23 3 = t 5 4 := by rw [xv_eq, ← hR.d4]; rfl
  have w1 := (xm_noop_4 (g := va_up g 23 (upd (upd (upd (g 23) 1 (qzS_countIn_a1 (g 23 1))) 5 (qzS_countIn_a5 (g 23 5) (-1))) 7 (qzS_countIn_a7 (g 23 7) (-1)))) (by rw [v1, v2]; exact hz.1) (by rw [v1]; exact hz.2) _).mpr rfl
  rw [u3] at u4
  have w2 := (xm_noop_4 (g := va_up g2 23 (upd (upd (upd (g 23) 1 (qzS_countIn_a1 (g 23 1))) 5 (qzS_countIn_a5 (g 23 5) (-1))) 7 (qzS_countIn_a7 (g 23 7) (-1)))) (by rw [v3, v4]; exact hz.1) (by rw [v3]; exact hz.2) _).mp u4
  have w3 := xm_com_5 (upd (upd (upd (g 23) 1 (qzS_countIn_a1 (g 23 1))) 5 (qzS_countIn_a5 (g 23 5) (-1))) 7 (qzS_countIn_a7 (g 23 7) (-1))) u2
  rw [← w2, u1, xv_swap (by decide)] at w3
  obtain ⟨R1, B1, M1⟩ := sim_mv_4_im hR hB (by omega) (by decide) rfl w1 n1 n2 n3 n4 n5
  obtain ⟨R2, B2, M2⟩ := sim_mv_5_om R1 B1 (by omega) rfl (by rw [xv_ne (by decide)]) w3 n6 n7 n8 n9 n10
  exact ⟨R2, B2, xm_two M1 M2 (by decide) (by decide) (by decide), fun e h => by rw [hg (25 + e) (by rcases (show e = 0 ∨ e = 1 ∨ e = 2 ∨ e = 3 from by omega) with rfl | rfl | rfl | rfl <;> decide), ht 12 (by decide)]; exact he e h⟩
theorem sim_ax_7_p {g gz t tz : xk_St} {B : Nat} (hR : xr g t) (hB : xk_cnt B t) (hB2 : B + 1 < 2147483647) (he : ∀ e : Nat, e < 4 → g (25 + e) 2 = t 12 e) (hU : relzU_countAxle_1_3_p g gz) (hM : relzM_counts_1_3 t 1 tz) : xr gz tz ∧ xk_cnt (B + 2) tz ∧ xm_ok 7 t tz ∧ (∀ e : Nat, e < 4 → gz (25 + e) 2 = tz 12 e) := by
  have ht := frzM_counts_1_3 _ _ _ hM
  have hg := frzU_countAxle_1_3_p _ _ hU
  obtain ⟨x1, n1, ta, n2, x2, n3, tb, n4, tc, n5, td, n6, rfl⟩ := hM
  rw [if_pos rfl] at n1
  rw [if_neg (by decide)] at n3
  rw [if_neg (by decide)] at n6
  obtain ⟨g1, u1, g2, u2, rfl⟩ := hU
  subst n6
  obtain ⟨R1, B1, M1⟩ := sim_mv_5_op hR hB (by omega) rfl u1 u2 n1 n2 n3 n4 n5
  refine ⟨R1, xk_cnt_le B1 (by omega), xm_one M1 (by decide), fun e h => ?_⟩
  rw [hg (25 + e) (by rcases (show e = 0 ∨ e = 1 ∨ e = 2 ∨ e = 3 from by omega) with rfl | rfl | rfl | rfl <;> decide), frzM_change_5 _ _ _ n5 12 (by decide), n4, xv_ne (by decide), n2, xv_ne (by decide)]
  exact he e h
theorem sim_ax_7_m {g gz t tz : xk_St} {B : Nat} (hR : xr g t) (hB : xk_cnt B t) (hB2 : B + 1 < 2147483647) (he : ∀ e : Nat, e < 4 → g (25 + e) 2 = t 12 e) (hz : (t 3 5 + 1 < 0 → t 5 5 ≠ 0) ∧ t 3 5 + 1 ≤ 400) (hU : relzU_countAxle_1_3_m g gz) (hM : relzM_counts_1_3 t (-1) tz) : xr gz tz ∧ xk_cnt (B + 2) tz ∧ xm_ok 7 t tz ∧ (∀ e : Nat, e < 4 → gz (25 + e) 2 = tz 12 e) := by
  have ht := frzM_counts_1_3 _ _ _ hM
  have hg := frzU_countAxle_1_3_m _ _ hU
  obtain ⟨x1, n1, ta, n2, x2, n3, tb, n4, tc, n5, td, n6, rfl⟩ := hM
  rw [if_neg (by decide)] at n1
  rw [if_pos rfl] at n3
  rw [if_pos rfl] at n6
  obtain ⟨g1, u1, g2, u2, g3, u3, rfl⟩ := hU
  obtain ⟨te, n7, rfl⟩ := n6
  have R0 : xr g1 t := by rw [u1]; exact xr_ent_3 hR (fun j hj => if_neg hj)
  obtain ⟨R1, B1, M1⟩ := sim_mv_5_im R0 hB (by omega) (by decide) u2 u3 n1 n2 n3 n4 n5
  have M2 := xm_one (H := 7) M1 (by decide)
  have e1 : tc 12 = t 12 := by rw [frzM_change_5 _ _ _ n5 12 (by decide), n4, xv_ne (by decide), n2, xv_ne (by decide)]
  have e2 : ∀ e : Nat, e < 4 → gz (25 + e) 2 = g1 (25 + e) 2 := fun e h => by rw [frzU_disturbIfMiscounted_5 _ _ u3 (25 + e) (by rcases (show e = 0 ∨ e = 1 ∨ e = 2 ∨ e = 3 from by omega) with rfl | rfl | rfl | rfl <;> decide), u2, xv_ne (by omega)]
  refine ⟨by rw [n7]; exact xr_came R1, by rw [n7]; exact xk_cnt_k (by decide) (xk_cnt_le B1 (by omega)), by rw [n7]; exact ⟨M2.1, M2.2⟩, fun e h => ?_⟩
  rw [e2 e h, n7, u1, xv_eq, e1]
  by_cases q : e = 3
  · subst q; rw [xv_eq]; simp [upd]
  · rw [xv_ne (by omega)]; simp [upd, q]; exact he e h
theorem sim_head_0 {g g1 gz t t1 tz : xk_St} {B : Nat} {W : Int} (hR : xr g t) (hB : xk_cnt B t) (hB2 : B + 1 < 2147483647) (hW : W ≤ 1100) (hq : xi_pl W t) (hp : xk_p (t 1 0)) (he : ∀ e : Nat, e < 4 → g (25 + e) 2 = t 12 e)
    (u1 : g1 = va_up g 15 (qzK_takePulse_0_b (g 15))) (u2 : if (qzK_takePulse_0 (g 15)) = 0 then (gz = g1) else (if ((g1 17) 0) = 0 then (gz = g1) else (if (qzK_takePulse_0 (g 15)) = 1 then (∃ (g2 : xk_St), relzU_countAxle_0_0_p g1 g2 ∧ (gz = g2)) else (∃ (g3 : xk_St), relzU_countAxle_0_0_m g1 g3 ∧ (gz = g3)))))
    (m1 : t1 = va_up t 1 (upd (t 1) 0 0)) (m2 : if ((t 1) 0) = 0 then (tz = t1) else (if ((t1 2) 0) = 0 then (∃ (g12 : xk_St), relzM_counts_0_0 t1 ((t 1) 0) g12 ∧ (tz = g12)) else (tz = t1))) :
    xr gz tz ∧ xk_cnt (B + 2) tz ∧ xi_pl W tz ∧ (∀ e : Nat, e < 4 → gz (25 + e) 2 = tz 12 e) ∧ tz 1 = upd (t 1) 0 0 := by
  have R1 : xr g1 t1 := by
    subst u1; subst m1
    exact xr.mk hR.b0 hR.a0 hR.d0 hR.k0 hR.b1 hR.a1 hR.d1 hR.k1 hR.b2 hR.a2 hR.d2 hR.k2 hR.b3 hR.a3 hR.d3 hR.k3 hR.b4 hR.a4 hR.d4 hR.k4 hR.b5 hR.a5 hR.d5 hR.k5 (by simp [va_up, upd, hR.p0, qzK_takePulse_0_b]) (by simp [va_up, upd, hR.p1, qzK_takePulse_0_b]) (by simp [va_up, upd, hR.p2, qzK_takePulse_0_b]) (by simp [va_up, upd, hR.p3, qzK_takePulse_0_b]) hR.p4 hR.p5 hR.p6 hR.p7 hR.c0 hR.c1 hR.c2 hR.c3 hR.o0 hR.s0 hR.o1 hR.s1 hR.po0 hR.pb0 hR.mo0 hR.ze0 hR.st0 hR.al0 hR.po1 hR.pb1 hR.mo1 hR.ze1 hR.st1 hR.al1 hR.li0 hR.de0 hR.da0 hR.li1 hR.de1 hR.da1 hR.li2 hR.de2 hR.da2 hR.step hR.age hR.quiet hR.many hR.time hR.night hR.bell hR.h0 hR.h1 hR.h2 hR.h3 hR.h4 hR.h5 hR.h6 hR.h7 hR.nc0 hR.nc1 hR.nc2 hR.i0 hR.j0 hR.m0 hR.n0 hR.i1 hR.j1 hR.m1 hR.n1 hR.i2 hR.j2 hR.m2 hR.n2 hR.i3 hR.j3 hR.m3 hR.n3 hR.i4 hR.j4 hR.m4 hR.n4 hR.i5 hR.j5 hR.m5 hR.n5 hR.nu0 hR.nu1 hR.nu2 hR.nu3 hR.nu4 hR.nu5 hR.jt hR.jk hR.jw hR.yh0 hR.yh1 hR.yh2 hR.yh3 hR.yh4 hR.yh5 hR.yh6 hR.yh7 hR.yc0 hR.yc1 hR.yc2 hR.yo0 hR.yo1
  have e1 : t1 1 = upd (t 1) 0 0 := by rw [m1]; rfl
  have e3 : t1 3 = t 3 := by rw [m1]; rfl
  have e5 : t1 5 = t 5 := by rw [m1]; rfl
  have B1 : xk_cnt B t1 := by rw [m1]; exact xk_cnt_k (by decide) hB
  have E1 : ∀ e : Nat, e < 4 → g1 (25 + e) 2 = t1 12 e := fun e h => by rw [u1, m1, xv_ne (by omega), xv_ne (by decide)]; exact he e h
  have hs : gz = g1 → tz = t1 → xr gz tz ∧ xk_cnt (B + 2) tz ∧ xi_pl W tz ∧ (∀ e : Nat, e < 4 → gz (25 + e) 2 = tz 12 e) ∧ tz 1 = upd (t 1) 0 0 := by
    intro h1 h2
    rw [h1, h2]
    exact ⟨R1, xk_cnt_le B1 (by omega), xi_pl_sub hq e1 e3 e5, E1, e1⟩
  rw [show qzK_takePulse_0 (g 15) = t 1 0 from hR.p0] at u2
  by_cases c0 : t 1 0 = 0
  · rw [if_pos c0] at u2 m2
    exact hs u2 m2
  · rw [if_neg c0] at u2 m2
    by_cases c1 : g1 17 0 = 0
    · rw [if_pos c1] at u2
      rw [if_neg (by rw [R1.h0, if_pos c1]; decide)] at m2
      exact hs u2 m2
    · rw [if_neg c1] at u2
      rw [if_pos (by rw [R1.h0, if_neg c1])] at m2
      obtain ⟨t2, m3, rfl⟩ := m2
      by_cases c2 : t 1 0 = 1
      · rw [if_pos c2] at u2
        obtain ⟨g2, u3, rfl⟩ := u2
        rw [c2] at m3
        obtain ⟨a, b, c, d⟩ := sim_ax_0_p R1 B1 hB2 E1 u3 m3
        exact ⟨a, b, xi_pl_ok hW hq c0 e1 e3 e5 c, d, c.1.trans e1⟩
      · rw [if_neg c2] at u2
        obtain ⟨g2, u3, rfl⟩ := u2
        have c3 : t 1 0 = -1 := by
          rcases hp with q | q | q
          · exact absurd q c0
          · exact absurd q c2
          · exact q
        rw [c3] at m3
        obtain ⟨a, b, c, d⟩ := sim_ax_0_m R1 B1 hB2 E1 u3 m3
        exact ⟨a, b, xi_pl_ok hW hq c0 e1 e3 e5 c, d, c.1.trans e1⟩
theorem sim_head_1 {g g1 gz t t1 tz : xk_St} {B : Nat} {W : Int} (hR : xr g t) (hB : xk_cnt B t) (hB2 : B + 1 < 2147483647) (hW : W ≤ 1100) (hq : xi_pl W t) (hp : xk_p (t 1 1)) (he : ∀ e : Nat, e < 4 → g (25 + e) 2 = t 12 e)
    (u1 : g1 = va_up g 15 (qzK_takePulse_1_b (g 15))) (u2 : if (qzK_takePulse_1 (g 15)) = 0 then (gz = g1) else (if ((g1 17) 1) = 0 then (gz = g1) else (if (qzK_takePulse_1 (g 15)) = 1 then (∃ (g2 : xk_St), relzU_countAxle_0_1_p g1 g2 ∧ (gz = g2)) else (∃ (g3 : xk_St), relzU_countAxle_0_1_m g1 g3 ∧ (gz = g3)))))
    (m1 : t1 = va_up t 1 (upd (t 1) 1 0)) (m2 : if ((t 1) 1) = 0 then (tz = t1) else (if ((t1 2) 1) = 0 then (∃ (g12 : xk_St), relzM_counts_0_1 t1 ((t 1) 1) g12 ∧ (tz = g12)) else (tz = t1))) :
    xr gz tz ∧ xk_cnt (B + 2) tz ∧ xi_pl W tz ∧ (∀ e : Nat, e < 4 → gz (25 + e) 2 = tz 12 e) ∧ tz 1 = upd (t 1) 1 0 := by
  have R1 : xr g1 t1 := by
    subst u1; subst m1
    exact xr.mk hR.b0 hR.a0 hR.d0 hR.k0 hR.b1 hR.a1 hR.d1 hR.k1 hR.b2 hR.a2 hR.d2 hR.k2 hR.b3 hR.a3 hR.d3 hR.k3 hR.b4 hR.a4 hR.d4 hR.k4 hR.b5 hR.a5 hR.d5 hR.k5 (by simp [va_up, upd, hR.p0, qzK_takePulse_1_b]) (by simp [va_up, upd, hR.p1, qzK_takePulse_1_b]) (by simp [va_up, upd, hR.p2, qzK_takePulse_1_b]) (by simp [va_up, upd, hR.p3, qzK_takePulse_1_b]) hR.p4 hR.p5 hR.p6 hR.p7 hR.c0 hR.c1 hR.c2 hR.c3 hR.o0 hR.s0 hR.o1 hR.s1 hR.po0 hR.pb0 hR.mo0 hR.ze0 hR.st0 hR.al0 hR.po1 hR.pb1 hR.mo1 hR.ze1 hR.st1 hR.al1 hR.li0 hR.de0 hR.da0 hR.li1 hR.de1 hR.da1 hR.li2 hR.de2 hR.da2 hR.step hR.age hR.quiet hR.many hR.time hR.night hR.bell hR.h0 hR.h1 hR.h2 hR.h3 hR.h4 hR.h5 hR.h6 hR.h7 hR.nc0 hR.nc1 hR.nc2 hR.i0 hR.j0 hR.m0 hR.n0 hR.i1 hR.j1 hR.m1 hR.n1 hR.i2 hR.j2 hR.m2 hR.n2 hR.i3 hR.j3 hR.m3 hR.n3 hR.i4 hR.j4 hR.m4 hR.n4 hR.i5 hR.j5 hR.m5 hR.n5 hR.nu0 hR.nu1 hR.nu2 hR.nu3 hR.nu4 hR.nu5 hR.jt hR.jk hR.jw hR.yh0 hR.yh1 hR.yh2 hR.yh3 hR.yh4 hR.yh5 hR.yh6 hR.yh7 hR.yc0 hR.yc1 hR.yc2 hR.yo0 hR.yo1
  have e1 : t1 1 = upd (t 1) 1 0 := by rw [m1]; rfl
  have e3 : t1 3 = t 3 := by rw [m1]; rfl
  have e5 : t1 5 = t 5 := by rw [m1]; rfl
  have B1 : xk_cnt B t1 := by rw [m1]; exact xk_cnt_k (by decide) hB
  have E1 : ∀ e : Nat, e < 4 → g1 (25 + e) 2 = t1 12 e := fun e h => by rw [u1, m1, xv_ne (by omega), xv_ne (by decide)]; exact he e h
  have hs : gz = g1 → tz = t1 → xr gz tz ∧ xk_cnt (B + 2) tz ∧ xi_pl W tz ∧ (∀ e : Nat, e < 4 → gz (25 + e) 2 = tz 12 e) ∧ tz 1 = upd (t 1) 1 0 := by
    intro h1 h2
    rw [h1, h2]
    exact ⟨R1, xk_cnt_le B1 (by omega), xi_pl_sub hq e1 e3 e5, E1, e1⟩
  rw [show qzK_takePulse_1 (g 15) = t 1 1 from hR.p1] at u2
  by_cases c0 : t 1 1 = 0
  · rw [if_pos c0] at u2 m2
    exact hs u2 m2
  · rw [if_neg c0] at u2 m2
    by_cases c1 : g1 17 1 = 0
    · rw [if_pos c1] at u2
      rw [if_neg (by rw [R1.h1, if_pos c1]; decide)] at m2
      exact hs u2 m2
    · rw [if_neg c1] at u2
      rw [if_pos (by rw [R1.h1, if_neg c1])] at m2
      obtain ⟨t2, m3, rfl⟩ := m2
      by_cases c2 : t 1 1 = 1
      · rw [if_pos c2] at u2
        obtain ⟨g2, u3, rfl⟩ := u2
        rw [c2] at m3
        obtain ⟨a, b, c, d⟩ := sim_ax_1_p R1 B1 hB2 E1 u3 m3
        exact ⟨a, b, xi_pl_ok hW hq c0 e1 e3 e5 c, d, c.1.trans e1⟩
      · rw [if_neg c2] at u2
        obtain ⟨g2, u3, rfl⟩ := u2
        have c3 : t 1 1 = -1 := by
          rcases hp with q | q | q
          · exact absurd q c0
          · exact absurd q c2
          · exact q
        rw [c3] at m3
        obtain ⟨a, b, c, d⟩ := sim_ax_1_m R1 B1 hB2 E1 (xi_pl_noop hW hq (by decide) c0 (by decide) e3 e5) u3 m3
        exact ⟨a, b, xi_pl_ok hW hq c0 e1 e3 e5 c, d, c.1.trans e1⟩
theorem sim_head_2 {g g1 gz t t1 tz : xk_St} {B : Nat} {W : Int} (hR : xr g t) (hB : xk_cnt B t) (hB2 : B + 1 < 2147483647) (hW : W ≤ 1100) (hq : xi_pl W t) (hp : xk_p (t 1 2)) (he : ∀ e : Nat, e < 4 → g (25 + e) 2 = t 12 e)
    (u1 : g1 = va_up g 15 (qzK_takePulse_2_b (g 15))) (u2 : if (qzK_takePulse_2 (g 15)) = 0 then (gz = g1) else (if ((g1 17) 2) = 0 then (gz = g1) else (if (qzK_takePulse_2 (g 15)) = 1 then (∃ (g2 : xk_St), relzU_countAxle_0_2_p g1 g2 ∧ (gz = g2)) else (∃ (g3 : xk_St), relzU_countAxle_0_2_m g1 g3 ∧ (gz = g3)))))
    (m1 : t1 = va_up t 1 (upd (t 1) 2 0)) (m2 : if ((t 1) 2) = 0 then (tz = t1) else (if ((t1 2) 2) = 0 then (∃ (g12 : xk_St), relzM_counts_0_2 t1 ((t 1) 2) g12 ∧ (tz = g12)) else (tz = t1))) :
    xr gz tz ∧ xk_cnt (B + 2) tz ∧ xi_pl W tz ∧ (∀ e : Nat, e < 4 → gz (25 + e) 2 = tz 12 e) ∧ tz 1 = upd (t 1) 2 0 := by
  have R1 : xr g1 t1 := by
    subst u1; subst m1
    exact xr.mk hR.b0 hR.a0 hR.d0 hR.k0 hR.b1 hR.a1 hR.d1 hR.k1 hR.b2 hR.a2 hR.d2 hR.k2 hR.b3 hR.a3 hR.d3 hR.k3 hR.b4 hR.a4 hR.d4 hR.k4 hR.b5 hR.a5 hR.d5 hR.k5 (by simp [va_up, upd, hR.p0, qzK_takePulse_2_b]) (by simp [va_up, upd, hR.p1, qzK_takePulse_2_b]) (by simp [va_up, upd, hR.p2, qzK_takePulse_2_b]) (by simp [va_up, upd, hR.p3, qzK_takePulse_2_b]) hR.p4 hR.p5 hR.p6 hR.p7 hR.c0 hR.c1 hR.c2 hR.c3 hR.o0 hR.s0 hR.o1 hR.s1 hR.po0 hR.pb0 hR.mo0 hR.ze0 hR.st0 hR.al0 hR.po1 hR.pb1 hR.mo1 hR.ze1 hR.st1 hR.al1 hR.li0 hR.de0 hR.da0 hR.li1 hR.de1 hR.da1 hR.li2 hR.de2 hR.da2 hR.step hR.age hR.quiet hR.many hR.time hR.night hR.bell hR.h0 hR.h1 hR.h2 hR.h3 hR.h4 hR.h5 hR.h6 hR.h7 hR.nc0 hR.nc1 hR.nc2 hR.i0 hR.j0 hR.m0 hR.n0 hR.i1 hR.j1 hR.m1 hR.n1 hR.i2 hR.j2 hR.m2 hR.n2 hR.i3 hR.j3 hR.m3 hR.n3 hR.i4 hR.j4 hR.m4 hR.n4 hR.i5 hR.j5 hR.m5 hR.n5 hR.nu0 hR.nu1 hR.nu2 hR.nu3 hR.nu4 hR.nu5 hR.jt hR.jk hR.jw hR.yh0 hR.yh1 hR.yh2 hR.yh3 hR.yh4 hR.yh5 hR.yh6 hR.yh7 hR.yc0 hR.yc1 hR.yc2 hR.yo0 hR.yo1
  have e1 : t1 1 = upd (t 1) 2 0 := by rw [m1]; rfl
  have e3 : t1 3 = t 3 := by rw [m1]; rfl
  have e5 : t1 5 = t 5 := by rw [m1]; rfl
  have B1 : xk_cnt B t1 := by rw [m1]; exact xk_cnt_k (by decide) hB
  have E1 : ∀ e : Nat, e < 4 → g1 (25 + e) 2 = t1 12 e := fun e h => by rw [u1, m1, xv_ne (by omega), xv_ne (by decide)]; exact he e h
  have hs : gz = g1 → tz = t1 → xr gz tz ∧ xk_cnt (B + 2) tz ∧ xi_pl W tz ∧ (∀ e : Nat, e < 4 → gz (25 + e) 2 = tz 12 e) ∧ tz 1 = upd (t 1) 2 0 := by
    intro h1 h2
    rw [h1, h2]
    exact ⟨R1, xk_cnt_le B1 (by omega), xi_pl_sub hq e1 e3 e5, E1, e1⟩
  rw [show qzK_takePulse_2 (g 15) = t 1 2 from hR.p2] at u2
  by_cases c0 : t 1 2 = 0
  · rw [if_pos c0] at u2 m2
    exact hs u2 m2
  · rw [if_neg c0] at u2 m2
    by_cases c1 : g1 17 2 = 0
    · rw [if_pos c1] at u2
      rw [if_neg (by rw [R1.h2, if_pos c1]; decide)] at m2
      exact hs u2 m2
    · rw [if_neg c1] at u2
      rw [if_pos (by rw [R1.h2, if_neg c1])] at m2
      obtain ⟨t2, m3, rfl⟩ := m2
      by_cases c2 : t 1 2 = 1
      · rw [if_pos c2] at u2
        obtain ⟨g2, u3, rfl⟩ := u2
        rw [c2] at m3
        obtain ⟨a, b, c, d⟩ := sim_ax_2_p R1 B1 hB2 E1 u3 m3
        exact ⟨a, b, xi_pl_ok hW hq c0 e1 e3 e5 c, d, c.1.trans e1⟩
      · rw [if_neg c2] at u2
        obtain ⟨g2, u3, rfl⟩ := u2
        have c3 : t 1 2 = -1 := by
          rcases hp with q | q | q
          · exact absurd q c0
          · exact absurd q c2
          · exact q
        rw [c3] at m3
        obtain ⟨a, b, c, d⟩ := sim_ax_2_m R1 B1 hB2 E1 (xi_pl_noop hW hq (by decide) c0 (by decide) e3 e5) u3 m3
        exact ⟨a, b, xi_pl_ok hW hq c0 e1 e3 e5 c, d, c.1.trans e1⟩
theorem sim_head_3 {g g1 gz t t1 tz : xk_St} {B : Nat} {W : Int} (hR : xr g t) (hB : xk_cnt B t) (hB2 : B + 1 < 2147483647) (hW : W ≤ 1100) (hq : xi_pl W t) (hp : xk_p (t 1 3)) (he : ∀ e : Nat, e < 4 → g (25 + e) 2 = t 12 e)
    (u1 : g1 = va_up g 15 (qzK_takePulse_3_b (g 15))) (u2 : if (qzK_takePulse_3 (g 15)) = 0 then (gz = g1) else (if ((g1 17) 3) = 0 then (gz = g1) else (if (qzK_takePulse_3 (g 15)) = 1 then (∃ (g2 : xk_St), relzU_countAxle_0_3_p g1 g2 ∧ (gz = g2)) else (∃ (g3 : xk_St), relzU_countAxle_0_3_m g1 g3 ∧ (gz = g3)))))
    (m1 : t1 = va_up t 1 (upd (t 1) 3 0)) (m2 : if ((t 1) 3) = 0 then (tz = t1) else (if ((t1 2) 3) = 0 then (∃ (g12 : xk_St), relzM_counts_0_3 t1 ((t 1) 3) g12 ∧ (tz = g12)) else (tz = t1))) :
    xr gz tz ∧ xk_cnt (B + 2) tz ∧ xi_pl W tz ∧ (∀ e : Nat, e < 4 → gz (25 + e) 2 = tz 12 e) ∧ tz 1 = upd (t 1) 3 0 := by
  have R1 : xr g1 t1 := by
    subst u1; subst m1
    exact xr.mk hR.b0 hR.a0 hR.d0 hR.k0 hR.b1 hR.a1 hR.d1 hR.k1 hR.b2 hR.a2 hR.d2 hR.k2 hR.b3 hR.a3 hR.d3 hR.k3 hR.b4 hR.a4 hR.d4 hR.k4 hR.b5 hR.a5 hR.d5 hR.k5 (by simp [va_up, upd, hR.p0, qzK_takePulse_3_b]) (by simp [va_up, upd, hR.p1, qzK_takePulse_3_b]) (by simp [va_up, upd, hR.p2, qzK_takePulse_3_b]) (by simp [va_up, upd, hR.p3, qzK_takePulse_3_b]) hR.p4 hR.p5 hR.p6 hR.p7 hR.c0 hR.c1 hR.c2 hR.c3 hR.o0 hR.s0 hR.o1 hR.s1 hR.po0 hR.pb0 hR.mo0 hR.ze0 hR.st0 hR.al0 hR.po1 hR.pb1 hR.mo1 hR.ze1 hR.st1 hR.al1 hR.li0 hR.de0 hR.da0 hR.li1 hR.de1 hR.da1 hR.li2 hR.de2 hR.da2 hR.step hR.age hR.quiet hR.many hR.time hR.night hR.bell hR.h0 hR.h1 hR.h2 hR.h3 hR.h4 hR.h5 hR.h6 hR.h7 hR.nc0 hR.nc1 hR.nc2 hR.i0 hR.j0 hR.m0 hR.n0 hR.i1 hR.j1 hR.m1 hR.n1 hR.i2 hR.j2 hR.m2 hR.n2 hR.i3 hR.j3 hR.m3 hR.n3 hR.i4 hR.j4 hR.m4 hR.n4 hR.i5 hR.j5 hR.m5 hR.n5 hR.nu0 hR.nu1 hR.nu2 hR.nu3 hR.nu4 hR.nu5 hR.jt hR.jk hR.jw hR.yh0 hR.yh1 hR.yh2 hR.yh3 hR.yh4 hR.yh5 hR.yh6 hR.yh7 hR.yc0 hR.yc1 hR.yc2 hR.yo0 hR.yo1
  have e1 : t1 1 = upd (t 1) 3 0 := by rw [m1]; rfl
  have e3 : t1 3 = t 3 := by rw [m1]; rfl
  have e5 : t1 5 = t 5 := by rw [m1]; rfl
  have B1 : xk_cnt B t1 := by rw [m1]; exact xk_cnt_k (by decide) hB
  have E1 : ∀ e : Nat, e < 4 → g1 (25 + e) 2 = t1 12 e := fun e h => by rw [u1, m1, xv_ne (by omega), xv_ne (by decide)]; exact he e h
  have hs : gz = g1 → tz = t1 → xr gz tz ∧ xk_cnt (B + 2) tz ∧ xi_pl W tz ∧ (∀ e : Nat, e < 4 → gz (25 + e) 2 = tz 12 e) ∧ tz 1 = upd (t 1) 3 0 := by
    intro h1 h2
    rw [h1, h2]
    exact ⟨R1, xk_cnt_le B1 (by omega), xi_pl_sub hq e1 e3 e5, E1, e1⟩
  rw [show qzK_takePulse_3 (g 15) = t 1 3 from hR.p3] at u2
  by_cases c0 : t 1 3 = 0
  · rw [if_pos c0] at u2 m2
    exact hs u2 m2
  · rw [if_neg c0] at u2 m2
    by_cases c1 : g1 17 3 = 0
    · rw [if_pos c1] at u2
      rw [if_neg (by rw [R1.h3, if_pos c1]; decide)] at m2
      exact hs u2 m2
    · rw [if_neg c1] at u2
      rw [if_pos (by rw [R1.h3, if_neg c1])] at m2
      obtain ⟨t2, m3, rfl⟩ := m2
      by_cases c2 : t 1 3 = 1
      · rw [if_pos c2] at u2
        obtain ⟨g2, u3, rfl⟩ := u2
        rw [c2] at m3
        obtain ⟨a, b, c, d⟩ := sim_ax_3_p R1 B1 hB2 E1 u3 m3
        exact ⟨a, b, xi_pl_ok hW hq c0 e1 e3 e5 c, d, c.1.trans e1⟩
      · rw [if_neg c2] at u2
        obtain ⟨g2, u3, rfl⟩ := u2
        have c3 : t 1 3 = -1 := by
          rcases hp with q | q | q
          · exact absurd q c0
          · exact absurd q c2
          · exact q
        rw [c3] at m3
        obtain ⟨a, b, c, d⟩ := sim_ax_3_m R1 B1 hB2 E1 (xi_pl_noop hW hq (by decide) c0 (by decide) e3 e5) u3 m3
        exact ⟨a, b, xi_pl_ok hW hq c0 e1 e3 e5 c, d, c.1.trans e1⟩
theorem sim_head_4 {g g1 gz t t1 tz : xk_St} {B : Nat} {W : Int} (hR : xr g t) (hB : xk_cnt B t) (hB2 : B + 1 < 2147483647) (hW : W ≤ 1100) (hq : xi_pl W t) (hp : xk_p (t 1 4)) (he : ∀ e : Nat, e < 4 → g (25 + e) 2 = t 12 e)
    (u1 : g1 = va_up g 16 (qzK_takePulse_0_b (g 16))) (u2 : if (qzK_takePulse_0 (g 16)) = 0 then (gz = g1) else (if ((g1 18) 0) = 0 then (gz = g1) else (if (qzK_takePulse_0 (g 16)) = 1 then (∃ (g2 : xk_St), relzU_countAxle_1_0_p g1 g2 ∧ (gz = g2)) else (∃ (g3 : xk_St), relzU_countAxle_1_0_m g1 g3 ∧ (gz = g3)))))
    (m1 : t1 = va_up t 1 (upd (t 1) 4 0)) (m2 : if ((t 1) 4) = 0 then (tz = t1) else (if ((t1 2) 4) = 0 then (∃ (g12 : xk_St), relzM_counts_1_0 t1 ((t 1) 4) g12 ∧ (tz = g12)) else (tz = t1))) :
    xr gz tz ∧ xk_cnt (B + 2) tz ∧ xi_pl W tz ∧ (∀ e : Nat, e < 4 → gz (25 + e) 2 = tz 12 e) ∧ tz 1 = upd (t 1) 4 0 := by
  have R1 : xr g1 t1 := by
    subst u1; subst m1
    exact xr.mk hR.b0 hR.a0 hR.d0 hR.k0 hR.b1 hR.a1 hR.d1 hR.k1 hR.b2 hR.a2 hR.d2 hR.k2 hR.b3 hR.a3 hR.d3 hR.k3 hR.b4 hR.a4 hR.d4 hR.k4 hR.b5 hR.a5 hR.d5 hR.k5 hR.p0 hR.p1 hR.p2 hR.p3 (by simp [va_up, upd, hR.p4, qzK_takePulse_0_b]) (by simp [va_up, upd, hR.p5, qzK_takePulse_0_b]) (by simp [va_up, upd, hR.p6, qzK_takePulse_0_b]) (by simp [va_up, upd, hR.p7, qzK_takePulse_0_b]) hR.c0 hR.c1 hR.c2 hR.c3 hR.o0 hR.s0 hR.o1 hR.s1 hR.po0 hR.pb0 hR.mo0 hR.ze0 hR.st0 hR.al0 hR.po1 hR.pb1 hR.mo1 hR.ze1 hR.st1 hR.al1 hR.li0 hR.de0 hR.da0 hR.li1 hR.de1 hR.da1 hR.li2 hR.de2 hR.da2 hR.step hR.age hR.quiet hR.many hR.time hR.night hR.bell hR.h0 hR.h1 hR.h2 hR.h3 hR.h4 hR.h5 hR.h6 hR.h7 hR.nc0 hR.nc1 hR.nc2 hR.i0 hR.j0 hR.m0 hR.n0 hR.i1 hR.j1 hR.m1 hR.n1 hR.i2 hR.j2 hR.m2 hR.n2 hR.i3 hR.j3 hR.m3 hR.n3 hR.i4 hR.j4 hR.m4 hR.n4 hR.i5 hR.j5 hR.m5 hR.n5 hR.nu0 hR.nu1 hR.nu2 hR.nu3 hR.nu4 hR.nu5 hR.jt hR.jk hR.jw hR.yh0 hR.yh1 hR.yh2 hR.yh3 hR.yh4 hR.yh5 hR.yh6 hR.yh7 hR.yc0 hR.yc1 hR.yc2 hR.yo0 hR.yo1
  have e1 : t1 1 = upd (t 1) 4 0 := by rw [m1]; rfl
  have e3 : t1 3 = t 3 := by rw [m1]; rfl
  have e5 : t1 5 = t 5 := by rw [m1]; rfl
  have B1 : xk_cnt B t1 := by rw [m1]; exact xk_cnt_k (by decide) hB
  have E1 : ∀ e : Nat, e < 4 → g1 (25 + e) 2 = t1 12 e := fun e h => by rw [u1, m1, xv_ne (by omega), xv_ne (by decide)]; exact he e h
  have hs : gz = g1 → tz = t1 → xr gz tz ∧ xk_cnt (B + 2) tz ∧ xi_pl W tz ∧ (∀ e : Nat, e < 4 → gz (25 + e) 2 = tz 12 e) ∧ tz 1 = upd (t 1) 4 0 := by
    intro h1 h2
    rw [h1, h2]
    exact ⟨R1, xk_cnt_le B1 (by omega), xi_pl_sub hq e1 e3 e5, E1, e1⟩
  rw [show qzK_takePulse_0 (g 16) = t 1 4 from hR.p4] at u2
  by_cases c0 : t 1 4 = 0
  · rw [if_pos c0] at u2 m2
    exact hs u2 m2
  · rw [if_neg c0] at u2 m2
    by_cases c1 : g1 18 0 = 0
    · rw [if_pos c1] at u2
      rw [if_neg (by rw [R1.h4, if_pos c1]; decide)] at m2
      exact hs u2 m2
    · rw [if_neg c1] at u2
      rw [if_pos (by rw [R1.h4, if_neg c1])] at m2
      obtain ⟨t2, m3, rfl⟩ := m2
      by_cases c2 : t 1 4 = 1
      · rw [if_pos c2] at u2
        obtain ⟨g2, u3, rfl⟩ := u2
        rw [c2] at m3
        obtain ⟨a, b, c, d⟩ := sim_ax_4_p R1 B1 hB2 E1 u3 m3
        exact ⟨a, b, xi_pl_ok hW hq c0 e1 e3 e5 c, d, c.1.trans e1⟩
      · rw [if_neg c2] at u2
        obtain ⟨g2, u3, rfl⟩ := u2
        have c3 : t 1 4 = -1 := by
          rcases hp with q | q | q
          · exact absurd q c0
          · exact absurd q c2
          · exact q
        rw [c3] at m3
        obtain ⟨a, b, c, d⟩ := sim_ax_4_m R1 B1 hB2 E1 u3 m3
        exact ⟨a, b, xi_pl_ok hW hq c0 e1 e3 e5 c, d, c.1.trans e1⟩
theorem sim_head_5 {g g1 gz t t1 tz : xk_St} {B : Nat} {W : Int} (hR : xr g t) (hB : xk_cnt B t) (hB2 : B + 1 < 2147483647) (hW : W ≤ 1100) (hq : xi_pl W t) (hp : xk_p (t 1 5)) (he : ∀ e : Nat, e < 4 → g (25 + e) 2 = t 12 e)
    (u1 : g1 = va_up g 16 (qzK_takePulse_1_b (g 16))) (u2 : if (qzK_takePulse_1 (g 16)) = 0 then (gz = g1) else (if ((g1 18) 1) = 0 then (gz = g1) else (if (qzK_takePulse_1 (g 16)) = 1 then (∃ (g2 : xk_St), relzU_countAxle_1_1_p g1 g2 ∧ (gz = g2)) else (∃ (g3 : xk_St), relzU_countAxle_1_1_m g1 g3 ∧ (gz = g3)))))
    (m1 : t1 = va_up t 1 (upd (t 1) 5 0)) (m2 : if ((t 1) 5) = 0 then (tz = t1) else (if ((t1 2) 5) = 0 then (∃ (g12 : xk_St), relzM_counts_1_1 t1 ((t 1) 5) g12 ∧ (tz = g12)) else (tz = t1))) :
    xr gz tz ∧ xk_cnt (B + 2) tz ∧ xi_pl W tz ∧ (∀ e : Nat, e < 4 → gz (25 + e) 2 = tz 12 e) ∧ tz 1 = upd (t 1) 5 0 := by
  have R1 : xr g1 t1 := by
    subst u1; subst m1
    exact xr.mk hR.b0 hR.a0 hR.d0 hR.k0 hR.b1 hR.a1 hR.d1 hR.k1 hR.b2 hR.a2 hR.d2 hR.k2 hR.b3 hR.a3 hR.d3 hR.k3 hR.b4 hR.a4 hR.d4 hR.k4 hR.b5 hR.a5 hR.d5 hR.k5 hR.p0 hR.p1 hR.p2 hR.p3 (by simp [va_up, upd, hR.p4, qzK_takePulse_1_b]) (by simp [va_up, upd, hR.p5, qzK_takePulse_1_b]) (by simp [va_up, upd, hR.p6, qzK_takePulse_1_b]) (by simp [va_up, upd, hR.p7, qzK_takePulse_1_b]) hR.c0 hR.c1 hR.c2 hR.c3 hR.o0 hR.s0 hR.o1 hR.s1 hR.po0 hR.pb0 hR.mo0 hR.ze0 hR.st0 hR.al0 hR.po1 hR.pb1 hR.mo1 hR.ze1 hR.st1 hR.al1 hR.li0 hR.de0 hR.da0 hR.li1 hR.de1 hR.da1 hR.li2 hR.de2 hR.da2 hR.step hR.age hR.quiet hR.many hR.time hR.night hR.bell hR.h0 hR.h1 hR.h2 hR.h3 hR.h4 hR.h5 hR.h6 hR.h7 hR.nc0 hR.nc1 hR.nc2 hR.i0 hR.j0 hR.m0 hR.n0 hR.i1 hR.j1 hR.m1 hR.n1 hR.i2 hR.j2 hR.m2 hR.n2 hR.i3 hR.j3 hR.m3 hR.n3 hR.i4 hR.j4 hR.m4 hR.n4 hR.i5 hR.j5 hR.m5 hR.n5 hR.nu0 hR.nu1 hR.nu2 hR.nu3 hR.nu4 hR.nu5 hR.jt hR.jk hR.jw hR.yh0 hR.yh1 hR.yh2 hR.yh3 hR.yh4 hR.yh5 hR.yh6 hR.yh7 hR.yc0 hR.yc1 hR.yc2 hR.yo0 hR.yo1
  have e1 : t1 1 = upd (t 1) 5 0 := by rw [m1]; rfl
  have e3 : t1 3 = t 3 := by rw [m1]; rfl
  have e5 : t1 5 = t 5 := by rw [m1]; rfl
  have B1 : xk_cnt B t1 := by rw [m1]; exact xk_cnt_k (by decide) hB
  have E1 : ∀ e : Nat, e < 4 → g1 (25 + e) 2 = t1 12 e := fun e h => by rw [u1, m1, xv_ne (by omega), xv_ne (by decide)]; exact he e h
  have hs : gz = g1 → tz = t1 → xr gz tz ∧ xk_cnt (B + 2) tz ∧ xi_pl W tz ∧ (∀ e : Nat, e < 4 → gz (25 + e) 2 = tz 12 e) ∧ tz 1 = upd (t 1) 5 0 := by
    intro h1 h2
    rw [h1, h2]
    exact ⟨R1, xk_cnt_le B1 (by omega), xi_pl_sub hq e1 e3 e5, E1, e1⟩
  rw [show qzK_takePulse_1 (g 16) = t 1 5 from hR.p5] at u2
  by_cases c0 : t 1 5 = 0
  · rw [if_pos c0] at u2 m2
    exact hs u2 m2
  · rw [if_neg c0] at u2 m2
    by_cases c1 : g1 18 1 = 0
    · rw [if_pos c1] at u2
      rw [if_neg (by rw [R1.h5, if_pos c1]; decide)] at m2
      exact hs u2 m2
    · rw [if_neg c1] at u2
      rw [if_pos (by rw [R1.h5, if_neg c1])] at m2
      obtain ⟨t2, m3, rfl⟩ := m2
      by_cases c2 : t 1 5 = 1
      · rw [if_pos c2] at u2
        obtain ⟨g2, u3, rfl⟩ := u2
        rw [c2] at m3
        obtain ⟨a, b, c, d⟩ := sim_ax_5_p R1 B1 hB2 E1 u3 m3
        exact ⟨a, b, xi_pl_ok hW hq c0 e1 e3 e5 c, d, c.1.trans e1⟩
      · rw [if_neg c2] at u2
        obtain ⟨g2, u3, rfl⟩ := u2
        have c3 : t 1 5 = -1 := by
          rcases hp with q | q | q
          · exact absurd q c0
          · exact absurd q c2
          · exact q
        rw [c3] at m3
        obtain ⟨a, b, c, d⟩ := sim_ax_5_m R1 B1 hB2 E1 (xi_pl_noop hW hq (by decide) c0 (by decide) e3 e5) u3 m3
        exact ⟨a, b, xi_pl_ok hW hq c0 e1 e3 e5 c, d, c.1.trans e1⟩
theorem sim_head_6 {g g1 gz t t1 tz : xk_St} {B : Nat} {W : Int} (hR : xr g t) (hB : xk_cnt B t) (hB2 : B + 1 < 2147483647) (hW : W ≤ 1100) (hq : xi_pl W t) (hp : xk_p (t 1 6)) (he : ∀ e : Nat, e < 4 → g (25 + e) 2 = t 12 e)
    (u1 : g1 = va_up g 16 (qzK_takePulse_2_b (g 16))) (u2 : if (qzK_takePulse_2 (g 16)) = 0 then (gz = g1) else (if ((g1 18) 2) = 0 then (gz = g1) else (if (qzK_takePulse_2 (g 16)) = 1 then (∃ (g2 : xk_St), relzU_countAxle_1_2_p g1 g2 ∧ (gz = g2)) else (∃ (g3 : xk_St), relzU_countAxle_1_2_m g1 g3 ∧ (gz = g3)))))
    (m1 : t1 = va_up t 1 (upd (t 1) 6 0)) (m2 : if ((t 1) 6) = 0 then (tz = t1) else (if ((t1 2) 6) = 0 then (∃ (g12 : xk_St), relzM_counts_1_2 t1 ((t 1) 6) g12 ∧ (tz = g12)) else (tz = t1))) :
    xr gz tz ∧ xk_cnt (B + 2) tz ∧ xi_pl W tz ∧ (∀ e : Nat, e < 4 → gz (25 + e) 2 = tz 12 e) ∧ tz 1 = upd (t 1) 6 0 := by
  have R1 : xr g1 t1 := by
    subst u1; subst m1
    exact xr.mk hR.b0 hR.a0 hR.d0 hR.k0 hR.b1 hR.a1 hR.d1 hR.k1 hR.b2 hR.a2 hR.d2 hR.k2 hR.b3 hR.a3 hR.d3 hR.k3 hR.b4 hR.a4 hR.d4 hR.k4 hR.b5 hR.a5 hR.d5 hR.k5 hR.p0 hR.p1 hR.p2 hR.p3 (by simp [va_up, upd, hR.p4, qzK_takePulse_2_b]) (by simp [va_up, upd, hR.p5, qzK_takePulse_2_b]) (by simp [va_up, upd, hR.p6, qzK_takePulse_2_b]) (by simp [va_up, upd, hR.p7, qzK_takePulse_2_b]) hR.c0 hR.c1 hR.c2 hR.c3 hR.o0 hR.s0 hR.o1 hR.s1 hR.po0 hR.pb0 hR.mo0 hR.ze0 hR.st0 hR.al0 hR.po1 hR.pb1 hR.mo1 hR.ze1 hR.st1 hR.al1 hR.li0 hR.de0 hR.da0 hR.li1 hR.de1 hR.da1 hR.li2 hR.de2 hR.da2 hR.step hR.age hR.quiet hR.many hR.time hR.night hR.bell hR.h0 hR.h1 hR.h2 hR.h3 hR.h4 hR.h5 hR.h6 hR.h7 hR.nc0 hR.nc1 hR.nc2 hR.i0 hR.j0 hR.m0 hR.n0 hR.i1 hR.j1 hR.m1 hR.n1 hR.i2 hR.j2 hR.m2 hR.n2 hR.i3 hR.j3 hR.m3 hR.n3 hR.i4 hR.j4 hR.m4 hR.n4 hR.i5 hR.j5 hR.m5 hR.n5 hR.nu0 hR.nu1 hR.nu2 hR.nu3 hR.nu4 hR.nu5 hR.jt hR.jk hR.jw hR.yh0 hR.yh1 hR.yh2 hR.yh3 hR.yh4 hR.yh5 hR.yh6 hR.yh7 hR.yc0 hR.yc1 hR.yc2 hR.yo0 hR.yo1
  have e1 : t1 1 = upd (t 1) 6 0 := by rw [m1]; rfl
  have e3 : t1 3 = t 3 := by rw [m1]; rfl
  have e5 : t1 5 = t 5 := by rw [m1]; rfl
  have B1 : xk_cnt B t1 := by rw [m1]; exact xk_cnt_k (by decide) hB
  have E1 : ∀ e : Nat, e < 4 → g1 (25 + e) 2 = t1 12 e := fun e h => by rw [u1, m1, xv_ne (by omega), xv_ne (by decide)]; exact he e h
  have hs : gz = g1 → tz = t1 → xr gz tz ∧ xk_cnt (B + 2) tz ∧ xi_pl W tz ∧ (∀ e : Nat, e < 4 → gz (25 + e) 2 = tz 12 e) ∧ tz 1 = upd (t 1) 6 0 := by
    intro h1 h2
    rw [h1, h2]
    exact ⟨R1, xk_cnt_le B1 (by omega), xi_pl_sub hq e1 e3 e5, E1, e1⟩
  rw [show qzK_takePulse_2 (g 16) = t 1 6 from hR.p6] at u2
  by_cases c0 : t 1 6 = 0
  · rw [if_pos c0] at u2 m2
    exact hs u2 m2
  · rw [if_neg c0] at u2 m2
    by_cases c1 : g1 18 2 = 0
    · rw [if_pos c1] at u2
      rw [if_neg (by rw [R1.h6, if_pos c1]; decide)] at m2
      exact hs u2 m2
    · rw [if_neg c1] at u2
      rw [if_pos (by rw [R1.h6, if_neg c1])] at m2
      obtain ⟨t2, m3, rfl⟩ := m2
      by_cases c2 : t 1 6 = 1
      · rw [if_pos c2] at u2
        obtain ⟨g2, u3, rfl⟩ := u2
        rw [c2] at m3
        obtain ⟨a, b, c, d⟩ := sim_ax_6_p R1 B1 hB2 E1 u3 m3
        exact ⟨a, b, xi_pl_ok hW hq c0 e1 e3 e5 c, d, c.1.trans e1⟩
      · rw [if_neg c2] at u2
        obtain ⟨g2, u3, rfl⟩ := u2
        have c3 : t 1 6 = -1 := by
          rcases hp with q | q | q
          · exact absurd q c0
          · exact absurd q c2
          · exact q
        rw [c3] at m3
        obtain ⟨a, b, c, d⟩ := sim_ax_6_m R1 B1 hB2 E1 (xi_pl_noop hW hq (by decide) c0 (by decide) e3 e5) u3 m3
        exact ⟨a, b, xi_pl_ok hW hq c0 e1 e3 e5 c, d, c.1.trans e1⟩
theorem sim_head_7 {g g1 gz t t1 tz : xk_St} {B : Nat} {W : Int} (hR : xr g t) (hB : xk_cnt B t) (hB2 : B + 1 < 2147483647) (hW : W ≤ 1100) (hq : xi_pl W t) (hp : xk_p (t 1 7)) (he : ∀ e : Nat, e < 4 → g (25 + e) 2 = t 12 e)
    (u1 : g1 = va_up g 16 (qzK_takePulse_3_b (g 16))) (u2 : if (qzK_takePulse_3 (g 16)) = 0 then (gz = g1) else (if ((g1 18) 3) = 0 then (gz = g1) else (if (qzK_takePulse_3 (g 16)) = 1 then (∃ (g2 : xk_St), relzU_countAxle_1_3_p g1 g2 ∧ (gz = g2)) else (∃ (g3 : xk_St), relzU_countAxle_1_3_m g1 g3 ∧ (gz = g3)))))
    (m1 : t1 = va_up t 1 (upd (t 1) 7 0)) (m2 : if ((t 1) 7) = 0 then (tz = t1) else (if ((t1 2) 7) = 0 then (∃ (g12 : xk_St), relzM_counts_1_3 t1 ((t 1) 7) g12 ∧ (tz = g12)) else (tz = t1))) :
    xr gz tz ∧ xk_cnt (B + 2) tz ∧ xi_pl W tz ∧ (∀ e : Nat, e < 4 → gz (25 + e) 2 = tz 12 e) ∧ tz 1 = upd (t 1) 7 0 := by
  have R1 : xr g1 t1 := by
    subst u1; subst m1
    exact xr.mk hR.b0 hR.a0 hR.d0 hR.k0 hR.b1 hR.a1 hR.d1 hR.k1 hR.b2 hR.a2 hR.d2 hR.k2 hR.b3 hR.a3 hR.d3 hR.k3 hR.b4 hR.a4 hR.d4 hR.k4 hR.b5 hR.a5 hR.d5 hR.k5 hR.p0 hR.p1 hR.p2 hR.p3 (by simp [va_up, upd, hR.p4, qzK_takePulse_3_b]) (by simp [va_up, upd, hR.p5, qzK_takePulse_3_b]) (by simp [va_up, upd, hR.p6, qzK_takePulse_3_b]) (by simp [va_up, upd, hR.p7, qzK_takePulse_3_b]) hR.c0 hR.c1 hR.c2 hR.c3 hR.o0 hR.s0 hR.o1 hR.s1 hR.po0 hR.pb0 hR.mo0 hR.ze0 hR.st0 hR.al0 hR.po1 hR.pb1 hR.mo1 hR.ze1 hR.st1 hR.al1 hR.li0 hR.de0 hR.da0 hR.li1 hR.de1 hR.da1 hR.li2 hR.de2 hR.da2 hR.step hR.age hR.quiet hR.many hR.time hR.night hR.bell hR.h0 hR.h1 hR.h2 hR.h3 hR.h4 hR.h5 hR.h6 hR.h7 hR.nc0 hR.nc1 hR.nc2 hR.i0 hR.j0 hR.m0 hR.n0 hR.i1 hR.j1 hR.m1 hR.n1 hR.i2 hR.j2 hR.m2 hR.n2 hR.i3 hR.j3 hR.m3 hR.n3 hR.i4 hR.j4 hR.m4 hR.n4 hR.i5 hR.j5 hR.m5 hR.n5 hR.nu0 hR.nu1 hR.nu2 hR.nu3 hR.nu4 hR.nu5 hR.jt hR.jk hR.jw hR.yh0 hR.yh1 hR.yh2 hR.yh3 hR.yh4 hR.yh5 hR.yh6 hR.yh7 hR.yc0 hR.yc1 hR.yc2 hR.yo0 hR.yo1
  have e1 : t1 1 = upd (t 1) 7 0 := by rw [m1]; rfl
  have e3 : t1 3 = t 3 := by rw [m1]; rfl
  have e5 : t1 5 = t 5 := by rw [m1]; rfl
  have B1 : xk_cnt B t1 := by rw [m1]; exact xk_cnt_k (by decide) hB
  have E1 : ∀ e : Nat, e < 4 → g1 (25 + e) 2 = t1 12 e := fun e h => by rw [u1, m1, xv_ne (by omega), xv_ne (by decide)]; exact he e h
  have hs : gz = g1 → tz = t1 → xr gz tz ∧ xk_cnt (B + 2) tz ∧ xi_pl W tz ∧ (∀ e : Nat, e < 4 → gz (25 + e) 2 = tz 12 e) ∧ tz 1 = upd (t 1) 7 0 := by
    intro h1 h2
    rw [h1, h2]
    exact ⟨R1, xk_cnt_le B1 (by omega), xi_pl_sub hq e1 e3 e5, E1, e1⟩
  rw [show qzK_takePulse_3 (g 16) = t 1 7 from hR.p7] at u2
  by_cases c0 : t 1 7 = 0
  · rw [if_pos c0] at u2 m2
    exact hs u2 m2
  · rw [if_neg c0] at u2 m2
    by_cases c1 : g1 18 3 = 0
    · rw [if_pos c1] at u2
      rw [if_neg (by rw [R1.h7, if_pos c1]; decide)] at m2
      exact hs u2 m2
    · rw [if_neg c1] at u2
      rw [if_pos (by rw [R1.h7, if_neg c1])] at m2
      obtain ⟨t2, m3, rfl⟩ := m2
      by_cases c2 : t 1 7 = 1
      · rw [if_pos c2] at u2
        obtain ⟨g2, u3, rfl⟩ := u2
        rw [c2] at m3
        obtain ⟨a, b, c, d⟩ := sim_ax_7_p R1 B1 hB2 E1 u3 m3
        exact ⟨a, b, xi_pl_ok hW hq c0 e1 e3 e5 c, d, c.1.trans e1⟩
      · rw [if_neg c2] at u2
        obtain ⟨g2, u3, rfl⟩ := u2
        have c3 : t 1 7 = -1 := by
          rcases hp with q | q | q
          · exact absurd q c0
          · exact absurd q c2
          · exact q
        rw [c3] at m3
        obtain ⟨a, b, c, d⟩ := sim_ax_7_m R1 B1 hB2 E1 (xi_pl_noop hW hq (by decide) c0 (by decide) e3 e5) u3 m3
        exact ⟨a, b, xi_pl_ok hW hq c0 e1 e3 e5 c, d, c.1.trans e1⟩
theorem sim_pulses {g ga gz t tz : xk_St} {B : Nat} {W : Int} (hR : xr g t) (hB : xk_cnt B t) (hB2 : B + 16 < 2147483647) (hW : W ≤ 1100) (hq : xi_pl W t) (hp : ∀ h : Nat, h < 8 → xk_p (t 1 h)) (he : ∀ e : Nat, e < 4 → g (25 + e) 2 = 0) (hV : relzU_rememberBalances g ga) (hU : relzU_countPulses ga gz) (hM : relzM_allPulses t tz) : xr gz tz ∧ xk_cnt (B + 16) tz ∧ xi_pl W tz ∧ (∀ e : Nat, e < 4 → gz (25 + e) 2 = tz 12 e) ∧ (∀ h : Nat, h < 8 → tz 1 h = 0) := by
  obtain ⟨t1, m1, t2, m2, t3, m3, t4, m4, t5, m5, t6, m6, t7, m7, t8, m8, t9, m9, t10, m10, hM⟩ := hM
  have fg := frzU_rememberBalances _ _ hV
  obtain ⟨g1, u1, g2, u2, g3, u3, g4, u4, g5, u5, g6, u6, rfl⟩ := hV
  have q1 : t10 1 = t 1 := by rw [m10, m9, m8, m7, m6, m5, m4, m3, m2, m1]; rfl
  have q3 : t10 3 = t 3 := by rw [m10, m9, m8, m7, m6, m5, m4, m3, m2, m1]; rfl
  have q5 : t10 5 = t 5 := by rw [m10, m9, m8, m7, m6, m5, m4, m3, m2, m1]; rfl
  have q12 : ∀ e : Nat, e < 4 → t10 12 e = 0 := fun e h => by
    rcases (show e = 0 ∨ e = 1 ∨ e = 2 ∨ e = 3 from by omega) with rfl | rfl | rfl | rfl
    all_goals rw [m10, m9, m8, m7]; simp [va_up, upd]
  have hB0 : xk_cnt B t10 := by rw [m10, m9, m8, m7, m6, m5, m4, m3, m2, m1]; repeat (first | exact hB | apply xk_cnt_k (by decide))
  have R0 : xr ga t10 := by
    subst m1; subst m2; subst m3; subst m4; subst m5; subst m6; subst m7; subst m8; subst m9; subst m10; subst u1; subst u2; subst u3; subst u4; subst u5; subst u6
    exact xr.mk hR.b0 (by simp [va_up, upd, hR.b0, qzS_rememberBalance_a2, hR.b0, hR.b1, hR.b2, hR.b3, hR.b4, hR.b5]) hR.d0 hR.k0 hR.b1 (by simp [va_up, upd, hR.b1, qzS_rememberBalance_a2, hR.b0, hR.b1, hR.b2, hR.b3, hR.b4, hR.b5]) hR.d1 hR.k1 hR.b2 (by simp [va_up, upd, hR.b2, qzS_rememberBalance_a2, hR.b0, hR.b1, hR.b2, hR.b3, hR.b4, hR.b5]) hR.d2 hR.k2 hR.b3 (by simp [va_up, upd, hR.b3, qzS_rememberBalance_a2, hR.b0, hR.b1, hR.b2, hR.b3, hR.b4, hR.b5]) hR.d3 hR.k3 hR.b4 (by simp [va_up, upd, hR.b4, qzS_rememberBalance_a2, hR.b0, hR.b1, hR.b2, hR.b3, hR.b4, hR.b5]) hR.d4 hR.k4 hR.b5 (by simp [va_up, upd, hR.b5, qzS_rememberBalance_a2, hR.b0, hR.b1, hR.b2, hR.b3, hR.b4, hR.b5]) hR.d5 hR.k5 hR.p0 hR.p1 hR.p2 hR.p3 hR.p4 hR.p5 hR.p6 hR.p7 hR.c0 hR.c1 hR.c2 hR.c3 hR.o0 hR.s0 hR.o1 hR.s1 hR.po0 hR.pb0 hR.mo0 hR.ze0 hR.st0 hR.al0 hR.po1 hR.pb1 hR.mo1 hR.ze1 hR.st1 hR.al1 hR.li0 hR.de0 hR.da0 hR.li1 hR.de1 hR.da1 hR.li2 hR.de2 hR.da2 hR.step hR.age hR.quiet hR.many hR.time hR.night hR.bell hR.h0 hR.h1 hR.h2 hR.h3 hR.h4 hR.h5 hR.h6 hR.h7 hR.nc0 hR.nc1 hR.nc2 hR.i0 hR.j0 hR.m0 hR.n0 hR.i1 hR.j1 hR.m1 hR.n1 hR.i2 hR.j2 hR.m2 hR.n2 hR.i3 hR.j3 hR.m3 hR.n3 hR.i4 hR.j4 hR.m4 hR.n4 hR.i5 hR.j5 hR.m5 hR.n5 hR.nu0 hR.nu1 hR.nu2 hR.nu3 hR.nu4 hR.nu5 hR.jt hR.jk hR.jw hR.yh0 hR.yh1 hR.yh2 hR.yh3 hR.yh4 hR.yh5 hR.yh6 hR.yh7 hR.yc0 hR.yc1 hR.yc2 hR.yo0 hR.yo1
  have E0 : ∀ e : Nat, e < 4 → ga (25 + e) 2 = t10 12 e := fun e h => by rw [fg (25 + e) (by rcases (show e = 0 ∨ e = 1 ∨ e = 2 ∨ e = 3 from by omega) with rfl | rfl | rfl | rfl <;> decide), q12 e h]; exact he e h
  have Q0 : xi_pl W t10 := fun s hs => by show xi_q W t10 s _; unfold xi_q; rw [q1, q3, q5]; exact hq s hs
  clear m1 m2 m3 m4 m5 m6 m7 m8 m9 m10 u1 u2 u3 u4 u5 u6
  obtain ⟨ga0, ua0, gb0, ub0, ga1, ua1, gb1, ub1, ga2, ua2, gb2, ub2, ga3, ua3, gb3, ub3, ga4, ua4, gb4, ub4, ga5, ua5, gb5, ub5, ga6, ua6, gb6, ub6, ga7, ua7, gb7, ub7, rfl⟩ := hU
  obtain ⟨ta0, na0, tb0, nb0, ta1, na1, tb1, nb1, ta2, na2, tb2, nb2, ta3, na3, tb3, nb3, ta4, na4, tb4, nb4, ta5, na5, tb5, nb5, ta6, na6, tb6, nb6, ta7, na7, tb7, nb7, rfl⟩ := hM
  obtain ⟨R1, B1, Q1, E1, z0⟩ := sim_head_0 R0 hB0 (by omega) hW Q0 (by rw [q1]; exact hp 0 (by decide)) E0 ua0 ub0 na0 nb0
  obtain ⟨R2, B2, Q2, E2, z1⟩ := sim_head_1 R1 B1 (by omega) hW Q1 (by rw [z0, q1]; simp [upd]; exact hp 1 (by decide)) E1 ua1 ub1 na1 nb1
  obtain ⟨R3, B3, Q3, E3, z2⟩ := sim_head_2 R2 B2 (by omega) hW Q2 (by rw [z1, z0, q1]; simp [upd]; exact hp 2 (by decide)) E2 ua2 ub2 na2 nb2
  obtain ⟨R4, B4, Q4, E4, z3⟩ := sim_head_3 R3 B3 (by omega) hW Q3 (by rw [z2, z1, z0, q1]; simp [upd]; exact hp 3 (by decide)) E3 ua3 ub3 na3 nb3
  obtain ⟨R5, B5, Q5, E5, z4⟩ := sim_head_4 R4 B4 (by omega) hW Q4 (by rw [z3, z2, z1, z0, q1]; simp [upd]; exact hp 4 (by decide)) E4 ua4 ub4 na4 nb4
  obtain ⟨R6, B6, Q6, E6, z5⟩ := sim_head_5 R5 B5 (by omega) hW Q5 (by rw [z4, z3, z2, z1, z0, q1]; simp [upd]; exact hp 5 (by decide)) E5 ua5 ub5 na5 nb5
  obtain ⟨R7, B7, Q7, E7, z6⟩ := sim_head_6 R6 B6 (by omega) hW Q6 (by rw [z5, z4, z3, z2, z1, z0, q1]; simp [upd]; exact hp 6 (by decide)) E6 ua6 ub6 na6 nb6
  obtain ⟨R8, B8, Q8, E8, z7⟩ := sim_head_7 R7 B7 (by omega) hW Q7 (by rw [z6, z5, z4, z3, z2, z1, z0, q1]; simp [upd]; exact hp 7 (by decide)) E7 ua7 ub7 na7 nb7
  refine ⟨R8, B8, Q8, E8, fun h hh => ?_⟩
  rw [z7, z6, z5, z4, z3, z2, z1, z0]
  rcases (show h = 0 ∨ h = 1 ∨ h = 2 ∨ h = 3 ∨ h = 4 ∨ h = 5 ∨ h = 6 ∨ h = 7 from by omega) with rfl | rfl | rfl | rfl | rfl | rfl | rfl | rfl <;> rfl
