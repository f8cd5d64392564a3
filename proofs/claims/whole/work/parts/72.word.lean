theorem xz_k {g : xk_St} {k : Nat} {F : Nat → Int32} {x : Int32} (hk : 0 ≠ k) (h : g 0 0 = x) : va_up g k F 0 0 = x := by
  rw [show va_up g k F 0 = g 0 from if_neg hk]; exact h
theorem xz_f {g : xk_St} {j : Nat} {v x : Int32} (hj : 0 ≠ j) (h : g 0 0 = x) : va_up g 0 (upd (g 0) j v) 0 0 = x := by
  rw [show va_up g 0 (upd (g 0) j v) 0 = upd (g 0) j v from if_pos rfl, show upd (g 0) j v 0 = g 0 0 from if_neg hj]; exact h
theorem izzM_note (g0 : xk_St) (k0 : Int32) (k1 : Int32) (gz : xk_St) : relzM_note g0 k0 k1 gz → gz 0 0 = g0 0 0 := by
  intro h
  have Ig0 : g0 0 0 = g0 0 0 := rfl
  unfold relzM_note at h
  obtain ⟨g1, u1, v2⟩ := h
  have Ig1 : g1 0 0 = g0 0 0 := by rw [u1]; first | exact xz_k (by decide) Ig0 | exact xz_f (by decide) Ig0
  obtain ⟨g2, u3, v4⟩ := v2
  have Ig2 : g2 0 0 = g0 0 0 := by rw [u3]; first | exact xz_k (by decide) Ig1 | exact xz_f (by decide) Ig1
  obtain ⟨g3, u5, v6⟩ := v4
  have Ig3 : g3 0 0 = g0 0 0 := by rw [u5]; first | exact xz_k (by decide) Ig2 | exact xz_f (by decide) Ig2
  obtain ⟨g4, u7, v8⟩ := v6
  have Ig4 : g4 0 0 = g0 0 0 := by rw [u7]; first | exact xz_k (by decide) Ig3 | exact xz_f (by decide) Ig3
  exact (congrFun (congrFun (v8) 0) 0).trans Ig4
theorem izzM_disturb_0 (g0 : xk_St) (gz : xk_St) : relzM_disturb_0 g0 gz → gz 0 0 = g0 0 0 := by
  intro h
  have Ig0 : g0 0 0 = g0 0 0 := rfl
  unfold relzM_disturb_0 at h
  obtain ⟨g3, u1, v2⟩ := h
  have Ig3 : g3 0 0 = g0 0 0 := by
    by_cases hc : ((g0 5) 0) = 0
    · rw [if_pos hc] at u1
      obtain ⟨g1, u3, v4⟩ := u1
      have Ig1 : g1 0 0 = g0 0 0 := by rw [u3]; first | exact xz_k (by decide) Ig0 | exact xz_f (by decide) Ig0
      obtain ⟨g2, u5, v6⟩ := v4
      have Ig2 : g2 0 0 = g0 0 0 := (izzM_note _ _ _ _ u5).trans Ig1
      exact (congrFun (congrFun (v6) 0) 0).trans Ig2
    · rw [if_neg hc] at u1
      exact (congrFun (congrFun (u1) 0) 0).trans Ig0
  exact (congrFun (congrFun (v2) 0) 0).trans Ig3
theorem izzM_change_0 (g0 : xk_St) (k1 : Int32) (gz : xk_St) : relzM_change_0 g0 k1 gz → gz 0 0 = g0 0 0 := by
  intro h
  have Ig0 : g0 0 0 = g0 0 0 := rfl
  unfold relzM_change_0 at h
  obtain ⟨g1, u1, v2⟩ := h
  have Ig1 : g1 0 0 = g0 0 0 := by rw [u1]; first | exact xz_k (by decide) Ig0 | exact xz_f (by decide) Ig0
  obtain ⟨g4, u3, v4⟩ := v2
  have Ig4 : g4 0 0 = g0 0 0 := by
    by_cases hc : ((g1 3) 0) < 0
    · rw [if_pos hc] at u3
      obtain ⟨g2, u5, v6⟩ := u3
      have Ig2 : g2 0 0 = g0 0 0 := (izzM_disturb_0 _ _ u5).trans Ig1
      exact (congrFun (congrFun (v6) 0) 0).trans Ig2
    · rw [if_neg hc] at u3
      by_cases hc : ((g1 3) 0) ≤ 400
      · rw [if_pos hc] at u3
        exact (congrFun (congrFun (u3) 0) 0).trans Ig1
      · rw [if_neg hc] at u3
        obtain ⟨g3, u7, v8⟩ := u3
        have Ig3 : g3 0 0 = g0 0 0 := (izzM_disturb_0 _ _ u7).trans Ig1
        exact (congrFun (congrFun (v8) 0) 0).trans Ig3
  exact (congrFun (congrFun (v4) 0) 0).trans Ig4
theorem izzM_counts_0_0 (g0 : xk_St) (k2 : Int32) (gz : xk_St) : relzM_counts_0_0 g0 k2 gz → gz 0 0 = g0 0 0 := by
  intro h
  have Ig0 : g0 0 0 = g0 0 0 := rfl
  unfold relzM_counts_0_0 at h
  obtain ⟨x1, u1, v2⟩ := h
  obtain ⟨g1, u3, v4⟩ := v2
  have Ig1 : g1 0 0 = g0 0 0 := by rw [u3]; first | exact xz_k (by decide) Ig0 | exact xz_f (by decide) Ig0
  obtain ⟨x2, u5, v6⟩ := v4
  obtain ⟨g2, u7, v8⟩ := v6
  have Ig2 : g2 0 0 = g0 0 0 := by rw [u7]; first | exact xz_k (by decide) Ig1 | exact xz_f (by decide) Ig1
  obtain ⟨g3, u9, v10⟩ := v8
  have Ig3 : g3 0 0 = g0 0 0 := (izzM_change_0 _ _ _ u9).trans Ig2
  obtain ⟨g5, u11, v12⟩ := v10
  have Ig5 : g5 0 0 = g0 0 0 := by
    by_cases hc : k2 = 1
    · rw [if_pos hc] at u11
      obtain ⟨g4, u13, v14⟩ := u11
      have Ig4 : g4 0 0 = g0 0 0 := by rw [u13]; first | exact xz_k (by decide) Ig3 | exact xz_f (by decide) Ig3
      exact (congrFun (congrFun (v14) 0) 0).trans Ig4
    · rw [if_neg hc] at u11
      exact (congrFun (congrFun (u11) 0) 0).trans Ig3
  exact (congrFun (congrFun (v12) 0) 0).trans Ig5
theorem izzM_disturb_1 (g0 : xk_St) (gz : xk_St) : relzM_disturb_1 g0 gz → gz 0 0 = g0 0 0 := by
  intro h
  have Ig0 : g0 0 0 = g0 0 0 := rfl
  unfold relzM_disturb_1 at h
  obtain ⟨g3, u1, v2⟩ := h
  have Ig3 : g3 0 0 = g0 0 0 := by
    by_cases hc : ((g0 5) 1) = 0
    · rw [if_pos hc] at u1
      obtain ⟨g1, u3, v4⟩ := u1
      have Ig1 : g1 0 0 = g0 0 0 := by rw [u3]; first | exact xz_k (by decide) Ig0 | exact xz_f (by decide) Ig0
      obtain ⟨g2, u5, v6⟩ := v4
      have Ig2 : g2 0 0 = g0 0 0 := (izzM_note _ _ _ _ u5).trans Ig1
      exact (congrFun (congrFun (v6) 0) 0).trans Ig2
    · rw [if_neg hc] at u1
      exact (congrFun (congrFun (u1) 0) 0).trans Ig0
  exact (congrFun (congrFun (v2) 0) 0).trans Ig3
theorem izzM_change_1 (g0 : xk_St) (k1 : Int32) (gz : xk_St) : relzM_change_1 g0 k1 gz → gz 0 0 = g0 0 0 := by
  intro h
  have Ig0 : g0 0 0 = g0 0 0 := rfl
  unfold relzM_change_1 at h
  obtain ⟨g1, u1, v2⟩ := h
  have Ig1 : g1 0 0 = g0 0 0 := by rw [u1]; first | exact xz_k (by decide) Ig0 | exact xz_f (by decide) Ig0
  obtain ⟨g4, u3, v4⟩ := v2
  have Ig4 : g4 0 0 = g0 0 0 := by
    by_cases hc : ((g1 3) 1) < 0
    · rw [if_pos hc] at u3
      obtain ⟨g2, u5, v6⟩ := u3
      have Ig2 : g2 0 0 = g0 0 0 := (izzM_disturb_1 _ _ u5).trans Ig1
      exact (congrFun (congrFun (v6) 0) 0).trans Ig2
    · rw [if_neg hc] at u3
      by_cases hc : ((g1 3) 1) ≤ 400
      · rw [if_pos hc] at u3
        exact (congrFun (congrFun (u3) 0) 0).trans Ig1
      · rw [if_neg hc] at u3
        obtain ⟨g3, u7, v8⟩ := u3
        have Ig3 : g3 0 0 = g0 0 0 := (izzM_disturb_1 _ _ u7).trans Ig1
        exact (congrFun (congrFun (v8) 0) 0).trans Ig3
  exact (congrFun (congrFun (v4) 0) 0).trans Ig4
theorem izzM_counts_0_1 (g0 : xk_St) (k2 : Int32) (gz : xk_St) : relzM_counts_0_1 g0 k2 gz → gz 0 0 = g0 0 0 := by
  intro h
  have Ig0 : g0 0 0 = g0 0 0 := rfl
  unfold relzM_counts_0_1 at h
  obtain ⟨x1, u1, v2⟩ := h
  obtain ⟨g1, u3, v4⟩ := v2
  have Ig1 : g1 0 0 = g0 0 0 := by rw [u3]; first | exact xz_k (by decide) Ig0 | exact xz_f (by decide) Ig0
  obtain ⟨x2, u5, v6⟩ := v4
  obtain ⟨g2, u7, v8⟩ := v6
  have Ig2 : g2 0 0 = g0 0 0 := by rw [u7]; first | exact xz_k (by decide) Ig1 | exact xz_f (by decide) Ig1
  obtain ⟨g3, u9, v10⟩ := v8
  have Ig3 : g3 0 0 = g0 0 0 := (izzM_change_0 _ _ _ u9).trans Ig2
  obtain ⟨x3, u11, v12⟩ := v10
  obtain ⟨g4, u13, v14⟩ := v12
  have Ig4 : g4 0 0 = g0 0 0 := by rw [u13]; first | exact xz_k (by decide) Ig3 | exact xz_f (by decide) Ig3
  obtain ⟨x4, u15, v16⟩ := v14
  obtain ⟨g5, u17, v18⟩ := v16
  have Ig5 : g5 0 0 = g0 0 0 := by rw [u17]; first | exact xz_k (by decide) Ig4 | exact xz_f (by decide) Ig4
  obtain ⟨g6, u19, v20⟩ := v18
  have Ig6 : g6 0 0 = g0 0 0 := (izzM_change_1 _ _ _ u19).trans Ig5
  exact (congrFun (congrFun (v20) 0) 0).trans Ig6
theorem izzM_disturb_2 (g0 : xk_St) (gz : xk_St) : relzM_disturb_2 g0 gz → gz 0 0 = g0 0 0 := by
  intro h
  have Ig0 : g0 0 0 = g0 0 0 := rfl
  unfold relzM_disturb_2 at h
  obtain ⟨g3, u1, v2⟩ := h
  have Ig3 : g3 0 0 = g0 0 0 := by
    by_cases hc : ((g0 5) 2) = 0
    · rw [if_pos hc] at u1
      obtain ⟨g1, u3, v4⟩ := u1
      have Ig1 : g1 0 0 = g0 0 0 := by rw [u3]; first | exact xz_k (by decide) Ig0 | exact xz_f (by decide) Ig0
      obtain ⟨g2, u5, v6⟩ := v4
      have Ig2 : g2 0 0 = g0 0 0 := (izzM_note _ _ _ _ u5).trans Ig1
      exact (congrFun (congrFun (v6) 0) 0).trans Ig2
    · rw [if_neg hc] at u1
      exact (congrFun (congrFun (u1) 0) 0).trans Ig0
  exact (congrFun (congrFun (v2) 0) 0).trans Ig3
theorem izzM_change_2 (g0 : xk_St) (k1 : Int32) (gz : xk_St) : relzM_change_2 g0 k1 gz → gz 0 0 = g0 0 0 := by
  intro h
  have Ig0 : g0 0 0 = g0 0 0 := rfl
  unfold relzM_change_2 at h
  obtain ⟨g1, u1, v2⟩ := h
  have Ig1 : g1 0 0 = g0 0 0 := by rw [u1]; first | exact xz_k (by decide) Ig0 | exact xz_f (by decide) Ig0
  obtain ⟨g4, u3, v4⟩ := v2
  have Ig4 : g4 0 0 = g0 0 0 := by
    by_cases hc : ((g1 3) 2) < 0
    · rw [if_pos hc] at u3
      obtain ⟨g2, u5, v6⟩ := u3
      have Ig2 : g2 0 0 = g0 0 0 := (izzM_disturb_2 _ _ u5).trans Ig1
      exact (congrFun (congrFun (v6) 0) 0).trans Ig2
    · rw [if_neg hc] at u3
      by_cases hc : ((g1 3) 2) ≤ 400
      · rw [if_pos hc] at u3
        exact (congrFun (congrFun (u3) 0) 0).trans Ig1
      · rw [if_neg hc] at u3
        obtain ⟨g3, u7, v8⟩ := u3
        have Ig3 : g3 0 0 = g0 0 0 := (izzM_disturb_2 _ _ u7).trans Ig1
        exact (congrFun (congrFun (v8) 0) 0).trans Ig3
  exact (congrFun (congrFun (v4) 0) 0).trans Ig4
theorem izzM_counts_0_2 (g0 : xk_St) (k2 : Int32) (gz : xk_St) : relzM_counts_0_2 g0 k2 gz → gz 0 0 = g0 0 0 := by
  intro h
  have Ig0 : g0 0 0 = g0 0 0 := rfl
  unfold relzM_counts_0_2 at h
  obtain ⟨x1, u1, v2⟩ := h
  obtain ⟨g1, u3, v4⟩ := v2
  have Ig1 : g1 0 0 = g0 0 0 := by rw [u3]; first | exact xz_k (by decide) Ig0 | exact xz_f (by decide) Ig0
  obtain ⟨x2, u5, v6⟩ := v4
  obtain ⟨g2, u7, v8⟩ := v6
  have Ig2 : g2 0 0 = g0 0 0 := by rw [u7]; first | exact xz_k (by decide) Ig1 | exact xz_f (by decide) Ig1
  obtain ⟨g3, u9, v10⟩ := v8
  have Ig3 : g3 0 0 = g0 0 0 := (izzM_change_1 _ _ _ u9).trans Ig2
  obtain ⟨x3, u11, v12⟩ := v10
  obtain ⟨g4, u13, v14⟩ := v12
  have Ig4 : g4 0 0 = g0 0 0 := by rw [u13]; first | exact xz_k (by decide) Ig3 | exact xz_f (by decide) Ig3
  obtain ⟨x4, u15, v16⟩ := v14
  obtain ⟨g5, u17, v18⟩ := v16
  have Ig5 : g5 0 0 = g0 0 0 := by rw [u17]; first | exact xz_k (by decide) Ig4 | exact xz_f (by decide) Ig4
  obtain ⟨g6, u19, v20⟩ := v18
  have Ig6 : g6 0 0 = g0 0 0 := (izzM_change_2 _ _ _ u19).trans Ig5
  exact (congrFun (congrFun (v20) 0) 0).trans Ig6
theorem izzM_counts_0_3 (g0 : xk_St) (k2 : Int32) (gz : xk_St) : relzM_counts_0_3 g0 k2 gz → gz 0 0 = g0 0 0 := by
  intro h
  have Ig0 : g0 0 0 = g0 0 0 := rfl
  unfold relzM_counts_0_3 at h
  obtain ⟨x1, u1, v2⟩ := h
  obtain ⟨g1, u3, v4⟩ := v2
  have Ig1 : g1 0 0 = g0 0 0 := by rw [u3]; first | exact xz_k (by decide) Ig0 | exact xz_f (by decide) Ig0
  obtain ⟨x2, u5, v6⟩ := v4
  obtain ⟨g2, u7, v8⟩ := v6
  have Ig2 : g2 0 0 = g0 0 0 := by rw [u7]; first | exact xz_k (by decide) Ig1 | exact xz_f (by decide) Ig1
  obtain ⟨g3, u9, v10⟩ := v8
  have Ig3 : g3 0 0 = g0 0 0 := (izzM_change_2 _ _ _ u9).trans Ig2
  obtain ⟨g5, u11, v12⟩ := v10
  have Ig5 : g5 0 0 = g0 0 0 := by
    by_cases hc : k2 = (-1)
    · rw [if_pos hc] at u11
      obtain ⟨g4, u13, v14⟩ := u11
      have Ig4 : g4 0 0 = g0 0 0 := by rw [u13]; first | exact xz_k (by decide) Ig3 | exact xz_f (by decide) Ig3
      exact (congrFun (congrFun (v14) 0) 0).trans Ig4
    · rw [if_neg hc] at u11
      exact (congrFun (congrFun (u11) 0) 0).trans Ig3
  exact (congrFun (congrFun (v12) 0) 0).trans Ig5
theorem izzM_disturb_3 (g0 : xk_St) (gz : xk_St) : relzM_disturb_3 g0 gz → gz 0 0 = g0 0 0 := by
  intro h
  have Ig0 : g0 0 0 = g0 0 0 := rfl
  unfold relzM_disturb_3 at h
  obtain ⟨g3, u1, v2⟩ := h
  have Ig3 : g3 0 0 = g0 0 0 := by
    by_cases hc : ((g0 5) 3) = 0
    · rw [if_pos hc] at u1
      obtain ⟨g1, u3, v4⟩ := u1
      have Ig1 : g1 0 0 = g0 0 0 := by rw [u3]; first | exact xz_k (by decide) Ig0 | exact xz_f (by decide) Ig0
      obtain ⟨g2, u5, v6⟩ := v4
      have Ig2 : g2 0 0 = g0 0 0 := (izzM_note _ _ _ _ u5).trans Ig1
      exact (congrFun (congrFun (v6) 0) 0).trans Ig2
    · rw [if_neg hc] at u1
      exact (congrFun (congrFun (u1) 0) 0).trans Ig0
  exact (congrFun (congrFun (v2) 0) 0).trans Ig3
theorem izzM_change_3 (g0 : xk_St) (k1 : Int32) (gz : xk_St) : relzM_change_3 g0 k1 gz → gz 0 0 = g0 0 0 := by
  intro h
  have Ig0 : g0 0 0 = g0 0 0 := rfl
  unfold relzM_change_3 at h
  obtain ⟨g1, u1, v2⟩ := h
  have Ig1 : g1 0 0 = g0 0 0 := by rw [u1]; first | exact xz_k (by decide) Ig0 | exact xz_f (by decide) Ig0
  obtain ⟨g4, u3, v4⟩ := v2
  have Ig4 : g4 0 0 = g0 0 0 := by
    by_cases hc : ((g1 3) 3) < 0
    · rw [if_pos hc] at u3
      obtain ⟨g2, u5, v6⟩ := u3
      have Ig2 : g2 0 0 = g0 0 0 := (izzM_disturb_3 _ _ u5).trans Ig1
      exact (congrFun (congrFun (v6) 0) 0).trans Ig2
    · rw [if_neg hc] at u3
      by_cases hc : ((g1 3) 3) ≤ 400
      · rw [if_pos hc] at u3
        exact (congrFun (congrFun (u3) 0) 0).trans Ig1
      · rw [if_neg hc] at u3
        obtain ⟨g3, u7, v8⟩ := u3
        have Ig3 : g3 0 0 = g0 0 0 := (izzM_disturb_3 _ _ u7).trans Ig1
        exact (congrFun (congrFun (v8) 0) 0).trans Ig3
  exact (congrFun (congrFun (v4) 0) 0).trans Ig4
theorem izzM_counts_1_0 (g0 : xk_St) (k2 : Int32) (gz : xk_St) : relzM_counts_1_0 g0 k2 gz → gz 0 0 = g0 0 0 := by
  intro h
  have Ig0 : g0 0 0 = g0 0 0 := rfl
  unfold relzM_counts_1_0 at h
  obtain ⟨x1, u1, v2⟩ := h
  obtain ⟨g1, u3, v4⟩ := v2
  have Ig1 : g1 0 0 = g0 0 0 := by rw [u3]; first | exact xz_k (by decide) Ig0 | exact xz_f (by decide) Ig0
  obtain ⟨x2, u5, v6⟩ := v4
  obtain ⟨g2, u7, v8⟩ := v6
  have Ig2 : g2 0 0 = g0 0 0 := by rw [u7]; first | exact xz_k (by decide) Ig1 | exact xz_f (by decide) Ig1
  obtain ⟨g3, u9, v10⟩ := v8
  have Ig3 : g3 0 0 = g0 0 0 := (izzM_change_3 _ _ _ u9).trans Ig2
  obtain ⟨g5, u11, v12⟩ := v10
  have Ig5 : g5 0 0 = g0 0 0 := by
    by_cases hc : k2 = 1
    · rw [if_pos hc] at u11
      obtain ⟨g4, u13, v14⟩ := u11
      have Ig4 : g4 0 0 = g0 0 0 := by rw [u13]; first | exact xz_k (by decide) Ig3 | exact xz_f (by decide) Ig3
      exact (congrFun (congrFun (v14) 0) 0).trans Ig4
    · rw [if_neg hc] at u11
      exact (congrFun (congrFun (u11) 0) 0).trans Ig3
  exact (congrFun (congrFun (v12) 0) 0).trans Ig5
theorem izzM_disturb_4 (g0 : xk_St) (gz : xk_St) : relzM_disturb_4 g0 gz → gz 0 0 = g0 0 0 := by
  intro h
  have Ig0 : g0 0 0 = g0 0 0 := rfl
  unfold relzM_disturb_4 at h
  obtain ⟨g3, u1, v2⟩ := h
  have Ig3 : g3 0 0 = g0 0 0 := by
    by_cases hc : ((g0 5) 4) = 0
    · rw [if_pos hc] at u1
      obtain ⟨g1, u3, v4⟩ := u1
      have Ig1 : g1 0 0 = g0 0 0 := by rw [u3]; first | exact xz_k (by decide) Ig0 | exact xz_f (by decide) Ig0
      obtain ⟨g2, u5, v6⟩ := v4
      have Ig2 : g2 0 0 = g0 0 0 := (izzM_note _ _ _ _ u5).trans Ig1
      exact (congrFun (congrFun (v6) 0) 0).trans Ig2
    · rw [if_neg hc] at u1
      exact (congrFun (congrFun (u1) 0) 0).trans Ig0
  exact (congrFun (congrFun (v2) 0) 0).trans Ig3
theorem izzM_change_4 (g0 : xk_St) (k1 : Int32) (gz : xk_St) : relzM_change_4 g0 k1 gz → gz 0 0 = g0 0 0 := by
  intro h
  have Ig0 : g0 0 0 = g0 0 0 := rfl
  unfold relzM_change_4 at h
  obtain ⟨g1, u1, v2⟩ := h
  have Ig1 : g1 0 0 = g0 0 0 := by rw [u1]; first | exact xz_k (by decide) Ig0 | exact xz_f (by decide) Ig0
  obtain ⟨g4, u3, v4⟩ := v2
  have Ig4 : g4 0 0 = g0 0 0 := by
    by_cases hc : ((g1 3) 4) < 0
    · rw [if_pos hc] at u3
      obtain ⟨g2, u5, v6⟩ := u3
      have Ig2 : g2 0 0 = g0 0 0 := (izzM_disturb_4 _ _ u5).trans Ig1
      exact (congrFun (congrFun (v6) 0) 0).trans Ig2
    · rw [if_neg hc] at u3
      by_cases hc : ((g1 3) 4) ≤ 400
      · rw [if_pos hc] at u3
        exact (congrFun (congrFun (u3) 0) 0).trans Ig1
      · rw [if_neg hc] at u3
        obtain ⟨g3, u7, v8⟩ := u3
        have Ig3 : g3 0 0 = g0 0 0 := (izzM_disturb_4 _ _ u7).trans Ig1
        exact (congrFun (congrFun (v8) 0) 0).trans Ig3
  exact (congrFun (congrFun (v4) 0) 0).trans Ig4
theorem izzM_counts_1_1 (g0 : xk_St) (k2 : Int32) (gz : xk_St) : relzM_counts_1_1 g0 k2 gz → gz 0 0 = g0 0 0 := by
  intro h
  have Ig0 : g0 0 0 = g0 0 0 := rfl
  unfold relzM_counts_1_1 at h
  obtain ⟨x1, u1, v2⟩ := h
  obtain ⟨g1, u3, v4⟩ := v2
  have Ig1 : g1 0 0 = g0 0 0 := by rw [u3]; first | exact xz_k (by decide) Ig0 | exact xz_f (by decide) Ig0
  obtain ⟨x2, u5, v6⟩ := v4
  obtain ⟨g2, u7, v8⟩ := v6
  have Ig2 : g2 0 0 = g0 0 0 := by rw [u7]; first | exact xz_k (by decide) Ig1 | exact xz_f (by decide) Ig1
  obtain ⟨g3, u9, v10⟩ := v8
  have Ig3 : g3 0 0 = g0 0 0 := (izzM_change_3 _ _ _ u9).trans Ig2
  obtain ⟨x3, u11, v12⟩ := v10
  obtain ⟨g4, u13, v14⟩ := v12
  have Ig4 : g4 0 0 = g0 0 0 := by rw [u13]; first | exact xz_k (by decide) Ig3 | exact xz_f (by decide) Ig3
  obtain ⟨x4, u15, v16⟩ := v14
  obtain ⟨g5, u17, v18⟩ := v16
  have Ig5 : g5 0 0 = g0 0 0 := by rw [u17]; first | exact xz_k (by decide) Ig4 | exact xz_f (by decide) Ig4
  obtain ⟨g6, u19, v20⟩ := v18
  have Ig6 : g6 0 0 = g0 0 0 := (izzM_change_4 _ _ _ u19).trans Ig5
  exact (congrFun (congrFun (v20) 0) 0).trans Ig6
theorem izzM_disturb_5 (g0 : xk_St) (gz : xk_St) : relzM_disturb_5 g0 gz → gz 0 0 = g0 0 0 := by
  intro h
  have Ig0 : g0 0 0 = g0 0 0 := rfl
  unfold relzM_disturb_5 at h
  obtain ⟨g3, u1, v2⟩ := h
  have Ig3 : g3 0 0 = g0 0 0 := by
    by_cases hc : ((g0 5) 5) = 0
    · rw [if_pos hc] at u1
      obtain ⟨g1, u3, v4⟩ := u1
      have Ig1 : g1 0 0 = g0 0 0 := by rw [u3]; first | exact xz_k (by decide) Ig0 | exact xz_f (by decide) Ig0
      obtain ⟨g2, u5, v6⟩ := v4
      have Ig2 : g2 0 0 = g0 0 0 := (izzM_note _ _ _ _ u5).trans Ig1
      exact (congrFun (congrFun (v6) 0) 0).trans Ig2
    · rw [if_neg hc] at u1
      exact (congrFun (congrFun (u1) 0) 0).trans Ig0
  exact (congrFun (congrFun (v2) 0) 0).trans Ig3
theorem izzM_change_5 (g0 : xk_St) (k1 : Int32) (gz : xk_St) : relzM_change_5 g0 k1 gz → gz 0 0 = g0 0 0 := by
  intro h
  have Ig0 : g0 0 0 = g0 0 0 := rfl
  unfold relzM_change_5 at h
  obtain ⟨g1, u1, v2⟩ := h
  have Ig1 : g1 0 0 = g0 0 0 := by rw [u1]; first | exact xz_k (by decide) Ig0 | exact xz_f (by decide) Ig0
  obtain ⟨g4, u3, v4⟩ := v2
  have Ig4 : g4 0 0 = g0 0 0 := by
    by_cases hc : ((g1 3) 5) < 0
    · rw [if_pos hc] at u3
      obtain ⟨g2, u5, v6⟩ := u3
      have Ig2 : g2 0 0 = g0 0 0 := (izzM_disturb_5 _ _ u5).trans Ig1
      exact (congrFun (congrFun (v6) 0) 0).trans Ig2
    · rw [if_neg hc] at u3
      by_cases hc : ((g1 3) 5) ≤ 400
      · rw [if_pos hc] at u3
        exact (congrFun (congrFun (u3) 0) 0).trans Ig1
      · rw [if_neg hc] at u3
        obtain ⟨g3, u7, v8⟩ := u3
        have Ig3 : g3 0 0 = g0 0 0 := (izzM_disturb_5 _ _ u7).trans Ig1
        exact (congrFun (congrFun (v8) 0) 0).trans Ig3
  exact (congrFun (congrFun (v4) 0) 0).trans Ig4
theorem izzM_counts_1_2 (g0 : xk_St) (k2 : Int32) (gz : xk_St) : relzM_counts_1_2 g0 k2 gz → gz 0 0 = g0 0 0 := by
  intro h
  have Ig0 : g0 0 0 = g0 0 0 := rfl
  unfold relzM_counts_1_2 at h
  obtain ⟨x1, u1, v2⟩ := h
  obtain ⟨g1, u3, v4⟩ := v2
  have Ig1 : g1 0 0 = g0 0 0 := by rw [u3]; first | exact xz_k (by decide) Ig0 | exact xz_f (by decide) Ig0
  obtain ⟨x2, u5, v6⟩ := v4
  obtain ⟨g2, u7, v8⟩ := v6
  have Ig2 : g2 0 0 = g0 0 0 := by rw [u7]; first | exact xz_k (by decide) Ig1 | exact xz_f (by decide) Ig1
  obtain ⟨g3, u9, v10⟩ := v8
  have Ig3 : g3 0 0 = g0 0 0 := (izzM_change_4 _ _ _ u9).trans Ig2
  obtain ⟨x3, u11, v12⟩ := v10
  obtain ⟨g4, u13, v14⟩ := v12
  have Ig4 : g4 0 0 = g0 0 0 := by rw [u13]; first | exact xz_k (by decide) Ig3 | exact xz_f (by decide) Ig3
  obtain ⟨x4, u15, v16⟩ := v14
  obtain ⟨g5, u17, v18⟩ := v16
  have Ig5 : g5 0 0 = g0 0 0 := by rw [u17]; first | exact xz_k (by decide) Ig4 | exact xz_f (by decide) Ig4
  obtain ⟨g6, u19, v20⟩ := v18
  have Ig6 : g6 0 0 = g0 0 0 := (izzM_change_5 _ _ _ u19).trans Ig5
  exact (congrFun (congrFun (v20) 0) 0).trans Ig6
theorem izzM_counts_1_3 (g0 : xk_St) (k2 : Int32) (gz : xk_St) : relzM_counts_1_3 g0 k2 gz → gz 0 0 = g0 0 0 := by
  intro h
  have Ig0 : g0 0 0 = g0 0 0 := rfl
  unfold relzM_counts_1_3 at h
  obtain ⟨x1, u1, v2⟩ := h
  obtain ⟨g1, u3, v4⟩ := v2
  have Ig1 : g1 0 0 = g0 0 0 := by rw [u3]; first | exact xz_k (by decide) Ig0 | exact xz_f (by decide) Ig0
  obtain ⟨x2, u5, v6⟩ := v4
  obtain ⟨g2, u7, v8⟩ := v6
  have Ig2 : g2 0 0 = g0 0 0 := by rw [u7]; first | exact xz_k (by decide) Ig1 | exact xz_f (by decide) Ig1
  obtain ⟨g3, u9, v10⟩ := v8
  have Ig3 : g3 0 0 = g0 0 0 := (izzM_change_5 _ _ _ u9).trans Ig2
  obtain ⟨g5, u11, v12⟩ := v10
  have Ig5 : g5 0 0 = g0 0 0 := by
    by_cases hc : k2 = (-1)
    · rw [if_pos hc] at u11
      obtain ⟨g4, u13, v14⟩ := u11
      have Ig4 : g4 0 0 = g0 0 0 := by rw [u13]; first | exact xz_k (by decide) Ig3 | exact xz_f (by decide) Ig3
      exact (congrFun (congrFun (v14) 0) 0).trans Ig4
    · rw [if_neg hc] at u11
      exact (congrFun (congrFun (u11) 0) 0).trans Ig3
  exact (congrFun (congrFun (v12) 0) 0).trans Ig5
theorem izzM_allPulses (g0 : xk_St) (gz : xk_St) : relzM_allPulses g0 gz → gz 0 0 = g0 0 0 := by
  intro h
  have Ig0 : g0 0 0 = g0 0 0 := rfl
  unfold relzM_allPulses at h
  obtain ⟨g1, u1, v2⟩ := h
  have Ig1 : g1 0 0 = g0 0 0 := by rw [u1]; first | exact xz_k (by decide) Ig0 | exact xz_f (by decide) Ig0
  obtain ⟨g2, u3, v4⟩ := v2
  have Ig2 : g2 0 0 = g0 0 0 := by rw [u3]; first | exact xz_k (by decide) Ig1 | exact xz_f (by decide) Ig1
  obtain ⟨g3, u5, v6⟩ := v4
  have Ig3 : g3 0 0 = g0 0 0 := by rw [u5]; first | exact xz_k (by decide) Ig2 | exact xz_f (by decide) Ig2
  obtain ⟨g4, u7, v8⟩ := v6
  have Ig4 : g4 0 0 = g0 0 0 := by rw [u7]; first | exact xz_k (by decide) Ig3 | exact xz_f (by decide) Ig3
  obtain ⟨g5, u9, v10⟩ := v8
  have Ig5 : g5 0 0 = g0 0 0 := by rw [u9]; first | exact xz_k (by decide) Ig4 | exact xz_f (by decide) Ig4
  obtain ⟨g6, u11, v12⟩ := v10
  have Ig6 : g6 0 0 = g0 0 0 := by rw [u11]; first | exact xz_k (by decide) Ig5 | exact xz_f (by decide) Ig5
  obtain ⟨g7, u13, v14⟩ := v12
  have Ig7 : g7 0 0 = g0 0 0 := by rw [u13]; first | exact xz_k (by decide) Ig6 | exact xz_f (by decide) Ig6
  obtain ⟨g8, u15, v16⟩ := v14
  have Ig8 : g8 0 0 = g0 0 0 := by rw [u15]; first | exact xz_k (by decide) Ig7 | exact xz_f (by decide) Ig7
  obtain ⟨g9, u17, v18⟩ := v16
  have Ig9 : g9 0 0 = g0 0 0 := by rw [u17]; first | exact xz_k (by decide) Ig8 | exact xz_f (by decide) Ig8
  obtain ⟨g10, u19, v20⟩ := v18
  have Ig10 : g10 0 0 = g0 0 0 := by rw [u19]; first | exact xz_k (by decide) Ig9 | exact xz_f (by decide) Ig9
  obtain ⟨g11, u21, v22⟩ := v20
  have Ig11 : g11 0 0 = g0 0 0 := by rw [u21]; first | exact xz_k (by decide) Ig10 | exact xz_f (by decide) Ig10
  obtain ⟨g13, u23, v24⟩ := v22
  have Ig13 : g13 0 0 = g0 0 0 := by
    by_cases hc : ((g10 1) 0) = 0
    · rw [if_pos hc] at u23
      exact (congrFun (congrFun (u23) 0) 0).trans Ig11
    · rw [if_neg hc] at u23
      by_cases hc : ((g11 2) 0) = 0
      · rw [if_pos hc] at u23
        obtain ⟨g12, u25, v26⟩ := u23
        have Ig12 : g12 0 0 = g0 0 0 := (izzM_counts_0_0 _ _ _ u25).trans Ig11
        exact (congrFun (congrFun (v26) 0) 0).trans Ig12
      · rw [if_neg hc] at u23
        exact (congrFun (congrFun (u23) 0) 0).trans Ig11
  obtain ⟨g14, u27, v28⟩ := v24
  have Ig14 : g14 0 0 = g0 0 0 := by rw [u27]; first | exact xz_k (by decide) Ig13 | exact xz_f (by decide) Ig13
  obtain ⟨g16, u29, v30⟩ := v28
  have Ig16 : g16 0 0 = g0 0 0 := by
    by_cases hc : ((g13 1) 1) = 0
    · rw [if_pos hc] at u29
      exact (congrFun (congrFun (u29) 0) 0).trans Ig14
    · rw [if_neg hc] at u29
      by_cases hc : ((g14 2) 1) = 0
      · rw [if_pos hc] at u29
        obtain ⟨g15, u31, v32⟩ := u29
        have Ig15 : g15 0 0 = g0 0 0 := (izzM_counts_0_1 _ _ _ u31).trans Ig14
        exact (congrFun (congrFun (v32) 0) 0).trans Ig15
      · rw [if_neg hc] at u29
        exact (congrFun (congrFun (u29) 0) 0).trans Ig14
  obtain ⟨g17, u33, v34⟩ := v30
  have Ig17 : g17 0 0 = g0 0 0 := by rw [u33]; first | exact xz_k (by decide) Ig16 | exact xz_f (by decide) Ig16
  obtain ⟨g19, u35, v36⟩ := v34
  have Ig19 : g19 0 0 = g0 0 0 := by
    by_cases hc : ((g16 1) 2) = 0
    · rw [if_pos hc] at u35
      exact (congrFun (congrFun (u35) 0) 0).trans Ig17
    · rw [if_neg hc] at u35
      by_cases hc : ((g17 2) 2) = 0
      · rw [if_pos hc] at u35
        obtain ⟨g18, u37, v38⟩ := u35
        have Ig18 : g18 0 0 = g0 0 0 := (izzM_counts_0_2 _ _ _ u37).trans Ig17
        exact (congrFun (congrFun (v38) 0) 0).trans Ig18
      · rw [if_neg hc] at u35
        exact (congrFun (congrFun (u35) 0) 0).trans Ig17
  obtain ⟨g20, u39, v40⟩ := v36
  have Ig20 : g20 0 0 = g0 0 0 := by rw [u39]; first | exact xz_k (by decide) Ig19 | exact xz_f (by decide) Ig19
  obtain ⟨g22, u41, v42⟩ := v40
  have Ig22 : g22 0 0 = g0 0 0 := by
    by_cases hc : ((g19 1) 3) = 0
    · rw [if_pos hc] at u41
      exact (congrFun (congrFun (u41) 0) 0).trans Ig20
    · rw [if_neg hc] at u41
      by_cases hc : ((g20 2) 3) = 0
      · rw [if_pos hc] at u41
        obtain ⟨g21, u43, v44⟩ := u41
        have Ig21 : g21 0 0 = g0 0 0 := (izzM_counts_0_3 _ _ _ u43).trans Ig20
        exact (congrFun (congrFun (v44) 0) 0).trans Ig21
      · rw [if_neg hc] at u41
        exact (congrFun (congrFun (u41) 0) 0).trans Ig20
  obtain ⟨g23, u45, v46⟩ := v42
  have Ig23 : g23 0 0 = g0 0 0 := by rw [u45]; first | exact xz_k (by decide) Ig22 | exact xz_f (by decide) Ig22
  obtain ⟨g25, u47, v48⟩ := v46
  have Ig25 : g25 0 0 = g0 0 0 := by
    by_cases hc : ((g22 1) 4) = 0
    · rw [if_pos hc] at u47
      exact (congrFun (congrFun (u47) 0) 0).trans Ig23
    · rw [if_neg hc] at u47
      by_cases hc : ((g23 2) 4) = 0
      · rw [if_pos hc] at u47
        obtain ⟨g24, u49, v50⟩ := u47
        have Ig24 : g24 0 0 = g0 0 0 := (izzM_counts_1_0 _ _ _ u49).trans Ig23
        exact (congrFun (congrFun (v50) 0) 0).trans Ig24
      · rw [if_neg hc] at u47
        exact (congrFun (congrFun (u47) 0) 0).trans Ig23
  obtain ⟨g26, u51, v52⟩ := v48
  have Ig26 : g26 0 0 = g0 0 0 := by rw [u51]; first | exact xz_k (by decide) Ig25 | exact xz_f (by decide) Ig25
  obtain ⟨g28, u53, v54⟩ := v52
  have Ig28 : g28 0 0 = g0 0 0 := by
    by_cases hc : ((g25 1) 5) = 0
    · rw [if_pos hc] at u53
      exact (congrFun (congrFun (u53) 0) 0).trans Ig26
    · rw [if_neg hc] at u53
      by_cases hc : ((g26 2) 5) = 0
      · rw [if_pos hc] at u53
        obtain ⟨g27, u55, v56⟩ := u53
        have Ig27 : g27 0 0 = g0 0 0 := (izzM_counts_1_1 _ _ _ u55).trans Ig26
        exact (congrFun (congrFun (v56) 0) 0).trans Ig27
      · rw [if_neg hc] at u53
        exact (congrFun (congrFun (u53) 0) 0).trans Ig26
  obtain ⟨g29, u57, v58⟩ := v54
  have Ig29 : g29 0 0 = g0 0 0 := by rw [u57]; first | exact xz_k (by decide) Ig28 | exact xz_f (by decide) Ig28
  obtain ⟨g31, u59, v60⟩ := v58
  have Ig31 : g31 0 0 = g0 0 0 := by
    by_cases hc : ((g28 1) 6) = 0
    · rw [if_pos hc] at u59
      exact (congrFun (congrFun (u59) 0) 0).trans Ig29
    · rw [if_neg hc] at u59
      by_cases hc : ((g29 2) 6) = 0
      · rw [if_pos hc] at u59
        obtain ⟨g30, u61, v62⟩ := u59
        have Ig30 : g30 0 0 = g0 0 0 := (izzM_counts_1_2 _ _ _ u61).trans Ig29
        exact (congrFun (congrFun (v62) 0) 0).trans Ig30
      · rw [if_neg hc] at u59
        exact (congrFun (congrFun (u59) 0) 0).trans Ig29
  obtain ⟨g32, u63, v64⟩ := v60
  have Ig32 : g32 0 0 = g0 0 0 := by rw [u63]; first | exact xz_k (by decide) Ig31 | exact xz_f (by decide) Ig31
  obtain ⟨g34, u65, v66⟩ := v64
  have Ig34 : g34 0 0 = g0 0 0 := by
    by_cases hc : ((g31 1) 7) = 0
    · rw [if_pos hc] at u65
      exact (congrFun (congrFun (u65) 0) 0).trans Ig32
    · rw [if_neg hc] at u65
      by_cases hc : ((g32 2) 7) = 0
      · rw [if_pos hc] at u65
        obtain ⟨g33, u67, v68⟩ := u65
        have Ig33 : g33 0 0 = g0 0 0 := (izzM_counts_1_3 _ _ _ u67).trans Ig32
        exact (congrFun (congrFun (v68) 0) 0).trans Ig33
      · rw [if_neg hc] at u65
        exact (congrFun (congrFun (u65) 0) 0).trans Ig32
  exact (congrFun (congrFun (v66) 0) 0).trans Ig34
theorem izzM_useOrders (g0 : xk_St) (gz : xk_St) : relzM_useOrders g0 gz → gz 0 0 = g0 0 0 := by
  intro h
  have Ig0 : g0 0 0 = g0 0 0 := rfl
  unfold relzM_useOrders at h
  obtain ⟨g3, u1, v2⟩ := h
  have Ig3 : g3 0 0 = g0 0 0 := by
    by_cases hc : ((g0 13) 0) = 0
    · rw [if_pos hc] at u1
      exact (congrFun (congrFun (u1) 0) 0).trans Ig0
    · rw [if_neg hc] at u1
      by_cases hc : ((g0 3) 1) ≤ 0
      · rw [if_pos hc] at u1
        exact (congrFun (congrFun (u1) 0) 0).trans Ig0
      · rw [if_neg hc] at u1
        by_cases hc : ((g0 4) 1) = 0
        · rw [if_pos hc] at u1
          obtain ⟨g1, u3, v4⟩ := u1
          have Ig1 : g1 0 0 = g0 0 0 := by rw [u3]; first | exact xz_k (by decide) Ig0 | exact xz_f (by decide) Ig0
          obtain ⟨g2, u5, v6⟩ := v4
          have Ig2 : g2 0 0 = g0 0 0 := (izzM_note _ _ _ _ u5).trans Ig1
          exact (congrFun (congrFun (v6) 0) 0).trans Ig2
        · rw [if_neg hc] at u1
          exact (congrFun (congrFun (u1) 0) 0).trans Ig0
  obtain ⟨g6, u7, v8⟩ := v2
  have Ig6 : g6 0 0 = g0 0 0 := by
    by_cases hc : ((g3 13) 1) = 0
    · rw [if_pos hc] at u7
      exact (congrFun (congrFun (u7) 0) 0).trans Ig3
    · rw [if_neg hc] at u7
      by_cases hc : ((g3 3) 4) ≤ 0
      · rw [if_pos hc] at u7
        exact (congrFun (congrFun (u7) 0) 0).trans Ig3
      · rw [if_neg hc] at u7
        by_cases hc : ((g3 4) 4) = 0
        · rw [if_pos hc] at u7
          obtain ⟨g4, u9, v10⟩ := u7
          have Ig4 : g4 0 0 = g0 0 0 := by rw [u9]; first | exact xz_k (by decide) Ig3 | exact xz_f (by decide) Ig3
          obtain ⟨g5, u11, v12⟩ := v10
          have Ig5 : g5 0 0 = g0 0 0 := (izzM_note _ _ _ _ u11).trans Ig4
          exact (congrFun (congrFun (v12) 0) 0).trans Ig5
        · rw [if_neg hc] at u7
          exact (congrFun (congrFun (u7) 0) 0).trans Ig3
  exact (congrFun (congrFun (v8) 0) 0).trans Ig6
theorem izzM_watchLamps (g0 : xk_St) (gz : xk_St) : relzM_watchLamps g0 gz → gz 0 0 = g0 0 0 := by
  intro h
  have Ig0 : g0 0 0 = g0 0 0 := rfl
  unfold relzM_watchLamps at h
  obtain ⟨g6, u1, v2⟩ := h
  have Ig6 : g6 0 0 = g0 0 0 := by
    by_cases hc : ((g0 21) 0) = 0
    · rw [if_pos hc] at u1
      exact (congrFun (congrFun (u1) 0) 0).trans Ig0
    · rw [if_neg hc] at u1
      by_cases hc : ((g0 20) 0) = 0
      · rw [if_pos hc] at u1
        obtain ⟨g1, u3, v4⟩ := u1
        have Ig1 : g1 0 0 = g0 0 0 := by rw [u3]; first | exact xz_k (by decide) Ig0 | exact xz_f (by decide) Ig0
        obtain ⟨g2, u5, v6⟩ := v4
        have Ig2 : g2 0 0 = g0 0 0 := by rw [u5]; first | exact xz_k (by decide) Ig1 | exact xz_f (by decide) Ig1
        exact (congrFun (congrFun (v6) 0) 0).trans Ig2
      · rw [if_neg hc] at u1
        obtain ⟨g3, u7, v8⟩ := u1
        have Ig3 : g3 0 0 = g0 0 0 := by rw [u7]; first | exact xz_k (by decide) Ig0 | exact xz_f (by decide) Ig0
        by_cases hc : ((g3 22) 0) < 3
        · rw [if_pos hc] at v8
          exact (congrFun (congrFun (v8) 0) 0).trans Ig3
        · rw [if_neg hc] at v8
          by_cases hc : ((g3 23) 0) = 0
          · rw [if_pos hc] at v8
            obtain ⟨g4, u9, v10⟩ := v8
            have Ig4 : g4 0 0 = g0 0 0 := by rw [u9]; first | exact xz_k (by decide) Ig3 | exact xz_f (by decide) Ig3
            obtain ⟨g5, u11, v12⟩ := v10
            have Ig5 : g5 0 0 = g0 0 0 := (izzM_note _ _ _ _ u11).trans Ig4
            exact (congrFun (congrFun (v12) 0) 0).trans Ig5
          · rw [if_neg hc] at v8
            exact (congrFun (congrFun (v8) 0) 0).trans Ig3
  obtain ⟨g12, u13, v14⟩ := v2
  have Ig12 : g12 0 0 = g0 0 0 := by
    by_cases hc : ((g6 21) 1) = 0
    · rw [if_pos hc] at u13
      exact (congrFun (congrFun (u13) 0) 0).trans Ig6
    · rw [if_neg hc] at u13
      by_cases hc : ((g6 20) 1) = 0
      · rw [if_pos hc] at u13
        obtain ⟨g7, u15, v16⟩ := u13
        have Ig7 : g7 0 0 = g0 0 0 := by rw [u15]; first | exact xz_k (by decide) Ig6 | exact xz_f (by decide) Ig6
        obtain ⟨g8, u17, v18⟩ := v16
        have Ig8 : g8 0 0 = g0 0 0 := by rw [u17]; first | exact xz_k (by decide) Ig7 | exact xz_f (by decide) Ig7
        exact (congrFun (congrFun (v18) 0) 0).trans Ig8
      · rw [if_neg hc] at u13
        obtain ⟨g9, u19, v20⟩ := u13
        have Ig9 : g9 0 0 = g0 0 0 := by rw [u19]; first | exact xz_k (by decide) Ig6 | exact xz_f (by decide) Ig6
        by_cases hc : ((g9 22) 1) < 3
        · rw [if_pos hc] at v20
          exact (congrFun (congrFun (v20) 0) 0).trans Ig9
        · rw [if_neg hc] at v20
          by_cases hc : ((g9 23) 1) = 0
          · rw [if_pos hc] at v20
            obtain ⟨g10, u21, v22⟩ := v20
            have Ig10 : g10 0 0 = g0 0 0 := by rw [u21]; first | exact xz_k (by decide) Ig9 | exact xz_f (by decide) Ig9
            obtain ⟨g11, u23, v24⟩ := v22
            have Ig11 : g11 0 0 = g0 0 0 := (izzM_note _ _ _ _ u23).trans Ig10
            exact (congrFun (congrFun (v24) 0) 0).trans Ig11
          · rw [if_neg hc] at v20
            exact (congrFun (congrFun (v20) 0) 0).trans Ig9
  obtain ⟨g18, u25, v26⟩ := v14
  have Ig18 : g18 0 0 = g0 0 0 := by
    by_cases hc : ((g12 21) 2) = 0
    · rw [if_pos hc] at u25
      exact (congrFun (congrFun (u25) 0) 0).trans Ig12
    · rw [if_neg hc] at u25
      by_cases hc : ((g12 20) 2) = 0
      · rw [if_pos hc] at u25
        obtain ⟨g13, u27, v28⟩ := u25
        have Ig13 : g13 0 0 = g0 0 0 := by rw [u27]; first | exact xz_k (by decide) Ig12 | exact xz_f (by decide) Ig12
        obtain ⟨g14, u29, v30⟩ := v28
        have Ig14 : g14 0 0 = g0 0 0 := by rw [u29]; first | exact xz_k (by decide) Ig13 | exact xz_f (by decide) Ig13
        exact (congrFun (congrFun (v30) 0) 0).trans Ig14
      · rw [if_neg hc] at u25
        obtain ⟨g15, u31, v32⟩ := u25
        have Ig15 : g15 0 0 = g0 0 0 := by rw [u31]; first | exact xz_k (by decide) Ig12 | exact xz_f (by decide) Ig12
        by_cases hc : ((g15 22) 2) < 3
        · rw [if_pos hc] at v32
          exact (congrFun (congrFun (v32) 0) 0).trans Ig15
        · rw [if_neg hc] at v32
          by_cases hc : ((g15 23) 2) = 0
          · rw [if_pos hc] at v32
            obtain ⟨g16, u33, v34⟩ := v32
            have Ig16 : g16 0 0 = g0 0 0 := by rw [u33]; first | exact xz_k (by decide) Ig15 | exact xz_f (by decide) Ig15
            obtain ⟨g17, u35, v36⟩ := v34
            have Ig17 : g17 0 0 = g0 0 0 := (izzM_note _ _ _ _ u35).trans Ig16
            exact (congrFun (congrFun (v36) 0) 0).trans Ig17
          · rw [if_neg hc] at v32
            exact (congrFun (congrFun (v32) 0) 0).trans Ig15
  exact (congrFun (congrFun (v26) 0) 0).trans Ig18
theorem izzM_watchBarriers (g0 : xk_St) (gz : xk_St) : relzM_watchBarriers g0 gz → gz 0 0 = g0 0 0 := by
  intro h
  have Ig0 : g0 0 0 = g0 0 0 := rfl
  unfold relzM_watchBarriers at h
  obtain ⟨x1, u1, v2⟩ := h
  obtain ⟨x2, u3, v4⟩ := v2
  obtain ⟨g1, u5, v6⟩ := v4
  have Ig1 : g1 0 0 = g0 0 0 := by rw [u5]; first | exact xz_k (by decide) Ig0 | exact xz_f (by decide) Ig0
  obtain ⟨x3, u7, v8⟩ := v6
  obtain ⟨g2, u9, v10⟩ := v8
  have Ig2 : g2 0 0 = g0 0 0 := by rw [u9]; first | exact xz_k (by decide) Ig1 | exact xz_f (by decide) Ig1
  obtain ⟨g5, u11, v12⟩ := v10
  have Ig5 : g5 0 0 = g0 0 0 := by
    by_cases hc : ((g2 18) 0) < 61
    · rw [if_pos hc] at u11
      exact (congrFun (congrFun (u11) 0) 0).trans Ig2
    · rw [if_neg hc] at u11
      by_cases hc : ((g2 19) 0) = 0
      · rw [if_pos hc] at u11
        obtain ⟨g3, u13, v14⟩ := u11
        have Ig3 : g3 0 0 = g0 0 0 := by rw [u13]; first | exact xz_k (by decide) Ig2 | exact xz_f (by decide) Ig2
        obtain ⟨g4, u15, v16⟩ := v14
        have Ig4 : g4 0 0 = g0 0 0 := (izzM_note _ _ _ _ u15).trans Ig3
        exact (congrFun (congrFun (v16) 0) 0).trans Ig4
      · rw [if_neg hc] at u11
        exact (congrFun (congrFun (u11) 0) 0).trans Ig2
  obtain ⟨x4, u17, v18⟩ := v12
  obtain ⟨g6, u19, v20⟩ := v18
  have Ig6 : g6 0 0 = g0 0 0 := by rw [u19]; first | exact xz_k (by decide) Ig5 | exact xz_f (by decide) Ig5
  obtain ⟨g7, u21, v22⟩ := v20
  have Ig7 : g7 0 0 = g0 0 0 := by rw [u21]; first | exact xz_k (by decide) Ig6 | exact xz_f (by decide) Ig6
  obtain ⟨x5, u23, v24⟩ := v22
  obtain ⟨x6, u25, v26⟩ := v24
  obtain ⟨g8, u27, v28⟩ := v26
  have Ig8 : g8 0 0 = g0 0 0 := by rw [u27]; first | exact xz_k (by decide) Ig7 | exact xz_f (by decide) Ig7
  obtain ⟨x7, u29, v30⟩ := v28
  obtain ⟨g9, u31, v32⟩ := v30
  have Ig9 : g9 0 0 = g0 0 0 := by rw [u31]; first | exact xz_k (by decide) Ig8 | exact xz_f (by decide) Ig8
  obtain ⟨g12, u33, v34⟩ := v32
  have Ig12 : g12 0 0 = g0 0 0 := by
    by_cases hc : ((g9 18) 1) < 61
    · rw [if_pos hc] at u33
      exact (congrFun (congrFun (u33) 0) 0).trans Ig9
    · rw [if_neg hc] at u33
      by_cases hc : ((g9 19) 1) = 0
      · rw [if_pos hc] at u33
        obtain ⟨g10, u35, v36⟩ := u33
        have Ig10 : g10 0 0 = g0 0 0 := by rw [u35]; first | exact xz_k (by decide) Ig9 | exact xz_f (by decide) Ig9
        obtain ⟨g11, u37, v38⟩ := v36
        have Ig11 : g11 0 0 = g0 0 0 := (izzM_note _ _ _ _ u37).trans Ig10
        exact (congrFun (congrFun (v38) 0) 0).trans Ig11
      · rw [if_neg hc] at u33
        exact (congrFun (congrFun (u33) 0) 0).trans Ig9
  obtain ⟨x8, u39, v40⟩ := v34
  obtain ⟨g13, u41, v42⟩ := v40
  have Ig13 : g13 0 0 = g0 0 0 := by rw [u41]; first | exact xz_k (by decide) Ig12 | exact xz_f (by decide) Ig12
  obtain ⟨g14, u43, v44⟩ := v42
  have Ig14 : g14 0 0 = g0 0 0 := by rw [u43]; first | exact xz_k (by decide) Ig13 | exact xz_f (by decide) Ig13
  exact (congrFun (congrFun (v44) 0) 0).trans Ig14
theorem izzM_goOn (g0 : xk_St) (gz : xk_St) : relzM_goOn g0 gz → gz 0 0 = g0 0 0 := by
  intro h
  have Ig0 : g0 0 0 = g0 0 0 := rfl
  unfold relzM_goOn at h
  obtain ⟨r1, u1, v2⟩ := h
  obtain ⟨g1, u3, v4⟩ := v2
  have Ig1 : g1 0 0 = g0 0 0 := by rw [u3]; first | exact xz_k (by decide) Ig0 | exact xz_f (by decide) Ig0
  obtain ⟨x1, u5, v6⟩ := v4
  obtain ⟨g2, u7, v8⟩ := v6
  have Ig2 : g2 0 0 = g0 0 0 := by rw [u7]; first | exact xz_k (by decide) Ig1 | exact xz_f (by decide) Ig1
  obtain ⟨x8, u9, v10⟩ := v8
  obtain ⟨g7, u11, v12⟩ := v10
  have Ig7 : g7 0 0 = g0 0 0 := by
    by_cases hc : x8 = (g2 0 28)
    · rw [if_pos hc] at u11
      exact (congrFun (congrFun (u11) 0) 0).trans Ig2
    · rw [if_neg hc] at u11
      obtain ⟨g3, u13, v14⟩ := u11
      have Ig3 : g3 0 0 = g0 0 0 := by rw [u13]; first | exact xz_k (by decide) Ig2 | exact xz_f (by decide) Ig2
      obtain ⟨g4, u15, v16⟩ := v14
      have Ig4 : g4 0 0 = g0 0 0 := by rw [u15]; first | exact xz_k (by decide) Ig3 | exact xz_f (by decide) Ig3
      obtain ⟨g5, u17, v18⟩ := v16
      have Ig5 : g5 0 0 = g0 0 0 := by rw [u17]; first | exact xz_k (by decide) Ig4 | exact xz_f (by decide) Ig4
      obtain ⟨g6, u19, v20⟩ := v18
      have Ig6 : g6 0 0 = g0 0 0 := (izzM_note _ _ _ _ u19).trans Ig5
      exact (congrFun (congrFun (v20) 0) 0).trans Ig6
  exact (congrFun (congrFun (v12) 0) 0).trans Ig7
theorem izzM_drive (g0 : xk_St) (gz : xk_St) : relzM_drive g0 gz → gz 0 0 = g0 0 0 := by
  intro h
  have Ig0 : g0 0 0 = g0 0 0 := rfl
  unfold relzM_drive at h
  obtain ⟨x1, u1, v2⟩ := h
  obtain ⟨x2, u3, v4⟩ := v2
  obtain ⟨x3, u5, v6⟩ := v4
  obtain ⟨g1, u7, v8⟩ := v6
  have Ig1 : g1 0 0 = g0 0 0 := by rw [u7]; first | exact xz_k (by decide) Ig0 | exact xz_f (by decide) Ig0
  obtain ⟨x4, u9, v10⟩ := v8
  obtain ⟨x5, u11, v12⟩ := v10
  obtain ⟨x6, u13, v14⟩ := v12
  obtain ⟨g2, u15, v16⟩ := v14
  have Ig2 : g2 0 0 = g0 0 0 := by rw [u15]; first | exact xz_k (by decide) Ig1 | exact xz_f (by decide) Ig1
  obtain ⟨x7, u17, v18⟩ := v16
  obtain ⟨g3, u19, v20⟩ := v18
  have Ig3 : g3 0 0 = g0 0 0 := by rw [u19]; first | exact xz_k (by decide) Ig2 | exact xz_f (by decide) Ig2
  obtain ⟨x8, u21, v22⟩ := v20
  obtain ⟨g4, u23, v24⟩ := v22
  have Ig4 : g4 0 0 = g0 0 0 := by rw [u23]; first | exact xz_k (by decide) Ig3 | exact xz_f (by decide) Ig3
  obtain ⟨x9, u25, v26⟩ := v24
  obtain ⟨g5, u27, v28⟩ := v26
  have Ig5 : g5 0 0 = g0 0 0 := by rw [u27]; first | exact xz_k (by decide) Ig4 | exact xz_f (by decide) Ig4
  obtain ⟨x10, u29, v30⟩ := v28
  obtain ⟨x12, u31, v32⟩ := v30
  obtain ⟨g6, u33, v34⟩ := v32
  have Ig6 : g6 0 0 = g0 0 0 := by rw [u33]; first | exact xz_k (by decide) Ig5 | exact xz_f (by decide) Ig5
  exact (congrFun (congrFun (v34) 0) 0).trans Ig6
theorem izzM_signal (g0 : xk_St) (gz : xk_St) : relzM_signal g0 gz → gz 0 0 = g0 0 0 := by
  intro h
  have Ig0 : g0 0 0 = g0 0 0 := rfl
  unfold relzM_signal at h
  obtain ⟨x1, u1, v2⟩ := h
  obtain ⟨g2, u3, v4⟩ := v2
  have Ig2 : g2 0 0 = g0 0 0 := by
    by_cases hc : x1 = ((g0 24) 0)
    · rw [if_pos hc] at u3
      exact (congrFun (congrFun (u3) 0) 0).trans Ig0
    · rw [if_neg hc] at u3
      obtain ⟨x2, u5, v6⟩ := u3
      obtain ⟨g1, u7, v8⟩ := v6
      have Ig1 : g1 0 0 = g0 0 0 := (izzM_note _ _ _ _ u7).trans Ig0
      exact (congrFun (congrFun (v8) 0) 0).trans Ig1
  obtain ⟨g3, u9, v10⟩ := v4
  have Ig3 : g3 0 0 = g0 0 0 := by rw [u9]; first | exact xz_k (by decide) Ig2 | exact xz_f (by decide) Ig2
  obtain ⟨x3, u11, v12⟩ := v10
  obtain ⟨g5, u13, v14⟩ := v12
  have Ig5 : g5 0 0 = g0 0 0 := by
    by_cases hc : x3 = ((g3 24) 1)
    · rw [if_pos hc] at u13
      exact (congrFun (congrFun (u13) 0) 0).trans Ig3
    · rw [if_neg hc] at u13
      obtain ⟨x4, u15, v16⟩ := u13
      obtain ⟨g4, u17, v18⟩ := v16
      have Ig4 : g4 0 0 = g0 0 0 := (izzM_note _ _ _ _ u17).trans Ig3
      exact (congrFun (congrFun (v18) 0) 0).trans Ig4
  obtain ⟨g6, u19, v20⟩ := v14
  have Ig6 : g6 0 0 = g0 0 0 := by rw [u19]; first | exact xz_k (by decide) Ig5 | exact xz_f (by decide) Ig5
  exact (congrFun (congrFun (v20) 0) 0).trans Ig6
theorem izzM_oneTick (g0 : xk_St) (gz : xk_St) : relzM_oneTick g0 gz → gz 0 0 = g0 0 0 := by
  intro h
  have Ig0 : g0 0 0 = g0 0 0 := rfl
  unfold relzM_oneTick at h
  obtain ⟨g1, u1, v2⟩ := h
  have Ig1 : g1 0 0 = g0 0 0 := by rw [u1]; first | exact xz_k (by decide) Ig0 | exact xz_f (by decide) Ig0
  obtain ⟨g2, u3, v4⟩ := v2
  have Ig2 : g2 0 0 = g0 0 0 := (izzM_allPulses _ _ u3).trans Ig1
  obtain ⟨g3, u5, v6⟩ := v4
  have Ig3 : g3 0 0 = g0 0 0 := (congrFun (frzM_allComings _ _ u5 0 (by decide)) 0).trans Ig2
  obtain ⟨g4, u7, v8⟩ := v6
  have Ig4 : g4 0 0 = g0 0 0 := (izzM_useOrders _ _ u7).trans Ig3
  obtain ⟨g5, u9, v10⟩ := v8
  have Ig5 : g5 0 0 = g0 0 0 := (izzM_watchLamps _ _ u9).trans Ig4
  obtain ⟨g6, u11, v12⟩ := v10
  have Ig6 : g6 0 0 = g0 0 0 := (izzM_watchBarriers _ _ u11).trans Ig5
  obtain ⟨g7, u13, v14⟩ := v12
  have Ig7 : g7 0 0 = g0 0 0 := (izzM_goOn _ _ u13).trans Ig6
  obtain ⟨g8, u15, v16⟩ := v14
  have Ig8 : g8 0 0 = g0 0 0 := (izzM_drive _ _ u15).trans Ig7
  obtain ⟨g9, u17, v18⟩ := v16
  have Ig9 : g9 0 0 = g0 0 0 := (izzM_signal _ _ u17).trans Ig8
  exact (congrFun (congrFun (v18) 0) 0).trans Ig9
theorem izzM_ticks : ∀ (k : Nat) (g gz : xk_St), xk_tkm k g gz → gz 0 0 = g 0 0 := by
  intro k
  induction k with
  | zero =>
    intro g gz h
    have h : gz = g := h
    rw [h]
  | succ k ih =>
    intro g gz h
    obtain ⟨g1, h1, h2⟩ := h
    exact (ih g1 gz h2).trans (izzM_oneTick _ _ h1)
