def xk_eqv (ks : List Nat) (g g' : xk_St) : Prop := ∀ k ∈ ks, g' k = g k
theorem xk_eqv_rf {ks : List Nat} {g : xk_St} : xk_eqv ks g g := fun _ _ => rfl
theorem xk_eqv_up {ks : List Nat} {g g' : xk_St} {k : Nat} {f : Nat → Int32} (hk : k ∉ ks) (h : xk_eqv ks g g') : xk_eqv ks g (va_up g' k f) := fun j hj => by
  have hn : j ≠ k := fun e => hk (e ▸ hj)
  show (if j = k then f else g' j) = g j
  rw [if_neg hn]; exact h j hj
theorem xk_eqv_tr {ks : List Nat} {g g1 g2 : xk_St} (h1 : xk_eqv ks g g1) (h2 : xk_eqv ks g1 g2) : xk_eqv ks g g2 := fun k hk => (h2 k hk).trans (h1 k hk)
theorem xk_eqv_sub {ks ls : List Nat} {g g' : xk_St} (h : xk_eqv ls g g') (hs : ∀ k ∈ ks, k ∈ ls) : xk_eqv ks g g' := fun k hk => h k (hs k hk)
/-- a kept pulse is none, or 1, or -1 -/
def xk_p (x : Int32) : Prop := x = 0 ∨ x = 1 ∨ x = -1
def xk_kept (g : xk_St) : Prop := ∀ j : Nat, xk_p (g 15 j) ∧ xk_p (g 16 j)
theorem xk_pm {x : Int32} (h : xk_p x) (h0 : ¬ x = 0) (h1 : ¬ x = 1) : x = -1 := by
  rcases h with h | h | h
  · exact absurd h h0
  · exact absurd h h1
  · exact h
theorem xk_kept_a {g : xk_St} (j : Nat) (h : xk_kept g) : xk_kept (va_up g 15 (upd (g 15) j 0)) := fun k => by
  refine ⟨?_, (h k).2⟩
  show xk_p (if k = j then 0 else g 15 k)
  by_cases hk : k = j
  · rw [if_pos hk]; exact Or.inl rfl
  · rw [if_neg hk]; exact (h k).1
theorem xk_kept_b {g : xk_St} (j : Nat) (h : xk_kept g) : xk_kept (va_up g 16 (upd (g 16) j 0)) := fun k => by
  refine ⟨(h k).1, ?_⟩
  show xk_p (if k = j then 0 else g 16 k)
  by_cases hk : k = j
  · rw [if_pos hk]; exact Or.inl rfl
  · rw [if_neg hk]; exact (h k).2
theorem xk_kept_up {g : xk_St} {k : Nat} {f : Nat → Int32} (h : xk_kept g) (h15 : 15 ≠ k) (h16 : 16 ≠ k) : xk_kept (va_up g k f) := fun j => by
  show xk_p ((if 15 = k then f else g 15) j) ∧ xk_p ((if 16 = k then f else g 16) j)
  rw [if_neg h15, if_neg h16]; exact h j
theorem xk_kept_of {ks : List Nat} {g g' : xk_St} (e : xk_eqv ks g g') (h15 : 15 ∈ ks) (h16 : 16 ∈ ks) (h : xk_kept g) : xk_kept g' := fun j => by
  rw [e 15 h15, e 16 h16]; exact h j
theorem xk_nzi {c : Prop} [Decidable c] {a b : Int32} (ha : ¬ a = 0) (hb : ¬ b = 0) : ¬ (if c then a else b) = 0 := by
  by_cases h : c
  · rw [if_pos h]; exact ha
  · rw [if_neg h]; exact hb
def xk_wU (ad : Nat → Nat) (ac : Nat → ClassId) (g : xk_St) : va_W := [
  ((ad 0), .inr (0, [.ref (ad 1), .ref (ad 2), .ref (ad 3), .ref (ad 4), .ref (ad 5), .int (g 0 5), .int (g 0 6), .int (g 0 7), .int (g 0 8), .int (g 0 9)])),
  ((ad 1), .inl (ac 2, 2, .inr (.inr (.inr (.inr (fun j => some (ad (9 + j)))))))),
  ((ad 2), .inl (ac 5, 2, .inr (.inr (.inr (.inr (fun j => some (ad (29 + j)))))))),
  ((ad 3), .inl (ac 6, 3, .inr (.inr (.inr (.inr (fun j => some (ad (31 + j)))))))),
  ((ad 4), .inr (6, [.int (g 4 0), .int (g 4 1), .int (g 4 2)])),
  ((ad 5), .inr (7, [.ref (ad 6), .ref (ad 7), .ref (ad 8), .int (g 5 3)])),
  ((ad 6), .inl (ac 0, 64, .inl (g 6))),
  ((ad 7), .inl (ac 0, 64, .inl (g 7))),
  ((ad 8), .inl (ac 0, 64, .inl (g 8))),
  ((ad 9), .inr (3, [.ref (ad 11), .ref (ad 13), .ref (ad 15), .ref (ad 17), .int (g 9 4), .int (g 9 5)])),
  ((ad 10), .inr (3, [.ref (ad 12), .ref (ad 14), .ref (ad 16), .ref (ad 18), .int (g 10 4), .int (g 10 5)])),
  ((ad 11), .inl (ac 3, 3, .inr (.inr (.inr (.inr (fun j => some (ad (19 + j)))))))),
  ((ad 12), .inl (ac 3, 3, .inr (.inr (.inr (.inr (fun j => some (ad (22 + j)))))))),
  ((ad 13), .inl (ac 4, 2, .inr (.inr (.inr (.inr (fun j => some (ad (25 + j)))))))),
  ((ad 14), .inl (ac 4, 2, .inr (.inr (.inr (.inr (fun j => some (ad (27 + j)))))))),
  ((ad 15), .inl (ac 0, 4, .inl (g 15))),
  ((ad 16), .inl (ac 0, 4, .inl (g 16))),
  ((ad 17), .inl (ac 1, 4, .inl (g 17))),
  ((ad 18), .inl (ac 1, 4, .inl (g 18))),
  ((ad 19), .inr (1, [.int (g 19 0), .int (g 19 1), .int (g 19 2), .int (g 19 3), .int (g 19 4), .int (g 19 5), .int (g 19 6), .int (g 19 7), .int (g 19 8)])),
  ((ad 20), .inr (1, [.int (g 20 0), .int (g 20 1), .int (g 20 2), .int (g 20 3), .int (g 20 4), .int (g 20 5), .int (g 20 6), .int (g 20 7), .int (g 20 8)])),
  ((ad 21), .inr (1, [.int (g 21 0), .int (g 21 1), .int (g 21 2), .int (g 21 3), .int (g 21 4), .int (g 21 5), .int (g 21 6), .int (g 21 7), .int (g 21 8)])),
  ((ad 22), .inr (1, [.int (g 22 0), .int (g 22 1), .int (g 22 2), .int (g 22 3), .int (g 22 4), .int (g 22 5), .int (g 22 6), .int (g 22 7), .int (g 22 8)])),
  ((ad 23), .inr (1, [.int (g 23 0), .int (g 23 1), .int (g 23 2), .int (g 23 3), .int (g 23 4), .int (g 23 5), .int (g 23 6), .int (g 23 7), .int (g 23 8)])),
  ((ad 24), .inr (1, [.int (g 24 0), .int (g 24 1), .int (g 24 2), .int (g 24 3), .int (g 24 4), .int (g 24 5), .int (g 24 6), .int (g 24 7), .int (g 24 8)])),
  ((ad 25), .inr (2, [.ref (ad 19), .int (g 25 1), .int (g 25 2)])),
  ((ad 26), .inr (2, [.ref (ad 21), .int (g 26 1), .int (g 26 2)])),
  ((ad 27), .inr (2, [.ref (ad 22), .int (g 27 1), .int (g 27 2)])),
  ((ad 28), .inr (2, [.ref (ad 24), .int (g 28 1), .int (g 28 2)])),
  ((ad 29), .inr (4, [.int (g 29 0), .int (g 29 1), .int (g 29 2), .int (g 29 3), .int (g 29 4), .int (g 29 5)])),
  ((ad 30), .inr (4, [.int (g 30 0), .int (g 30 1), .int (g 30 2), .int (g 30 3), .int (g 30 4), .int (g 30 5)])),
  ((ad 31), .inr (5, [.int (g 31 0), .int (g 31 1), .int (g 31 2), .int (g 31 3)])),
  ((ad 32), .inr (5, [.int (g 32 0), .int (g 32 1), .int (g 32 2), .int (g 32 3)])),
  ((ad 33), .inr (5, [.int (g 33 0), .int (g 33 1), .int (g 33 2), .int (g 33 3)]))]
