/-! the start: classes, arrays, the texts; the invariant of two new objects -/
theorem xs_text {s : State} {args : Array Value} {k : Nat} {tx : String} (h : (Cond.stringRef RzU k tx).before args s = true) : ∃ a : Nat, vk_R RzU k tx a s := by
  have hc : ∃ cur, s.vm.findClass RzU = some cur := by
    have h1 := h
    simp only [Cond.before, Cond.holds, Cond.value] at h1
    cases hq : s.vm.findClass RzU with
    | none => simp [hq] at h1
    | some cur => exact ⟨cur, rfl⟩
  obtain ⟨cur, hcur⟩ := hc
  obtain ⟨k9, cf, i, a, -, -, -, -, -, hev⟩ := Cond.stringRef_spec hcur h
  exact ⟨a, vk_R.of h hev⟩
theorem xs_arr {s : State} {args : Array Value} {ty : FieldType} (hno : ∀ C, ty ≠ .object C) (h : (Cond.arrayClass ty).before args s = true) : ∃ cA : ClassId, ArrOfT s cA ty ∧ va_RA s cA ty := by
  obtain ⟨c, k, comp, h1, h2, h3⟩ := Cond.arrayClass_spec h
  refine ⟨c, fun n z => ⟨fun k h => (by cases h), k, h2, comp, h3⟩, ?_⟩
  cases ty with
  | object C => exact absurd rfl (hno C)
  | _ => exact h1
theorem xs_arq {s : State} {C : String} (h : va_AO C s) : ∃ cA : ClassId, ArrOfT s cA (.object C) ∧ va_RA s cA (.object C) := by
  obtain ⟨comp, c, k, h1, h2, h3, h4, h5⟩ := Cond.arrayOver_spec h
  exact ⟨c, fun n z => ⟨fun k h => (by cases h), k, h3, comp, h4⟩, k, comp, h3, h4, h1, h5⟩
theorem xs_J0 : xJ 0 xn_g0 xn_t0 := by
  refine ⟨?_, ⟨0, rfl, Nat.le_refl _⟩, fun s hs => ?_, fun j => ⟨Or.inl rfl, Or.inl rfl⟩, fun e he => ?_, fun e he => ?_, fun k hk => ?_, fun b hb => ?_, ⟨0, Nat.le_refl _, rfl⟩, by decide, by decide⟩
  · exact xr.mk (by decide) (by decide) (by decide) (by decide) (by decide) (by decide) (by decide) (by decide) (by decide) (by decide) (by decide) (by decide) (by decide) (by decide) (by decide) (by decide) (by decide) (by decide) (by decide) (by decide) (by decide) (by decide) (by decide) (by decide) (by decide) (by decide) (by decide) (by decide) (by decide) (by decide) (by decide) (by decide) (by decide) (by decide) (by decide) (by decide) (by decide) (by decide) (by decide) (by decide) (by decide) (by decide) (by decide) (by decide) (by decide) (by decide) (by decide) (by decide) (by decide) (by decide) (by decide) (by decide) (by decide) (by decide) (by decide) (by decide) (by decide) (by decide) (by decide) (by decide) (by decide) (by decide) (by decide) (by decide) (by decide) (by decide) (by decide) (by decide) (by decide) (by decide) (by decide) (by decide) (by decide) (by decide) (by decide) (by decide) (by decide) (by decide) (by decide) (Or.inl (by decide)) (Or.inl (by decide)) (Or.inl (by decide)) (Or.inl (by decide)) (Or.inl (by decide)) (Or.inl (by decide)) (Or.inl (by decide)) (Or.inl (by decide)) (Or.inl (by decide)) (Or.inl (by decide)) (Or.inl (by decide)) (Or.inl (by decide)) (Or.inl (by decide)) (Or.inl (by decide)) (Or.inl (by decide)) (Or.inl (by decide)) (Or.inl (by decide)) (Or.inl (by decide)) (Or.inl (by decide)) (Or.inl (by decide)) (Or.inl (by decide)) (Or.inl (by decide)) (Or.inl (by decide)) (Or.inl (by decide)) (by decide) (by decide) (by decide) (by decide) (by decide) (by decide) rfl rfl rfl (Or.inr (by decide)) (Or.inr (by decide)) (Or.inr (by decide)) (Or.inr (by decide)) (Or.inr (by decide)) (Or.inr (by decide)) (Or.inr (by decide)) (Or.inr (by decide)) (Or.inr (by decide)) (Or.inr (by decide)) (Or.inr (by decide)) (Or.inl (by decide)) (Or.inl (by decide))
  · rcases (show s = 0 ∨ s = 1 ∨ s = 2 ∨ s = 3 ∨ s = 4 ∨ s = 5 from by omega) with rfl | rfl | rfl | rfl | rfl | rfl
    all_goals exact ⟨0, by decide, by decide, by decide, fun h => absurd h (by decide)⟩
  · rcases (show e = 0 ∨ e = 1 ∨ e = 2 ∨ e = 3 from by omega) with rfl | rfl | rfl | rfl <;> rfl
  · rcases (show e = 0 ∨ e = 1 ∨ e = 2 ∨ e = 3 from by omega) with rfl | rfl | rfl | rfl <;> exact Or.inl (by decide)
  · exact ⟨0, Nat.le_refl _, rfl, rfl⟩
  · rcases (show b = 0 ∨ b = 1 from by omega) with rfl | rfl <;> exact Or.inl ⟨rfl, 0, by omega, rfl⟩
theorem xs_K {s : State} {args : Array Value} (hts : ∀ w ∈ xk_WS, w.before args s = true) (hX : xn_X s) : ∃ (G : va_G) (ac : Nat → ClassId), va_K G xk_cls (xk_tys ac) s := by
  obtain ⟨c0, i0, k0⟩ := u_known (C := RzU) (T := TzU) (N := 10) (n := 10) hts iwzU (hts _ xk_m61)
  obtain ⟨c1, i1, k1⟩ := u_known (C := RzS) (T := TzS) (N := 9) (n := 9) hts iwzS (hts _ xk_m102)
  obtain ⟨c2, i2, k2⟩ := u_known (C := RzE) (T := TzE) (N := 3) (n := 3) hts iwzE (hts _ xk_m125)
  obtain ⟨c3, i3, k3⟩ := u_known (C := RzK) (T := TzK) (N := 6) (n := 6) hts iwzK (hts _ xk_m95)
  obtain ⟨c4, i4, k4⟩ := u_known (C := RzB) (T := TzB) (N := 6) (n := 6) hts iwzB (hts _ xk_m147)
  obtain ⟨c5, i5, k5⟩ := u_known (C := RzP) (T := TzP) (N := 4) (n := 4) hts iwzP (hts _ xk_m162)
  obtain ⟨c6, i6, k6⟩ := u_known (C := RzR) (T := TzR) (N := 3) (n := 3) hts iwzR (hts _ xk_m71)
  obtain ⟨c7, i7, k7⟩ := u_known (C := RzJ) (T := TzJ) (N := 4) (n := 4) hts iwzJ (hts _ xk_m82)
  obtain ⟨c8, i8, k8⟩ := u_known (C := RzM) (T := TzM) (N := 35) (n := 35) hts iwzM (hts _ xk_m400)
  obtain ⟨a0, r0⟩ := xs_arr (ty := .int) (fun C h => by cases h) (hts _ xk_m94)
  obtain ⟨a1, r1⟩ := xs_arr (ty := .boolean) (fun C h => by cases h) (hts _ xk_m124)
  obtain ⟨a2, r2⟩ := xs_arq hX.1
  obtain ⟨a3, r3⟩ := xs_arq hX.2.2.2.1
  obtain ⟨a4, r4⟩ := xs_arq hX.2.2.2.2.1
  obtain ⟨a5, r5⟩ := xs_arq hX.2.1
  obtain ⟨a6, r6⟩ := xs_arq hX.2.2.1
  obtain ⟨a7, r7⟩ := xs_arr (ty := .long) (fun C h => by cases h) (hts _ xk_m556)
  refine ⟨(fun c => match c with | 0 => c0 | 1 => c1 | 2 => c2 | 3 => c3 | 4 => c4 | 5 => c5 | 6 => c6 | 7 => c7 | _ => c8, fun c => match c with | 0 => i0 | 1 => i1 | 2 => i2 | 3 => i3 | 4 => i4 | 5 => i5 | 6 => i6 | 7 => i7 | _ => i8), fun k => match k with | 0 => a0 | 1 => a1 | 2 => a2 | 3 => a3 | 4 => a4 | 5 => a5 | 6 => a6 | _ => a7, fun c q hq => ?_, fun k q hk => ?_⟩
  · have hlt : c < 9 := (List.getElem?_eq_some_iff.mp hq).1
    rcases (show c = 0 ∨ c = 1 ∨ c = 2 ∨ c = 3 ∨ c = 4 ∨ c = 5 ∨ c = 6 ∨ c = 7 ∨ c = 8 from by omega) with rfl | rfl | rfl | rfl | rfl | rfl | rfl | rfl | rfl
    · cases hq; exact k0
    · cases hq; exact k1
    · cases hq; exact k2
    · cases hq; exact k3
    · cases hq; exact k4
    · cases hq; exact k5
    · cases hq; exact k6
    · cases hq; exact k7
    · cases hq; exact k8
  · have hlt : k < 8 := (List.getElem?_eq_some_iff.mp hk).1
    rcases (show k = 0 ∨ k = 1 ∨ k = 2 ∨ k = 3 ∨ k = 4 ∨ k = 5 ∨ k = 6 ∨ k = 7 from by omega) with rfl | rfl | rfl | rfl | rfl | rfl | rfl | rfl
    · cases hk; exact r0
    · cases hk; exact r1
    · cases hk; exact r2
    · cases hk; exact r3
    · cases hk; exact r4
    · cases hk; exact r5
    · cases hk; exact r6
    · cases hk; exact r7
theorem xs_X {s : State} {args : Array Value} {A : Nat → Prop} (hts : ∀ w ∈ lw_tbl, w.before args s = true) (hgv : (Cond.and given_1 narrow_1).before args s = true) (hA : ∀ a : Nat, a < s.heap.size → ¬ A a) : xt_X RzU xk_tx xk_ex A s s.heap := by
  have hfl := flat_of_before _ hgv
  refine ⟨xt_Z.of (hts _ xs_ls1) (hfl _ xs_r1) hA, xt_Z.of (hts _ xs_ls2) (hfl _ xs_r2) hA, fun q hq => ?_, fun E hE => ?_, fun x hx => ?_⟩
  · simp only [List.mem_cons, List.not_mem_nil, or_false] at hq
    rcases hq with rfl | rfl | rfl | rfl | rfl | rfl | rfl | rfl | rfl | rfl | rfl | rfl | rfl | rfl | rfl | rfl
    · exact xs_text (hts _ xs_tx72)
    · exact xs_text (hts _ xs_tx83)
    · exact xs_text (hts _ xs_tx132)
    · exact xs_text (hts _ xs_tx139)
    · exact xs_text (hts _ xs_tx142)
    · exact xs_text (hts _ xs_tx147)
    · exact xs_text (hts _ xs_tx184)
    · exact xs_text (hts _ xs_tx192)
    · exact xs_text (hts _ xs_tx210)
    · exact xs_text (hts _ xs_tx248)
    · exact xs_text (hts _ xs_tx253)
    · exact xs_text (hts _ xs_tx264)
    · exact xs_text (hts _ xs_tx266)
    · exact xs_text (hts _ xs_tx268)
    · exact xs_text (hts _ xs_tx270)
    · exact xs_text (hts _ xs_tx272)
  · simp only [List.mem_cons, List.not_mem_nil, or_false] at hE
    rcases hE with rfl | rfl | rfl
    · exact xt_E.of (hts _ xs_caNS)
    · exact xt_E.of (hts _ xs_caIA)
    · exact xt_E.of (hts _ xs_caIS)
  · simp only [List.mem_cons, List.not_mem_nil, or_false] at hx
    rcases hx with rfl | rfl | rfl
    · exact va_Nw.of rfl (hts _ xs_deRuntimeException)
    · exact va_Nw.of rfl (hts _ xs_deException)
    · exact va_Nw.of rfl (hts _ xs_deThrowable)
theorem xs_N {s : State} {args : Array Value} (hts : ∀ w ∈ lw_tbl, w.before args s = true) (hgv : (Cond.and given_1 narrow_1).before args s = true) : ∀ z ∈ xk_NN, xt_N z s := by
  have hfl := flat_of_before _ hgv
  obtain ⟨n, n1, n2⟩ : xt_E "java/util/NoSuchElementException" s := xt_E.of (hts _ xs_caNS)
  obtain ⟨a, a1, a2⟩ : xt_E "java/lang/IllegalArgumentException" s := xt_E.of (hts _ xs_caIA)
  obtain ⟨t, t1, t2⟩ : xt_E "java/lang/IllegalStateException" s := xt_E.of (hts _ xs_caIS)
  intro z hz
  unfold xk_NN at hz
  simp only [List.mem_cons, List.not_mem_nil, or_false] at hz
  rcases hz with rfl | rfl | rfl
  · exact xt_N.of (hfl _ xs_n1) a1 n1
  · exact xt_N.of (hfl _ xs_n2) t1 n1
  · exact xt_N.of (hfl _ xs_n3) t1 a1
theorem xs_nX {s : State} {args : Array Value} (hts : ∀ w ∈ lw_tbl, w.before args s = true) : xn_X s :=
  ⟨va_AO.of (hts _ xs_aoTrack), va_AO.of (hts _ xs_aoBarrier), va_AO.of (hts _ xs_aoLamp), va_AO.of (hts _ xs_aoSection), va_AO.of (hts _ xs_aoEnd), va_Nw.of rfl (hts _ xs_ml29), va_Nw.of rfl (hts _ xs_ml36), va_Nw.of rfl (hts _ xs_ml61), va_Nw.of rfl (hts _ xs_ml62)⟩
