/-! the loop: over any invariant I of the calls made, the class's and the reference's state -/
section LZB
variable {p : Program} {l : Launch} {e : Env} {R : Room} {s : State} {m : MethodId} {args : Array Value} {below : List Frame} {meth : Method} {c : Code} {H : Heap} {locs : List Loc} {cells slots : Nat} {Q : State → Prop} {g : JFrame}
theorem lz_drop {c2 s2 : Nat} (h1 : cells ≤ c2) (h2 : slots ≤ s2) (hL : ∀ z ∈ locs, s.heap.size ≤ z.base) (k : W p l e R s m args below meth c H [] c2 s2 Q g) : W p l e R s m args below meth c H locs cells slots Q g := by
  intro T hT X
  exact k T hT ⟨X.admits, X.cas, X.clock, X.frames, X.room, X.hears, X.method, X.code, X.here, X.tail, X.warmed, X.limits, X.bytes, X.same.weaken (fun y hy hlt => absurd (hL y hy) (Nat.not_le.mpr hlt)) h1 h2⟩
end LZB
theorem lz_end {L i : Nat} (hL : L ≤ 2048) (hi : i ≤ 2048) : (Int32.ofNat L - 4 < nI i) ↔ L < i + 4 := by
  rcases Nat.lt_or_ge L 4 with h | h
  · have h1 : Int32.ofNat L - 4 < 0 := by
      rcases L with _ | _ | _ | _ | L
      · decide
      · decide
      · decide
      · decide
      · omega
    constructor
    · intro _; omega
    · intro _
      rw [Int32.lt_iff_toInt_lt] at h1 ⊢
      rw [nI_toInt (by omega)]
      have h2 : (0 : Int32).toInt = 0 := by decide
      omega
  · obtain ⟨k, rfl⟩ : ∃ k, L = k + 4 := ⟨L - 4, by omega⟩
    have h1 : Int32.ofNat (k + 4) - 4 = nI k := by
      show nI (k + 4) - 4 = nI k
      rw [← nI_add, show nI 4 = 4 from by decide, Int32.add_sub_cancel]
    rw [h1, nI_ltI (by omega) (by omega)]
    omega
theorem lz_out {x : Int32} (h : ∀ k : Nat, k < 15 → ¬ x = nI k) : x.toInt < 0 ∨ 14 < x.toInt := by
  by_cases h1 : x < 0
  · left
    have h2 := Int32.lt_iff_toInt_lt.mp h1
    exact h2
  · obtain ⟨j, h2, rfl⟩ := nI_of h1
    right
    rw [nI_toInt h2]
    by_cases h3 : j < 15
    · exact absurd rfl (h j h3)
    · omega
/-- a branch of the law keeps I -/
def lz_Go (l : Launch) (I : Nat → xk_St → xk_St → Prop) (pc : Nat) : Prop :=
  ∀ (p : Program) (e : Env) (s : State) (m : MethodId) (below : List Frame) (meth : Method) (c : Code) (Q : State → Prop) (b L : Nat) (xs : Nat → Int32) (G : va_G) (ac : Nat → ClassId) (A : Nat → Prop), lz_C p s m c b L xs G ac A → ∀ (ad am : Nat → Nat) (o i n : Nat) (t g : xk_St) (f : Nat → Int64) (H : Heap) (locs : List Loc) (ls : Array Slot) (cells slots : Nat), i + 3 < L → L ≤ 2048 → n < 512 → cells + 1 ≤ room_1.cells ∧ slots + 6 ≤ room_1.slots → I n g t →
    va_P G xk_cls (lz_W am ad ac o t f g) H → va_D A (lz_W am ad ac o t f g) → va_S A s.heap H locs → lv_has ls 7 (lz_L b i am ad o) →
    (∀ (t : xk_St) (f : Nat → Int64) (g : xk_St) (H : Heap) (locs : List Loc) (ls : Array Slot), I (n + 1) g t → va_P G xk_cls (lz_W am ad ac o t f g) H → va_D A (lz_W am ad ac o t f g) → va_S A s.heap H locs → lv_has ls 7 (lz_L b i am ad o) → W p l e room_1 s m #[Value.ref b] below meth c H locs (cells + 1) (slots + 6) Q (F0 m 1070 ls [])) →
    W p l e room_1 s m #[Value.ref b] below meth c H locs cells slots Q (F0 m pc ls [])
set_option maxHeartbeats 4000000 in
set_option maxRecDepth 100000 in
theorem lz_loop (l : Launch) (I : Nat → xk_St → xk_St → Prop) (hdef : ∀ n g t, I n g t → I (n + 1) g t) (g0 : lz_Go l I 112) (g1 : lz_Go l I 172) (g2 : lz_Go l I 275) (g3 : lz_Go l I 288) (g4 : lz_Go l I 344) (g5 : lz_Go l I 412) (g6 : lz_Go l I 503) (g7 : lz_Go l I 544) (g8 : lz_Go l I 600) (g9 : lz_Go l I 663) (g10 : lz_Go l I 723) (g11 : lz_Go l I 810) (g12 : lz_Go l I 890) (g13 : lz_Go l I 946) (g14 : lz_Go l I 1002) {p : Program} {e : Env} {s : State} {m : MethodId} {below : List Frame} {meth : Method} {c : Code} {b L : Nat} {xs : Nat → Int32} {G : va_G} {ac : Nat → ClassId} (C : lz_C p s m c b L xs G ac (fun q => s.heap.size ≤ q)) (hr : meth.sig.returnType = ret) (hlocks : meth.locks = false) (hL : L ≤ 2048) (ad am : Nat → Nat) (o : Nat) :
    ∀ (d n : Nat) (t g : xk_St) (f : Nat → Int64) (H : Heap) (locs : List Loc) (ls : Array Slot) (cells slots : Nat), n + d = 512 → cells + d ≤ 656957 → slots + 6 * d ≤ 7125234 → I n g t → va_P G xk_cls (lz_W am ad ac o t f g) H → va_D (fun q => s.heap.size ≤ q) (lz_W am ad ac o t f g) → va_S (fun q => s.heap.size ≤ q) s.heap H locs → lv_has ls 7 (lz_L b (4 * n) am ad o) →
      W p l e room_1 s m #[Value.ref b] below meth c H locs cells slots (lw_Z below #[Value.ref b] s) (F0 m 23 ls []) := by
  obtain ⟨hx, hb, hml, hts, hown, hK, hA, hX, hbl, hbA, hXt, hN⟩ := id C
  intro d
  induction d with
  | zero =>
    intro n t g f H locs ls cells slots hn hc1 hc2 hI hP hD hS hl
    refine lv_iload (pc := 23) hx hb dzL_law_23 (lv_at hl 0 rfl) ?_
    refine lv_aload_n (pc := 25) hx hb dzL_law_25 rfl (lv_at hl 1 rfl) ?_
    refine va_slen (pc := 26) hx hb hX hbl hbA hS dzL_law_26 ?_
    refine lv_iconst (v := 4) (pc := 27) hx hb dzL_law_27 (by decide) ?_
    refine lv_isub (pc := 28) hx hb dzL_law_28 ?_
    refine lv_icmp_gt (pc := 29) (tgt := 1076) hx hb dzL_law_29 (by decide) (fun _ => ?_) (fun hq9 => absurd ((lz_end hL (by omega)).mpr (by omega)) hq9)
    refine lv_iconst (v := 1) (pc := 1076) hx hb dzL_law_1076 (by decide) ?_
    exact lz_drop (by omega) (by omega) hS.2.2 (lw_ret hx hb hr hlocks dzL_law_1077)
  | succ d ih =>
    intro n t g f H locs ls cells slots hn hc1 hc2 hI hP hD hS hl
    refine lv_iload (pc := 23) hx hb dzL_law_23 (lv_at hl 0 rfl) ?_
    refine lv_aload_n (pc := 25) hx hb dzL_law_25 rfl (lv_at hl 1 rfl) ?_
    refine va_slen (pc := 26) hx hb hX hbl hbA hS dzL_law_26 ?_
    refine lv_iconst (v := 4) (pc := 27) hx hb dzL_law_27 (by decide) ?_
    refine lv_isub (pc := 28) hx hb dzL_law_28 ?_
    refine lv_icmp_gt (pc := 29) (tgt := 1076) hx hb dzL_law_29 (by decide) (fun _ => ?_) (fun hq9 => ?_)
    · refine lv_iconst (v := 1) (pc := 1076) hx hb dzL_law_1076 (by decide) ?_
      exact lz_drop (by omega) (by omega) hS.2.2 (lw_ret hx hb hr hlocks dzL_law_1077)
    · have hi : 4 * n + 3 < L := by
        have h9 := mt (lz_end (L := L) (i := 4 * n) hL (by omega)).mpr hq9
        omega
      have hcs : cells + 1 ≤ room_1.cells ∧ slots + 6 ≤ room_1.slots := ⟨by show cells + 1 ≤ 656957; omega, by show slots + 6 ≤ 7125234; omega⟩
      have kk : ∀ (t : xk_St) (f : Nat → Int64) (g : xk_St) (H : Heap) (locs : List Loc) (ls : Array Slot), I (n + 1) g t → va_P G xk_cls (lz_W am ad ac o t f g) H → va_D (fun q => s.heap.size ≤ q) (lz_W am ad ac o t f g) → va_S (fun q => s.heap.size ≤ q) s.heap H locs → lv_has ls 7 (lz_L b (4 * n) am ad o) → W p l e room_1 s m #[Value.ref b] below meth c H locs (cells + 1) (slots + 6) (lw_Z below #[Value.ref b] s) (F0 m 1070 ls []) := by
        intro t f g H locs ls hI hP hD hS hl
        refine lv_iinc (k := 0) (x := nI (4 * n)) (v := nI (4 * (n + 1))) (lv' := lz_L b (4 * (n + 1)) am ad o) (pc := 1070) hx hb dzL_law_1070 hl rfl (by rw [show Int32.ofInt 4 = nI 4 from by decide, nI_add]; rfl) (by decide) rfl (fun ls hl => ?_)
        refine lv_goto (tgt := 23) (pc := 1073) hx hb dzL_law_1073 (by decide) ?_
        exact ih (n + 1) t g f H locs ls (cells + 1) (slots + 6) (by omega) (by omega) (by omega) hI hP hD hS hl
      refine lv_aload_n (pc := 32) hx hb dzL_law_32 rfl (lv_at hl 1 rfl) ?_
      refine lv_iload (pc := 33) hx hb dzL_law_33 (lv_at hl 0 rfl) ?_
      refine va_sld (pc := 35) hx hb hX hbl hbA hS (nI_in (show 4 * n < L from by omega) (by omega)) dzL_law_35 ?_
      refine lv_bipush (v := 15) (pc := 36) hx hb dzL_law_36 (by decide) ?_
      refine lv_iand (pc := 38) hx hb dzL_law_38 ?_
      generalize xs (nI (4 * n)).toNatClampNeg &&& 15 = x
      by_cases h0 : x = nI 0
      · refine lv_tableIn (pc := 39) (tgt := 112) hx hb dzL_law_39 (by rw [h0]; decide) (by rw [h0]; decide) (by rw [h0]; rfl) (by decide) ?_
        exact g0 p e s m below meth c _ b L xs G ac _ C ad am o (4 * n) n t g f H locs ls cells slots hi hL (by omega) hcs hI hP hD hS hl kk
      by_cases h1 : x = nI 1
      · refine lv_tableIn (pc := 39) (tgt := 172) hx hb dzL_law_39 (by rw [h1]; decide) (by rw [h1]; decide) (by rw [h1]; rfl) (by decide) ?_
        exact g1 p e s m below meth c _ b L xs G ac _ C ad am o (4 * n) n t g f H locs ls cells slots hi hL (by omega) hcs hI hP hD hS hl kk
      by_cases h2 : x = nI 2
      · refine lv_tableIn (pc := 39) (tgt := 275) hx hb dzL_law_39 (by rw [h2]; decide) (by rw [h2]; decide) (by rw [h2]; rfl) (by decide) ?_
        exact g2 p e s m below meth c _ b L xs G ac _ C ad am o (4 * n) n t g f H locs ls cells slots hi hL (by omega) hcs hI hP hD hS hl kk
      by_cases h3 : x = nI 3
      · refine lv_tableIn (pc := 39) (tgt := 288) hx hb dzL_law_39 (by rw [h3]; decide) (by rw [h3]; decide) (by rw [h3]; rfl) (by decide) ?_
        exact g3 p e s m below meth c _ b L xs G ac _ C ad am o (4 * n) n t g f H locs ls cells slots hi hL (by omega) hcs hI hP hD hS hl kk
      by_cases h4 : x = nI 4
      · refine lv_tableIn (pc := 39) (tgt := 344) hx hb dzL_law_39 (by rw [h4]; decide) (by rw [h4]; decide) (by rw [h4]; rfl) (by decide) ?_
        exact g4 p e s m below meth c _ b L xs G ac _ C ad am o (4 * n) n t g f H locs ls cells slots hi hL (by omega) hcs hI hP hD hS hl kk
      by_cases h5 : x = nI 5
      · refine lv_tableIn (pc := 39) (tgt := 412) hx hb dzL_law_39 (by rw [h5]; decide) (by rw [h5]; decide) (by rw [h5]; rfl) (by decide) ?_
        exact g5 p e s m below meth c _ b L xs G ac _ C ad am o (4 * n) n t g f H locs ls cells slots hi hL (by omega) hcs hI hP hD hS hl kk
      by_cases h6 : x = nI 6
      · refine lv_tableIn (pc := 39) (tgt := 503) hx hb dzL_law_39 (by rw [h6]; decide) (by rw [h6]; decide) (by rw [h6]; rfl) (by decide) ?_
        exact g6 p e s m below meth c _ b L xs G ac _ C ad am o (4 * n) n t g f H locs ls cells slots hi hL (by omega) hcs hI hP hD hS hl kk
      by_cases h7 : x = nI 7
      · refine lv_tableIn (pc := 39) (tgt := 544) hx hb dzL_law_39 (by rw [h7]; decide) (by rw [h7]; decide) (by rw [h7]; rfl) (by decide) ?_
        exact g7 p e s m below meth c _ b L xs G ac _ C ad am o (4 * n) n t g f H locs ls cells slots hi hL (by omega) hcs hI hP hD hS hl kk
      by_cases h8 : x = nI 8
      · refine lv_tableIn (pc := 39) (tgt := 600) hx hb dzL_law_39 (by rw [h8]; decide) (by rw [h8]; decide) (by rw [h8]; rfl) (by decide) ?_
        exact g8 p e s m below meth c _ b L xs G ac _ C ad am o (4 * n) n t g f H locs ls cells slots hi hL (by omega) hcs hI hP hD hS hl kk
      by_cases h9 : x = nI 9
      · refine lv_tableIn (pc := 39) (tgt := 663) hx hb dzL_law_39 (by rw [h9]; decide) (by rw [h9]; decide) (by rw [h9]; rfl) (by decide) ?_
        exact g9 p e s m below meth c _ b L xs G ac _ C ad am o (4 * n) n t g f H locs ls cells slots hi hL (by omega) hcs hI hP hD hS hl kk
      by_cases h10 : x = nI 10
      · refine lv_tableIn (pc := 39) (tgt := 723) hx hb dzL_law_39 (by rw [h10]; decide) (by rw [h10]; decide) (by rw [h10]; rfl) (by decide) ?_
        exact g10 p e s m below meth c _ b L xs G ac _ C ad am o (4 * n) n t g f H locs ls cells slots hi hL (by omega) hcs hI hP hD hS hl kk
      by_cases h11 : x = nI 11
      · refine lv_tableIn (pc := 39) (tgt := 810) hx hb dzL_law_39 (by rw [h11]; decide) (by rw [h11]; decide) (by rw [h11]; rfl) (by decide) ?_
        exact g11 p e s m below meth c _ b L xs G ac _ C ad am o (4 * n) n t g f H locs ls cells slots hi hL (by omega) hcs hI hP hD hS hl kk
      by_cases h12 : x = nI 12
      · refine lv_tableIn (pc := 39) (tgt := 890) hx hb dzL_law_39 (by rw [h12]; decide) (by rw [h12]; decide) (by rw [h12]; rfl) (by decide) ?_
        exact g12 p e s m below meth c _ b L xs G ac _ C ad am o (4 * n) n t g f H locs ls cells slots hi hL (by omega) hcs hI hP hD hS hl kk
      by_cases h13 : x = nI 13
      · refine lv_tableIn (pc := 39) (tgt := 946) hx hb dzL_law_39 (by rw [h13]; decide) (by rw [h13]; decide) (by rw [h13]; rfl) (by decide) ?_
        exact g13 p e s m below meth c _ b L xs G ac _ C ad am o (4 * n) n t g f H locs ls cells slots hi hL (by omega) hcs hI hP hD hS hl kk
      by_cases h14 : x = nI 14
      · refine lv_tableIn (pc := 39) (tgt := 1002) hx hb dzL_law_39 (by rw [h14]; decide) (by rw [h14]; decide) (by rw [h14]; rfl) (by decide) ?_
        exact g14 p e s m below meth c _ b L xs G ac _ C ad am o (4 * n) n t g f H locs ls cells slots hi hL (by omega) hcs hI hP hD hS hl kk
      refine lv_tableOut (pc := 39) (tgt := 1070) hx hb dzL_law_39 (lz_out (fun k hk => by
        rcases (show k = 0 ∨ k = 1 ∨ k = 2 ∨ k = 3 ∨ k = 4 ∨ k = 5 ∨ k = 6 ∨ k = 7 ∨ k = 8 ∨ k = 9 ∨ k = 10 ∨ k = 11 ∨ k = 12 ∨ k = 13 ∨ k = 14 from by omega) with rfl | rfl | rfl | rfl | rfl | rfl | rfl | rfl | rfl | rfl | rfl | rfl | rfl | rfl | rfl
        all_goals first | exact h0 | exact h1 | exact h2 | exact h3 | exact h4 | exact h5 | exact h6 | exact h7 | exact h8 | exact h9 | exact h10 | exact h11 | exact h12 | exact h13 | exact h14)) (by decide) ?_
      exact xt_more (Nat.le_add_right cells 1) (Nat.le_add_right slots 6) (kk t f g H locs ls (hdef n g t hI) hP hD hS hl)
