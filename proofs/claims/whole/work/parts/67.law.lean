/-! the law: its context, its world, what is read of the script; branches -/
def lz_C (p : Program) (s : State) (m : MethodId) (c : Code) (b L : Nat) (xs : Nat → Int32) (G : va_G) (ac : Nat → ClassId) (A : Nat → Prop) : Prop :=
  p.tables.exec = Jvm.exec ∧ c.code = czL_law ∧ c.maxLocals = 7 ∧ (∀ w ∈ xk_WS, w.before #[Value.ref b] s = true) ∧ s.vm.findClass RzL = some m.cls ∧ va_K G xk_cls (xk_tys ac) s ∧ (∀ q : Nat, s.heap.size ≤ q → A q) ∧ va_X b L xs s s.heap ∧ b < s.heap.size ∧ ¬ A b ∧ xt_X RzU xk_tx xk_ex A s s.heap ∧ ∀ z ∈ xk_NN, xt_N z s
abbrev lz_W (am ad : Nat → Nat) (ac : Nat → ClassId) (o : Nat) (t : xk_St) (f : Nat → Int64) (g : xk_St) : va_W := xk_wM am ac t ++ ([(o, Sum.inl (ac 7, 1, Sum.inr (Sum.inl f)))] ++ xk_wU ad ac g)
abbrev lz_L (b i : Nat) (am ad : Nat → Nat) (o : Nat) : List (Nat × Value) := [(4, .int (nI i)), (0, .ref b), (1, .ref (ad 0)), (2, .ref (am 0)), (3, .ref o)]
section LZA
variable {p : Program} {l : Launch} {e : Env} {R : Room} {s : State} {m : MethodId} {args : Array Value} {below : List Frame} {meth : Method} {c : Code} {H : Heap} {locs : List Loc} {cells slots pc : Nat} {Q : State → Prop} {cc : ByteArray} {ls : Array Slot} {rest : List Value} {A : Nat → Prop} {b L : Nat} {xs : Nat → Int32}
theorem lz_rd (hx : p.tables.exec = Jvm.exec) (hb : c.code = cc) (hX : va_X b L xs s s.heap) (hbl : b < s.heap.size) (hbA : ¬ A b) (hS : va_S A s.heap H locs) {i j : Nat} {v : Int32} {n9 : Int} (h0 : ls[0]? = some (.val (.ref b))) (h4 : ls[4]? = some (.val (.int (nI i)))) (hij : i + j < L) (hL : L ≤ 2048) (hv : xs (i + j) = v)
    (d0 : decode cc pc = .ok (.aload_n 0, 1)) (d1 : decode cc (pc + 1) = .ok (.iload 4, 2)) (d3 : decode cc (pc + 3) = .ok (.iconst n9, 1)) (hn : Int32.ofInt n9 = nI j) (d4 : decode cc (pc + 4) = .ok (.iadd, 1)) (d5 : decode cc (pc + 5) = .ok (.iaload, 1))
    (kk : W p l e R s m args below meth c H locs cells slots Q (F0 m (pc + 6) ls (.int v :: rest))) : W p l e R s m args below meth c H locs cells slots Q (F0 m pc ls rest) := by
  refine lv_aload_n hx hb d0 rfl h0 ?_
  refine lv_iload hx hb d1 h4 ?_
  refine lv_iconst hx hb d3 hn ?_
  refine lv_iadd hx hb d4 ?_
  rw [nI_add]
  refine va_sld hx hb hX hbl hbA hS (nI_in hij (by omega)) d5 ?_
  rw [nI_clamp (by omega), hv]
  exact kk
theorem lz_bool (hx : p.tables.exec = Jvm.exec) (hb : c.code = cc) {x kb : Int32} (hk : kb = if x = 0 then 0 else 1) (d0 : decode cc pc = .ok (.ifCond .eq 7, 3)) (d3 : decode cc (pc + 3) = .ok (.iconst 1, 1)) (d4 : decode cc (pc + 4) = .ok (.goto 4, 3)) (d7 : decode cc (pc + 7) = .ok (.iconst 0, 1))
    (kk : W p l e R s m args below meth c H locs cells slots Q (F0 m (pc + 8) ls (.int kb :: rest))) : W p l e R s m args below meth c H locs cells slots Q (F0 m pc ls (.int x :: rest)) := by
  refine lv_if_eq (tgt := pc + 7) hx hb d0 (by omega) (fun h => ?_) (fun h => ?_)
  · rw [if_pos h] at hk
    exact lv_iconst hx hb d7 (v := 0) (by decide) (by subst hk; exact kk)
  · rw [if_neg h] at hk
    refine lv_iconst hx hb d3 (v := 1) (by decide) ?_
    exact lv_goto (tgt := pc + 8) hx hb d4 (by omega) (by subst hk; exact kk)
theorem lz_lbool (hx : p.tables.exec = Jvm.exec) (hb : c.code = cc) {x : Int32} {kl : Int64} (hk : kl = if x = 0 then 0 else 1) (d0 : decode cc pc = .ok (.ifCond .eq 7, 3)) (d3 : decode cc (pc + 3) = .ok (.lconst 1, 1)) (d4 : decode cc (pc + 4) = .ok (.goto 4, 3)) (d7 : decode cc (pc + 7) = .ok (.lconst 0, 1))
    (kk : W p l e R s m args below meth c H locs cells slots Q (F0 m (pc + 8) ls (.long kl :: rest))) : W p l e R s m args below meth c H locs cells slots Q (F0 m pc ls (.int x :: rest)) := by
  refine lv_if_eq (tgt := pc + 7) hx hb d0 (by omega) (fun h => ?_) (fun h => ?_)
  · rw [if_pos h] at hk
    exact lv_lconst hx hb d7 (v := 0) (by decide) (by subst hk; exact kk)
  · rw [if_neg h] at hk
    refine lv_lconst hx hb d3 (v := 1) (by decide) ?_
    exact lv_goto (tgt := pc + 8) hx hb d4 (by omega) (by subst hk; exact kk)
theorem lz_cmp (x : Int64) : lg_cmp x x = 0 := by simp [lg_cmp]
end LZA
theorem lz_in {wa wb : va_W} {sz q : Nat} (h : va_A wb sz q) : va_A (wa ++ wb) sz q := by
  rcases h with ⟨k, e, h⟩ | h
  · exact Or.inl ⟨_, e, xw_R h⟩
  · exact Or.inr h
set_option maxHeartbeats 4000000 in
set_option maxRecDepth 100000 in
theorem br_pulse {p : Program} {l : Launch} {e : Env} {s : State} {m : MethodId} {below : List Frame} {meth : Method} {c : Code} {Q : State → Prop} {b L : Nat} {xs : Nat → Int32} {G : va_G} {ac : Nat → ClassId} {A : Nat → Prop} (C : lz_C p s m c b L xs G ac A) {ad am : Nat → Nat} {o i : Nat} {t g : xk_St} {f : Nat → Int64} {H : Heap} {locs : List Loc} {ls : Array Slot} {cells slots : Nat} (hi : i + 3 < L) (hL : L ≤ 2048) {k0 : Int32} (h0 : xs (i + 1) = k0) {k1 : Int32} (h1 : xs (i + 2) = k1) {k2 : Int32} (h2 : xs (i + 3) = k2) (hcs : cells + 1 ≤ room_1.cells ∧ slots + 6 ≤ room_1.slots) {SU : Type} (sU : SU → xk_St) (PU : Int32 → SU → Prop) (hU : xt_H l yzL_pulse czL_pulse 5 [(0, 7, 10, 13), (0, 7, 14, 15), (0, 7, 18, 17)] xk_WS xt_rH G xk_cls (xk_tys ac) RzU xk_tx xk_ex xk_NN [.ref (ad 0), .int k0, .int k1, .int k2] (xk_wU ad ac g) PU (fun u => xk_wU ad ac (sU u))) (rM : Room) (PM : xk_St → Prop) (hM : xk_CV l yzM_pulse czM_pulse 5 xk_WS rM G xk_cls (xk_tys ac) [.ref (am 0), .int k0, .int k1, .int k2] (xk_wM am ac t) PM (fun t => xk_wM am ac t)) (hrM : rM.cells = 0 ∧ rM.slots = 0) (hRM : rM.frames + 1 ≤ room_1.frames ∧ 8 + (5 + 11) + rM.locals ≤ room_1.locals) (hC : ∀ r u t, PU r u → PM t → t 0 0 = r) (hP : va_P G xk_cls (lz_W am ad ac o t f g) H) (hD : va_D A (lz_W am ad ac o t f g)) (hS : va_S A s.heap H locs) (hl : lv_has ls 7 (lz_L b i am ad o)) (kk : ∀ (r : Int32) (u : SU) (t : xk_St) (H : Heap) (locs : List Loc) (ls : Array Slot), PU r u → PM t → va_P G xk_cls (lz_W am ad ac o t f (sU u)) H → va_D A (lz_W am ad ac o t f (sU u)) → va_S A s.heap H locs → lv_has ls 7 (lz_L b i am ad o) → W p l e room_1 s m #[Value.ref b] below meth c H locs (cells + 1) (slots + 6) Q (F0 m 1070 ls [])) : W p l e room_1 s m #[Value.ref b] below meth c H locs cells slots Q (F0 m 112 ls []) := by
  obtain ⟨hx, hb, hml, hts, hown, hK, hA, hX, hbl, hbA, hXt, hN⟩ := C
  refine lv_aload_n (pc := 112) hx hb dzL_law_112 rfl (lv_at hl 2 rfl) ?_
  refine lz_rd (j := 1) (v := k0) (pc := 113) hx hb hX hbl hbA hS (lv_at hl 1 rfl) (lv_at hl 0 rfl) (by omega) hL h0 dzL_law_113 dzL_law_114 dzL_law_116 (by decide) dzL_law_117 dzL_law_118 ?_
  refine lz_rd (j := 2) (v := k1) (pc := 119) hx hb hX hbl hbA hS (lv_at hl 1 rfl) (lv_at hl 0 rfl) (by omega) hL h1 dzL_law_119 dzL_law_120 dzL_law_122 (by decide) dzL_law_123 dzL_law_124 ?_
  refine lz_rd (j := 3) (v := k2) (pc := 125) hx hb hX hbl hbA hS (lv_at hl 1 rfl) (lv_at hl 0 rfl) (by omega) hL h2 dzL_law_125 dzL_law_126 dzL_law_128 (by decide) dzL_law_129 dzL_law_130 ?_
  refine xw_H (wc := (xk_wU ad ac g)) (As := [.ref (ad 0), .int k0, .int k1, .int k2]) (rest := []) (H0 := s.heap) (pc := 131) hx hb hml hts hown hK hA (xw_PR (xw_PR hP)) (xw_DR (xw_DR hD)) hS hXt hS hN hU sh_pulse ⟨rfl, rfl⟩ ⟨(Nat.le_of_ble_eq_true rfl), (Nat.le_of_ble_eq_true rfl)⟩ rfl hl.1 rfl (Nat.le_of_ble_eq_true rfl) hcs dzL_law_131 (fun r u H locs hu hk hP1 hS => ?_)
  obtain ⟨hP2, hD2⟩ := xw_putR (w1 := xk_wU ad ac (sU u)) (xw_PR hP) (xw_DR hD) rfl hk hP1
  obtain ⟨hP, hD⟩ := xw_putR (w1 := [(o, Sum.inl (ac 7, 1, Sum.inr (Sum.inl f)))] ++ xk_wU ad ac (sU u)) hP hD rfl (fun q h1 h2 => hk q h1 (fun h3 => h2 (lz_in h3))) hP2
  refine lv_istore (lv' := [(5, .int r), (4, .int (nI i)), (0, .ref b), (1, .ref (ad 0)), (2, .ref (am 0)), (3, .ref o)]) (pc := 134) hx hb dzL_law_134 hl (by decide) rfl (fun ls hl => ?_)
  refine lv_aload_n (pc := 136) hx hb dzL_law_136 rfl (lv_at hl 4 rfl) ?_
  refine lz_rd (j := 1) (v := k0) (pc := 137) hx hb hX hbl hbA hS (lv_at hl 2 rfl) (lv_at hl 1 rfl) (by omega) hL h0 dzL_law_137 dzL_law_138 dzL_law_140 (by decide) dzL_law_141 dzL_law_142 ?_
  refine lz_rd (j := 2) (v := k1) (pc := 143) hx hb hX hbl hbA hS (lv_at hl 2 rfl) (lv_at hl 1 rfl) (by omega) hL h1 dzL_law_143 dzL_law_144 dzL_law_146 (by decide) dzL_law_147 dzL_law_148 ?_
  refine lz_rd (j := 3) (v := k2) (pc := 149) hx hb hX hbl hbA hS (lv_at hl 2 rfl) (lv_at hl 1 rfl) (by omega) hL h2 dzL_law_149 dzL_law_150 dzL_law_152 (by decide) dzL_law_153 dzL_law_154 ?_
  refine xw_VV (wc := xk_wM am ac t) (As := [.int k0, .int k1, .int k2]) (rest := []) (H0 := s.heap) (pc := 155) hx hb hml hts hown hK hA (xw_PL hP) (xw_DL hD) hS hM vfzL_71 0 rfl rfl hrM hRM rfl hl.1 rfl (Nat.le_of_ble_eq_true rfl) ⟨hcs.1, hcs.2⟩ dzL_law_155 (fun t H locs ht hk hP1 hS => ?_)
  obtain ⟨hP, hD⟩ := xw_putL (w1 := xk_wM am ac t) hP hD rfl hk hP1
  refine lv_aload_n (pc := 158) hx hb dzL_law_158 rfl (lv_at hl 4 rfl) ?_
  refine xw_VI (wc := xk_wM am ac t) (As := []) (rest := []) (H0 := s.heap) (pc := 159) hx hb hml hts hown hK hA (xw_PL hP) (xw_DL hD) hS (kzM_thrown l G ac am t) vfzL_72 0 rfl rfl ⟨rfl, rfl⟩ ⟨(Nat.le_of_ble_eq_true rfl), (Nat.le_of_ble_eq_true rfl)⟩ rfl hl.1 rfl (Nat.le_of_ble_eq_true rfl) ⟨hcs.1, hcs.2⟩ dzL_law_159 (fun r9 u9 H locs hr9 hk hP1 hS => ?_)
  obtain ⟨hP, hD⟩ := xw_putL (w1 := xk_wM am ac t) hP hD rfl hk hP1
  have hc9 := hC r u t hu ht
  refine lv_iload (pc := 162) hx hb dzL_law_162 (lv_at hl 0 rfl) ?_
  refine lv_icmp_eq (pc := 164) (tgt := 169) hx hb dzL_law_164 (by decide) (fun _ => ?_) (fun hq9 => absurd ((show r9 = t 0 0 from hr9).trans hc9) hq9)
  refine lv_goto (tgt := 1070) (pc := 169) hx hb dzL_law_169 (by decide) ?_
  exact kk r u t H locs ls hu ht hP hD hS (lv_sub hl [1, 2, 3, 4, 5] rfl)

set_option maxHeartbeats 4000000 in
set_option maxRecDepth 100000 in
theorem br_health {p : Program} {l : Launch} {e : Env} {s : State} {m : MethodId} {below : List Frame} {meth : Method} {c : Code} {Q : State → Prop} {b L : Nat} {xs : Nat → Int32} {G : va_G} {ac : Nat → ClassId} {A : Nat → Prop} (C : lz_C p s m c b L xs G ac A) {ad am : Nat → Nat} {o i : Nat} {t g : xk_St} {f : Nat → Int64} {H : Heap} {locs : List Loc} {ls : Array Slot} {cells slots : Nat} (hi : i + 3 < L) (hL : L ≤ 2048) {k0 : Int32} (h0 : xs (i + 1) = k0) {k1 : Int32} (h1 : xs (i + 2) = k1) {y2 k2 : Int32} (h2 : xs (i + 3) = y2) (hk2 : k2 = if y2 = 0 then 0 else 1) (hcs : cells + 1 ≤ room_1.cells ∧ slots + 6 ≤ room_1.slots) {SU : Type} (sU : SU → xk_St) (PU : Int32 → SU × (Nat → Int64) → Prop) (hU : xt_H l yzL_health czL_health 6 [(0, 19, 22, 13)] xk_WS xt_rH G xk_cls (xk_tys ac) RzU xk_tx xk_ex xk_NN [.ref (ad 0), .int k0, .int k1, .int k2, .ref o] ((o, Sum.inl (ac 7, 1, Sum.inr (Sum.inl f))) :: xk_wU ad ac g) PU (fun u => (o, Sum.inl (ac 7, 1, Sum.inr (Sum.inl u.2))) :: xk_wU ad ac (sU u.1))) (rM : Room) (PM : Int32 → xk_St → Prop) (hM : xk_CI l yzM_health czM_health 7 .boolean xk_WS rM G xk_cls (xk_tys ac) [.ref (am 0), .int k0, .int k1, .int k2] (xk_wM am ac t) PM (fun t => xk_wM am ac t)) (hrM : rM.cells = 0 ∧ rM.slots = 0) (hRM : rM.frames + 1 ≤ room_1.frames ∧ 8 + (7 + 11) + rM.locals ≤ room_1.locals) (hC : ∀ r u a t, PU r u → PM a t → t 0 0 = r ∧ (r = 0 → u.2 0 = (if a = 0 then 0 else 1))) (hP : va_P G xk_cls (lz_W am ad ac o t f g) H) (hD : va_D A (lz_W am ad ac o t f g)) (hS : va_S A s.heap H locs) (hl : lv_has ls 7 (lz_L b i am ad o)) (kk : ∀ (r : Int32) (u : SU × (Nat → Int64)) (a : Int32) (t : xk_St) (H : Heap) (locs : List Loc) (ls : Array Slot), PU r u → PM a t → va_P G xk_cls (lz_W am ad ac o t u.2 (sU u.1)) H → va_D A (lz_W am ad ac o t u.2 (sU u.1)) → va_S A s.heap H locs → lv_has ls 7 (lz_L b i am ad o) → W p l e room_1 s m #[Value.ref b] below meth c H locs (cells + 1) (slots + 6) Q (F0 m 1070 ls [])) : W p l e room_1 s m #[Value.ref b] below meth c H locs cells slots Q (F0 m 172 ls []) := by
  obtain ⟨hx, hb, hml, hts, hown, hK, hA, hX, hbl, hbA, hXt, hN⟩ := C
  refine lv_aload_n (pc := 172) hx hb dzL_law_172 rfl (lv_at hl 2 rfl) ?_
  refine lz_rd (j := 1) (v := k0) (pc := 173) hx hb hX hbl hbA hS (lv_at hl 1 rfl) (lv_at hl 0 rfl) (by omega) hL h0 dzL_law_173 dzL_law_174 dzL_law_176 (by decide) dzL_law_177 dzL_law_178 ?_
  refine lz_rd (j := 2) (v := k1) (pc := 179) hx hb hX hbl hbA hS (lv_at hl 1 rfl) (lv_at hl 0 rfl) (by omega) hL h1 dzL_law_179 dzL_law_180 dzL_law_182 (by decide) dzL_law_183 dzL_law_184 ?_
  refine lz_rd (j := 3) (v := y2) (pc := 185) hx hb hX hbl hbA hS (lv_at hl 1 rfl) (lv_at hl 0 rfl) (by omega) hL h2 dzL_law_185 dzL_law_186 dzL_law_188 (by decide) dzL_law_189 dzL_law_190 ?_
  refine lz_bool (kb := k2) (pc := 191) hx hb hk2 dzL_law_191 dzL_law_194 dzL_law_195 dzL_law_198 ?_
  refine lv_aload_n (pc := 199) hx hb dzL_law_199 rfl (lv_at hl 4 rfl) ?_
  refine xw_H (wc := ([(o, Sum.inl (ac 7, 1, Sum.inr (Sum.inl f)))] ++ xk_wU ad ac g)) (As := [.ref (ad 0), .int k0, .int k1, .int k2, .ref o]) (rest := []) (H0 := s.heap) (pc := 200) hx hb hml hts hown hK hA (xw_PR hP) (xw_DR hD) hS hXt hS hN hU sh_health ⟨rfl, rfl⟩ ⟨(Nat.le_of_ble_eq_true rfl), (Nat.le_of_ble_eq_true rfl)⟩ rfl hl.1 rfl (Nat.le_of_ble_eq_true rfl) hcs dzL_law_200 (fun r u H locs hu hk hP1 hS => ?_)
  obtain ⟨hP, hD⟩ := xw_putR (w1 := [(o, Sum.inl (ac 7, 1, Sum.inr (Sum.inl u.2)))] ++ xk_wU ad ac (sU u.1)) hP hD rfl hk hP1
  refine lv_istore (lv' := [(5, .int r), (4, .int (nI i)), (0, .ref b), (1, .ref (ad 0)), (2, .ref (am 0)), (3, .ref o)]) (pc := 203) hx hb dzL_law_203 hl (by decide) rfl (fun ls hl => ?_)
  refine lv_aload_n (pc := 205) hx hb dzL_law_205 rfl (lv_at hl 4 rfl) ?_
  refine lz_rd (j := 1) (v := k0) (pc := 206) hx hb hX hbl hbA hS (lv_at hl 2 rfl) (lv_at hl 1 rfl) (by omega) hL h0 dzL_law_206 dzL_law_207 dzL_law_209 (by decide) dzL_law_210 dzL_law_211 ?_
  refine lz_rd (j := 2) (v := k1) (pc := 212) hx hb hX hbl hbA hS (lv_at hl 2 rfl) (lv_at hl 1 rfl) (by omega) hL h1 dzL_law_212 dzL_law_213 dzL_law_215 (by decide) dzL_law_216 dzL_law_217 ?_
  refine lz_rd (j := 3) (v := y2) (pc := 218) hx hb hX hbl hbA hS (lv_at hl 2 rfl) (lv_at hl 1 rfl) (by omega) hL h2 dzL_law_218 dzL_law_219 dzL_law_221 (by decide) dzL_law_222 dzL_law_223 ?_
  refine lz_bool (kb := k2) (pc := 224) hx hb hk2 dzL_law_224 dzL_law_227 dzL_law_228 dzL_law_231 ?_
  refine xw_VI (wc := xk_wM am ac t) (As := [.int k0, .int k1, .int k2]) (rest := []) (H0 := s.heap) (pc := 232) hx hb hml hts hown hK hA (xw_PL hP) (xw_DL hD) hS hM vfzL_79 0 rfl rfl hrM hRM rfl hl.1 rfl (Nat.le_of_ble_eq_true rfl) ⟨hcs.1, hcs.2⟩ dzL_law_232 (fun a t H locs ht hk hP1 hS => ?_)
  obtain ⟨hP, hD⟩ := xw_putL (w1 := xk_wM am ac t) hP hD rfl hk hP1
  refine lv_istore (lv' := [(6, .int a), (5, .int r), (4, .int (nI i)), (0, .ref b), (1, .ref (ad 0)), (2, .ref (am 0)), (3, .ref o)]) (pc := 235) hx hb dzL_law_235 hl (by decide) rfl (fun ls hl => ?_)
  refine lv_aload_n (pc := 237) hx hb dzL_law_237 rfl (lv_at hl 5 rfl) ?_
  refine xw_VI (wc := xk_wM am ac t) (As := []) (rest := []) (H0 := s.heap) (pc := 238) hx hb hml hts hown hK hA (xw_PL hP) (xw_DL hD) hS (kzM_thrown l G ac am t) vfzL_72 0 rfl rfl ⟨rfl, rfl⟩ ⟨(Nat.le_of_ble_eq_true rfl), (Nat.le_of_ble_eq_true rfl)⟩ rfl hl.1 rfl (Nat.le_of_ble_eq_true rfl) ⟨hcs.1, hcs.2⟩ dzL_law_238 (fun r9 u9 H locs hr9 hk hP1 hS => ?_)
  obtain ⟨hP, hD⟩ := xw_putL (w1 := xk_wM am ac t) hP hD rfl hk hP1
  have hc9 := hC r u a t hu ht
  refine lv_iload (pc := 241) hx hb dzL_law_241 (lv_at hl 1 rfl) ?_
  refine lv_icmp_eq (pc := 243) (tgt := 248) hx hb dzL_law_243 (by decide) (fun _ => ?_) (fun hq9 => absurd ((show r9 = t 0 0 from hr9).trans hc9.1) hq9)
  refine lv_iload (pc := 248) hx hb dzL_law_248 (lv_at hl 1 rfl) ?_
  refine lv_if_ne (pc := 250) (tgt := 272) hx hb dzL_law_250 (by decide) (fun _ => ?_) (fun hz9 => ?_)
  · refine lv_goto (tgt := 1070) (pc := 272) hx hb dzL_law_272 (by decide) ?_
    exact kk r u a t H locs ls hu ht hP hD hS (lv_sub hl [2, 3, 4, 5, 6] rfl)
  · refine lv_aload_n (pc := 253) hx hb dzL_law_253 rfl (lv_at hl 6 rfl) ?_
    refine lv_iconst (v := 0) (pc := 254) hx hb dzL_law_254 (by decide) ?_
    refine va_lald (rest := []) (pc := 255) hx hb hK hP 28 7 (f := u.2) rfl rfl (i := 0) (by unfold vp_in; decide) dzL_law_255 ?_
    refine lv_iload (pc := 256) hx hb dzL_law_256 (lv_at hl 0 rfl) ?_
    refine lz_lbool (kl := u.2 0) (pc := 258) hx hb (hc9.2 hz9) dzL_law_258 dzL_law_261 dzL_law_262 dzL_law_265 ?_
    refine W.lcmp (pc := 266) hx hb dzL_law_266 ?_
    refine lv_if_eq (pc := 267) (tgt := 272) hx hb dzL_law_267 (by decide) (fun _ => ?_) (fun hq9 => absurd (lz_cmp _) hq9)
    refine lv_goto (tgt := 1070) (pc := 272) hx hb dzL_law_272 (by decide) ?_
    exact kk r u a t H locs ls hu ht hP hD hS (lv_sub hl [2, 3, 4, 5, 6] rfl)

set_option maxHeartbeats 4000000 in
set_option maxRecDepth 100000 in
theorem br_tick {p : Program} {l : Launch} {e : Env} {s : State} {m : MethodId} {below : List Frame} {meth : Method} {c : Code} {Q : State → Prop} {b L : Nat} {xs : Nat → Int32} {G : va_G} {ac : Nat → ClassId} {A : Nat → Prop} (C : lz_C p s m c b L xs G ac A) {ad am : Nat → Nat} {o i : Nat} {t g : xk_St} {f : Nat → Int64} {H : Heap} {locs : List Loc} {ls : Array Slot} {cells slots : Nat} (hi : i + 3 < L) (hL : L ≤ 2048) (hcs : cells + 1 ≤ room_1.cells ∧ slots + 6 ≤ room_1.slots) {SU : Type} (sU : SU → xk_St) (rU : Room) (PU : Int32 → SU → Prop) (hU : xk_CI l yzU_tick czU_tick 1 .int xk_WS rU G xk_cls (xk_tys ac) [.ref (ad 0)] (xk_wU ad ac g) PU (fun u => xk_wU ad ac (sU u))) (hrU : rU.cells = 0 ∧ rU.slots = 0) (hRU : rU.frames + 1 ≤ room_1.frames ∧ 8 + (1 + 11) + rU.locals ≤ room_1.locals) (rM : Room) (PM : Int32 → xk_St → Prop) (hM : xk_CI l yzM_tick czM_tick 1 .int xk_WS rM G xk_cls (xk_tys ac) [.ref (am 0)] (xk_wM am ac t) PM (fun t => xk_wM am ac t)) (hrM : rM.cells = 0 ∧ rM.slots = 0) (hRM : rM.frames + 1 ≤ room_1.frames ∧ 8 + (1 + 11) + rM.locals ≤ room_1.locals) (hC : ∀ r u a t, PU r u → PM a t → r = a) (hP : va_P G xk_cls (lz_W am ad ac o t f g) H) (hD : va_D A (lz_W am ad ac o t f g)) (hS : va_S A s.heap H locs) (hl : lv_has ls 7 (lz_L b i am ad o)) (kk : ∀ (r : Int32) (u : SU) (a : Int32) (t : xk_St) (H : Heap) (locs : List Loc) (ls : Array Slot), PU r u → PM a t → va_P G xk_cls (lz_W am ad ac o t f (sU u)) H → va_D A (lz_W am ad ac o t f (sU u)) → va_S A s.heap H locs → lv_has ls 7 (lz_L b i am ad o) → W p l e room_1 s m #[Value.ref b] below meth c H locs (cells + 1) (slots + 6) Q (F0 m 1070 ls [])) : W p l e room_1 s m #[Value.ref b] below meth c H locs cells slots Q (F0 m 275 ls []) := by
  obtain ⟨hx, hb, hml, hts, hown, hK, hA, hX, hbl, hbA, hXt, hN⟩ := C
  refine lv_aload_n (pc := 275) hx hb dzL_law_275 rfl (lv_at hl 2 rfl) ?_
  refine xt_more (Nat.le_add_right cells 1) (Nat.le_add_right slots 6) ?_
  refine xw_VI (wc := xk_wU ad ac g) (As := []) (rest := []) (H0 := s.heap) (pc := 276) hx hb hml hts hown hK hA (xw_PR (xw_PR hP)) (xw_DR (xw_DR hD)) hS hU vfzL_80 0 rfl rfl hrU hRU rfl hl.1 rfl (Nat.le_of_ble_eq_true rfl) ⟨hcs.1, hcs.2⟩ dzL_law_276 (fun r u H locs hu hk hP1 hS => ?_)
  obtain ⟨hP2, hD2⟩ := xw_putR (w1 := xk_wU ad ac (sU u)) (xw_PR hP) (xw_DR hD) rfl hk hP1
  obtain ⟨hP, hD⟩ := xw_putR (w1 := [(o, Sum.inl (ac 7, 1, Sum.inr (Sum.inl f)))] ++ xk_wU ad ac (sU u)) hP hD rfl (fun q h1 h2 => hk q h1 (fun h3 => h2 (lz_in h3))) hP2
  refine lv_aload_n (pc := 279) hx hb dzL_law_279 rfl (lv_at hl 3 rfl) ?_
  refine xw_VI (wc := xk_wM am ac t) (As := []) (rest := [.int r]) (H0 := s.heap) (pc := 280) hx hb hml hts hown hK hA (xw_PL hP) (xw_DL hD) hS hM vfzL_83 0 rfl rfl hrM hRM rfl hl.1 rfl (Nat.le_of_ble_eq_true rfl) ⟨hcs.1, hcs.2⟩ dzL_law_280 (fun a t H locs ht hk hP1 hS => ?_)
  obtain ⟨hP, hD⟩ := xw_putL (w1 := xk_wM am ac t) hP hD rfl hk hP1
  refine lv_icmp_eq (pc := 283) (tgt := 1070) hx hb dzL_law_283 (by decide) (fun _ => ?_) (fun hq9 => absurd (hC r u a t hu ht) hq9)
  exact kk r u a t H locs ls hu ht hP hD hS (lv_sub hl [0, 1, 2, 3, 4] rfl)

set_option maxHeartbeats 4000000 in
set_option maxRecDepth 100000 in
theorem br_ticks {p : Program} {l : Launch} {e : Env} {s : State} {m : MethodId} {below : List Frame} {meth : Method} {c : Code} {Q : State → Prop} {b L : Nat} {xs : Nat → Int32} {G : va_G} {ac : Nat → ClassId} {A : Nat → Prop} (C : lz_C p s m c b L xs G ac A) {ad am : Nat → Nat} {o i : Nat} {t g : xk_St} {f : Nat → Int64} {H : Heap} {locs : List Loc} {ls : Array Slot} {cells slots : Nat} (hi : i + 3 < L) (hL : L ≤ 2048) {k0 : Int32} (h0 : xs (i + 1) = k0) (hcs : cells + 1 ≤ room_1.cells ∧ slots + 6 ≤ room_1.slots) {SU : Type} (sU : SU → xk_St) (PU : Int32 → SU × (Nat → Int64) → Prop) (hU : xt_H l yzL_ticks czL_ticks 4 [(0, 9, 12, 15)] xk_WS xt_rH G xk_cls (xk_tys ac) RzU xk_tx xk_ex xk_NN [.ref (ad 0), .int k0, .ref o] ((o, Sum.inl (ac 7, 1, Sum.inr (Sum.inl f))) :: xk_wU ad ac g) PU (fun u => (o, Sum.inl (ac 7, 1, Sum.inr (Sum.inl u.2))) :: xk_wU ad ac (sU u.1))) (rM : Room) (PM : Int32 → xk_St → Prop) (hM : xk_CI l yzM_ticks czM_ticks 3 .int xk_WS rM G xk_cls (xk_tys ac) [.ref (am 0), .int k0] (xk_wM am ac t) PM (fun t => xk_wM am ac t)) (hrM : rM.cells = 0 ∧ rM.slots = 0) (hRM : rM.frames + 1 ≤ room_1.frames ∧ 8 + (3 + 11) + rM.locals ≤ room_1.locals) (hC : ∀ r u a t, PU r u → PM a t → t 0 0 = r ∧ (r = 0 → u.2 0 = a.toInt64)) (hP : va_P G xk_cls (lz_W am ad ac o t f g) H) (hD : va_D A (lz_W am ad ac o t f g)) (hS : va_S A s.heap H locs) (hl : lv_has ls 7 (lz_L b i am ad o)) (kk : ∀ (r : Int32) (u : SU × (Nat → Int64)) (a : Int32) (t : xk_St) (H : Heap) (locs : List Loc) (ls : Array Slot), PU r u → PM a t → va_P G xk_cls (lz_W am ad ac o t u.2 (sU u.1)) H → va_D A (lz_W am ad ac o t u.2 (sU u.1)) → va_S A s.heap H locs → lv_has ls 7 (lz_L b i am ad o) → W p l e room_1 s m #[Value.ref b] below meth c H locs (cells + 1) (slots + 6) Q (F0 m 1070 ls [])) : W p l e room_1 s m #[Value.ref b] below meth c H locs cells slots Q (F0 m 288 ls []) := by
  obtain ⟨hx, hb, hml, hts, hown, hK, hA, hX, hbl, hbA, hXt, hN⟩ := C
  refine lv_aload_n (pc := 288) hx hb dzL_law_288 rfl (lv_at hl 2 rfl) ?_
  refine lz_rd (j := 1) (v := k0) (pc := 289) hx hb hX hbl hbA hS (lv_at hl 1 rfl) (lv_at hl 0 rfl) (by omega) hL h0 dzL_law_289 dzL_law_290 dzL_law_292 (by decide) dzL_law_293 dzL_law_294 ?_
  refine lv_aload_n (pc := 295) hx hb dzL_law_295 rfl (lv_at hl 4 rfl) ?_
  refine xw_H (wc := ([(o, Sum.inl (ac 7, 1, Sum.inr (Sum.inl f)))] ++ xk_wU ad ac g)) (As := [.ref (ad 0), .int k0, .ref o]) (rest := []) (H0 := s.heap) (pc := 296) hx hb hml hts hown hK hA (xw_PR hP) (xw_DR hD) hS hXt hS hN hU sh_ticks ⟨rfl, rfl⟩ ⟨(Nat.le_of_ble_eq_true rfl), (Nat.le_of_ble_eq_true rfl)⟩ rfl hl.1 rfl (Nat.le_of_ble_eq_true rfl) hcs dzL_law_296 (fun r u H locs hu hk hP1 hS => ?_)
  obtain ⟨hP, hD⟩ := xw_putR (w1 := [(o, Sum.inl (ac 7, 1, Sum.inr (Sum.inl u.2)))] ++ xk_wU ad ac (sU u.1)) hP hD rfl hk hP1
  refine lv_istore (lv' := [(5, .int r), (4, .int (nI i)), (0, .ref b), (1, .ref (ad 0)), (2, .ref (am 0)), (3, .ref o)]) (pc := 299) hx hb dzL_law_299 hl (by decide) rfl (fun ls hl => ?_)
  refine lv_aload_n (pc := 301) hx hb dzL_law_301 rfl (lv_at hl 4 rfl) ?_
  refine lz_rd (j := 1) (v := k0) (pc := 302) hx hb hX hbl hbA hS (lv_at hl 2 rfl) (lv_at hl 1 rfl) (by omega) hL h0 dzL_law_302 dzL_law_303 dzL_law_305 (by decide) dzL_law_306 dzL_law_307 ?_
  refine xw_VI (wc := xk_wM am ac t) (As := [.int k0]) (rest := []) (H0 := s.heap) (pc := 308) hx hb hml hts hown hK hA (xw_PL hP) (xw_DL hD) hS hM vfzL_87 0 rfl rfl hrM hRM rfl hl.1 rfl (Nat.le_of_ble_eq_true rfl) ⟨hcs.1, hcs.2⟩ dzL_law_308 (fun a t H locs ht hk hP1 hS => ?_)
  obtain ⟨hP, hD⟩ := xw_putL (w1 := xk_wM am ac t) hP hD rfl hk hP1
  refine lv_istore (lv' := [(6, .int a), (5, .int r), (4, .int (nI i)), (0, .ref b), (1, .ref (ad 0)), (2, .ref (am 0)), (3, .ref o)]) (pc := 311) hx hb dzL_law_311 hl (by decide) rfl (fun ls hl => ?_)
  refine lv_aload_n (pc := 313) hx hb dzL_law_313 rfl (lv_at hl 5 rfl) ?_
  refine xw_VI (wc := xk_wM am ac t) (As := []) (rest := []) (H0 := s.heap) (pc := 314) hx hb hml hts hown hK hA (xw_PL hP) (xw_DL hD) hS (kzM_thrown l G ac am t) vfzL_72 0 rfl rfl ⟨rfl, rfl⟩ ⟨(Nat.le_of_ble_eq_true rfl), (Nat.le_of_ble_eq_true rfl)⟩ rfl hl.1 rfl (Nat.le_of_ble_eq_true rfl) ⟨hcs.1, hcs.2⟩ dzL_law_314 (fun r9 u9 H locs hr9 hk hP1 hS => ?_)
  obtain ⟨hP, hD⟩ := xw_putL (w1 := xk_wM am ac t) hP hD rfl hk hP1
  have hc9 := hC r u a t hu ht
  refine lv_iload (pc := 317) hx hb dzL_law_317 (lv_at hl 1 rfl) ?_
  refine lv_icmp_eq (pc := 319) (tgt := 324) hx hb dzL_law_319 (by decide) (fun _ => ?_) (fun hq9 => absurd ((show r9 = t 0 0 from hr9).trans hc9.1) hq9)
  refine lv_iload (pc := 324) hx hb dzL_law_324 (lv_at hl 1 rfl) ?_
  refine lv_if_ne (pc := 326) (tgt := 341) hx hb dzL_law_326 (by decide) (fun _ => ?_) (fun hz9 => ?_)
  · refine lv_goto (tgt := 1070) (pc := 341) hx hb dzL_law_341 (by decide) ?_
    exact kk r u a t H locs ls hu ht hP hD hS (lv_sub hl [2, 3, 4, 5, 6] rfl)
  · refine lv_aload_n (pc := 329) hx hb dzL_law_329 rfl (lv_at hl 6 rfl) ?_
    refine lv_iconst (v := 0) (pc := 330) hx hb dzL_law_330 (by decide) ?_
    refine va_lald (rest := []) (pc := 331) hx hb hK hP 28 7 (f := u.2) rfl rfl (i := 0) (by unfold vp_in; decide) dzL_law_331 ?_
    refine lv_iload (pc := 332) hx hb dzL_law_332 (lv_at hl 0 rfl) ?_
    refine lv_i2l (v := u.2 0) (pc := 334) hx hb dzL_law_334 (hc9.2 hz9).symm ?_
    refine W.lcmp (pc := 335) hx hb dzL_law_335 ?_
    refine lv_if_eq (pc := 336) (tgt := 341) hx hb dzL_law_336 (by decide) (fun _ => ?_) (fun hq9 => absurd (lz_cmp _) hq9)
    refine lv_goto (tgt := 1070) (pc := 341) hx hb dzL_law_341 (by decide) ?_
    exact kk r u a t H locs ls hu ht hP hD hS (lv_sub hl [2, 3, 4, 5, 6] rfl)

set_option maxHeartbeats 4000000 in
set_option maxRecDepth 100000 in
theorem br_barrier {p : Program} {l : Launch} {e : Env} {s : State} {m : MethodId} {below : List Frame} {meth : Method} {c : Code} {Q : State → Prop} {b L : Nat} {xs : Nat → Int32} {G : va_G} {ac : Nat → ClassId} {A : Nat → Prop} (C : lz_C p s m c b L xs G ac A) {ad am : Nat → Nat} {o i : Nat} {t g : xk_St} {f : Nat → Int64} {H : Heap} {locs : List Loc} {ls : Array Slot} {cells slots : Nat} (hi : i + 3 < L) (hL : L ≤ 2048) {k0 : Int32} (h0 : xs (i + 1) = k0) {k1 : Int32} (h1 : xs (i + 2) = k1) (hcs : cells + 1 ≤ room_1.cells ∧ slots + 6 ≤ room_1.slots) {SU : Type} (sU : SU → xk_St) (PU : Int32 → SU × (Nat → Int64) → Prop) (hU : xt_H l yzL_barrier czL_barrier 5 [(0, 10, 13, 13), (0, 10, 17, 15)] xk_WS xt_rH G xk_cls (xk_tys ac) RzU xk_tx xk_ex xk_NN [.ref (ad 0), .int k0, .int k1, .ref o] ((o, Sum.inl (ac 7, 1, Sum.inr (Sum.inl f))) :: xk_wU ad ac g) PU (fun u => (o, Sum.inl (ac 7, 1, Sum.inr (Sum.inl u.2))) :: xk_wU ad ac (sU u.1))) (rM : Room) (PM : Int32 → xk_St → Prop) (hM : xk_CI l yzM_barrier czM_barrier 5 .int xk_WS rM G xk_cls (xk_tys ac) [.ref (am 0), .int k0, .int k1] (xk_wM am ac t) PM (fun t => xk_wM am ac t)) (hrM : rM.cells = 0 ∧ rM.slots = 0) (hRM : rM.frames + 1 ≤ room_1.frames ∧ 8 + (5 + 11) + rM.locals ≤ room_1.locals) (hC : ∀ r u a t, PU r u → PM a t → t 0 0 = r ∧ (r = 0 → u.2 0 = a.toInt64)) (hP : va_P G xk_cls (lz_W am ad ac o t f g) H) (hD : va_D A (lz_W am ad ac o t f g)) (hS : va_S A s.heap H locs) (hl : lv_has ls 7 (lz_L b i am ad o)) (kk : ∀ (r : Int32) (u : SU × (Nat → Int64)) (a : Int32) (t : xk_St) (H : Heap) (locs : List Loc) (ls : Array Slot), PU r u → PM a t → va_P G xk_cls (lz_W am ad ac o t u.2 (sU u.1)) H → va_D A (lz_W am ad ac o t u.2 (sU u.1)) → va_S A s.heap H locs → lv_has ls 7 (lz_L b i am ad o) → W p l e room_1 s m #[Value.ref b] below meth c H locs (cells + 1) (slots + 6) Q (F0 m 1070 ls [])) : W p l e room_1 s m #[Value.ref b] below meth c H locs cells slots Q (F0 m 344 ls []) := by
  obtain ⟨hx, hb, hml, hts, hown, hK, hA, hX, hbl, hbA, hXt, hN⟩ := C
  refine lv_aload_n (pc := 344) hx hb dzL_law_344 rfl (lv_at hl 2 rfl) ?_
  refine lz_rd (j := 1) (v := k0) (pc := 345) hx hb hX hbl hbA hS (lv_at hl 1 rfl) (lv_at hl 0 rfl) (by omega) hL h0 dzL_law_345 dzL_law_346 dzL_law_348 (by decide) dzL_law_349 dzL_law_350 ?_
  refine lz_rd (j := 2) (v := k1) (pc := 351) hx hb hX hbl hbA hS (lv_at hl 1 rfl) (lv_at hl 0 rfl) (by omega) hL h1 dzL_law_351 dzL_law_352 dzL_law_354 (by decide) dzL_law_355 dzL_law_356 ?_
  refine lv_aload_n (pc := 357) hx hb dzL_law_357 rfl (lv_at hl 4 rfl) ?_
  refine xw_H (wc := ([(o, Sum.inl (ac 7, 1, Sum.inr (Sum.inl f)))] ++ xk_wU ad ac g)) (As := [.ref (ad 0), .int k0, .int k1, .ref o]) (rest := []) (H0 := s.heap) (pc := 358) hx hb hml hts hown hK hA (xw_PR hP) (xw_DR hD) hS hXt hS hN hU sh_barrier ⟨rfl, rfl⟩ ⟨(Nat.le_of_ble_eq_true rfl), (Nat.le_of_ble_eq_true rfl)⟩ rfl hl.1 rfl (Nat.le_of_ble_eq_true rfl) hcs dzL_law_358 (fun r u H locs hu hk hP1 hS => ?_)
  obtain ⟨hP, hD⟩ := xw_putR (w1 := [(o, Sum.inl (ac 7, 1, Sum.inr (Sum.inl u.2)))] ++ xk_wU ad ac (sU u.1)) hP hD rfl hk hP1
  refine lv_istore (lv' := [(5, .int r), (4, .int (nI i)), (0, .ref b), (1, .ref (ad 0)), (2, .ref (am 0)), (3, .ref o)]) (pc := 361) hx hb dzL_law_361 hl (by decide) rfl (fun ls hl => ?_)
  refine lv_aload_n (pc := 363) hx hb dzL_law_363 rfl (lv_at hl 4 rfl) ?_
  refine lz_rd (j := 1) (v := k0) (pc := 364) hx hb hX hbl hbA hS (lv_at hl 2 rfl) (lv_at hl 1 rfl) (by omega) hL h0 dzL_law_364 dzL_law_365 dzL_law_367 (by decide) dzL_law_368 dzL_law_369 ?_
  refine lz_rd (j := 2) (v := k1) (pc := 370) hx hb hX hbl hbA hS (lv_at hl 2 rfl) (lv_at hl 1 rfl) (by omega) hL h1 dzL_law_370 dzL_law_371 dzL_law_373 (by decide) dzL_law_374 dzL_law_375 ?_
  refine xw_VI (wc := xk_wM am ac t) (As := [.int k0, .int k1]) (rest := []) (H0 := s.heap) (pc := 376) hx hb hml hts hown hK hA (xw_PL hP) (xw_DL hD) hS hM vfzL_91 0 rfl rfl hrM hRM rfl hl.1 rfl (Nat.le_of_ble_eq_true rfl) ⟨hcs.1, hcs.2⟩ dzL_law_376 (fun a t H locs ht hk hP1 hS => ?_)
  obtain ⟨hP, hD⟩ := xw_putL (w1 := xk_wM am ac t) hP hD rfl hk hP1
  refine lv_istore (lv' := [(6, .int a), (5, .int r), (4, .int (nI i)), (0, .ref b), (1, .ref (ad 0)), (2, .ref (am 0)), (3, .ref o)]) (pc := 379) hx hb dzL_law_379 hl (by decide) rfl (fun ls hl => ?_)
  refine lv_aload_n (pc := 381) hx hb dzL_law_381 rfl (lv_at hl 5 rfl) ?_
  refine xw_VI (wc := xk_wM am ac t) (As := []) (rest := []) (H0 := s.heap) (pc := 382) hx hb hml hts hown hK hA (xw_PL hP) (xw_DL hD) hS (kzM_thrown l G ac am t) vfzL_72 0 rfl rfl ⟨rfl, rfl⟩ ⟨(Nat.le_of_ble_eq_true rfl), (Nat.le_of_ble_eq_true rfl)⟩ rfl hl.1 rfl (Nat.le_of_ble_eq_true rfl) ⟨hcs.1, hcs.2⟩ dzL_law_382 (fun r9 u9 H locs hr9 hk hP1 hS => ?_)
  obtain ⟨hP, hD⟩ := xw_putL (w1 := xk_wM am ac t) hP hD rfl hk hP1
  have hc9 := hC r u a t hu ht
  refine lv_iload (pc := 385) hx hb dzL_law_385 (lv_at hl 1 rfl) ?_
  refine lv_icmp_eq (pc := 387) (tgt := 392) hx hb dzL_law_387 (by decide) (fun _ => ?_) (fun hq9 => absurd ((show r9 = t 0 0 from hr9).trans hc9.1) hq9)
  refine lv_iload (pc := 392) hx hb dzL_law_392 (lv_at hl 1 rfl) ?_
  refine lv_if_ne (pc := 394) (tgt := 409) hx hb dzL_law_394 (by decide) (fun _ => ?_) (fun hz9 => ?_)
  · refine lv_goto (tgt := 1070) (pc := 409) hx hb dzL_law_409 (by decide) ?_
    exact kk r u a t H locs ls hu ht hP hD hS (lv_sub hl [2, 3, 4, 5, 6] rfl)
  · refine lv_aload_n (pc := 397) hx hb dzL_law_397 rfl (lv_at hl 6 rfl) ?_
    refine lv_iconst (v := 0) (pc := 398) hx hb dzL_law_398 (by decide) ?_
    refine va_lald (rest := []) (pc := 399) hx hb hK hP 28 7 (f := u.2) rfl rfl (i := 0) (by unfold vp_in; decide) dzL_law_399 ?_
    refine lv_iload (pc := 400) hx hb dzL_law_400 (lv_at hl 0 rfl) ?_
    refine lv_i2l (v := u.2 0) (pc := 402) hx hb dzL_law_402 (hc9.2 hz9).symm ?_
    refine W.lcmp (pc := 403) hx hb dzL_law_403 ?_
    refine lv_if_eq (pc := 404) (tgt := 409) hx hb dzL_law_404 (by decide) (fun _ => ?_) (fun hq9 => absurd (lz_cmp _) hq9)
    refine lv_goto (tgt := 1070) (pc := 409) hx hb dzL_law_409 (by decide) ?_
    exact kk r u a t H locs ls hu ht hP hD hS (lv_sub hl [2, 3, 4, 5, 6] rfl)

set_option maxHeartbeats 4000000 in
set_option maxRecDepth 100000 in
theorem br_current {p : Program} {l : Launch} {e : Env} {s : State} {m : MethodId} {below : List Frame} {meth : Method} {c : Code} {Q : State → Prop} {b L : Nat} {xs : Nat → Int32} {G : va_G} {ac : Nat → ClassId} {A : Nat → Prop} (C : lz_C p s m c b L xs G ac A) {ad am : Nat → Nat} {o i : Nat} {t g : xk_St} {f : Nat → Int64} {H : Heap} {locs : List Loc} {ls : Array Slot} {cells slots : Nat} (hi : i + 3 < L) (hL : L ≤ 2048) {k0 : Int32} (h0 : xs (i + 1) = k0) {y1 k1 : Int32} (h1 : xs (i + 2) = y1) (hk1 : k1 = if y1 = 0 then 0 else 1) (hcs : cells + 1 ≤ room_1.cells ∧ slots + 6 ≤ room_1.slots) {SU : Type} (sU : SU → xk_St) (PU : Int32 → SU × (Nat → Int64) → Prop) (hU : xt_H l yzL_current czL_current 5 [(0, 17, 20, 13)] xk_WS xt_rH G xk_cls (xk_tys ac) RzU xk_tx xk_ex xk_NN [.ref (ad 0), .int k0, .int k1, .ref o] ((o, Sum.inl (ac 7, 1, Sum.inr (Sum.inl f))) :: xk_wU ad ac g) PU (fun u => (o, Sum.inl (ac 7, 1, Sum.inr (Sum.inl u.2))) :: xk_wU ad ac (sU u.1))) (rM : Room) (PM : Int32 → xk_St → Prop) (hM : xk_CI l yzM_current czM_current 4 .boolean xk_WS rM G xk_cls (xk_tys ac) [.ref (am 0), .int k0, .int k1] (xk_wM am ac t) PM (fun t => xk_wM am ac t)) (hrM : rM.cells = 0 ∧ rM.slots = 0) (hRM : rM.frames + 1 ≤ room_1.frames ∧ 8 + (4 + 11) + rM.locals ≤ room_1.locals) (hC : ∀ r u a t, PU r u → PM a t → t 0 0 = r ∧ (r = 0 → u.2 0 = (if a = 0 then 0 else 1))) (hP : va_P G xk_cls (lz_W am ad ac o t f g) H) (hD : va_D A (lz_W am ad ac o t f g)) (hS : va_S A s.heap H locs) (hl : lv_has ls 7 (lz_L b i am ad o)) (kk : ∀ (r : Int32) (u : SU × (Nat → Int64)) (a : Int32) (t : xk_St) (H : Heap) (locs : List Loc) (ls : Array Slot), PU r u → PM a t → va_P G xk_cls (lz_W am ad ac o t u.2 (sU u.1)) H → va_D A (lz_W am ad ac o t u.2 (sU u.1)) → va_S A s.heap H locs → lv_has ls 7 (lz_L b i am ad o) → W p l e room_1 s m #[Value.ref b] below meth c H locs (cells + 1) (slots + 6) Q (F0 m 1070 ls [])) : W p l e room_1 s m #[Value.ref b] below meth c H locs cells slots Q (F0 m 412 ls []) := by
  obtain ⟨hx, hb, hml, hts, hown, hK, hA, hX, hbl, hbA, hXt, hN⟩ := C
  refine lv_aload_n (pc := 412) hx hb dzL_law_412 rfl (lv_at hl 2 rfl) ?_
  refine lz_rd (j := 1) (v := k0) (pc := 413) hx hb hX hbl hbA hS (lv_at hl 1 rfl) (lv_at hl 0 rfl) (by omega) hL h0 dzL_law_413 dzL_law_414 dzL_law_416 (by decide) dzL_law_417 dzL_law_418 ?_
  refine lz_rd (j := 2) (v := y1) (pc := 419) hx hb hX hbl hbA hS (lv_at hl 1 rfl) (lv_at hl 0 rfl) (by omega) hL h1 dzL_law_419 dzL_law_420 dzL_law_422 (by decide) dzL_law_423 dzL_law_424 ?_
  refine lz_bool (kb := k1) (pc := 425) hx hb hk1 dzL_law_425 dzL_law_428 dzL_law_429 dzL_law_432 ?_
  refine lv_aload_n (pc := 433) hx hb dzL_law_433 rfl (lv_at hl 4 rfl) ?_
  refine xw_H (wc := ([(o, Sum.inl (ac 7, 1, Sum.inr (Sum.inl f)))] ++ xk_wU ad ac g)) (As := [.ref (ad 0), .int k0, .int k1, .ref o]) (rest := []) (H0 := s.heap) (pc := 434) hx hb hml hts hown hK hA (xw_PR hP) (xw_DR hD) hS hXt hS hN hU sh_current ⟨rfl, rfl⟩ ⟨(Nat.le_of_ble_eq_true rfl), (Nat.le_of_ble_eq_true rfl)⟩ rfl hl.1 rfl (Nat.le_of_ble_eq_true rfl) hcs dzL_law_434 (fun r u H locs hu hk hP1 hS => ?_)
  obtain ⟨hP, hD⟩ := xw_putR (w1 := [(o, Sum.inl (ac 7, 1, Sum.inr (Sum.inl u.2)))] ++ xk_wU ad ac (sU u.1)) hP hD rfl hk hP1
  refine lv_istore (lv' := [(5, .int r), (4, .int (nI i)), (0, .ref b), (1, .ref (ad 0)), (2, .ref (am 0)), (3, .ref o)]) (pc := 437) hx hb dzL_law_437 hl (by decide) rfl (fun ls hl => ?_)
  refine lv_aload_n (pc := 439) hx hb dzL_law_439 rfl (lv_at hl 4 rfl) ?_
  refine lz_rd (j := 1) (v := k0) (pc := 440) hx hb hX hbl hbA hS (lv_at hl 2 rfl) (lv_at hl 1 rfl) (by omega) hL h0 dzL_law_440 dzL_law_441 dzL_law_443 (by decide) dzL_law_444 dzL_law_445 ?_
  refine lz_rd (j := 2) (v := y1) (pc := 446) hx hb hX hbl hbA hS (lv_at hl 2 rfl) (lv_at hl 1 rfl) (by omega) hL h1 dzL_law_446 dzL_law_447 dzL_law_449 (by decide) dzL_law_450 dzL_law_451 ?_
  refine lz_bool (kb := k1) (pc := 452) hx hb hk1 dzL_law_452 dzL_law_455 dzL_law_456 dzL_law_459 ?_
  refine xw_VI (wc := xk_wM am ac t) (As := [.int k0, .int k1]) (rest := []) (H0 := s.heap) (pc := 460) hx hb hml hts hown hK hA (xw_PL hP) (xw_DL hD) hS hM vfzL_95 0 rfl rfl hrM hRM rfl hl.1 rfl (Nat.le_of_ble_eq_true rfl) ⟨hcs.1, hcs.2⟩ dzL_law_460 (fun a t H locs ht hk hP1 hS => ?_)
  obtain ⟨hP, hD⟩ := xw_putL (w1 := xk_wM am ac t) hP hD rfl hk hP1
  refine lv_istore (lv' := [(6, .int a), (5, .int r), (4, .int (nI i)), (0, .ref b), (1, .ref (ad 0)), (2, .ref (am 0)), (3, .ref o)]) (pc := 463) hx hb dzL_law_463 hl (by decide) rfl (fun ls hl => ?_)
  refine lv_aload_n (pc := 465) hx hb dzL_law_465 rfl (lv_at hl 5 rfl) ?_
  refine xw_VI (wc := xk_wM am ac t) (As := []) (rest := []) (H0 := s.heap) (pc := 466) hx hb hml hts hown hK hA (xw_PL hP) (xw_DL hD) hS (kzM_thrown l G ac am t) vfzL_72 0 rfl rfl ⟨rfl, rfl⟩ ⟨(Nat.le_of_ble_eq_true rfl), (Nat.le_of_ble_eq_true rfl)⟩ rfl hl.1 rfl (Nat.le_of_ble_eq_true rfl) ⟨hcs.1, hcs.2⟩ dzL_law_466 (fun r9 u9 H locs hr9 hk hP1 hS => ?_)
  obtain ⟨hP, hD⟩ := xw_putL (w1 := xk_wM am ac t) hP hD rfl hk hP1
  have hc9 := hC r u a t hu ht
  refine lv_iload (pc := 469) hx hb dzL_law_469 (lv_at hl 1 rfl) ?_
  refine lv_icmp_eq (pc := 471) (tgt := 476) hx hb dzL_law_471 (by decide) (fun _ => ?_) (fun hq9 => absurd ((show r9 = t 0 0 from hr9).trans hc9.1) hq9)
  refine lv_iload (pc := 476) hx hb dzL_law_476 (lv_at hl 1 rfl) ?_
  refine lv_if_ne (pc := 478) (tgt := 500) hx hb dzL_law_478 (by decide) (fun _ => ?_) (fun hz9 => ?_)
  · refine lv_goto (tgt := 1070) (pc := 500) hx hb dzL_law_500 (by decide) ?_
    exact kk r u a t H locs ls hu ht hP hD hS (lv_sub hl [2, 3, 4, 5, 6] rfl)
  · refine lv_aload_n (pc := 481) hx hb dzL_law_481 rfl (lv_at hl 6 rfl) ?_
    refine lv_iconst (v := 0) (pc := 482) hx hb dzL_law_482 (by decide) ?_
    refine va_lald (rest := []) (pc := 483) hx hb hK hP 28 7 (f := u.2) rfl rfl (i := 0) (by unfold vp_in; decide) dzL_law_483 ?_
    refine lv_iload (pc := 484) hx hb dzL_law_484 (lv_at hl 0 rfl) ?_
    refine lz_lbool (kl := u.2 0) (pc := 486) hx hb (hc9.2 hz9) dzL_law_486 dzL_law_489 dzL_law_490 dzL_law_493 ?_
    refine W.lcmp (pc := 494) hx hb dzL_law_494 ?_
    refine lv_if_eq (pc := 495) (tgt := 500) hx hb dzL_law_495 (by decide) (fun _ => ?_) (fun hq9 => absurd (lz_cmp _) hq9)
    refine lv_goto (tgt := 1070) (pc := 500) hx hb dzL_law_500 (by decide) ?_
    exact kk r u a t H locs ls hu ht hP hD hS (lv_sub hl [2, 3, 4, 5, 6] rfl)

set_option maxHeartbeats 4000000 in
set_option maxRecDepth 100000 in
theorem br_night {p : Program} {l : Launch} {e : Env} {s : State} {m : MethodId} {below : List Frame} {meth : Method} {c : Code} {Q : State → Prop} {b L : Nat} {xs : Nat → Int32} {G : va_G} {ac : Nat → ClassId} {A : Nat → Prop} (C : lz_C p s m c b L xs G ac A) {ad am : Nat → Nat} {o i : Nat} {t g : xk_St} {f : Nat → Int64} {H : Heap} {locs : List Loc} {ls : Array Slot} {cells slots : Nat} (hi : i + 3 < L) (hL : L ≤ 2048) {y0 k0 : Int32} (h0 : xs (i + 1) = y0) (hk0 : k0 = if y0 = 0 then 0 else 1) (hcs : cells + 1 ≤ room_1.cells ∧ slots + 6 ≤ room_1.slots) {SU : Type} (sU : SU → xk_St) (rU : Room) (PU : Int32 → SU → Prop) (hU : xk_CI l yzU_night czU_night 3 .boolean xk_WS rU G xk_cls (xk_tys ac) [.ref (ad 0), .int k0] (xk_wU ad ac g) PU (fun u => xk_wU ad ac (sU u))) (hrU : rU.cells = 0 ∧ rU.slots = 0) (hRU : rU.frames + 1 ≤ room_1.frames ∧ 8 + (3 + 11) + rU.locals ≤ room_1.locals) (rM : Room) (PM : Int32 → xk_St → Prop) (hM : xk_CI l yzM_night czM_night 3 .boolean xk_WS rM G xk_cls (xk_tys ac) [.ref (am 0), .int k0] (xk_wM am ac t) PM (fun t => xk_wM am ac t)) (hrM : rM.cells = 0 ∧ rM.slots = 0) (hRM : rM.frames + 1 ≤ room_1.frames ∧ 8 + (3 + 11) + rM.locals ≤ room_1.locals) (hC : ∀ r u a t, PU r u → PM a t → r = a) (hP : va_P G xk_cls (lz_W am ad ac o t f g) H) (hD : va_D A (lz_W am ad ac o t f g)) (hS : va_S A s.heap H locs) (hl : lv_has ls 7 (lz_L b i am ad o)) (kk : ∀ (r : Int32) (u : SU) (a : Int32) (t : xk_St) (H : Heap) (locs : List Loc) (ls : Array Slot), PU r u → PM a t → va_P G xk_cls (lz_W am ad ac o t f (sU u)) H → va_D A (lz_W am ad ac o t f (sU u)) → va_S A s.heap H locs → lv_has ls 7 (lz_L b i am ad o) → W p l e room_1 s m #[Value.ref b] below meth c H locs (cells + 1) (slots + 6) Q (F0 m 1070 ls [])) : W p l e room_1 s m #[Value.ref b] below meth c H locs cells slots Q (F0 m 503 ls []) := by
  obtain ⟨hx, hb, hml, hts, hown, hK, hA, hX, hbl, hbA, hXt, hN⟩ := C
  refine lv_aload_n (pc := 503) hx hb dzL_law_503 rfl (lv_at hl 2 rfl) ?_
  refine lz_rd (j := 1) (v := y0) (pc := 504) hx hb hX hbl hbA hS (lv_at hl 1 rfl) (lv_at hl 0 rfl) (by omega) hL h0 dzL_law_504 dzL_law_505 dzL_law_507 (by decide) dzL_law_508 dzL_law_509 ?_
  refine lz_bool (kb := k0) (pc := 510) hx hb hk0 dzL_law_510 dzL_law_513 dzL_law_514 dzL_law_517 ?_
  refine xt_more (Nat.le_add_right cells 1) (Nat.le_add_right slots 6) ?_
  refine xw_VI (wc := xk_wU ad ac g) (As := [.int k0]) (rest := []) (H0 := s.heap) (pc := 518) hx hb hml hts hown hK hA (xw_PR (xw_PR hP)) (xw_DR (xw_DR hD)) hS hU vfzL_96 0 rfl rfl hrU hRU rfl hl.1 rfl (Nat.le_of_ble_eq_true rfl) ⟨hcs.1, hcs.2⟩ dzL_law_518 (fun r u H locs hu hk hP1 hS => ?_)
  obtain ⟨hP2, hD2⟩ := xw_putR (w1 := xk_wU ad ac (sU u)) (xw_PR hP) (xw_DR hD) rfl hk hP1
  obtain ⟨hP, hD⟩ := xw_putR (w1 := [(o, Sum.inl (ac 7, 1, Sum.inr (Sum.inl f)))] ++ xk_wU ad ac (sU u)) hP hD rfl (fun q h1 h2 => hk q h1 (fun h3 => h2 (lz_in h3))) hP2
  refine lv_aload_n (pc := 521) hx hb dzL_law_521 rfl (lv_at hl 3 rfl) ?_
  refine lz_rd (j := 1) (v := y0) (pc := 522) hx hb hX hbl hbA hS (lv_at hl 1 rfl) (lv_at hl 0 rfl) (by omega) hL h0 dzL_law_522 dzL_law_523 dzL_law_525 (by decide) dzL_law_526 dzL_law_527 ?_
  refine lz_bool (kb := k0) (pc := 528) hx hb hk0 dzL_law_528 dzL_law_531 dzL_law_532 dzL_law_535 ?_
  refine xw_VI (wc := xk_wM am ac t) (As := [.int k0]) (rest := [.int r]) (H0 := s.heap) (pc := 536) hx hb hml hts hown hK hA (xw_PL hP) (xw_DL hD) hS hM vfzL_100 0 rfl rfl hrM hRM rfl hl.1 rfl (Nat.le_of_ble_eq_true rfl) ⟨hcs.1, hcs.2⟩ dzL_law_536 (fun a t H locs ht hk hP1 hS => ?_)
  obtain ⟨hP, hD⟩ := xw_putL (w1 := xk_wM am ac t) hP hD rfl hk hP1
  refine lv_icmp_eq (pc := 539) (tgt := 1070) hx hb dzL_law_539 (by decide) (fun _ => ?_) (fun hq9 => absurd (hC r u a t hu ht) hq9)
  exact kk r u a t H locs ls hu ht hP hD hS (lv_sub hl [0, 1, 2, 3, 4] rfl)

set_option maxHeartbeats 4000000 in
set_option maxRecDepth 100000 in
theorem br_order {p : Program} {l : Launch} {e : Env} {s : State} {m : MethodId} {below : List Frame} {meth : Method} {c : Code} {Q : State → Prop} {b L : Nat} {xs : Nat → Int32} {G : va_G} {ac : Nat → ClassId} {A : Nat → Prop} (C : lz_C p s m c b L xs G ac A) {ad am : Nat → Nat} {o i : Nat} {t g : xk_St} {f : Nat → Int64} {H : Heap} {locs : List Loc} {ls : Array Slot} {cells slots : Nat} (hi : i + 3 < L) (hL : L ≤ 2048) {k0 : Int32} (h0 : xs (i + 1) = k0) (hcs : cells + 1 ≤ room_1.cells ∧ slots + 6 ≤ room_1.slots) {SU : Type} (sU : SU → xk_St) (PU : Int32 → SU × (Nat → Int64) → Prop) (hU : xt_H l yzL_order czL_order 4 [(0, 9, 12, 13)] xk_WS xt_rH G xk_cls (xk_tys ac) RzU xk_tx xk_ex xk_NN [.ref (ad 0), .int k0, .ref o] ((o, Sum.inl (ac 7, 1, Sum.inr (Sum.inl f))) :: xk_wU ad ac g) PU (fun u => (o, Sum.inl (ac 7, 1, Sum.inr (Sum.inl u.2))) :: xk_wU ad ac (sU u.1))) (rM : Room) (PM : Int32 → xk_St → Prop) (hM : xk_CI l yzM_order czM_order 3 .int xk_WS rM G xk_cls (xk_tys ac) [.ref (am 0), .int k0] (xk_wM am ac t) PM (fun t => xk_wM am ac t)) (hrM : rM.cells = 0 ∧ rM.slots = 0) (hRM : rM.frames + 1 ≤ room_1.frames ∧ 8 + (3 + 11) + rM.locals ≤ room_1.locals) (hC : ∀ r u a t, PU r u → PM a t → t 0 0 = r ∧ (r = 0 → u.2 0 = a.toInt64)) (hP : va_P G xk_cls (lz_W am ad ac o t f g) H) (hD : va_D A (lz_W am ad ac o t f g)) (hS : va_S A s.heap H locs) (hl : lv_has ls 7 (lz_L b i am ad o)) (kk : ∀ (r : Int32) (u : SU × (Nat → Int64)) (a : Int32) (t : xk_St) (H : Heap) (locs : List Loc) (ls : Array Slot), PU r u → PM a t → va_P G xk_cls (lz_W am ad ac o t u.2 (sU u.1)) H → va_D A (lz_W am ad ac o t u.2 (sU u.1)) → va_S A s.heap H locs → lv_has ls 7 (lz_L b i am ad o) → W p l e room_1 s m #[Value.ref b] below meth c H locs (cells + 1) (slots + 6) Q (F0 m 1070 ls [])) : W p l e room_1 s m #[Value.ref b] below meth c H locs cells slots Q (F0 m 544 ls []) := by
  obtain ⟨hx, hb, hml, hts, hown, hK, hA, hX, hbl, hbA, hXt, hN⟩ := C
  refine lv_aload_n (pc := 544) hx hb dzL_law_544 rfl (lv_at hl 2 rfl) ?_
  refine lz_rd (j := 1) (v := k0) (pc := 545) hx hb hX hbl hbA hS (lv_at hl 1 rfl) (lv_at hl 0 rfl) (by omega) hL h0 dzL_law_545 dzL_law_546 dzL_law_548 (by decide) dzL_law_549 dzL_law_550 ?_
  refine lv_aload_n (pc := 551) hx hb dzL_law_551 rfl (lv_at hl 4 rfl) ?_
  refine xw_H (wc := ([(o, Sum.inl (ac 7, 1, Sum.inr (Sum.inl f)))] ++ xk_wU ad ac g)) (As := [.ref (ad 0), .int k0, .ref o]) (rest := []) (H0 := s.heap) (pc := 552) hx hb hml hts hown hK hA (xw_PR hP) (xw_DR hD) hS hXt hS hN hU sh_order ⟨rfl, rfl⟩ ⟨(Nat.le_of_ble_eq_true rfl), (Nat.le_of_ble_eq_true rfl)⟩ rfl hl.1 rfl (Nat.le_of_ble_eq_true rfl) hcs dzL_law_552 (fun r u H locs hu hk hP1 hS => ?_)
  obtain ⟨hP, hD⟩ := xw_putR (w1 := [(o, Sum.inl (ac 7, 1, Sum.inr (Sum.inl u.2)))] ++ xk_wU ad ac (sU u.1)) hP hD rfl hk hP1
  refine lv_istore (lv' := [(5, .int r), (4, .int (nI i)), (0, .ref b), (1, .ref (ad 0)), (2, .ref (am 0)), (3, .ref o)]) (pc := 555) hx hb dzL_law_555 hl (by decide) rfl (fun ls hl => ?_)
  refine lv_aload_n (pc := 557) hx hb dzL_law_557 rfl (lv_at hl 4 rfl) ?_
  refine lz_rd (j := 1) (v := k0) (pc := 558) hx hb hX hbl hbA hS (lv_at hl 2 rfl) (lv_at hl 1 rfl) (by omega) hL h0 dzL_law_558 dzL_law_559 dzL_law_561 (by decide) dzL_law_562 dzL_law_563 ?_
  refine xw_VI (wc := xk_wM am ac t) (As := [.int k0]) (rest := []) (H0 := s.heap) (pc := 564) hx hb hml hts hown hK hA (xw_PL hP) (xw_DL hD) hS hM vfzL_103 0 rfl rfl hrM hRM rfl hl.1 rfl (Nat.le_of_ble_eq_true rfl) ⟨hcs.1, hcs.2⟩ dzL_law_564 (fun a t H locs ht hk hP1 hS => ?_)
  obtain ⟨hP, hD⟩ := xw_putL (w1 := xk_wM am ac t) hP hD rfl hk hP1
  refine lv_istore (lv' := [(6, .int a), (5, .int r), (4, .int (nI i)), (0, .ref b), (1, .ref (ad 0)), (2, .ref (am 0)), (3, .ref o)]) (pc := 567) hx hb dzL_law_567 hl (by decide) rfl (fun ls hl => ?_)
  refine lv_aload_n (pc := 569) hx hb dzL_law_569 rfl (lv_at hl 5 rfl) ?_
  refine xw_VI (wc := xk_wM am ac t) (As := []) (rest := []) (H0 := s.heap) (pc := 570) hx hb hml hts hown hK hA (xw_PL hP) (xw_DL hD) hS (kzM_thrown l G ac am t) vfzL_72 0 rfl rfl ⟨rfl, rfl⟩ ⟨(Nat.le_of_ble_eq_true rfl), (Nat.le_of_ble_eq_true rfl)⟩ rfl hl.1 rfl (Nat.le_of_ble_eq_true rfl) ⟨hcs.1, hcs.2⟩ dzL_law_570 (fun r9 u9 H locs hr9 hk hP1 hS => ?_)
  obtain ⟨hP, hD⟩ := xw_putL (w1 := xk_wM am ac t) hP hD rfl hk hP1
  have hc9 := hC r u a t hu ht
  refine lv_iload (pc := 573) hx hb dzL_law_573 (lv_at hl 1 rfl) ?_
  refine lv_icmp_eq (pc := 575) (tgt := 580) hx hb dzL_law_575 (by decide) (fun _ => ?_) (fun hq9 => absurd ((show r9 = t 0 0 from hr9).trans hc9.1) hq9)
  refine lv_iload (pc := 580) hx hb dzL_law_580 (lv_at hl 1 rfl) ?_
  refine lv_if_ne (pc := 582) (tgt := 597) hx hb dzL_law_582 (by decide) (fun _ => ?_) (fun hz9 => ?_)
  · refine lv_goto (tgt := 1070) (pc := 597) hx hb dzL_law_597 (by decide) ?_
    exact kk r u a t H locs ls hu ht hP hD hS (lv_sub hl [2, 3, 4, 5, 6] rfl)
  · refine lv_aload_n (pc := 585) hx hb dzL_law_585 rfl (lv_at hl 6 rfl) ?_
    refine lv_iconst (v := 0) (pc := 586) hx hb dzL_law_586 (by decide) ?_
    refine va_lald (rest := []) (pc := 587) hx hb hK hP 28 7 (f := u.2) rfl rfl (i := 0) (by unfold vp_in; decide) dzL_law_587 ?_
    refine lv_iload (pc := 588) hx hb dzL_law_588 (lv_at hl 0 rfl) ?_
    refine lv_i2l (v := u.2 0) (pc := 590) hx hb dzL_law_590 (hc9.2 hz9).symm ?_
    refine W.lcmp (pc := 591) hx hb dzL_law_591 ?_
    refine lv_if_eq (pc := 592) (tgt := 597) hx hb dzL_law_592 (by decide) (fun _ => ?_) (fun hq9 => absurd (lz_cmp _) hq9)
    refine lv_goto (tgt := 1070) (pc := 597) hx hb dzL_law_597 (by decide) ?_
    exact kk r u a t H locs ls hu ht hP hD hS (lv_sub hl [2, 3, 4, 5, 6] rfl)

set_option maxHeartbeats 4000000 in
set_option maxRecDepth 100000 in
theorem br_cancel {p : Program} {l : Launch} {e : Env} {s : State} {m : MethodId} {below : List Frame} {meth : Method} {c : Code} {Q : State → Prop} {b L : Nat} {xs : Nat → Int32} {G : va_G} {ac : Nat → ClassId} {A : Nat → Prop} (C : lz_C p s m c b L xs G ac A) {ad am : Nat → Nat} {o i : Nat} {t g : xk_St} {f : Nat → Int64} {H : Heap} {locs : List Loc} {ls : Array Slot} {cells slots : Nat} (hi : i + 3 < L) (hL : L ≤ 2048) {k0 : Int32} (h0 : xs (i + 1) = k0) (hcs : cells + 1 ≤ room_1.cells ∧ slots + 6 ≤ room_1.slots) {SU : Type} (sU : SU → xk_St) (PU : Int32 → SU × (Nat → Int64) → Prop) (hU : xt_H l yzL_cancel czL_cancel 4 [(0, 16, 19, 13)] xk_WS xt_rH G xk_cls (xk_tys ac) RzU xk_tx xk_ex xk_NN [.ref (ad 0), .int k0, .ref o] ((o, Sum.inl (ac 7, 1, Sum.inr (Sum.inl f))) :: xk_wU ad ac g) PU (fun u => (o, Sum.inl (ac 7, 1, Sum.inr (Sum.inl u.2))) :: xk_wU ad ac (sU u.1))) (rM : Room) (PM : Int32 → xk_St → Prop) (hM : xk_CI l yzM_cancel czM_cancel 3 .boolean xk_WS rM G xk_cls (xk_tys ac) [.ref (am 0), .int k0] (xk_wM am ac t) PM (fun t => xk_wM am ac t)) (hrM : rM.cells = 0 ∧ rM.slots = 0) (hRM : rM.frames + 1 ≤ room_1.frames ∧ 8 + (3 + 11) + rM.locals ≤ room_1.locals) (hC : ∀ r u a t, PU r u → PM a t → t 0 0 = r ∧ (r = 0 → u.2 0 = (if a = 0 then 0 else 1))) (hP : va_P G xk_cls (lz_W am ad ac o t f g) H) (hD : va_D A (lz_W am ad ac o t f g)) (hS : va_S A s.heap H locs) (hl : lv_has ls 7 (lz_L b i am ad o)) (kk : ∀ (r : Int32) (u : SU × (Nat → Int64)) (a : Int32) (t : xk_St) (H : Heap) (locs : List Loc) (ls : Array Slot), PU r u → PM a t → va_P G xk_cls (lz_W am ad ac o t u.2 (sU u.1)) H → va_D A (lz_W am ad ac o t u.2 (sU u.1)) → va_S A s.heap H locs → lv_has ls 7 (lz_L b i am ad o) → W p l e room_1 s m #[Value.ref b] below meth c H locs (cells + 1) (slots + 6) Q (F0 m 1070 ls [])) : W p l e room_1 s m #[Value.ref b] below meth c H locs cells slots Q (F0 m 600 ls []) := by
  obtain ⟨hx, hb, hml, hts, hown, hK, hA, hX, hbl, hbA, hXt, hN⟩ := C
  refine lv_aload_n (pc := 600) hx hb dzL_law_600 rfl (lv_at hl 2 rfl) ?_
  refine lz_rd (j := 1) (v := k0) (pc := 601) hx hb hX hbl hbA hS (lv_at hl 1 rfl) (lv_at hl 0 rfl) (by omega) hL h0 dzL_law_601 dzL_law_602 dzL_law_604 (by decide) dzL_law_605 dzL_law_606 ?_
  refine lv_aload_n (pc := 607) hx hb dzL_law_607 rfl (lv_at hl 4 rfl) ?_
  refine xw_H (wc := ([(o, Sum.inl (ac 7, 1, Sum.inr (Sum.inl f)))] ++ xk_wU ad ac g)) (As := [.ref (ad 0), .int k0, .ref o]) (rest := []) (H0 := s.heap) (pc := 608) hx hb hml hts hown hK hA (xw_PR hP) (xw_DR hD) hS hXt hS hN hU sh_cancel ⟨rfl, rfl⟩ ⟨(Nat.le_of_ble_eq_true rfl), (Nat.le_of_ble_eq_true rfl)⟩ rfl hl.1 rfl (Nat.le_of_ble_eq_true rfl) hcs dzL_law_608 (fun r u H locs hu hk hP1 hS => ?_)
  obtain ⟨hP, hD⟩ := xw_putR (w1 := [(o, Sum.inl (ac 7, 1, Sum.inr (Sum.inl u.2)))] ++ xk_wU ad ac (sU u.1)) hP hD rfl hk hP1
  refine lv_istore (lv' := [(5, .int r), (4, .int (nI i)), (0, .ref b), (1, .ref (ad 0)), (2, .ref (am 0)), (3, .ref o)]) (pc := 611) hx hb dzL_law_611 hl (by decide) rfl (fun ls hl => ?_)
  refine lv_aload_n (pc := 613) hx hb dzL_law_613 rfl (lv_at hl 4 rfl) ?_
  refine lz_rd (j := 1) (v := k0) (pc := 614) hx hb hX hbl hbA hS (lv_at hl 2 rfl) (lv_at hl 1 rfl) (by omega) hL h0 dzL_law_614 dzL_law_615 dzL_law_617 (by decide) dzL_law_618 dzL_law_619 ?_
  refine xw_VI (wc := xk_wM am ac t) (As := [.int k0]) (rest := []) (H0 := s.heap) (pc := 620) hx hb hml hts hown hK hA (xw_PL hP) (xw_DL hD) hS hM vfzL_106 0 rfl rfl hrM hRM rfl hl.1 rfl (Nat.le_of_ble_eq_true rfl) ⟨hcs.1, hcs.2⟩ dzL_law_620 (fun a t H locs ht hk hP1 hS => ?_)
  obtain ⟨hP, hD⟩ := xw_putL (w1 := xk_wM am ac t) hP hD rfl hk hP1
  refine lv_istore (lv' := [(6, .int a), (5, .int r), (4, .int (nI i)), (0, .ref b), (1, .ref (ad 0)), (2, .ref (am 0)), (3, .ref o)]) (pc := 623) hx hb dzL_law_623 hl (by decide) rfl (fun ls hl => ?_)
  refine lv_aload_n (pc := 625) hx hb dzL_law_625 rfl (lv_at hl 5 rfl) ?_
  refine xw_VI (wc := xk_wM am ac t) (As := []) (rest := []) (H0 := s.heap) (pc := 626) hx hb hml hts hown hK hA (xw_PL hP) (xw_DL hD) hS (kzM_thrown l G ac am t) vfzL_72 0 rfl rfl ⟨rfl, rfl⟩ ⟨(Nat.le_of_ble_eq_true rfl), (Nat.le_of_ble_eq_true rfl)⟩ rfl hl.1 rfl (Nat.le_of_ble_eq_true rfl) ⟨hcs.1, hcs.2⟩ dzL_law_626 (fun r9 u9 H locs hr9 hk hP1 hS => ?_)
  obtain ⟨hP, hD⟩ := xw_putL (w1 := xk_wM am ac t) hP hD rfl hk hP1
  have hc9 := hC r u a t hu ht
  refine lv_iload (pc := 629) hx hb dzL_law_629 (lv_at hl 1 rfl) ?_
  refine lv_icmp_eq (pc := 631) (tgt := 636) hx hb dzL_law_631 (by decide) (fun _ => ?_) (fun hq9 => absurd ((show r9 = t 0 0 from hr9).trans hc9.1) hq9)
  refine lv_iload (pc := 636) hx hb dzL_law_636 (lv_at hl 1 rfl) ?_
  refine lv_if_ne (pc := 638) (tgt := 660) hx hb dzL_law_638 (by decide) (fun _ => ?_) (fun hz9 => ?_)
  · refine lv_goto (tgt := 1070) (pc := 660) hx hb dzL_law_660 (by decide) ?_
    exact kk r u a t H locs ls hu ht hP hD hS (lv_sub hl [2, 3, 4, 5, 6] rfl)
  · refine lv_aload_n (pc := 641) hx hb dzL_law_641 rfl (lv_at hl 6 rfl) ?_
    refine lv_iconst (v := 0) (pc := 642) hx hb dzL_law_642 (by decide) ?_
    refine va_lald (rest := []) (pc := 643) hx hb hK hP 28 7 (f := u.2) rfl rfl (i := 0) (by unfold vp_in; decide) dzL_law_643 ?_
    refine lv_iload (pc := 644) hx hb dzL_law_644 (lv_at hl 0 rfl) ?_
    refine lz_lbool (kl := u.2 0) (pc := 646) hx hb (hc9.2 hz9) dzL_law_646 dzL_law_649 dzL_law_650 dzL_law_653 ?_
    refine W.lcmp (pc := 654) hx hb dzL_law_654 ?_
    refine lv_if_eq (pc := 655) (tgt := 660) hx hb dzL_law_655 (by decide) (fun _ => ?_) (fun hq9 => absurd (lz_cmp _) hq9)
    refine lv_goto (tgt := 1070) (pc := 660) hx hb dzL_law_660 (by decide) ?_
    exact kk r u a t H locs ls hu ht hP hD hS (lv_sub hl [2, 3, 4, 5, 6] rfl)

set_option maxHeartbeats 4000000 in
set_option maxRecDepth 100000 in
theorem br_ask {p : Program} {l : Launch} {e : Env} {s : State} {m : MethodId} {below : List Frame} {meth : Method} {c : Code} {Q : State → Prop} {b L : Nat} {xs : Nat → Int32} {G : va_G} {ac : Nat → ClassId} {A : Nat → Prop} (C : lz_C p s m c b L xs G ac A) {ad am : Nat → Nat} {o i : Nat} {t g : xk_St} {f : Nat → Int64} {H : Heap} {locs : List Loc} {ls : Array Slot} {cells slots : Nat} (hi : i + 3 < L) (hL : L ≤ 2048) {k0 : Int32} (h0 : xs (i + 1) = k0) {k1 : Int32} (h1 : xs (i + 2) = k1) {k2 : Int32} (h2 : xs (i + 3) = k2) (hcs : cells + 1 ≤ room_1.cells ∧ slots + 6 ≤ room_1.slots) {SU : Type} (sU : SU → xk_St) (PU : Int32 → SU → Prop) (hU : xt_H l yzL_ask czL_ask 5 [(0, 7, 10, 13), (0, 7, 14, 17)] xk_WS xt_rH G xk_cls (xk_tys ac) RzU xk_tx xk_ex xk_NN [.ref (ad 0), .int k0, .int k1, .int k2] (xk_wU ad ac g) PU (fun u => xk_wU ad ac (sU u))) (rM : Room) (PM : xk_St → Prop) (hM : xk_CV l yzM_ask czM_ask 6 xk_WS rM G xk_cls (xk_tys ac) [.ref (am 0), .int k0, .int k1, .int k2] (xk_wM am ac t) PM (fun t => xk_wM am ac t)) (hrM : rM.cells = 0 ∧ rM.slots = 0) (hRM : rM.frames + 1 ≤ room_1.frames ∧ 8 + (6 + 11) + rM.locals ≤ room_1.locals) (hC : ∀ r u t, PU r u → PM t → t 0 0 = r) (hP : va_P G xk_cls (lz_W am ad ac o t f g) H) (hD : va_D A (lz_W am ad ac o t f g)) (hS : va_S A s.heap H locs) (hl : lv_has ls 7 (lz_L b i am ad o)) (kk : ∀ (r : Int32) (u : SU) (t : xk_St) (H : Heap) (locs : List Loc) (ls : Array Slot), PU r u → PM t → va_P G xk_cls (lz_W am ad ac o t f (sU u)) H → va_D A (lz_W am ad ac o t f (sU u)) → va_S A s.heap H locs → lv_has ls 7 (lz_L b i am ad o) → W p l e room_1 s m #[Value.ref b] below meth c H locs (cells + 1) (slots + 6) Q (F0 m 1070 ls [])) : W p l e room_1 s m #[Value.ref b] below meth c H locs cells slots Q (F0 m 663 ls []) := by
  obtain ⟨hx, hb, hml, hts, hown, hK, hA, hX, hbl, hbA, hXt, hN⟩ := C
  refine lv_aload_n (pc := 663) hx hb dzL_law_663 rfl (lv_at hl 2 rfl) ?_
  refine lz_rd (j := 1) (v := k0) (pc := 664) hx hb hX hbl hbA hS (lv_at hl 1 rfl) (lv_at hl 0 rfl) (by omega) hL h0 dzL_law_664 dzL_law_665 dzL_law_667 (by decide) dzL_law_668 dzL_law_669 ?_
  refine lz_rd (j := 2) (v := k1) (pc := 670) hx hb hX hbl hbA hS (lv_at hl 1 rfl) (lv_at hl 0 rfl) (by omega) hL h1 dzL_law_670 dzL_law_671 dzL_law_673 (by decide) dzL_law_674 dzL_law_675 ?_
  refine lz_rd (j := 3) (v := k2) (pc := 676) hx hb hX hbl hbA hS (lv_at hl 1 rfl) (lv_at hl 0 rfl) (by omega) hL h2 dzL_law_676 dzL_law_677 dzL_law_679 (by decide) dzL_law_680 dzL_law_681 ?_
  refine xw_H (wc := (xk_wU ad ac g)) (As := [.ref (ad 0), .int k0, .int k1, .int k2]) (rest := []) (H0 := s.heap) (pc := 682) hx hb hml hts hown hK hA (xw_PR (xw_PR hP)) (xw_DR (xw_DR hD)) hS hXt hS hN hU sh_ask ⟨rfl, rfl⟩ ⟨(Nat.le_of_ble_eq_true rfl), (Nat.le_of_ble_eq_true rfl)⟩ rfl hl.1 rfl (Nat.le_of_ble_eq_true rfl) hcs dzL_law_682 (fun r u H locs hu hk hP1 hS => ?_)
  obtain ⟨hP2, hD2⟩ := xw_putR (w1 := xk_wU ad ac (sU u)) (xw_PR hP) (xw_DR hD) rfl hk hP1
  obtain ⟨hP, hD⟩ := xw_putR (w1 := [(o, Sum.inl (ac 7, 1, Sum.inr (Sum.inl f)))] ++ xk_wU ad ac (sU u)) hP hD rfl (fun q h1 h2 => hk q h1 (fun h3 => h2 (lz_in h3))) hP2
  refine lv_istore (lv' := [(5, .int r), (4, .int (nI i)), (0, .ref b), (1, .ref (ad 0)), (2, .ref (am 0)), (3, .ref o)]) (pc := 685) hx hb dzL_law_685 hl (by decide) rfl (fun ls hl => ?_)
  refine lv_aload_n (pc := 687) hx hb dzL_law_687 rfl (lv_at hl 4 rfl) ?_
  refine lz_rd (j := 1) (v := k0) (pc := 688) hx hb hX hbl hbA hS (lv_at hl 2 rfl) (lv_at hl 1 rfl) (by omega) hL h0 dzL_law_688 dzL_law_689 dzL_law_691 (by decide) dzL_law_692 dzL_law_693 ?_
  refine lz_rd (j := 2) (v := k1) (pc := 694) hx hb hX hbl hbA hS (lv_at hl 2 rfl) (lv_at hl 1 rfl) (by omega) hL h1 dzL_law_694 dzL_law_695 dzL_law_697 (by decide) dzL_law_698 dzL_law_699 ?_
  refine lz_rd (j := 3) (v := k2) (pc := 700) hx hb hX hbl hbA hS (lv_at hl 2 rfl) (lv_at hl 1 rfl) (by omega) hL h2 dzL_law_700 dzL_law_701 dzL_law_703 (by decide) dzL_law_704 dzL_law_705 ?_
  refine xw_VV (wc := xk_wM am ac t) (As := [.int k0, .int k1, .int k2]) (rest := []) (H0 := s.heap) (pc := 706) hx hb hml hts hown hK hA (xw_PL hP) (xw_DL hD) hS hM vfzL_109 0 rfl rfl hrM hRM rfl hl.1 rfl (Nat.le_of_ble_eq_true rfl) ⟨hcs.1, hcs.2⟩ dzL_law_706 (fun t H locs ht hk hP1 hS => ?_)
  obtain ⟨hP, hD⟩ := xw_putL (w1 := xk_wM am ac t) hP hD rfl hk hP1
  refine lv_aload_n (pc := 709) hx hb dzL_law_709 rfl (lv_at hl 4 rfl) ?_
  refine xw_VI (wc := xk_wM am ac t) (As := []) (rest := []) (H0 := s.heap) (pc := 710) hx hb hml hts hown hK hA (xw_PL hP) (xw_DL hD) hS (kzM_thrown l G ac am t) vfzL_72 0 rfl rfl ⟨rfl, rfl⟩ ⟨(Nat.le_of_ble_eq_true rfl), (Nat.le_of_ble_eq_true rfl)⟩ rfl hl.1 rfl (Nat.le_of_ble_eq_true rfl) ⟨hcs.1, hcs.2⟩ dzL_law_710 (fun r9 u9 H locs hr9 hk hP1 hS => ?_)
  obtain ⟨hP, hD⟩ := xw_putL (w1 := xk_wM am ac t) hP hD rfl hk hP1
  have hc9 := hC r u t hu ht
  refine lv_iload (pc := 713) hx hb dzL_law_713 (lv_at hl 0 rfl) ?_
  refine lv_icmp_eq (pc := 715) (tgt := 720) hx hb dzL_law_715 (by decide) (fun _ => ?_) (fun hq9 => absurd ((show r9 = t 0 0 from hr9).trans hc9) hq9)
  refine lv_goto (tgt := 1070) (pc := 720) hx hb dzL_law_720 (by decide) ?_
  exact kk r u t H locs ls hu ht hP hD hS (lv_sub hl [1, 2, 3, 4, 5] rfl)

set_option maxHeartbeats 4000000 in
set_option maxRecDepth 100000 in
theorem br_confirm {p : Program} {l : Launch} {e : Env} {s : State} {m : MethodId} {below : List Frame} {meth : Method} {c : Code} {Q : State → Prop} {b L : Nat} {xs : Nat → Int32} {G : va_G} {ac : Nat → ClassId} {A : Nat → Prop} (C : lz_C p s m c b L xs G ac A) {ad am : Nat → Nat} {o i : Nat} {t g : xk_St} {f : Nat → Int64} {H : Heap} {locs : List Loc} {ls : Array Slot} {cells slots : Nat} (hi : i + 3 < L) (hL : L ≤ 2048) {k0 : Int32} (h0 : xs (i + 1) = k0) {k1 : Int32} (h1 : xs (i + 2) = k1) {k2 : Int32} (h2 : xs (i + 3) = k2) (hcs : cells + 1 ≤ room_1.cells ∧ slots + 6 ≤ room_1.slots) {SU : Type} (sU : SU → xk_St) (PU : Int32 → SU × (Nat → Int64) → Prop) (hU : xt_H l yzL_confirm czL_confirm 6 [(0, 19, 22, 13), (0, 19, 26, 17)] xk_WS xt_rH G xk_cls (xk_tys ac) RzU xk_tx xk_ex xk_NN [.ref (ad 0), .int k0, .int k1, .int k2, .ref o] ((o, Sum.inl (ac 7, 1, Sum.inr (Sum.inl f))) :: xk_wU ad ac g) PU (fun u => (o, Sum.inl (ac 7, 1, Sum.inr (Sum.inl u.2))) :: xk_wU ad ac (sU u.1))) (rM : Room) (PM : Int32 → xk_St → Prop) (hM : xk_CI l yzM_confirm czM_confirm 7 .boolean xk_WS rM G xk_cls (xk_tys ac) [.ref (am 0), .int k0, .int k1, .int k2] (xk_wM am ac t) PM (fun t => xk_wM am ac t)) (hrM : rM.cells = 0 ∧ rM.slots = 0) (hRM : rM.frames + 1 ≤ room_1.frames ∧ 8 + (7 + 11) + rM.locals ≤ room_1.locals) (hC : ∀ r u a t, PU r u → PM a t → t 0 0 = r ∧ (r = 0 → u.2 0 = (if a = 0 then 0 else 1))) (hP : va_P G xk_cls (lz_W am ad ac o t f g) H) (hD : va_D A (lz_W am ad ac o t f g)) (hS : va_S A s.heap H locs) (hl : lv_has ls 7 (lz_L b i am ad o)) (kk : ∀ (r : Int32) (u : SU × (Nat → Int64)) (a : Int32) (t : xk_St) (H : Heap) (locs : List Loc) (ls : Array Slot), PU r u → PM a t → va_P G xk_cls (lz_W am ad ac o t u.2 (sU u.1)) H → va_D A (lz_W am ad ac o t u.2 (sU u.1)) → va_S A s.heap H locs → lv_has ls 7 (lz_L b i am ad o) → W p l e room_1 s m #[Value.ref b] below meth c H locs (cells + 1) (slots + 6) Q (F0 m 1070 ls [])) : W p l e room_1 s m #[Value.ref b] below meth c H locs cells slots Q (F0 m 723 ls []) := by
  obtain ⟨hx, hb, hml, hts, hown, hK, hA, hX, hbl, hbA, hXt, hN⟩ := C
  refine lv_aload_n (pc := 723) hx hb dzL_law_723 rfl (lv_at hl 2 rfl) ?_
  refine lz_rd (j := 1) (v := k0) (pc := 724) hx hb hX hbl hbA hS (lv_at hl 1 rfl) (lv_at hl 0 rfl) (by omega) hL h0 dzL_law_724 dzL_law_725 dzL_law_727 (by decide) dzL_law_728 dzL_law_729 ?_
  refine lz_rd (j := 2) (v := k1) (pc := 730) hx hb hX hbl hbA hS (lv_at hl 1 rfl) (lv_at hl 0 rfl) (by omega) hL h1 dzL_law_730 dzL_law_731 dzL_law_733 (by decide) dzL_law_734 dzL_law_735 ?_
  refine lz_rd (j := 3) (v := k2) (pc := 736) hx hb hX hbl hbA hS (lv_at hl 1 rfl) (lv_at hl 0 rfl) (by omega) hL h2 dzL_law_736 dzL_law_737 dzL_law_739 (by decide) dzL_law_740 dzL_law_741 ?_
  refine lv_aload_n (pc := 742) hx hb dzL_law_742 rfl (lv_at hl 4 rfl) ?_
  refine xw_H (wc := ([(o, Sum.inl (ac 7, 1, Sum.inr (Sum.inl f)))] ++ xk_wU ad ac g)) (As := [.ref (ad 0), .int k0, .int k1, .int k2, .ref o]) (rest := []) (H0 := s.heap) (pc := 743) hx hb hml hts hown hK hA (xw_PR hP) (xw_DR hD) hS hXt hS hN hU sh_confirm ⟨rfl, rfl⟩ ⟨(Nat.le_of_ble_eq_true rfl), (Nat.le_of_ble_eq_true rfl)⟩ rfl hl.1 rfl (Nat.le_of_ble_eq_true rfl) hcs dzL_law_743 (fun r u H locs hu hk hP1 hS => ?_)
  obtain ⟨hP, hD⟩ := xw_putR (w1 := [(o, Sum.inl (ac 7, 1, Sum.inr (Sum.inl u.2)))] ++ xk_wU ad ac (sU u.1)) hP hD rfl hk hP1
  refine lv_istore (lv' := [(5, .int r), (4, .int (nI i)), (0, .ref b), (1, .ref (ad 0)), (2, .ref (am 0)), (3, .ref o)]) (pc := 746) hx hb dzL_law_746 hl (by decide) rfl (fun ls hl => ?_)
  refine lv_aload_n (pc := 748) hx hb dzL_law_748 rfl (lv_at hl 4 rfl) ?_
  refine lz_rd (j := 1) (v := k0) (pc := 749) hx hb hX hbl hbA hS (lv_at hl 2 rfl) (lv_at hl 1 rfl) (by omega) hL h0 dzL_law_749 dzL_law_750 dzL_law_752 (by decide) dzL_law_753 dzL_law_754 ?_
  refine lz_rd (j := 2) (v := k1) (pc := 755) hx hb hX hbl hbA hS (lv_at hl 2 rfl) (lv_at hl 1 rfl) (by omega) hL h1 dzL_law_755 dzL_law_756 dzL_law_758 (by decide) dzL_law_759 dzL_law_760 ?_
  refine lz_rd (j := 3) (v := k2) (pc := 761) hx hb hX hbl hbA hS (lv_at hl 2 rfl) (lv_at hl 1 rfl) (by omega) hL h2 dzL_law_761 dzL_law_762 dzL_law_764 (by decide) dzL_law_765 dzL_law_766 ?_
  refine xw_VI (wc := xk_wM am ac t) (As := [.int k0, .int k1, .int k2]) (rest := []) (H0 := s.heap) (pc := 767) hx hb hml hts hown hK hA (xw_PL hP) (xw_DL hD) hS hM vfzL_113 0 rfl rfl hrM hRM rfl hl.1 rfl (Nat.le_of_ble_eq_true rfl) ⟨hcs.1, hcs.2⟩ dzL_law_767 (fun a t H locs ht hk hP1 hS => ?_)
  obtain ⟨hP, hD⟩ := xw_putL (w1 := xk_wM am ac t) hP hD rfl hk hP1
  refine lv_istore (lv' := [(6, .int a), (5, .int r), (4, .int (nI i)), (0, .ref b), (1, .ref (ad 0)), (2, .ref (am 0)), (3, .ref o)]) (pc := 770) hx hb dzL_law_770 hl (by decide) rfl (fun ls hl => ?_)
  refine lv_aload_n (pc := 772) hx hb dzL_law_772 rfl (lv_at hl 5 rfl) ?_
  refine xw_VI (wc := xk_wM am ac t) (As := []) (rest := []) (H0 := s.heap) (pc := 773) hx hb hml hts hown hK hA (xw_PL hP) (xw_DL hD) hS (kzM_thrown l G ac am t) vfzL_72 0 rfl rfl ⟨rfl, rfl⟩ ⟨(Nat.le_of_ble_eq_true rfl), (Nat.le_of_ble_eq_true rfl)⟩ rfl hl.1 rfl (Nat.le_of_ble_eq_true rfl) ⟨hcs.1, hcs.2⟩ dzL_law_773 (fun r9 u9 H locs hr9 hk hP1 hS => ?_)
  obtain ⟨hP, hD⟩ := xw_putL (w1 := xk_wM am ac t) hP hD rfl hk hP1
  have hc9 := hC r u a t hu ht
  refine lv_iload (pc := 776) hx hb dzL_law_776 (lv_at hl 1 rfl) ?_
  refine lv_icmp_eq (pc := 778) (tgt := 783) hx hb dzL_law_778 (by decide) (fun _ => ?_) (fun hq9 => absurd ((show r9 = t 0 0 from hr9).trans hc9.1) hq9)
  refine lv_iload (pc := 783) hx hb dzL_law_783 (lv_at hl 1 rfl) ?_
  refine lv_if_ne (pc := 785) (tgt := 807) hx hb dzL_law_785 (by decide) (fun _ => ?_) (fun hz9 => ?_)
  · refine lv_goto (tgt := 1070) (pc := 807) hx hb dzL_law_807 (by decide) ?_
    exact kk r u a t H locs ls hu ht hP hD hS (lv_sub hl [2, 3, 4, 5, 6] rfl)
  · refine lv_aload_n (pc := 788) hx hb dzL_law_788 rfl (lv_at hl 6 rfl) ?_
    refine lv_iconst (v := 0) (pc := 789) hx hb dzL_law_789 (by decide) ?_
    refine va_lald (rest := []) (pc := 790) hx hb hK hP 28 7 (f := u.2) rfl rfl (i := 0) (by unfold vp_in; decide) dzL_law_790 ?_
    refine lv_iload (pc := 791) hx hb dzL_law_791 (lv_at hl 0 rfl) ?_
    refine lz_lbool (kl := u.2 0) (pc := 793) hx hb (hc9.2 hz9) dzL_law_793 dzL_law_796 dzL_law_797 dzL_law_800 ?_
    refine W.lcmp (pc := 801) hx hb dzL_law_801 ?_
    refine lv_if_eq (pc := 802) (tgt := 807) hx hb dzL_law_802 (by decide) (fun _ => ?_) (fun hq9 => absurd (lz_cmp _) hq9)
    refine lv_goto (tgt := 1070) (pc := 807) hx hb dzL_law_807 (by decide) ?_
    exact kk r u a t H locs ls hu ht hP hD hS (lv_sub hl [2, 3, 4, 5, 6] rfl)

set_option maxHeartbeats 4000000 in
set_option maxRecDepth 100000 in
theorem br_section {p : Program} {l : Launch} {e : Env} {s : State} {m : MethodId} {below : List Frame} {meth : Method} {c : Code} {Q : State → Prop} {b L : Nat} {xs : Nat → Int32} {G : va_G} {ac : Nat → ClassId} {A : Nat → Prop} (C : lz_C p s m c b L xs G ac A) {ad am : Nat → Nat} {o i : Nat} {t g : xk_St} {f : Nat → Int64} {H : Heap} {locs : List Loc} {ls : Array Slot} {cells slots : Nat} (hi : i + 3 < L) (hL : L ≤ 2048) {k0 : Int32} (h0 : xs (i + 1) = k0) {k1 : Int32} (h1 : xs (i + 2) = k1) {k2 : Int32} (h2 : xs (i + 3) = k2) (hcs : cells + 1 ≤ room_1.cells ∧ slots + 6 ≤ room_1.slots) {SU : Type} (sU : SU → xk_St) (PU : Int32 → SU × (Nat → Int64) → Prop) (hU : xt_H l yzL_section czL_section 6 [(0, 12, 15, 13), (0, 12, 19, 15)] xk_WS xt_rH G xk_cls (xk_tys ac) RzU xk_tx xk_ex xk_NN [.ref (ad 0), .int k0, .int k1, .int k2, .ref o] ((o, Sum.inl (ac 7, 1, Sum.inr (Sum.inl f))) :: xk_wU ad ac g) PU (fun u => (o, Sum.inl (ac 7, 1, Sum.inr (Sum.inl u.2))) :: xk_wU ad ac (sU u.1))) (rM : Room) (PM : Int32 → xk_St → Prop) (hM : xk_CI l yzM_section czM_section 5 .int xk_WS rM G xk_cls (xk_tys ac) [.ref (am 0), .int k0, .int k1, .int k2] (xk_wM am ac t) PM (fun t => xk_wM am ac t)) (hrM : rM.cells = 0 ∧ rM.slots = 0) (hRM : rM.frames + 1 ≤ room_1.frames ∧ 8 + (5 + 11) + rM.locals ≤ room_1.locals) (hC : ∀ r u a t, PU r u → PM a t → t 0 0 = r ∧ (r = 0 → u.2 0 = a.toInt64)) (hP : va_P G xk_cls (lz_W am ad ac o t f g) H) (hD : va_D A (lz_W am ad ac o t f g)) (hS : va_S A s.heap H locs) (hl : lv_has ls 7 (lz_L b i am ad o)) (kk : ∀ (r : Int32) (u : SU × (Nat → Int64)) (a : Int32) (t : xk_St) (H : Heap) (locs : List Loc) (ls : Array Slot), PU r u → PM a t → va_P G xk_cls (lz_W am ad ac o t u.2 (sU u.1)) H → va_D A (lz_W am ad ac o t u.2 (sU u.1)) → va_S A s.heap H locs → lv_has ls 7 (lz_L b i am ad o) → W p l e room_1 s m #[Value.ref b] below meth c H locs (cells + 1) (slots + 6) Q (F0 m 1070 ls [])) : W p l e room_1 s m #[Value.ref b] below meth c H locs cells slots Q (F0 m 810 ls []) := by
  obtain ⟨hx, hb, hml, hts, hown, hK, hA, hX, hbl, hbA, hXt, hN⟩ := C
  refine lv_aload_n (pc := 810) hx hb dzL_law_810 rfl (lv_at hl 2 rfl) ?_
  refine lz_rd (j := 1) (v := k0) (pc := 811) hx hb hX hbl hbA hS (lv_at hl 1 rfl) (lv_at hl 0 rfl) (by omega) hL h0 dzL_law_811 dzL_law_812 dzL_law_814 (by decide) dzL_law_815 dzL_law_816 ?_
  refine lz_rd (j := 2) (v := k1) (pc := 817) hx hb hX hbl hbA hS (lv_at hl 1 rfl) (lv_at hl 0 rfl) (by omega) hL h1 dzL_law_817 dzL_law_818 dzL_law_820 (by decide) dzL_law_821 dzL_law_822 ?_
  refine lz_rd (j := 3) (v := k2) (pc := 823) hx hb hX hbl hbA hS (lv_at hl 1 rfl) (lv_at hl 0 rfl) (by omega) hL h2 dzL_law_823 dzL_law_824 dzL_law_826 (by decide) dzL_law_827 dzL_law_828 ?_
  refine lv_aload_n (pc := 829) hx hb dzL_law_829 rfl (lv_at hl 4 rfl) ?_
  refine xw_H (wc := ([(o, Sum.inl (ac 7, 1, Sum.inr (Sum.inl f)))] ++ xk_wU ad ac g)) (As := [.ref (ad 0), .int k0, .int k1, .int k2, .ref o]) (rest := []) (H0 := s.heap) (pc := 830) hx hb hml hts hown hK hA (xw_PR hP) (xw_DR hD) hS hXt hS hN hU sh_section ⟨rfl, rfl⟩ ⟨(Nat.le_of_ble_eq_true rfl), (Nat.le_of_ble_eq_true rfl)⟩ rfl hl.1 rfl (Nat.le_of_ble_eq_true rfl) hcs dzL_law_830 (fun r u H locs hu hk hP1 hS => ?_)
  obtain ⟨hP, hD⟩ := xw_putR (w1 := [(o, Sum.inl (ac 7, 1, Sum.inr (Sum.inl u.2)))] ++ xk_wU ad ac (sU u.1)) hP hD rfl hk hP1
  refine lv_istore (lv' := [(5, .int r), (4, .int (nI i)), (0, .ref b), (1, .ref (ad 0)), (2, .ref (am 0)), (3, .ref o)]) (pc := 833) hx hb dzL_law_833 hl (by decide) rfl (fun ls hl => ?_)
  refine lv_aload_n (pc := 835) hx hb dzL_law_835 rfl (lv_at hl 4 rfl) ?_
  refine lz_rd (j := 1) (v := k0) (pc := 836) hx hb hX hbl hbA hS (lv_at hl 2 rfl) (lv_at hl 1 rfl) (by omega) hL h0 dzL_law_836 dzL_law_837 dzL_law_839 (by decide) dzL_law_840 dzL_law_841 ?_
  refine lz_rd (j := 2) (v := k1) (pc := 842) hx hb hX hbl hbA hS (lv_at hl 2 rfl) (lv_at hl 1 rfl) (by omega) hL h1 dzL_law_842 dzL_law_843 dzL_law_845 (by decide) dzL_law_846 dzL_law_847 ?_
  refine lz_rd (j := 3) (v := k2) (pc := 848) hx hb hX hbl hbA hS (lv_at hl 2 rfl) (lv_at hl 1 rfl) (by omega) hL h2 dzL_law_848 dzL_law_849 dzL_law_851 (by decide) dzL_law_852 dzL_law_853 ?_
  refine xw_VI (wc := xk_wM am ac t) (As := [.int k0, .int k1, .int k2]) (rest := []) (H0 := s.heap) (pc := 854) hx hb hml hts hown hK hA (xw_PL hP) (xw_DL hD) hS hM vfzL_116 0 rfl rfl hrM hRM rfl hl.1 rfl (Nat.le_of_ble_eq_true rfl) ⟨hcs.1, hcs.2⟩ dzL_law_854 (fun a t H locs ht hk hP1 hS => ?_)
  obtain ⟨hP, hD⟩ := xw_putL (w1 := xk_wM am ac t) hP hD rfl hk hP1
  refine lv_istore (lv' := [(6, .int a), (5, .int r), (4, .int (nI i)), (0, .ref b), (1, .ref (ad 0)), (2, .ref (am 0)), (3, .ref o)]) (pc := 857) hx hb dzL_law_857 hl (by decide) rfl (fun ls hl => ?_)
  refine lv_aload_n (pc := 859) hx hb dzL_law_859 rfl (lv_at hl 5 rfl) ?_
  refine xw_VI (wc := xk_wM am ac t) (As := []) (rest := []) (H0 := s.heap) (pc := 860) hx hb hml hts hown hK hA (xw_PL hP) (xw_DL hD) hS (kzM_thrown l G ac am t) vfzL_72 0 rfl rfl ⟨rfl, rfl⟩ ⟨(Nat.le_of_ble_eq_true rfl), (Nat.le_of_ble_eq_true rfl)⟩ rfl hl.1 rfl (Nat.le_of_ble_eq_true rfl) ⟨hcs.1, hcs.2⟩ dzL_law_860 (fun r9 u9 H locs hr9 hk hP1 hS => ?_)
  obtain ⟨hP, hD⟩ := xw_putL (w1 := xk_wM am ac t) hP hD rfl hk hP1
  have hc9 := hC r u a t hu ht
  refine lv_iload (pc := 863) hx hb dzL_law_863 (lv_at hl 1 rfl) ?_
  refine lv_icmp_eq (pc := 865) (tgt := 870) hx hb dzL_law_865 (by decide) (fun _ => ?_) (fun hq9 => absurd ((show r9 = t 0 0 from hr9).trans hc9.1) hq9)
  refine lv_iload (pc := 870) hx hb dzL_law_870 (lv_at hl 1 rfl) ?_
  refine lv_if_ne (pc := 872) (tgt := 887) hx hb dzL_law_872 (by decide) (fun _ => ?_) (fun hz9 => ?_)
  · refine lv_goto (tgt := 1070) (pc := 887) hx hb dzL_law_887 (by decide) ?_
    exact kk r u a t H locs ls hu ht hP hD hS (lv_sub hl [2, 3, 4, 5, 6] rfl)
  · refine lv_aload_n (pc := 875) hx hb dzL_law_875 rfl (lv_at hl 6 rfl) ?_
    refine lv_iconst (v := 0) (pc := 876) hx hb dzL_law_876 (by decide) ?_
    refine va_lald (rest := []) (pc := 877) hx hb hK hP 28 7 (f := u.2) rfl rfl (i := 0) (by unfold vp_in; decide) dzL_law_877 ?_
    refine lv_iload (pc := 878) hx hb dzL_law_878 (lv_at hl 0 rfl) ?_
    refine lv_i2l (v := u.2 0) (pc := 880) hx hb dzL_law_880 (hc9.2 hz9).symm ?_
    refine W.lcmp (pc := 881) hx hb dzL_law_881 ?_
    refine lv_if_eq (pc := 882) (tgt := 887) hx hb dzL_law_882 (by decide) (fun _ => ?_) (fun hq9 => absurd (lz_cmp _) hq9)
    refine lv_goto (tgt := 1070) (pc := 887) hx hb dzL_law_887 (by decide) ?_
    exact kk r u a t H locs ls hu ht hP hD hS (lv_sub hl [2, 3, 4, 5, 6] rfl)

set_option maxHeartbeats 4000000 in
set_option maxRecDepth 100000 in
theorem br_earliest {p : Program} {l : Launch} {e : Env} {s : State} {m : MethodId} {below : List Frame} {meth : Method} {c : Code} {Q : State → Prop} {b L : Nat} {xs : Nat → Int32} {G : va_G} {ac : Nat → ClassId} {A : Nat → Prop} (C : lz_C p s m c b L xs G ac A) {ad am : Nat → Nat} {o i : Nat} {t g : xk_St} {f : Nat → Int64} {H : Heap} {locs : List Loc} {ls : Array Slot} {cells slots : Nat} (hi : i + 3 < L) (hL : L ≤ 2048) {k0 : Int32} (h0 : xs (i + 1) = k0) (hcs : cells + 1 ≤ room_1.cells ∧ slots + 6 ≤ room_1.slots) {SU : Type} (sU : SU → xk_St) (PU : Int32 → SU × (Nat → Int64) → Prop) (hU : xt_H l yzL_earliest czL_earliest 4 [(0, 9, 12, 13)] xk_WS xt_rH G xk_cls (xk_tys ac) RzU xk_tx xk_ex xk_NN [.ref (ad 0), .int k0, .ref o] ((o, Sum.inl (ac 7, 1, Sum.inr (Sum.inl f))) :: xk_wU ad ac g) PU (fun u => (o, Sum.inl (ac 7, 1, Sum.inr (Sum.inl u.2))) :: xk_wU ad ac (sU u.1))) (rM : Room) (PM : Int32 → xk_St → Prop) (hM : xk_CI l yzM_earliest czM_earliest 4 .int xk_WS rM G xk_cls (xk_tys ac) [.ref (am 0), .int k0] (xk_wM am ac t) PM (fun t => xk_wM am ac t)) (hrM : rM.cells = 0 ∧ rM.slots = 0) (hRM : rM.frames + 1 ≤ room_1.frames ∧ 8 + (4 + 11) + rM.locals ≤ room_1.locals) (hC : ∀ r u a t, PU r u → PM a t → t 0 0 = r ∧ (r = 0 → u.2 0 = a.toInt64)) (hP : va_P G xk_cls (lz_W am ad ac o t f g) H) (hD : va_D A (lz_W am ad ac o t f g)) (hS : va_S A s.heap H locs) (hl : lv_has ls 7 (lz_L b i am ad o)) (kk : ∀ (r : Int32) (u : SU × (Nat → Int64)) (a : Int32) (t : xk_St) (H : Heap) (locs : List Loc) (ls : Array Slot), PU r u → PM a t → va_P G xk_cls (lz_W am ad ac o t u.2 (sU u.1)) H → va_D A (lz_W am ad ac o t u.2 (sU u.1)) → va_S A s.heap H locs → lv_has ls 7 (lz_L b i am ad o) → W p l e room_1 s m #[Value.ref b] below meth c H locs (cells + 1) (slots + 6) Q (F0 m 1070 ls [])) : W p l e room_1 s m #[Value.ref b] below meth c H locs cells slots Q (F0 m 890 ls []) := by
  obtain ⟨hx, hb, hml, hts, hown, hK, hA, hX, hbl, hbA, hXt, hN⟩ := C
  refine lv_aload_n (pc := 890) hx hb dzL_law_890 rfl (lv_at hl 2 rfl) ?_
  refine lz_rd (j := 1) (v := k0) (pc := 891) hx hb hX hbl hbA hS (lv_at hl 1 rfl) (lv_at hl 0 rfl) (by omega) hL h0 dzL_law_891 dzL_law_892 dzL_law_894 (by decide) dzL_law_895 dzL_law_896 ?_
  refine lv_aload_n (pc := 897) hx hb dzL_law_897 rfl (lv_at hl 4 rfl) ?_
  refine xw_H (wc := ([(o, Sum.inl (ac 7, 1, Sum.inr (Sum.inl f)))] ++ xk_wU ad ac g)) (As := [.ref (ad 0), .int k0, .ref o]) (rest := []) (H0 := s.heap) (pc := 898) hx hb hml hts hown hK hA (xw_PR hP) (xw_DR hD) hS hXt hS hN hU sh_earliest ⟨rfl, rfl⟩ ⟨(Nat.le_of_ble_eq_true rfl), (Nat.le_of_ble_eq_true rfl)⟩ rfl hl.1 rfl (Nat.le_of_ble_eq_true rfl) hcs dzL_law_898 (fun r u H locs hu hk hP1 hS => ?_)
  obtain ⟨hP, hD⟩ := xw_putR (w1 := [(o, Sum.inl (ac 7, 1, Sum.inr (Sum.inl u.2)))] ++ xk_wU ad ac (sU u.1)) hP hD rfl hk hP1
  refine lv_istore (lv' := [(5, .int r), (4, .int (nI i)), (0, .ref b), (1, .ref (ad 0)), (2, .ref (am 0)), (3, .ref o)]) (pc := 901) hx hb dzL_law_901 hl (by decide) rfl (fun ls hl => ?_)
  refine lv_aload_n (pc := 903) hx hb dzL_law_903 rfl (lv_at hl 4 rfl) ?_
  refine lz_rd (j := 1) (v := k0) (pc := 904) hx hb hX hbl hbA hS (lv_at hl 2 rfl) (lv_at hl 1 rfl) (by omega) hL h0 dzL_law_904 dzL_law_905 dzL_law_907 (by decide) dzL_law_908 dzL_law_909 ?_
  refine xw_VI (wc := xk_wM am ac t) (As := [.int k0]) (rest := []) (H0 := s.heap) (pc := 910) hx hb hml hts hown hK hA (xw_PL hP) (xw_DL hD) hS hM vfzL_119 0 rfl rfl hrM hRM rfl hl.1 rfl (Nat.le_of_ble_eq_true rfl) ⟨hcs.1, hcs.2⟩ dzL_law_910 (fun a t H locs ht hk hP1 hS => ?_)
  obtain ⟨hP, hD⟩ := xw_putL (w1 := xk_wM am ac t) hP hD rfl hk hP1
  refine lv_istore (lv' := [(6, .int a), (5, .int r), (4, .int (nI i)), (0, .ref b), (1, .ref (ad 0)), (2, .ref (am 0)), (3, .ref o)]) (pc := 913) hx hb dzL_law_913 hl (by decide) rfl (fun ls hl => ?_)
  refine lv_aload_n (pc := 915) hx hb dzL_law_915 rfl (lv_at hl 5 rfl) ?_
  refine xw_VI (wc := xk_wM am ac t) (As := []) (rest := []) (H0 := s.heap) (pc := 916) hx hb hml hts hown hK hA (xw_PL hP) (xw_DL hD) hS (kzM_thrown l G ac am t) vfzL_72 0 rfl rfl ⟨rfl, rfl⟩ ⟨(Nat.le_of_ble_eq_true rfl), (Nat.le_of_ble_eq_true rfl)⟩ rfl hl.1 rfl (Nat.le_of_ble_eq_true rfl) ⟨hcs.1, hcs.2⟩ dzL_law_916 (fun r9 u9 H locs hr9 hk hP1 hS => ?_)
  obtain ⟨hP, hD⟩ := xw_putL (w1 := xk_wM am ac t) hP hD rfl hk hP1
  have hc9 := hC r u a t hu ht
  refine lv_iload (pc := 919) hx hb dzL_law_919 (lv_at hl 1 rfl) ?_
  refine lv_icmp_eq (pc := 921) (tgt := 926) hx hb dzL_law_921 (by decide) (fun _ => ?_) (fun hq9 => absurd ((show r9 = t 0 0 from hr9).trans hc9.1) hq9)
  refine lv_iload (pc := 926) hx hb dzL_law_926 (lv_at hl 1 rfl) ?_
  refine lv_if_ne (pc := 928) (tgt := 943) hx hb dzL_law_928 (by decide) (fun _ => ?_) (fun hz9 => ?_)
  · refine lv_goto (tgt := 1070) (pc := 943) hx hb dzL_law_943 (by decide) ?_
    exact kk r u a t H locs ls hu ht hP hD hS (lv_sub hl [2, 3, 4, 5, 6] rfl)
  · refine lv_aload_n (pc := 931) hx hb dzL_law_931 rfl (lv_at hl 6 rfl) ?_
    refine lv_iconst (v := 0) (pc := 932) hx hb dzL_law_932 (by decide) ?_
    refine va_lald (rest := []) (pc := 933) hx hb hK hP 28 7 (f := u.2) rfl rfl (i := 0) (by unfold vp_in; decide) dzL_law_933 ?_
    refine lv_iload (pc := 934) hx hb dzL_law_934 (lv_at hl 0 rfl) ?_
    refine lv_i2l (v := u.2 0) (pc := 936) hx hb dzL_law_936 (hc9.2 hz9).symm ?_
    refine W.lcmp (pc := 937) hx hb dzL_law_937 ?_
    refine lv_if_eq (pc := 938) (tgt := 943) hx hb dzL_law_938 (by decide) (fun _ => ?_) (fun hq9 => absurd (lz_cmp _) hq9)
    refine lv_goto (tgt := 1070) (pc := 943) hx hb dzL_law_943 (by decide) ?_
    exact kk r u a t H locs ls hu ht hP hD hS (lv_sub hl [2, 3, 4, 5, 6] rfl)

set_option maxHeartbeats 4000000 in
set_option maxRecDepth 100000 in
theorem br_about {p : Program} {l : Launch} {e : Env} {s : State} {m : MethodId} {below : List Frame} {meth : Method} {c : Code} {Q : State → Prop} {b L : Nat} {xs : Nat → Int32} {G : va_G} {ac : Nat → ClassId} {A : Nat → Prop} (C : lz_C p s m c b L xs G ac A) {ad am : Nat → Nat} {o i : Nat} {t g : xk_St} {f : Nat → Int64} {H : Heap} {locs : List Loc} {ls : Array Slot} {cells slots : Nat} (hi : i + 3 < L) (hL : L ≤ 2048) {k0 : Int32} (h0 : xs (i + 1) = k0) (hcs : cells + 1 ≤ room_1.cells ∧ slots + 6 ≤ room_1.slots) {SU : Type} (sU : SU → xk_St) (PU : Int32 → SU × (Nat → Int64) → Prop) (hU : xt_H l yzL_about czL_about 4 [(0, 9, 12, 15)] xk_WS xt_rH G xk_cls (xk_tys ac) RzU xk_tx xk_ex xk_NN [.ref (ad 0), .int k0, .ref o] ((o, Sum.inl (ac 7, 1, Sum.inr (Sum.inl f))) :: xk_wU ad ac g) PU (fun u => (o, Sum.inl (ac 7, 1, Sum.inr (Sum.inl u.2))) :: xk_wU ad ac (sU u.1))) (rM : Room) (PM : Int32 → xk_St → Prop) (hM : xk_CI l yzM_about czM_about 2 .int xk_WS rM G xk_cls (xk_tys ac) [.ref (am 0), .int k0] (xk_wM am ac t) PM (fun t => xk_wM am ac t)) (hrM : rM.cells = 0 ∧ rM.slots = 0) (hRM : rM.frames + 1 ≤ room_1.frames ∧ 8 + (2 + 11) + rM.locals ≤ room_1.locals) (hC : ∀ r u a t, PU r u → PM a t → t 0 0 = r ∧ (r = 0 → u.2 0 = a.toInt64)) (hP : va_P G xk_cls (lz_W am ad ac o t f g) H) (hD : va_D A (lz_W am ad ac o t f g)) (hS : va_S A s.heap H locs) (hl : lv_has ls 7 (lz_L b i am ad o)) (kk : ∀ (r : Int32) (u : SU × (Nat → Int64)) (a : Int32) (t : xk_St) (H : Heap) (locs : List Loc) (ls : Array Slot), PU r u → PM a t → va_P G xk_cls (lz_W am ad ac o t u.2 (sU u.1)) H → va_D A (lz_W am ad ac o t u.2 (sU u.1)) → va_S A s.heap H locs → lv_has ls 7 (lz_L b i am ad o) → W p l e room_1 s m #[Value.ref b] below meth c H locs (cells + 1) (slots + 6) Q (F0 m 1070 ls [])) : W p l e room_1 s m #[Value.ref b] below meth c H locs cells slots Q (F0 m 946 ls []) := by
  obtain ⟨hx, hb, hml, hts, hown, hK, hA, hX, hbl, hbA, hXt, hN⟩ := C
  refine lv_aload_n (pc := 946) hx hb dzL_law_946 rfl (lv_at hl 2 rfl) ?_
  refine lz_rd (j := 1) (v := k0) (pc := 947) hx hb hX hbl hbA hS (lv_at hl 1 rfl) (lv_at hl 0 rfl) (by omega) hL h0 dzL_law_947 dzL_law_948 dzL_law_950 (by decide) dzL_law_951 dzL_law_952 ?_
  refine lv_aload_n (pc := 953) hx hb dzL_law_953 rfl (lv_at hl 4 rfl) ?_
  refine xw_H (wc := ([(o, Sum.inl (ac 7, 1, Sum.inr (Sum.inl f)))] ++ xk_wU ad ac g)) (As := [.ref (ad 0), .int k0, .ref o]) (rest := []) (H0 := s.heap) (pc := 954) hx hb hml hts hown hK hA (xw_PR hP) (xw_DR hD) hS hXt hS hN hU sh_about ⟨rfl, rfl⟩ ⟨(Nat.le_of_ble_eq_true rfl), (Nat.le_of_ble_eq_true rfl)⟩ rfl hl.1 rfl (Nat.le_of_ble_eq_true rfl) hcs dzL_law_954 (fun r u H locs hu hk hP1 hS => ?_)
  obtain ⟨hP, hD⟩ := xw_putR (w1 := [(o, Sum.inl (ac 7, 1, Sum.inr (Sum.inl u.2)))] ++ xk_wU ad ac (sU u.1)) hP hD rfl hk hP1
  refine lv_istore (lv' := [(5, .int r), (4, .int (nI i)), (0, .ref b), (1, .ref (ad 0)), (2, .ref (am 0)), (3, .ref o)]) (pc := 957) hx hb dzL_law_957 hl (by decide) rfl (fun ls hl => ?_)
  refine lv_aload_n (pc := 959) hx hb dzL_law_959 rfl (lv_at hl 4 rfl) ?_
  refine lz_rd (j := 1) (v := k0) (pc := 960) hx hb hX hbl hbA hS (lv_at hl 2 rfl) (lv_at hl 1 rfl) (by omega) hL h0 dzL_law_960 dzL_law_961 dzL_law_963 (by decide) dzL_law_964 dzL_law_965 ?_
  refine xw_VI (wc := xk_wM am ac t) (As := [.int k0]) (rest := []) (H0 := s.heap) (pc := 966) hx hb hml hts hown hK hA (xw_PL hP) (xw_DL hD) hS hM vfzL_122 0 rfl rfl hrM hRM rfl hl.1 rfl (Nat.le_of_ble_eq_true rfl) ⟨hcs.1, hcs.2⟩ dzL_law_966 (fun a t H locs ht hk hP1 hS => ?_)
  obtain ⟨hP, hD⟩ := xw_putL (w1 := xk_wM am ac t) hP hD rfl hk hP1
  refine lv_istore (lv' := [(6, .int a), (5, .int r), (4, .int (nI i)), (0, .ref b), (1, .ref (ad 0)), (2, .ref (am 0)), (3, .ref o)]) (pc := 969) hx hb dzL_law_969 hl (by decide) rfl (fun ls hl => ?_)
  refine lv_aload_n (pc := 971) hx hb dzL_law_971 rfl (lv_at hl 5 rfl) ?_
  refine xw_VI (wc := xk_wM am ac t) (As := []) (rest := []) (H0 := s.heap) (pc := 972) hx hb hml hts hown hK hA (xw_PL hP) (xw_DL hD) hS (kzM_thrown l G ac am t) vfzL_72 0 rfl rfl ⟨rfl, rfl⟩ ⟨(Nat.le_of_ble_eq_true rfl), (Nat.le_of_ble_eq_true rfl)⟩ rfl hl.1 rfl (Nat.le_of_ble_eq_true rfl) ⟨hcs.1, hcs.2⟩ dzL_law_972 (fun r9 u9 H locs hr9 hk hP1 hS => ?_)
  obtain ⟨hP, hD⟩ := xw_putL (w1 := xk_wM am ac t) hP hD rfl hk hP1
  have hc9 := hC r u a t hu ht
  refine lv_iload (pc := 975) hx hb dzL_law_975 (lv_at hl 1 rfl) ?_
  refine lv_icmp_eq (pc := 977) (tgt := 982) hx hb dzL_law_977 (by decide) (fun _ => ?_) (fun hq9 => absurd ((show r9 = t 0 0 from hr9).trans hc9.1) hq9)
  refine lv_iload (pc := 982) hx hb dzL_law_982 (lv_at hl 1 rfl) ?_
  refine lv_if_ne (pc := 984) (tgt := 999) hx hb dzL_law_984 (by decide) (fun _ => ?_) (fun hz9 => ?_)
  · refine lv_goto (tgt := 1070) (pc := 999) hx hb dzL_law_999 (by decide) ?_
    exact kk r u a t H locs ls hu ht hP hD hS (lv_sub hl [2, 3, 4, 5, 6] rfl)
  · refine lv_aload_n (pc := 987) hx hb dzL_law_987 rfl (lv_at hl 6 rfl) ?_
    refine lv_iconst (v := 0) (pc := 988) hx hb dzL_law_988 (by decide) ?_
    refine va_lald (rest := []) (pc := 989) hx hb hK hP 28 7 (f := u.2) rfl rfl (i := 0) (by unfold vp_in; decide) dzL_law_989 ?_
    refine lv_iload (pc := 990) hx hb dzL_law_990 (lv_at hl 0 rfl) ?_
    refine lv_i2l (v := u.2 0) (pc := 992) hx hb dzL_law_992 (hc9.2 hz9).symm ?_
    refine W.lcmp (pc := 993) hx hb dzL_law_993 ?_
    refine lv_if_eq (pc := 994) (tgt := 999) hx hb dzL_law_994 (by decide) (fun _ => ?_) (fun hq9 => absurd (lz_cmp _) hq9)
    refine lv_goto (tgt := 1070) (pc := 999) hx hb dzL_law_999 (by decide) ?_
    exact kk r u a t H locs ls hu ht hP hD hS (lv_sub hl [2, 3, 4, 5, 6] rfl)

set_option maxHeartbeats 4000000 in
set_option maxRecDepth 100000 in
theorem br_event {p : Program} {l : Launch} {e : Env} {s : State} {m : MethodId} {below : List Frame} {meth : Method} {c : Code} {Q : State → Prop} {b L : Nat} {xs : Nat → Int32} {G : va_G} {ac : Nat → ClassId} {A : Nat → Prop} (C : lz_C p s m c b L xs G ac A) {ad am : Nat → Nat} {o i : Nat} {t g : xk_St} {f : Nat → Int64} {H : Heap} {locs : List Loc} {ls : Array Slot} {cells slots : Nat} (hi : i + 3 < L) (hL : L ≤ 2048) {k0 : Int32} (h0 : xs (i + 1) = k0) {k1 : Int32} (h1 : xs (i + 2) = k1) (hcs : cells + 1 ≤ room_1.cells ∧ slots + 6 ≤ room_1.slots) {SU : Type} (sU : SU → xk_St) (PU : Int32 → SU × (Nat → Int64) → Prop) (hU : xt_H l yzL_event czL_event 5 [(0, 10, 13, 13), (0, 10, 17, 15)] xk_WS xt_rH G xk_cls (xk_tys ac) RzU xk_tx xk_ex xk_NN [.ref (ad 0), .int k0, .int k1, .ref o] ((o, Sum.inl (ac 7, 1, Sum.inr (Sum.inl f))) :: xk_wU ad ac g) PU (fun u => (o, Sum.inl (ac 7, 1, Sum.inr (Sum.inl u.2))) :: xk_wU ad ac (sU u.1))) (rM : Room) (PM : Int32 → xk_St → Prop) (hM : xk_CI l yzM_event czM_event 3 .int xk_WS rM G xk_cls (xk_tys ac) [.ref (am 0), .int k0, .int k1] (xk_wM am ac t) PM (fun t => xk_wM am ac t)) (hrM : rM.cells = 0 ∧ rM.slots = 0) (hRM : rM.frames + 1 ≤ room_1.frames ∧ 8 + (3 + 11) + rM.locals ≤ room_1.locals) (hC : ∀ r u a t, PU r u → PM a t → t 0 0 = r ∧ (r = 0 → u.2 0 = a.toInt64)) (hP : va_P G xk_cls (lz_W am ad ac o t f g) H) (hD : va_D A (lz_W am ad ac o t f g)) (hS : va_S A s.heap H locs) (hl : lv_has ls 7 (lz_L b i am ad o)) (kk : ∀ (r : Int32) (u : SU × (Nat → Int64)) (a : Int32) (t : xk_St) (H : Heap) (locs : List Loc) (ls : Array Slot), PU r u → PM a t → va_P G xk_cls (lz_W am ad ac o t u.2 (sU u.1)) H → va_D A (lz_W am ad ac o t u.2 (sU u.1)) → va_S A s.heap H locs → lv_has ls 7 (lz_L b i am ad o) → W p l e room_1 s m #[Value.ref b] below meth c H locs (cells + 1) (slots + 6) Q (F0 m 1070 ls [])) : W p l e room_1 s m #[Value.ref b] below meth c H locs cells slots Q (F0 m 1002 ls []) := by
  obtain ⟨hx, hb, hml, hts, hown, hK, hA, hX, hbl, hbA, hXt, hN⟩ := C
  refine lv_aload_n (pc := 1002) hx hb dzL_law_1002 rfl (lv_at hl 2 rfl) ?_
  refine lz_rd (j := 1) (v := k0) (pc := 1003) hx hb hX hbl hbA hS (lv_at hl 1 rfl) (lv_at hl 0 rfl) (by omega) hL h0 dzL_law_1003 dzL_law_1004 dzL_law_1006 (by decide) dzL_law_1007 dzL_law_1008 ?_
  refine lz_rd (j := 2) (v := k1) (pc := 1009) hx hb hX hbl hbA hS (lv_at hl 1 rfl) (lv_at hl 0 rfl) (by omega) hL h1 dzL_law_1009 dzL_law_1010 dzL_law_1012 (by decide) dzL_law_1013 dzL_law_1014 ?_
  refine lv_aload_n (pc := 1015) hx hb dzL_law_1015 rfl (lv_at hl 4 rfl) ?_
  refine xw_H (wc := ([(o, Sum.inl (ac 7, 1, Sum.inr (Sum.inl f)))] ++ xk_wU ad ac g)) (As := [.ref (ad 0), .int k0, .int k1, .ref o]) (rest := []) (H0 := s.heap) (pc := 1016) hx hb hml hts hown hK hA (xw_PR hP) (xw_DR hD) hS hXt hS hN hU sh_event ⟨rfl, rfl⟩ ⟨(Nat.le_of_ble_eq_true rfl), (Nat.le_of_ble_eq_true rfl)⟩ rfl hl.1 rfl (Nat.le_of_ble_eq_true rfl) hcs dzL_law_1016 (fun r u H locs hu hk hP1 hS => ?_)
  obtain ⟨hP, hD⟩ := xw_putR (w1 := [(o, Sum.inl (ac 7, 1, Sum.inr (Sum.inl u.2)))] ++ xk_wU ad ac (sU u.1)) hP hD rfl hk hP1
  refine lv_istore (lv' := [(5, .int r), (4, .int (nI i)), (0, .ref b), (1, .ref (ad 0)), (2, .ref (am 0)), (3, .ref o)]) (pc := 1019) hx hb dzL_law_1019 hl (by decide) rfl (fun ls hl => ?_)
  refine lv_aload_n (pc := 1021) hx hb dzL_law_1021 rfl (lv_at hl 4 rfl) ?_
  refine lz_rd (j := 1) (v := k0) (pc := 1022) hx hb hX hbl hbA hS (lv_at hl 2 rfl) (lv_at hl 1 rfl) (by omega) hL h0 dzL_law_1022 dzL_law_1023 dzL_law_1025 (by decide) dzL_law_1026 dzL_law_1027 ?_
  refine lz_rd (j := 2) (v := k1) (pc := 1028) hx hb hX hbl hbA hS (lv_at hl 2 rfl) (lv_at hl 1 rfl) (by omega) hL h1 dzL_law_1028 dzL_law_1029 dzL_law_1031 (by decide) dzL_law_1032 dzL_law_1033 ?_
  refine xw_VI (wc := xk_wM am ac t) (As := [.int k0, .int k1]) (rest := []) (H0 := s.heap) (pc := 1034) hx hb hml hts hown hK hA (xw_PL hP) (xw_DL hD) hS hM vfzL_125 0 rfl rfl hrM hRM rfl hl.1 rfl (Nat.le_of_ble_eq_true rfl) ⟨hcs.1, hcs.2⟩ dzL_law_1034 (fun a t H locs ht hk hP1 hS => ?_)
  obtain ⟨hP, hD⟩ := xw_putL (w1 := xk_wM am ac t) hP hD rfl hk hP1
  refine lv_istore (lv' := [(6, .int a), (5, .int r), (4, .int (nI i)), (0, .ref b), (1, .ref (ad 0)), (2, .ref (am 0)), (3, .ref o)]) (pc := 1037) hx hb dzL_law_1037 hl (by decide) rfl (fun ls hl => ?_)
  refine lv_aload_n (pc := 1039) hx hb dzL_law_1039 rfl (lv_at hl 5 rfl) ?_
  refine xw_VI (wc := xk_wM am ac t) (As := []) (rest := []) (H0 := s.heap) (pc := 1040) hx hb hml hts hown hK hA (xw_PL hP) (xw_DL hD) hS (kzM_thrown l G ac am t) vfzL_72 0 rfl rfl ⟨rfl, rfl⟩ ⟨(Nat.le_of_ble_eq_true rfl), (Nat.le_of_ble_eq_true rfl)⟩ rfl hl.1 rfl (Nat.le_of_ble_eq_true rfl) ⟨hcs.1, hcs.2⟩ dzL_law_1040 (fun r9 u9 H locs hr9 hk hP1 hS => ?_)
  obtain ⟨hP, hD⟩ := xw_putL (w1 := xk_wM am ac t) hP hD rfl hk hP1
  have hc9 := hC r u a t hu ht
  refine lv_iload (pc := 1043) hx hb dzL_law_1043 (lv_at hl 1 rfl) ?_
  refine lv_icmp_eq (pc := 1045) (tgt := 1050) hx hb dzL_law_1045 (by decide) (fun _ => ?_) (fun hq9 => absurd ((show r9 = t 0 0 from hr9).trans hc9.1) hq9)
  refine lv_iload (pc := 1050) hx hb dzL_law_1050 (lv_at hl 1 rfl) ?_
  refine lv_if_ne (pc := 1052) (tgt := 1067) hx hb dzL_law_1052 (by decide) (fun _ => ?_) (fun hz9 => ?_)
  · refine lv_goto (tgt := 1070) (pc := 1067) hx hb dzL_law_1067 (by decide) ?_
    exact kk r u a t H locs ls hu ht hP hD hS (lv_sub hl [2, 3, 4, 5, 6] rfl)
  · refine lv_aload_n (pc := 1055) hx hb dzL_law_1055 rfl (lv_at hl 6 rfl) ?_
    refine lv_iconst (v := 0) (pc := 1056) hx hb dzL_law_1056 (by decide) ?_
    refine va_lald (rest := []) (pc := 1057) hx hb hK hP 28 7 (f := u.2) rfl rfl (i := 0) (by unfold vp_in; decide) dzL_law_1057 ?_
    refine lv_iload (pc := 1058) hx hb dzL_law_1058 (lv_at hl 0 rfl) ?_
    refine lv_i2l (v := u.2 0) (pc := 1060) hx hb dzL_law_1060 (hc9.2 hz9).symm ?_
    refine W.lcmp (pc := 1061) hx hb dzL_law_1061 ?_
    refine lv_if_eq (pc := 1062) (tgt := 1067) hx hb dzL_law_1062 (by decide) (fun _ => ?_) (fun hq9 => absurd (lz_cmp _) hq9)
    refine lv_goto (tgt := 1070) (pc := 1067) hx hb dzL_law_1067 (by decide) ?_
    exact kk r u a t H locs ls hu ht hP hD hS (lv_sub hl [2, 3, 4, 5, 6] rfl)
