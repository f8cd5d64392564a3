/-! rows of a table that catch; methods with such a table, their contracts and calls; worlds that are put together of two -/
section XTN
/-- an E isn't a C -/
def xt_N (q : String × String) (U : State) : Prop := ∃ c t : ClassId, U.vm.findClass q.1 = some c ∧ U.vm.findClass q.2 = some t ∧ U.vm.assignable c t = false
theorem xt_N.go {q : String × String} {u U : State} (hvm : u.vm.Alike U.vm) (h : xt_N q u) : xt_N q U := by
  obtain ⟨c, t, h1, h2, h3⟩ := h
  exact ⟨c, t, by rw [hvm.findClass]; exact h1, by rw [hvm.findClass]; exact h2, by rw [hvm.assignable]; exact h3⟩
theorem xt_N.of {args : Array Value} {s : State} {E C : String} {c t : ClassId} (h : (Cond.not (Cond.castable E C)).before args s = true) (h1 : s.vm.findClass E = some c) (h2 : s.vm.findClass C = some t) : xt_N (E, C) s := by
  refine ⟨c, t, h1, h2, ?_⟩
  cases h3 : s.vm.assignable c t with
  | false => rfl
  | true => simp [Cond.before, Cond.holds, Cond.value, h1, h2, h3] at h
/-- rows of a table: those that are passed, and the one that takes an E at pc -/
def xt_rows (WS : List Cond) (own : String) (pc : Nat) (E : String) (N : List (String × String)) (h : Nat) : List (Nat × Nat × Nat × Nat) → List String → Prop
  | (a, b, hp, ct) :: t, C :: Cs => a ≤ pc ∧ pc < b ∧ ct ≠ 0 ∧ Cond.classLink own ct C ∈ WS ∧ ((C = E ∧ hp = h) ∨ ((E, C) ∈ N ∧ xt_rows WS own pc E N h t Cs))
  | _, _ => False
theorem xt_goesR {e : Env} {s : State} {args : Array Value} {WS : List Cond} {own E : String} {N : List (String × String)} {h : Nat} {f : JFrame} {q : Addr} {cell : Cell} (hpl : e.platform.magicAccessors = ({} : Platform).magicAccessors) (hts : ∀ w ∈ WS, w.before args s = true) (hown : s.vm.findClass own = some f.method.cls)
    (hN : ∀ z ∈ N, xt_N z s) (hE : xt_E E s) (hcls : s.vm.findClass E = some cell.cls) (hv : cell.vm = .none) : ∀ (rows : List ExceptionTableEntry) (hh : List (Nat × Nat × Nat × Nat)) (Cs : List String), rows.map (fun x => (x.startPc, x.endPc, x.handlerPc, x.catchType)) = hh → xt_rows WS own f.pc E N h hh Cs → ∀ S : State, s.WarmedH S.vm → S.heap[q]? = some cell → xt_goes e s f q h S rows
  | [], _, Cs, hm, hr, _, _, _ => by subst hm; cases Cs <;> exact hr.elim
  | x :: t, _, [], hm, hr, _, _, _ => by subst hm; exact hr.elim
  | x :: t, _, C :: Cs, hm, hr, S, hW, hc => by
    subst hm
    obtain ⟨r1, r2, r3, r4, r5⟩ := hr
    obtain ⟨k, hk⟩ := Vm.classAt_of_findClass hcls
    obtain ⟨cC, hcC, hlk⟩ := Cond.classLink_spec hown (hts _ r4) e.platform hpl
    have hcov : covers x f.pc = true := by simp [covers, r1, r2]
    have hobj : ∀ k, cell.vm ≠ .statics k := fun k h9 => by rw [hv] at h9; cases h9
    rcases r5 with ⟨rfl, rfl⟩ | ⟨r5, r6⟩
    · obtain ⟨c9, h8, h9⟩ := hE
      cases h8.symm.trans hcls
      cases h8.symm.trans hcC
      exact xt_hit hcov r3 hlk hW hc hobj ⟨k, hk⟩ h9
    · obtain ⟨c9, t9, h7, h8, h9⟩ := hN _ r5
      cases h7.symm.trans hcls
      cases h8.symm.trans hcC
      exact xt_miss hcov r3 hlk hW hc hobj ⟨k, hk⟩ h9 (fun S' hW' hh' => xt_goesR hpl hts hown hN hE hcls hv t _ Cs rfl r6 S' hW' (by rw [hh']; exact hc))
end XTN
section XTL
variable {p : Program} {l : Launch} {e : Env} {R : Room} {s : State} {m : MethodId} {args : Array Value} {below : List Frame} {meth : Method} {c : Code} {H H0 : Heap} {locs : List Loc} {cells slots : Nat} {Q : State → Prop}
theorem xt_more {c2 s2 : Nat} {g : JFrame} (h1 : cells ≤ c2) (h2 : slots ≤ s2) (k : W p l e R s m args below meth c H locs c2 s2 Q g) : W p l e R s m args below meth c H locs cells slots Q g := by
  intro T hT X
  exact k T hT ⟨X.admits, X.cas, X.clock, X.frames, X.room, X.hears, X.method, X.code, X.here, X.tail, X.warmed, X.limits, X.bytes, X.same.weaken (fun y hy _ => hy) h1 h2⟩
/-- a call that throws an E, and a row of this method's own table takes it -/
theorem xt_lands {pc h : Nat} {ls : Array Slot} {st rest : List Value} {E own : String} {G : va_G} {cl : List vw_C} {wc ws : va_W} {A : Nat → Prop} {WS : List Cond} {N : List (String × String)} {hh : List (Nat × Nat × Nat × Nat)}
    (hr : xt_Run p l e R s m args below meth c H locs cells slots (F0 m pc ls st) rest E G cl wc (va_A wc H.size)) (hts : ∀ w ∈ WS, w.before args s = true) (hown : s.vm.findClass own = some m.cls) (hN : ∀ z ∈ N, xt_N z s) (hE : xt_E E s)
    (htab : c.exceptionTable.toList.map (fun x => (x.startPc, x.endPc, x.handlerPc, x.catchType)) = hh) (Cs : List String) (hrow : xt_rows WS own pc E N h hh Cs) (hS : va_S A H0 H locs) (hF : ∀ q, va_A wc H.size q → A q)
    (hput : ∀ H1 : Heap, (∀ z : Nat, z < H.size → ¬ va_A wc H.size z → H1[z]? = H[z]?) → va_P G cl wc H1 → va_P G cl ws H1)
    (kk : ∀ (q : Nat) (H1 : Heap) (locs1 : List Loc), va_P G cl ws H1 → va_S A H0 H1 locs1 → W p l e R s m args below meth c H1 locs1 (cells + 1) (slots + 6) Q (F0 m h ls [.ref q])) : W p l e R s m args below meth c H locs cells slots Q (F0 m pc ls st) := by
  intro T hT X
  obtain ⟨q, ce, L, U, Y, a1, a2, a3, a4, a5, a6, a7, a8⟩ := hr T hT X
  have hpl : e.platform.magicAccessors = ({} : Platform).magicAccessors := by rw [X.admits.platform]
  have hgo : xt_goes e s (F0 m pc ls rest) q h ((U.setTop (F0 m pc ls rest)).pushFrame (.throwing q)) c.exceptionTable.toList :=
    xt_goesR (f := F0 m pc ls rest) (args := args) (own := own) hpl hts hown hN hE a3 a2 _ _ Cs htab hrow _ Y.warmed a1
  obtain ⟨vm', Y', hst⟩ := xt_caught Y (g := F0 m pc ls rest) rfl hgo
  have hS1 : va_S A H0 U.heap (locs ++ L) := by
    refine ⟨Nat.le_trans hS.1 a6, fun z hz hA => ?_, fun z hz => (List.mem_append.mp hz).elim (fun h9 => hS.2.2 z h9) (fun h9 => hF _ (a4 z h9))⟩
    rw [a7 z (Nat.lt_of_lt_of_le hz hS.1) (fun h9 => hA (hF _ h9))]
    exact hS.2.1 z hz hA
  obtain ⟨t, b1, b2⟩ := kk q U.heap (locs ++ L) (hput _ a7 a5) hS1 (U.setVm vm') rfl Y'
  exact ⟨t, a8.trans (hst t b1), b2⟩
end XTL
section XTW
variable {A : Nat → Prop} {G : va_G} {cl : List vw_C} {wa wb w1 : va_W} {H H1 : Heap}
theorem xw_L {k : Nat} {q : Nat × va_E} (h : wa[k]? = some q) : (wa ++ wb)[k]? = some q := by
  rw [List.getElem?_append_left (List.getElem?_eq_some_iff.mp h).1]; exact h
theorem xw_R {k : Nat} {q : Nat × va_E} (h : wb[k]? = some q) : (wa ++ wb)[wa.length + k]? = some q := by
  rw [List.getElem?_append_right (Nat.le_add_right _ _), Nat.add_sub_cancel_left]; exact h
theorem xw_PL (h : va_P G cl (wa ++ wb) H) : va_P G cl wa H := fun k q hq => h k q (xw_L hq)
theorem xw_PR (h : va_P G cl (wa ++ wb) H) : va_P G cl wb H := fun k q hq => h (wa.length + k) q (xw_R hq)
theorem xw_DL (h : va_D A (wa ++ wb)) : va_D A wa := ⟨fun i j x y hx hy hxy => h.1 i j x y (xw_L hx) (xw_L hy) hxy, fun k q hq => h.2 k q (xw_L hq)⟩
theorem xw_DR (h : va_D A (wa ++ wb)) : va_D A wb := ⟨fun i j x y hx hy hxy => Nat.add_left_cancel (h.1 _ _ x y (xw_R (wa := wa) hx) (xw_R (wa := wa) hy) hxy), fun k q hq => h.2 _ q (xw_R hq)⟩
theorem xw_apart (h : va_D A (wa ++ wb)) {i j : Nat} {x y : Nat × va_E} (hx : wa[i]? = some x) (hy : wb[j]? = some y) : x.1 ≠ y.1 := fun he => by
  have h1 := h.1 i (wa.length + j) x y (xw_L hx) (xw_R hy) he
  have h2 := (List.getElem?_eq_some_iff.mp hx).1
  omega
/-- the right one changed -/
theorem xw_putR (hP : va_P G cl (wa ++ wb) H) (hD : va_D A (wa ++ wb)) (ha : w1.map Prod.fst = wb.map Prod.fst) (hk : ∀ q : Nat, q < H.size → ¬ va_A wb H.size q → H1[q]? = H[q]?) (hP1 : va_P G cl w1 H1) : va_P G cl (wa ++ w1) H1 ∧ va_D A (wa ++ w1) := by
  refine ⟨va_P.app (fun k q hq => ?_) hP1, xk_Dmap hD (by rw [List.map_append, List.map_append, ha])⟩
  have hlt := (hP k q (xw_L hq)).lt
  refine (hP k q (xw_L hq)).kept (hk q.1 hlt ?_)
  rintro (⟨j, e, hj⟩ | hj)
  · exact xw_apart hD hq hj rfl
  · omega
/-- the left one changed -/
theorem xw_putL (hP : va_P G cl (wa ++ wb) H) (hD : va_D A (wa ++ wb)) (ha : w1.map Prod.fst = wa.map Prod.fst) (hk : ∀ q : Nat, q < H.size → ¬ va_A wa H.size q → H1[q]? = H[q]?) (hP1 : va_P G cl w1 H1) : va_P G cl (w1 ++ wb) H1 ∧ va_D A (w1 ++ wb) := by
  refine ⟨va_P.app hP1 (fun k q hq => ?_), xk_Dmap hD (by rw [List.map_append, List.map_append, ha])⟩
  have hlt := (hP _ q (xw_R hq)).lt
  refine (hP _ q (xw_R hq)).kept (hk q.1 hlt ?_)
  rintro (⟨j, e, hj⟩ | hj)
  · exact xw_apart hD hj hq rfl
  · omega
end XTW
section XTV
variable {p : Program} {l : Launch} {e : Env} {R : Room} {s : State} {m : MethodId} {args : Array Value} {below : List Frame} {meth : Method} {c : Code} {H H0 : Heap} {locs : List Loc} {cells slots : Nat} {Q : State → Prop}
variable {cc bt : ByteArray} {pc n nL index k ci b N : Nat} {ls : Array Slot} {rest st As fs : List Value} {G : va_G} {cl : List vw_C} {tys : List (ClassId × FieldType)} {ws wc : va_W} {A : Nat → Prop} {WS : List Cond} {own : String} {y : MethodName} {ret : FieldType} {rm : Room} {T : u_T} {S : Type}
/-- a call that takes a part of the world -/
theorem xw_VI {post : Int32 → S → Prop} {w1 : S → va_W} (hx : p.tables.exec = Jvm.exec) (hb : c.code = cc) (hml : c.maxLocals = nL) (hts : ∀ w ∈ WS, w.before args s = true) (hown : s.vm.findClass own = some m.cls) (hK : va_K G cl tys s) (hA : ∀ q : Nat, H0.size ≤ q → A q) (hPc : va_P G cl wc H) (hDc : va_D A wc) (hS : va_S A H0 H locs)
    (hM : xk_CI l y bt n ret WS rm G cl tys (.ref b :: As) wc post w1) (F : xk_VF WS own index y bt n (some ret) k)
    (q0 : Nat) (he : wc[q0]? = some (b, .inr (ci, fs))) (hc : cl[ci]? = some (y.cls, T, N)) (hrm : rm.cells = 0 ∧ rm.slots = 0) (hR : rm.frames + 1 ≤ R.frames ∧ 8 + (n + 11) + rm.locals ≤ R.locals) (hk : As.length = k) (hsz : ls.size = nL) (hst : st = As.reverse ++ .ref b :: rest) (hw : (rest.map fun v => v.category).sum ≤ 8) (hcs : cells ≤ R.cells ∧ slots ≤ R.slots)
    (hdg : decode cc pc = .ok (.invokevirtual index, 3))
    (kk : ∀ (r : Int32) (u : S) (H1 : Heap) (locs1 : List Loc), post r u → (∀ q : Nat, q < H.size → ¬ va_A wc H.size q → H1[q]? = H[q]?) → va_P G cl (w1 u) H1 → va_S A H0 H1 locs1 → W p l e R s m args below meth c H1 locs1 cells slots Q (F0 m (pc + 3) ls (.int r :: rest))) : W p l e R s m args below meth c H locs cells slots Q (F0 m pc ls st) := by
  subst hst
  have hFc := xk_freeAll hDc hS hA
  refine va_calli (va_runV (As := As) (rest := rest) (b := b) ⟨hx, hb, hml, hown, hts⟩ (hM H.size) (cwV k hts F.1 rfl hrm.1 hrm.2 ⟨rfl, F.2.1.1, F.2.1.2, F.2.2⟩ hR) ⟨xk_blind, va_recv hK hPc hc he, fun U hU hW => xk_pre hK hPc hDc hU hW⟩ rfl hk hsz rfl (lv_room hw) hdg ⟨hcs.1, hcs.2⟩) hS (fun q _ h => hFc q h) hFc (fun r u t H1 locs1 ht hvm hp hB hz1 hk1 hS1 => ?_)
  exact kk r u H1 locs1 hp hk1 (by rw [← ht]; exact hB) hS1
theorem xw_VV {post : S → Prop} {w1 : S → va_W} (hx : p.tables.exec = Jvm.exec) (hb : c.code = cc) (hml : c.maxLocals = nL) (hts : ∀ w ∈ WS, w.before args s = true) (hown : s.vm.findClass own = some m.cls) (hK : va_K G cl tys s) (hA : ∀ q : Nat, H0.size ≤ q → A q) (hPc : va_P G cl wc H) (hDc : va_D A wc) (hS : va_S A H0 H locs)
    (hM : xk_CV l y bt n WS rm G cl tys (.ref b :: As) wc post w1) (F : xk_VF WS own index y bt n none k)
    (q0 : Nat) (he : wc[q0]? = some (b, .inr (ci, fs))) (hc : cl[ci]? = some (y.cls, T, N)) (hrm : rm.cells = 0 ∧ rm.slots = 0) (hR : rm.frames + 1 ≤ R.frames ∧ 8 + (n + 11) + rm.locals ≤ R.locals) (hk : As.length = k) (hsz : ls.size = nL) (hst : st = As.reverse ++ .ref b :: rest) (hw : (rest.map fun v => v.category).sum ≤ 8) (hcs : cells ≤ R.cells ∧ slots ≤ R.slots)
    (hdg : decode cc pc = .ok (.invokevirtual index, 3))
    (kk : ∀ (u : S) (H1 : Heap) (locs1 : List Loc), post u → (∀ q : Nat, q < H.size → ¬ va_A wc H.size q → H1[q]? = H[q]?) → va_P G cl (w1 u) H1 → va_S A H0 H1 locs1 → W p l e R s m args below meth c H1 locs1 cells slots Q (F0 m (pc + 3) ls rest)) : W p l e R s m args below meth c H locs cells slots Q (F0 m pc ls st) := by
  subst hst
  have hFc := xk_freeAll hDc hS hA
  refine va_callv (va_runV (As := As) (rest := rest) (b := b) ⟨hx, hb, hml, hown, hts⟩ (hM H.size) (cwV k hts F.1 rfl hrm.1 hrm.2 ⟨rfl, F.2.1.1, F.2.1.2, F.2.2⟩ hR) ⟨xk_blind, va_recv hK hPc hc he, fun U hU hW => xk_pre hK hPc hDc hU hW⟩ rfl hk hsz rfl (lv_room hw) hdg ⟨hcs.1, hcs.2⟩) hS (fun q _ h => hFc q h) hFc (fun u t H1 locs1 ht hvm hp hB hz1 hk1 hS1 => ?_)
  exact kk u H1 locs1 hp hk1 (by rw [← ht]; exact hB) hS1
end XTV
section XTO
/-- a method that catches: it answers an int; at most one cell has come -/
def xt_Pre (G : va_G) (cl : List vw_C) (tys : List (ClassId × FieldType)) (own : String) (texts : List (Nat × String)) (excs : List String × List MethodName) (N : List (String × String)) (av : List Value) (wc : va_W) (sz : Nat) : Array Value → State → Prop := fun a U => xk_Pre G cl tys av wc sz a U ∧ xt_X own texts excs (va_A wc sz) U U.heap ∧ ∀ z ∈ N, xt_N z U
def xt_H (l : Launch) (y : MethodName) (bt : ByteArray) (n : Nat) (hh : List (Nat × Nat × Nat × Nat)) (WS : List Cond) (rm : Room) (G : va_G) (cl : List vw_C) (tys : List (ClassId × FieldType)) (own : String) (texts : List (Nat × String)) (excs : List String × List MethodName) (N : List (String × String)) (av : List Value) (wc : va_W) {S : Type} (post : Int32 → S → Prop) (w1 : S → va_W) : Prop :=
  ∀ sz, Met l y (.codeWith y bt n (some .int) hh :: WS) rm (xt_Pre G cl tys own texts excs N av wc sz) (va_Qi post (xk_B G cl w1) (va_A wc sz)) 1 6 (va_A wc sz)
theorem xt_preB {G : va_G} {cl : List vw_C} {tys : List (ClassId × FieldType)} {own : String} {texts : List (Nat × String)} {excs : List String × List MethodName} {N : List (String × String)} {av : List Value} {wc : va_W} {sz : Nat} : FrameBlind (xt_Pre G cl tys own texts excs N av wc sz) := by
  intro a U g mk h
  exact ⟨xk_blind _ _ _ _ h.1, xt_X.go (s := U) (U := U.calling g mk a) (State.WarmedH.refl U) (fun _ _ _ => rfl) (fun _ _ h => h) h.2.1, fun z hz => (h.2.2 z hz).go (u := U) (U := U.calling g mk a) (Vm.Alike.refl U.vm)⟩
variable {l : Launch} {y : MethodName} {bt : ByteArray} {n : Nat} {hh : List (Nat × Nat × Nat × Nat)} {WS : List Cond} {rm : Room} {G : va_G} {cl : List vw_C} {tys : List (ClassId × FieldType)} {own : String} {texts : List (Nat × String)} {excs : List String × List MethodName} {N : List (String × String)} {av : List Value} {wc : va_W} {S : Type}
theorem xt_ofH {post : Int32 → S → Prop} {w1 : S → va_W} (hy : plainName y.cls = true) (hn : (lg_sl av).length ≤ n)
    (body : ∀ (p : Program) (e : Env) (s : State) (m : MethodId) (args : Array Value) (below : List Frame) (meth : Method) (c : Code) (A : Nat → Prop) (Q : State → Prop) (H : Heap) (locs : List Loc) (ls : Array Slot),
      xk_At p s m args meth c A bt n WS y.cls G cl tys → c.exceptionTable.toList.map (fun x => (x.startPc, x.endPc, x.handlerPc, x.catchType)) = hh → xt_X own texts excs A s s.heap → (∀ z ∈ N, xt_N z s) →
      (∀ (v : Int32) (u : S) (H : Heap) (locs : List Loc) (pc cells slots : Nat) (ls : Array Slot), cells ≤ 1 → slots ≤ 6 → va_P G cl (w1 u) H → va_S A s.heap H locs → post v u → decode bt pc = .ok (.ireturn, 1) → W p l e rm s m args below meth c H locs cells slots Q (F0 m pc ls [.int v])) →
      va_P G cl wc H → va_D A wc → va_S A s.heap H locs → lv_has ls n (lv_args 0 av) → W p l e rm s m args below meth c H locs 0 0 Q (F0 m 0 ls [])) : xt_H l y bt n hh WS rm G cl tys own texts excs N av wc post w1 := by
  intro sz
  refine va_MetW (cc := bt) (maxL := n) (ret := some .int) (hh := hh) hy rfl ?_
  intro p e s m args below meth c s₁ B hml hv
  obtain ⟨⟨rfl, hsz, hP, hK, hD0⟩, hX, hN⟩ := hv
  subst hsz
  have hts := atoms_spec (ws := .codeWith y bt n (some .int) hh :: WS) B.pre
  have hlocks := B.notSynchronized
  have htab : c.exceptionTable.toList.map (fun x => (x.startPc, x.endPc, x.handlerPc, x.catchType)) = hh := by
    obtain ⟨m9, meth9, c9, h0, h1, h2, -, -, h5, -, -, -⟩ := Cond.codeWith_spec (hts _ List.mem_cons_self)
    cases Option.some.inj (h0.symm.trans B.named)
    cases Option.some.inj (h1.symm.trans B.method)
    cases Option.some.inj (h2.symm.trans (Stand.of_body B).code)
    exact h5
  rw [lg_entry_eq]
  exact body p e s m av.toArray below meth c (va_A wc s.heap.size) _ s.heap [] _ ⟨B.exec, B.bytes, hml, fun w h => hts w (List.mem_cons_of_mem _ h), findClass_of_methodNamed B.named, hK, fun q h => Or.inr h⟩ htab hX hN
    (fun v u H locs pc cells slots ls hc1 hc2 hP hS hp hdg => xt_more hc1 hc2 (W.zret B.exec B.bytes B.returns rfl (fun t ht hW => ⟨⟨v, u, rfl, hp, by show va_P _ _ _ t.heap; rw [ht]; exact hP⟩, hS.F ht⟩) hS.2.2 hdg hlocks))
    hP hD0.self va_S.rf (lv_entry av hn)
end XTO
section XTP
variable {p : Program} {l : Launch} {e : Env} {R : Room} {s : State} {m : MethodId} {args : Array Value} {below : List Frame} {meth : Method} {c : Code} {H H0 : Heap} {locs : List Loc} {cells slots : Nat} {Q : State → Prop}
variable {cc bt : ByteArray} {pc n nL index k : Nat} {hh : List (Nat × Nat × Nat × Nat)} {ls : Array Slot} {rest st As : List Value} {G : va_G} {cl : List vw_C} {tys : List (ClassId × FieldType)} {ws wc : va_W} {A : Nat → Prop} {WS : List Cond} {own txo : String} {y : MethodName} {rm : Room} {S : Type} {texts : List (Nat × String)} {excs : List String × List MethodName} {N : List (String × String)}
def xt_SH (WS : List Cond) (own : String) (index : Nat) (y : MethodName) (bt : ByteArray) (n : Nat) (hh : List (Nat × Nat × Nat × Nat)) (k : Nat) : Prop :=
  WS.all goodWord = true ∧ Cond.methodLink own index y ∈ WS ∧ Cond.static y ∈ WS ∧ Cond.initialized y.cls ∈ WS ∧ Cond.codeWith y bt n (some .int) hh ∈ WS ∧ (y.cls ≠ "java/lang/invoke/MethodHandle" ∧ y.cls ≠ "java/lang/invoke/VarHandle") ∧ (parseMethodDescriptor y.desc).map (fun d => d.parameters.length) = some k
/-- the call of such a method -/
theorem xw_H {post : Int32 → S → Prop} {w1 : S → va_W} (hx : p.tables.exec = Jvm.exec) (hb : c.code = cc) (hml : c.maxLocals = nL) (hts : ∀ w ∈ WS, w.before args s = true) (hown : s.vm.findClass own = some m.cls) (hK : va_K G cl tys s) (hA : ∀ q : Nat, H0.size ≤ q → A q) (hPc : va_P G cl wc H) (hDc : va_D A wc) (hS : va_S A H0 H locs)
    (hX : xt_X txo texts excs A s s.heap) (hS0 : va_S A s.heap H locs) (hN : ∀ z ∈ N, xt_N z s)
    (hM : xt_H l y bt n hh WS rm G cl tys txo texts excs N As wc post w1) (F : xt_SH WS own index y bt n hh k) (hrm : rm.cells = 1 ∧ rm.slots = 6) (hR : rm.frames + 1 ≤ R.frames ∧ 8 + (n + 11) + rm.locals ≤ R.locals) (hk : As.length = k) (hsz : ls.size = nL) (hst : st = As.reverse ++ rest) (hw : (rest.map fun v => v.category).sum ≤ 8) (hcs : cells + 1 ≤ R.cells ∧ slots + 6 ≤ R.slots)
    (hdg : decode cc pc = .ok (.invokestatic index, 3))
    (kk : ∀ (r : Int32) (u : S) (H1 : Heap) (locs1 : List Loc), post r u → (∀ q : Nat, q < H.size → ¬ va_A wc H.size q → H1[q]? = H[q]?) → va_P G cl (w1 u) H1 → va_S A H0 H1 locs1 → W p l e R s m args below meth c H1 locs1 (cells + 1) (slots + 6) Q (F0 m (pc + 3) ls (.int r :: rest))) : W p l e R s m args below meth c H locs cells slots Q (F0 m pc ls st) := by
  subst hst
  have hFc := xk_freeAll hDc hS hA
  obtain ⟨hG, f1, f2, f3, f4, hy, hpd⟩ := F
  have hgood : ∀ w ∈ (Cond.codeWith y bt n (some .int) hh :: WS), ∀ (a' : Array Value) (U : State), s.WarmedH U.vm → w.before a' U = true := by
    intro w hw9 a' U hW
    have hin : w ∈ WS := by
      rcases List.mem_cons.mp hw9 with rfl | h9
      · exact f4
      · exact h9
    exact word_at hW (good_of_word (List.all_eq_true.mp hG w hin)) (hts w hin)
  have hini := hts _ f3
  have hback : Back l R p e below s args y 3 8 (PreOf R 1 6 (xt_Pre G cl tys txo texts excs N As wc H.size)) (PostOf (va_Qi post (xk_B G cl w1) (va_A wc H.size)) 1 6 (va_A wc H.size)) :=
    va_backW (hh := hh) (bytes := bt) (maxL := n) (ret := some .int) (hM H.size) xt_preB hrm.1 hrm.2 hR.1 hR.2 hgood List.mem_cons_self (fun a' U hW => word_at hW (Or.inl (by first | rfl | simp [Cond.onTables, Cond.keeps, Cond.steady])) hini)
  have hrun : va_Run p l e R s m args below meth c H locs cells slots 1 6 (F0 m pc ls (As.reverse ++ rest)) rest (va_Qi post (xk_B G cl w1) (va_A wc H.size) As.toArray) (va_A wc H.size) := by
    intro T hT X
    obtain ⟨mk, methM, cM, hnamed, hmethM, -, -, -, -, -, -, hsigM⟩ := Cond.codeWith_spec (hts _ f4)
    have hstatic : methM.isStatic = true := Cond.static_spec hnamed hmethM (hts _ f2)
    obtain ⟨kP, hkP, -⟩ := className_of_methodNamed hnamed
    have hinitP : kP.init = .initialized := Cond.initialized_spec (findClass_of_methodNamed hnamed) hkP hini
    have hlen : As.length = methM.sig.parameters.length := by
      rw [hsigM] at hpd
      rw [hk]; exact (Option.some.inj hpd).symm
    obtain ⟨vm₁, X₁, hstep₁⟩ := X.invokestatic hx hown (hts _ f1) hnamed hmethM hstatic hkP hinitP hy (g := F0 m pc ls (As.reverse ++ rest)) rfl (argsL := As) (rest := rest) hlen rfl (by rw [hb]; exact hdg)
    have hpre : xt_Pre G cl tys txo texts excs N As wc H.size As.toArray (T.setVm vm₁) := by
      refine ⟨xk_pre hK hPc hDc hT X₁.warmed, hX.go X₁.warmed (fun a h1 h2 => by show T.heap[a]? = _; rw [hT]; exact hS0.2.1 a h1 h2) (fun q _ h => hFc q h), fun z hz => (hN z hz).go X₁.warmed.alike⟩
    obtain ⟨v, ⟨U', l2, c2, s2⟩, X', ⟨g', mk', t, L, e1, e2, hq, h1, hL, h2, h3⟩, hsteps⟩ := hback m meth c ⟨T.setVm vm₁, locs, cells, slots⟩ (F0 m pc ls rest) (.invokestatic index) mk As.toArray X₁ rfl (hsz.trans hml.symm) (by rw [hb]; exact hdg) (lv_room hw) (X₁.named hnamed) ⟨hcs.1, hcs.2, hpre⟩
    dsimp only [Pt.U, Pt.locs, Pt.cells, Pt.slots] at X' e1 e2 h1 h2 h3 hsteps
    subst h1; subst h2; subst h3
    exact ⟨v, (T.setVm vm₁).calling g' mk' As.toArray, t, U', L, hT, X', hL, e1, e2, hq, fun target h => hstep₁ _ fun acts => by rw [doInvoke_state]; exact hsteps.trans h⟩
  refine va_calli hrun hS (fun q _ h => hFc q h) hFc (fun r u t H1 locs1 ht hvm hp hB hz1 hk1 hS1 => ?_)
  exact kk r u H1 locs1 hp hk1 (by rw [← ht]; exact hB) hS1
end XTP
