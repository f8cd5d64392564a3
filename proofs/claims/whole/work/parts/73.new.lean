/-! constructors: contracts that make cells -/
section XNA
/-- words that a contract's table may not hold: arrays over the class's own classes, private constructors of nest mates -/
def xn_X (U : State) : Prop := va_AO "CrossingUnit$Track" U ∧ va_AO "CrossingUnit$Barrier" U ∧ va_AO "CrossingUnit$Lamp" U ∧ va_AO "CrossingUnit$Section" U ∧ va_AO "CrossingUnit$End" U ∧ va_Nw (.methodLinkNest RzU 29 yzR_init RzU) U ∧ va_Nw (.methodLinkNest RzU 36 yzJ_init RzU) U ∧ va_Nw (.methodLinkNest RzU 61 yzB_init RzU) U ∧ va_Nw (.methodLinkNest RzU 62 yzP_init RzU) U
theorem xn_X.warm {s U : State} (hW : s.WarmedH U.vm) (h : xn_X s) : xn_X U := by
  obtain ⟨a, b, c, d, e, f, g, i, j⟩ := h
  exact ⟨va_AO.moved hW.alike a, va_AO.moved hW.alike b, va_AO.moved hW.alike c, va_AO.moved hW.alike d, va_AO.moved hW.alike e, va_Nw.warmM hW f, va_Nw.warmM hW g, va_Nw.warmM hW i, va_Nw.warmM hW j⟩
theorem xn_X.same {s U : State} (hv : s.vm = U.vm) (h : xn_X s) : xn_X U := by
  obtain ⟨a, b, c, d, e, f, g, i, j⟩ := h
  have hm : s.vm.Alike U.vm := by rw [hv]; exact Vm.Alike.refl U.vm
  exact ⟨va_AO.moved hm a, va_AO.moved hm b, va_AO.moved hm c, va_AO.moved hm d, va_AO.moved hm e, va_Nw.same rfl hv f, va_Nw.same rfl hv g, va_Nw.same rfl hv i, va_Nw.same rfl hv j⟩
def xn_Pre (G : va_G) (cl : List vw_C) (tys : List (ClassId × FieldType)) (av : List Value) (wc : va_W) (sz : Nat) : Array Value → State → Prop := fun a U => xk_Pre G cl tys av wc sz a U ∧ xn_X U
theorem xn_blind {G : va_G} {cl : List vw_C} {tys : List (ClassId × FieldType)} {av : List Value} {wc : va_W} {sz : Nat} : FrameBlind (xn_Pre G cl tys av wc sz) := by
  intro a U g mk q
  exact ⟨xk_blind a U g mk q.1, xn_X.same (s := U) (U := U.calling g mk a) rfl q.2⟩
def xn_C (l : Launch) (y : MethodName) (bt : ByteArray) (n : Nat) (WS : List Cond) (rm : Room) (G : va_G) (cl : List vw_C) (tys : List (ClassId × FieldType)) (av : List Value) (wc : va_W) {S : Type} (post : S → Prop) (w1 : S → va_W) : Prop :=
  ∀ sz, Met l y (.code y bt n none :: WS) rm (xn_Pre G cl tys av wc sz) (va_Qv post (fun u t => va_P G cl (w1 u) t.heap ∧ va_D (va_A wc sz) (w1 u)) (va_A wc sz)) rm.cells rm.slots (va_A wc sz)
variable {l : Launch} {y : MethodName} {bt : ByteArray} {n : Nat} {WS : List Cond} {rm : Room} {G : va_G} {cl : List vw_C} {tys : List (ClassId × FieldType)} {av : List Value} {wc : va_W} {S : Type}
theorem xn_of {post : S → Prop} {w1 : S → va_W} (hy : plainName y.cls = true) (hi : y.name = "<init>") (hn : (lg_sl av).length ≤ n)
    (body : ∀ (p : Program) (e : Env) (s : State) (m : MethodId) (args : Array Value) (below : List Frame) (meth : Method) (c : Code) (A : Nat → Prop) (Q : State → Prop) (H : Heap) (locs : List Loc) (ls : Array Slot),
      xk_At p s m args meth c A bt n WS y.cls G cl tys → meth.name = "<init>" → xn_X s →
      (∀ (u : S) (H : Heap) (locs : List Loc) (pc : Nat) (ls : Array Slot) (cells slots : Nat), cells ≤ rm.cells → slots ≤ rm.slots → va_P G cl (w1 u) H → va_D A (w1 u) → va_S A s.heap H locs → post u → decode bt pc = .ok (.return_, 1) → W p l e rm s m args below meth c H locs cells slots Q (F0 m pc ls [])) →
      va_P G cl wc H → va_D A wc → va_S A s.heap H locs → lv_has ls n (lv_args 0 av) → W p l e rm s m args below meth c H locs 0 0 Q (F0 m 0 ls [])) : xn_C l y bt n WS rm G cl tys av wc post w1 := by
  intro sz
  refine Met.ofW (cc := bt) (maxL := n) (ret := none) hy rfl ?_
  intro p e s m args below meth c s₁ B hml hv
  obtain ⟨⟨rfl, hsz, hP, hK, hD0⟩, hX⟩ := hv
  subst hsz
  have hts := atoms_spec (ws := .code y bt n none :: WS) B.pre
  have hlocks := B.notSynchronized
  have hin : meth.name = "<init>" := (name_of_methodNamed B.named B.method).1.trans hi
  rw [lg_entry_eq]
  exact body p e s m av.toArray below meth c (va_A wc s.heap.size) _ s.heap [] _ ⟨B.exec, B.bytes, hml, fun w h => hts w (List.mem_cons_of_mem _ h), findClass_of_methodNamed B.named, hK, fun q h => Or.inr h⟩ hin hX
    (fun u H locs pc ls cells slots hc1 hc2 hP hD hS hp hdg => W.widen (k := rm.cells) (n := rm.slots) hc1 hc2 (W.vret B.exec B.bytes B.returns (fun t ht hW => ⟨⟨u, rfl, hp, by rw [ht]; exact hP, hD⟩, hS.F ht⟩) hS.2.2 hdg hlocks))
    hP hD0.self va_S.rf (lv_entry av hn)
end XNA
section XNB
variable {p : Program} {l : Launch} {e : Env} {R : Room} {s : State} {m : MethodId} {args : Array Value} {below : List Frame} {meth : Method} {c : Code} {H H0 : Heap} {locs : List Loc} {cells slots : Nat} {Q : State → Prop}
variable {cc bt : ByteArray} {pc nL n k index ci : Nat} {ls : Array Slot} {rest st : List Value} {G : va_G} {cl : List vw_C} {tys : List (ClassId × FieldType)} {ws wc wr : va_W} {A : Nat → Prop} {S : Type} {WS : List Cond} {own C : String} {y : MethodName} {rm : Room} {b : Nat} {As fs : List Value} {T : u_T} {N : Nat}
/-- Object's constructor -/
theorem xn_obj {a : Nat} (hx : p.tables.exec = Jvm.exec) (hb : c.code = cc) (hml : c.maxLocals = nL) (hts : ∀ w ∈ WS, w.before args s = true) (hown : s.vm.findClass own = some m.cls) (h1 : Cond.methodLink own index Lib.objectInit ∈ WS) (h2 : Cond.instanceMethod Lib.objectInit ∈ WS) (h3 : Cond.code Lib.objectInit object_method_1_code 1 none ∈ WS) (hsz : ls.size = nL) (hf : 1 ≤ R.frames) (hw : (rest.map fun v => v.category).sum ≤ 8) (hl : 20 ≤ R.locals) (hdg : decode cc pc = .ok (.invokespecial index, 3))
    (kk : W p l e R s m args below meth c H locs cells slots Q (F0 m (pc + 3) ls rest)) : W p l e R s m args below meth c H locs cells slots Q (F0 m pc ls (.ref a :: rest)) := by
  refine W.objInit hx hb hown (hts _ h1) (hts _ h2) (hts _ h3) rfl (by rw [hml]; exact hsz) rfl hdg hf ?_ kk
  show 2 * 0 + _ + 12 ≤ _
  omega
/-- a final field, in a constructor -/
def xn_PF (WS : List Cond) (cl : List vw_C) (own : String) (index ci k : Nat) (ty : FieldType) : Prop :=
  ∃ (C : String) (T : u_T) (N : Nat) (ty0 : Nat → FieldType), cl[ci]? = some (C, T, N) ∧ k < N ∧ (∀ w ∈ u_ws C T N, w ∈ WS) ∧ Cond.fieldLink own index (T k).1 (T k).2.1 (T k).2.2.1 ∈ WS ∧
    (∀ k, k < N → parseFieldDescriptor (T k).2.2.1 = some (ty0 k)) ∧ (∀ a, a < N → ∀ b, b < N → a ≠ b → (T a).2.1 ≠ (T b).2.1) ∧ (T k).2.2.2 = true ∧ (T k).1 = own ∧ ty0 k = ty
theorem xn_putF {a : Nat} {v : Value} {ty : FieldType} (hx : p.tables.exec = Jvm.exec) (hb : c.code = cc) (hts : ∀ w ∈ WS, w.before args s = true) (hown : s.vm.findClass own = some m.cls) (hin : meth.name = "<init>") (hK : va_K G cl tys s) (hP : va_P G cl ws H) (hD : va_D A ws) (hS : va_S A H0 H locs) (F : xn_PF WS cl own index ci k ty) (q0 : Nat) (he : ws[q0]? = some (a, .inr (ci, fs))) (hn : narrow ty v = v) (hfit : fits ty v = true) (hl : k < fs.length) (hdg : decode cc pc = .ok (.putfield index, 3))
    (kk : ∀ (H1 : Heap) (locs1 : List Loc), va_P G cl (ws.set q0 (a, .inr (ci, fs.set k v))) H1 → va_D A (ws.set q0 (a, .inr (ci, fs.set k v))) → va_S A H0 H1 locs1 → W p l e R s m args below meth c H1 locs1 cells slots Q (F0 m (pc + 3) ls rest)) : W p l e R s m args below meth c H locs cells slots Q (F0 m pc ls (v :: .ref a :: rest)) := by
  obtain ⟨C, T, N, ty0, h1, h2, h3, h4, h5, h6, h7, h9, h8⟩ := F
  exact va_putF (D := G) hx hb hts h3 ty0 h5 h6 hown hK hP hD hS q0 he h1 k h2 (hts _ h4) (fun _ h => h) h7 hin h9 (by rw [← h8]; exact h5 k h2) hn hfit hl hdg kk
/-- a new object -/
def xn_NF (WS : List Cond) (cl : List vw_C) (own : String) (index ci N : Nat) (fs : List Value) : Prop :=
  ∃ (C : String) (T : u_T) (ty0 : Nat → FieldType), cl[ci]? = some (C, T, N) ∧ (∀ w ∈ u_ws C T N, w ∈ WS) ∧ (∀ k, k < N → parseFieldDescriptor (T k).2.2.1 = some (ty0 k)) ∧ Cond.classLink own index C ∈ WS ∧ Cond.instantiable C N ∈ WS ∧ Cond.initialized C ∈ WS ∧ ∀ j, j < N → defaultValue (ty0 j) = vp_V fs j
theorem xn_new (hx : p.tables.exec = Jvm.exec) (hb : c.code = cc) (hts : ∀ w ∈ WS, w.before args s = true) (hown : s.vm.findClass own = some m.cls) (hK : va_K G cl tys s) (hA : ∀ q : Nat, H0.size ≤ q → A q) (hP : va_P G cl ws H) (hD : va_D A ws) (hS : va_S A H0 H locs) (F : xn_NF WS cl own index ci N fs) (h1 : cells + 1 ≤ R.cells) (h2 : slots + N ≤ R.slots) (hdg : decode cc pc = .ok (.new index, 3))
    (kk : ∀ (q : Nat) (H1 : Heap), va_P G cl (ws ++ [(q, .inr (ci, fs))]) H1 → va_D A (ws ++ [(q, .inr (ci, fs))]) → va_S A H0 H1 locs → W p l e R s m args below meth c H1 locs (cells + 1) (slots + N) Q (F0 m (pc + 3) ls (.ref q :: rest))) : W p l e R s m args below meth c H locs cells slots Q (F0 m pc ls rest) := by
  obtain ⟨C, T, ty0, g1, g2, g3, g4, g5, g6, g7⟩ := F
  exact va_new (D := G) hx hb hts g2 ty0 g3 hown (hts _ g4) (hts _ g5) (hts _ g6) hK hP hD hS hA g1 g7 h1 h2 hdg kk
theorem xn_last {α : Type} {xs : List α} {x : α} : (xs ++ [x])[xs.length]? = some x := by simp
/-- a new array of numbers -/
theorem xn_newa {atype : ArrayType} {ty : FieldType} {cA : ClassId} {nn : Int32} {N' t0 : Nat} {a0 : vp_A} (hx : p.tables.exec = Jvm.exec) (hb : c.code = cc) (hts : ∀ w ∈ WS, w.before args s = true) (harr : Cond.arrayClass ty ∈ WS) (hty : newarray.typeOf atype = ty) (hno : ∀ C, ty ≠ .object C) (hK : va_K G cl tys s) (hA : ∀ q : Nat, H0.size ≤ q → A q) (hP : va_P G cl ws H) (hD : va_D A ws) (hS : va_S A H0 H locs) (ht : tys[t0]? = some (cA, ty))
    (ha : ∀ cA : ClassId, vp_cell cA a0 = arrV cA N' (fun _ => defaultValue ty)) (hn : ¬ nn < 0) (hN : nn.toNatClampNeg = N') (hbytes : N' * componentBytes ty ≤ 536870912) (h1 : cells + 1 ≤ R.cells) (h2 : slots + N' ≤ R.slots) (hdg : decode cc pc = .ok (.newarray atype, 2))
    (kk : ∀ (q : Nat) (H1 : Heap), va_P G cl (ws ++ [(q, .inl (cA, a0))]) H1 → va_D A (ws ++ [(q, .inl (cA, a0))]) → va_S A H0 H1 locs → W p l e R s m args below meth c H1 locs (cells + 1) (slots + N') Q (F0 m (pc + 2) ls (.ref q :: rest))) : W p l e R s m args below meth c H locs cells slots Q (F0 m pc ls (.int nn :: rest)) := by
  refine va_newa (D := G) hx hb (by rw [hty]; exact hts _ harr) hty hK hP hD hS hA ha hn hN hbytes h1 h2 hdg (fun q cB H1 hK1 hP1 hD1 hS1 => ?_)
  have e : cB = cA := by
    have f1 := (hK1.2 tys.length (cB, ty) xn_last).2
    have f2 := (hK.2 t0 (cA, ty) ht).2
    have g1 : s.vm.findClass ("[" ++ ty.toString) = some cB := by
      cases ty with
      | object C => exact absurd rfl (hno C)
      | _ => exact f1
    have g2 : s.vm.findClass ("[" ++ ty.toString) = some cA := by
      cases ty with
      | object C => exact absurd rfl (hno C)
      | _ => exact f2
    exact Option.some.inj (g1.symm.trans g2)
  subst e
  exact kk q H1 hP1 hD1 hS1
/-- a new array of references -/
theorem xn_newq {cA : ClassId} {nn : Int32} {N' t0 : Nat} (hx : p.tables.exec = Jvm.exec) (hb : c.code = cc) (hts : ∀ w ∈ WS, w.before args s = true) (hown : s.vm.findClass own = some m.cls) (hcl : Cond.classLink own index C ∈ WS) (hover : va_AO C s) (hK : va_K G cl tys s) (hA : ∀ q : Nat, H0.size ≤ q → A q) (hP : va_P G cl ws H) (hD : va_D A ws) (hS : va_S A H0 H locs) (ht : tys[t0]? = some (cA, .object C))
    (hn : ¬ nn < 0) (hN : nn.toNatClampNeg = N') (hbytes : N' * 4 ≤ 536870912) (h1 : cells + 1 ≤ R.cells) (h2 : slots + N' ≤ R.slots) (hdg : decode cc pc = .ok (.anewarray index, 3))
    (kk : ∀ (q : Nat) (H1 : Heap), va_P G cl (ws ++ [(q, .inl (cA, N', .inr (.inr (.inr (.inr (fun _ => none))))))]) H1 → va_D A (ws ++ [(q, .inl (cA, N', .inr (.inr (.inr (.inr (fun _ => none))))))]) → va_S A H0 H1 locs → W p l e R s m args below meth c H1 locs (cells + 1) (slots + N') Q (F0 m (pc + 3) ls (.ref q :: rest))) : W p l e R s m args below meth c H locs cells slots Q (F0 m pc ls (.int nn :: rest)) := by
  refine va_newq (D := G) hx hb hown (hts _ hcl) hover hK hP hD hS hA hn hN hbytes h1 h2 hdg (fun q cB H1 hK1 hP1 hD1 hS1 => ?_)
  have e : cB = cA := by
    obtain ⟨kA, comp, -, -, -, f1⟩ := (hK1.2 tys.length (cB, .object C) xn_last).2
    obtain ⟨kA2, comp2, -, -, -, f2⟩ := (hK.2 t0 (cA, .object C) ht).2
    exact Option.some.inj (f1.symm.trans f2)
  subst e
  exact kk q H1 hP1 hD1 hS1
theorem xn_ast {a j q0 t0 qk v : Nat} {cA : ClassId} {r : vw_C} {vs : List Value} {f : Nat → Option Nat} {i : Int32} (hx : p.tables.exec = Jvm.exec) (hb : c.code = cc) (hK : va_K G cl tys s) (hP : va_P G cl ws H) (hD : va_D A ws) (hS : va_S A H0 H locs) (ha : ws[q0]? = some (a, .inl (cA, n, .inr (.inr (.inr (.inr f)))))) (ht : tys[t0]? = some (cA, .object r.1)) (hv : ws[qk]? = some (v, .inr (ci, vs))) (hc : cl[ci]? = some r) (hin : vp_in i n) (hj : i.toNatClampNeg = j) (hdg : decode cc pc = .ok (.aastore, 1))
    (kk : ∀ (H1 : Heap) (locs1 : List Loc), va_P G cl (ws.set q0 (a, .inl (cA, n, .inr (.inr (.inr (.inr (va_up f j (some v)))))))) H1 → va_D A (ws.set q0 (a, .inl (cA, n, .inr (.inr (.inr (.inr (va_up f j (some v)))))))) → va_S A H0 H1 locs1 → W p l e R s m args below meth c H1 locs1 cells slots Q (F0 m (pc + 1) ls rest)) : W p l e R s m args below meth c H locs cells slots Q (F0 m pc ls (.ref v :: .int i :: .ref a :: rest)) := by
  subst hj
  exact va_astq (D := G) hx hb hK hP hD hS q0 t0 qk ci ha ht hv hc hin hdg kk
/-- what a call of a constructor asks: the usual link, or a nest mate's -/
def xn_IF (WS : List Cond) (s : State) (own : String) (index : Nat) (y : MethodName) (bt : ByteArray) (n k : Nat) : Prop :=
  (Cond.methodLink own index y ∈ WS ∨ va_Nw (.methodLinkNest own index y RzU) s) ∧ WS.all goodWord = true ∧ Cond.code y bt n none ∈ WS ∧ Cond.instanceMethod y ∈ WS ∧ Cond.initialized y.cls ∈ WS ∧ y.name = "<init>" ∧ (y.cls ≠ "java/lang/invoke/MethodHandle" ∧ y.cls ≠ "java/lang/invoke/VarHandle") ∧ (parseMethodDescriptor y.desc).map (fun d => d.parameters.length) = some k
theorem xn_pre {av : List Value} (hK : va_K G cl tys s) (hX : xn_X s) (hP : va_P G cl wc H) (hD : va_D A wc) {U : State} (hU : U.heap = H) (hW : s.WarmedH U.vm) : xn_Pre G cl tys av wc H.size av.toArray U := ⟨xk_pre hK hP hD hU hW, xn_X.warm hW hX⟩
theorem xn_call {post : S → Prop} {w1 : S → va_W} (hx : p.tables.exec = Jvm.exec) (hb : c.code = cc) (hml : c.maxLocals = nL) (hts : ∀ w ∈ WS, w.before args s = true) (hown : s.vm.findClass own = some m.cls) (hX : xn_X s) (hK : va_K G cl tys s) (hA : ∀ q : Nat, H0.size ≤ q → A q) (hP : va_P G cl ws H) (hD : va_D A ws) (hS : va_S A H0 H locs)
    (hM : xn_C l y bt n WS rm G cl tys (.ref b :: As) wc post w1) (F : xn_IF WS s own index y bt n k) (isC isR : List Nat) (hnd : va_nd isC = true) (hC : isC.map (fun i => ws[i]?) = wc.map some) (hR : isR.map (fun i => ws[i]?) = wr.map some) (hnr : va_nd isR = true) (hdis : ∀ i ∈ isR, i ∉ isC)
    (hr : rm.frames + 1 ≤ R.frames ∧ 8 + (n + 11) + rm.locals ≤ R.locals) (hk : As.length = k) (hsz : ls.size = nL) (hst : st = As.reverse ++ .ref b :: rest) (hw : (rest.map fun v => v.category).sum ≤ 8) (hcs : cells + rm.cells ≤ R.cells ∧ slots + rm.slots ≤ R.slots)
    (hdg : decode cc pc = .ok (.invokespecial index, 3))
    (kk : ∀ (u : S) (H1 : Heap) (locs1 : List Loc), post u → va_P G cl (wr ++ w1 u) H1 → va_D A (wr ++ w1 u) → va_S A H0 H1 locs1 → W p l e R s m args below meth c H1 locs1 (cells + rm.cells) (slots + rm.slots) Q (F0 m (pc + 3) ls rest)) : W p l e R s m args below meth c H locs cells slots Q (F0 m pc ls st) := by
  subst hst
  have hPc := xk_subP hP hC
  have hDc := hD.sub isC hnd hC
  have hFc := va_free (wc := wc) hD hS hA isC hC
  obtain ⟨hl, hg, h5, h2, h4, hi, hd, hp⟩ := F
  have hG : GoodIn WS (Cond.code y bt n none :: WS) := by
    have hw : ∀ w ∈ WS, w ∈ WS ∧ ((w.onTables && w.keeps) = true ∨ ∃ ty, w = .arrayClass ty) := fun w h => ⟨h, good_of_word (List.all_eq_true.mp hg w h)⟩
    intro w h
    rcases List.mem_cons.mp h with rfl | h
    · exact hw _ h5
    · exact hw _ h
  have hrun : va_Run p l e R s m args below meth c H locs cells slots rm.cells rm.slots (F0 m pc ls (As.reverse ++ .ref b :: rest)) rest (va_Qv post (fun u t => va_P G cl (w1 u) t.heap ∧ va_D (va_A wc H.size) (w1 u)) (va_A wc H.size) (Value.ref b :: As).toArray) (va_A wc H.size) := by
    rcases hl with hl | hl
    · exact va_runI (As := As) (rest := rest) (b := b) ⟨hx, hb, hml, hown, hts⟩ (hM H.size) (cwI k hts hG rfl rfl rfl (hts _ h4) (hts _ hl) (hts _ h2) hi ⟨hd.1, hd.2, hp⟩ hr) ⟨xn_blind, fun U hU hW => xn_pre hK hX hPc hDc hU hW⟩ rfl hk hsz rfl (lv_room hw) hdg ⟨hcs.1, hcs.2⟩
    · exact va_runIN (As := As) (rest := rest) (b := b) ⟨hx, hb, hml, hown, hts⟩ (hM H.size) ⟨va_cnB k hts hG rfl rfl rfl hl (hts _ h4) ⟨hd.1, hd.2, hp⟩ hr, hi, hts _ h2⟩ ⟨xn_blind, fun U hU hW => xn_pre hK hX hPc hDc hU hW⟩ rfl hk hsz rfl (lv_room hw) hdg ⟨hcs.1, hcs.2⟩
  refine va_callv hrun hS (fun q _ h => hFc q h) hFc (fun u t H1 locs1 ht hvm hp hB hz1 hk1 hS1 => ?_)
  have hP1 : va_P G cl (w1 u) H1 := by rw [← ht]; exact hB.1
  obtain ⟨hP2, hD2⟩ := va_join (wr := wr) (w1 := w1 u) hP hD isC isR hC hR hnr hdis hk1 hFc hP1 hB.2
  exact kk u H1 locs1 hp hP2 hD2 hS1
/-- an array of references, said otherwise -/
theorem xn_fix {a : Nat} {cA : ClassId} {f f2 : Nat → Option Nat} (hP : va_P G cl ws H) (hD : va_D A ws) (k : Nat) (ha : ws[k]? = some (a, .inl (cA, n, .inr (.inr (.inr (.inr f)))))) (hf : ∀ j : Nat, j < n → f j = f2 j) : va_P G cl (ws.set k (a, .inl (cA, n, .inr (.inr (.inr (.inr f2)))))) H ∧ va_D A (ws.set k (a, .inl (cA, n, .inr (.inr (.inr (.inr f2)))))) := by
  refine ⟨hP.set hD ha ?_ (fun _ _ => rfl), hD.set ha⟩
  show H[a]? = some (vp_cell _ _)
  have h1 : H[a]? = some (vp_cell cA (n, .inr (.inr (.inr (.inr f))))) := hP k _ ha
  rw [h1, vp_cell_q, vp_cell_q]
  congr 1
  unfold arrV
  congr 1
  congr 1
  funext j
  show va_rf (f j.val) = va_rf (f2 j.val)
  rw [hf j.val j.isLt]
theorem xn_perm {ws2 : va_W} (hP : va_P G cl ws H) (hD : va_D A ws) (is : List Nat) (hn : va_nd is = true) (hs : is.map (fun i => ws[i]?) = ws2.map some) : va_P G cl ws2 H ∧ va_D A ws2 := ⟨xk_subP hP hs, hD.sub is hn hs⟩
end XNB
