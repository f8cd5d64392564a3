/-! a method that ends by a throw, its world kept: contracts of one outcome; the throw itself; a throw that passes on -/
section XTA
/-- a static of a reference type: where it lies, that it holds a reference or null; its cell isn't one of A's -/
def xt_Z (C n d : String) (A : Nat → Prop) (U : State) (H : Heap) : Prop :=
  ∃ (c : ClassId) (k : Class) (i : Nat) (f : Field) (a : Nat) (cell : Cell) (v : Value), U.vm.findClass C = some c ∧ U.fieldFound? C n d = some (c, k, i, f) ∧ f.isStatic = true ∧ k.statics = some a ∧ H[a]? = some cell ∧ cell.vm.isStatics = true ∧ cell.cls = c ∧ f.slot < cell.slots.size ∧ k.staticTypes[f.slot]? = some f.type ∧ cell.slots[f.slot]? = some v ∧ (v = .null ∨ ∃ t, v = .ref t) ∧ ¬ A a
theorem xt_Z.of {args : Array Value} {s : State} {C n d : String} {A : Nat → Prop} (hl : (Cond.laysStatic C n d).before args s = true) (hr : (Cond.isRef (.static C n d)).before args s = true) (hA : ∀ a : Nat, a < s.heap.size → ¬ A a) : xt_Z C n d A s s.heap := by
  obtain ⟨c, k, i, f, a, cell, hc, hi, hst, ha, hcell, hs, hcls, hlt, hty⟩ := Cond.laysStatic_spec hl
  cases hv : (Term.static C n d).eval args s none [] s with
  | none => simp [Cond.before, Cond.holds, Cond.value, hv] at hr
  | some w =>
    obtain ⟨-, a', cell', ha', hcell', -, hslot⟩ := Term.static_spec hi hv
    cases ha.symm.trans ha'
    cases hcell.symm.trans hcell'
    refine ⟨c, k, i, f, a, cell, w, hc, hi, hst, ha, hcell, hs, hcls, hlt, hty, hslot, ?_, hA a (Array.getElem?_eq_some_iff.mp hcell).1⟩
    simp only [Cond.before, Cond.holds, Cond.value, hv] at hr
    cases w with
    | null => exact Or.inl rfl
    | ref t => exact Or.inr ⟨t, rfl⟩
    | _ => simp at hr
theorem xt_Z.go {C n d : String} {A B : Nat → Prop} {u U : State} {H H1 : Heap} (hvm : u.vm.Alike U.vm) (hq : ∀ a : Nat, a < H.size → ¬ A a → H1[a]? = H[a]?) (hAB : ∀ q : Nat, q < H.size → B q → A q) (h : xt_Z C n d A u H) : xt_Z C n d B U H1 := by
  obtain ⟨c, k, i, f, a, cell, v, hc, hi, hst, ha, hcell, hs, hcls, hlt, hty, hslot, hv, hA⟩ := h
  obtain ⟨k', hi', he⟩ := State.fieldFound?_setVm hvm hi
  have hlt2 := (Array.getElem?_eq_some_iff.mp hcell).1
  exact ⟨c, k', i, f, a, cell, v, by rw [hvm.findClass]; exact hc, hi', hst, by rw [he]; exact ha, by rw [hq a hlt2 hA]; exact hcell, hs, hcls, hlt, by rw [he]; exact hty, hslot, hv, fun z => hA (hAB a hlt2 z)⟩
theorem xt_Z.lays {C n d : String} {A : Nat → Prop} {U : State} {args : Array Value} (h : xt_Z C n d A U U.heap) : (Cond.laysStatic C n d).before args U = true := by
  obtain ⟨c, k, i, f, a, cell, v, hc, hi, hst, ha, hcell, hs, hcls, hlt, hty, hslot, hv, hA⟩ := h
  simp [Cond.before, Cond.holds, Cond.value, hc, hi, hst, ha, hcell, hs, hcls, hlt, hty]
theorem xt_Z.ref {C n d : String} {A : Nat → Prop} {U : State} {args : Array Value} (h : xt_Z C n d A U U.heap) : (Cond.isRef (.static C n d)).before args U = true := by
  obtain ⟨c, k, i, f, a, cell, v, hc, hi, hst, ha, hcell, hs, hcls, hlt, hty, hslot, hv, hA⟩ := h
  rcases hv with rfl | ⟨t, rfl⟩ <;> simp [Cond.before, Cond.holds, Cond.value, Term.eval, State.fieldNamed?, hi, hst, ha, hcell, hs, hslot]
/-- a word on the tables that the tables alone decide: a class can be assigned to itself -/
def xt_E (E : String) (U : State) : Prop := ∃ c : ClassId, U.vm.findClass E = some c ∧ U.vm.assignable c c = true
theorem xt_E.of {args : Array Value} {s : State} {E : String} (h : (Cond.castable E E).before args s = true) : xt_E E s := by
  obtain ⟨c, t, h1, h2, h3⟩ := Cond.castable_spec h
  cases h1.symm.trans h2
  exact ⟨c, h1, h3⟩
theorem xt_E.go {E : String} {u U : State} (hvm : u.vm.Alike U.vm) (h : xt_E E u) : xt_E E U := by
  obtain ⟨c, h1, h2⟩ := h
  exact ⟨c, by rw [hvm.findClass]; exact h1, by rw [hvm.assignable]; exact h2⟩
theorem xt_E.word {E : String} {U : State} {args : Array Value} (h : xt_E E U) : (Cond.castable E E).before args U = true := by
  obtain ⟨c, h1, h2⟩ := h
  simp [Cond.before, Cond.holds, Cond.value, h1, h2]
theorem xt_D.go {x : MethodName} {u U : State} (hvm : u.vm.Alike U.vm) (h : (Cond.declares x).before #[] u = true) : (Cond.declares x).before #[] U = true := by
  have h1 : (Cond.declares x).before #[] (u.setVm U.vm) = true := by rw [Cond.declares_setVm hvm]; exact h
  have e := Cond.onTables_vm (A := #[]) (A' := #[]) (U := u) (U' := U) U.vm (.declares x) rfl
  have hU : U.setVm U.vm = U := rfl
  rw [hU] at e
  rw [← e]
  exact h1
/-- what a throw asks beside the words: two statics of Throwable, the texts, the classes -/
def xt_X (own : String) (texts : List (Nat × String)) (excs : List String × List MethodName) (A : Nat → Prop) (U : State) (H : Heap) : Prop :=
  xt_Z Bundle.tN "UNASSIGNED_STACK" Bundle.steD A U H ∧ xt_Z Bundle.tN "SUPPRESSED_SENTINEL" Bundle.listD A U H ∧ (∀ q ∈ texts, ∃ a : Nat, vk_R own q.1 q.2 a U) ∧ (∀ E ∈ excs.1, xt_E E U) ∧ ∀ x ∈ excs.2, (Cond.declares x).before #[] U = true
theorem xt_X.go {own : String} {texts : List (Nat × String)} {excs : List String × List MethodName} {A B : Nat → Prop} {s U : State} {H H1 : Heap} (hW : s.WarmedH U.vm) (hq : ∀ a : Nat, a < H.size → ¬ A a → H1[a]? = H[a]?) (hAB : ∀ q : Nat, q < H.size → B q → A q) (h : xt_X own texts excs A s H) : xt_X own texts excs B U H1 := by
  obtain ⟨h1, h2, h3, h4, h5⟩ := h
  refine ⟨h1.go hW.alike hq hAB, h2.go hW.alike hq hAB, fun q hq9 => ?_, fun E hE => (h4 E hE).go hW.alike, fun x hx => xt_D.go hW.alike (h5 x hx)⟩
  obtain ⟨a, ha⟩ := h3 q hq9
  exact ⟨a, vk_R.warm hW ha⟩
end XTA
section XTB
/-- the end by a throw of an E: one cell of six slots has come, the world is as it was -/
def xt_Q (E : String) (G : va_G) (cl : List vw_C) (wc : va_W) (A : Nat → Prop) : Array Value → State → Outcome → State → Prop := fun _ st o t =>
  ∃ (q : Addr) (ce : Cell) (L : List Loc), o = .threw q ∧ t.heap[q]? = some ce ∧ ce.vm = .none ∧ st.vm.findClass E = some ce.cls ∧ st.WarmedH t.vm ∧ st.sameButNew ({ t with vm := st.vm } : State) L 1 6 ∧ (∀ z ∈ L, A z.base) ∧ va_P G cl wc t.heap ∧ va_F A st t
def xt_C (l : Launch) (y : MethodName) (bt : ByteArray) (n : Nat) (rt : Option FieldType) (WS : List Cond) (rm : Room) (G : va_G) (cl : List vw_C) (tys : List (ClassId × FieldType)) (own : String) (texts : List (Nat × String)) (excs : List String × List MethodName) (av : List Value) (wc : va_W) (E : String) : Prop :=
  ∀ sz, MetFree l y (headSpec (.code y bt n rt :: WS) rm) (fun a U => xk_Pre G cl tys av wc sz a U ∧ xt_X own texts excs (va_A wc sz) U U.heap) (fun _ _ _ _ _ => True) (xt_Q E G cl wc (va_A wc sz))
end XTB
section XTC
variable {l : Launch} {y : MethodName} {bt : ByteArray} {n : Nat} {rt : Option FieldType} {WS : List Cond} {rm : Room} {G : va_G} {cl : List vw_C} {tys : List (ClassId × FieldType)} {own : String} {texts : List (Nat × String)} {excs : List String × List MethodName} {av : List Value} {wc : va_W} {E : String}
theorem xt_of (hy : plainName y.cls = true) (hn : (lg_sl av).length ≤ n)
    (body : ∀ (p : Program) (e : Env) (s : State) (m : MethodId) (args : Array Value) (below : List Frame) (meth : Method) (c : Code) (A : Nat → Prop) (Q : State → Prop) (H : Heap) (locs : List Loc) (ls : Array Slot),
      xk_At p s m args meth c A bt n WS y.cls G cl tys → meth.locks = false → (∀ x ∈ c.exceptionTable.toList, False) → xt_X own texts excs A s s.heap →
      (∀ (t : State) (o : Outcome), t.status = .running → Ended t below o → xt_Q E G cl wc A args s o t → Q t) →
      va_P G cl wc H → va_D A wc → va_S A s.heap H locs → lv_has ls n (lv_args 0 av) → W p l e rm s m args below meth c H locs 0 0 Q (F0 m 0 ls [])) : xt_C l y bt n rt WS rm G cl tys own texts excs av wc E := by
  intro sz
  refine MetFree.of_bodyS (code := bt) (maxLocals := n) (ret := rt) hy ?_ ?_
  · intro args s m h hn
    obtain ⟨meth, c, h1, h2, h3, h4, h5, h6, -, -⟩ := Cond.code_spec hn (atoms_spec (ws := .code y bt n rt :: WS) h _ List.mem_cons_self)
    exact ⟨meth, c, h1, h2, h3, h4, h5, h6⟩
  · intro p e s m args below meth c s₁ B hml hP _
    obtain ⟨⟨rfl, hsz, hPw, hK, hD0⟩, hX⟩ := hP
    subst hsz
    have hh0 : s₁.heap = s.heap := by rw [B.state]; rfl
    have hts := atoms_spec (ws := .code y bt n rt :: WS) B.pre
    have ht : ∀ x ∈ c.exceptionTable.toList, False := by
      obtain ⟨meth9, c9, h1, h2, -, -, -, -, h7, -⟩ := Cond.code_spec B.named (hts _ List.mem_cons_self)
      cases Option.some.inj (h1.symm.trans B.method)
      cases Option.some.inj (h2.symm.trans (Stand.of_body B).code)
      intro x hx
      rw [Array.isEmpty_iff.mp h7] at hx
      cases hx
    have K := body p e s m av.toArray below meth c (va_A wc s.heap.size) (fun t => ∃ o, t.status = .running ∧ Ended t below o ∧ xt_Q E G cl wc (va_A wc s.heap.size) av.toArray s o t) s.heap [] _
      ⟨B.exec, B.bytes, hml, fun w h => hts w (List.mem_cons_of_mem _ h), findClass_of_methodNamed B.named, hK, fun q h => Or.inr h⟩ B.notSynchronized ht hX (fun t o h1 h2 h3 => ⟨o, h1, h2, h3⟩) hPw hD0.self va_S.rf (lv_entry av hn)
    rw [← lg_entry_eq] at K
    obtain ⟨t, a1, o, b1, b2, b3⟩ := K s₁ hh0 (Stand.of_body B)
    exact ⟨t, o, a1, b1, b2, b3⟩
end XTC
section XTR
variable {p : Program} {l : Launch} {e : Env} {R : Room} {s : State} {m : MethodId} {args : Array Value} {below : List Frame} {meth : Method} {c : Code} {locs : List Loc} {cells slots : Nat}
/-- the walk seen from here on: as if the method had been called in this heap -/
theorem xt_rebase {T : State} (X : Stand p l e R s m args below meth c T locs cells slots) {R' : Room} (hf : R'.frames ≤ R.frames) (hl : R'.locals ≤ R.locals) (hc : cells + R'.cells ≤ R.cells) (hs : slots + R'.slots ≤ R.slots) :
    Stand p l e R' ((T.setVm s.vm).setFrames (.invoking m args :: below)) m args below meth c T [] 0 0 := by
  obtain ⟨g₀, hfr⟩ := X.frames_eq
  have hcur : (T.setVm s.vm).cur < (T.setVm s.vm).threads.size := State.cur_lt_of_frames (s := T) hfr
  obtain ⟨t0, ht0, -⟩ := State.frames_cons hfr
  have hF : ((T.setVm s.vm).setFrames (.invoking m args :: below)).frames = .invoking m args :: below := State.frames_setFrames _ hcur
  obtain ⟨t1, ht1, -⟩ := State.frames_cons hF
  have hlim : e.platform.stackLimits ((T.setVm s.vm).setFrames (.invoking m args :: below)).me = e.platform.stackLimits s.me := by
    rw [State.stackLimits_setFrames]; exact X.limits
  have hbyt : ((T.setVm s.vm).setFrames (.invoking m args :: below)).me.stackBytes = s.me.stackBytes := by
    rw [State.stackBytes_setFrames]; exact X.bytes
  have hloc : ((T.setVm s.vm).setFrames (.invoking m args :: below)).localsInUse = s.localsInUse := by
    unfold State.localsInUse
    rw [hF, X.frames]
    rfl
  have hroom := X.room
  have hcells := X.cellsAbove (n := R'.cells) hc
  have hslots := X.slotsAbove (n := R'.slots) hs
  refine ⟨X.admits, X.cas, X.clock, hF, ?_, ?_, X.method, X.code, X.here, X.tail, X.warmed, ?_, ?_, ?_⟩
  · simp only [State.hasRoom, Bool.and_eq_true, decide_eq_true_eq] at hroom ⊢
    obtain ⟨⟨⟨⟨r1, r2, r3, r4, r5, r6⟩, r7⟩, r8⟩, r9⟩ := hroom
    rw [X.frames] at r2 r3
    rw [hloc, hF, hlim, hbyt]
    exact ⟨⟨⟨⟨by omega, by omega, by omega, by omega, by omega, r6⟩, hcells⟩, hslots⟩, X.book⟩
  · have hh := X.hears
    cases below with
    | nil => exact hh
    | cons f r => cases f <;> exact hh
  · rw [hlim]; exact X.limits
  · rw [hbyt]; exact X.bytes
  · have h := (State.sameButNew.refl ((T.setVm s.vm).setFrames (.invoking m args :: below)) ht1).setFrames T.frames (State.cur_lt_of_frames hF)
    have he : ((T.setVm s.vm).setFrames (.invoking m args :: below)).setFrames T.frames = T.setVm s.vm := by
      rw [State.setFrames_setFrames]
      exact State.setFrames_self (s := T.setVm s.vm) ht0
    rw [he] at h
    exact h
end XTR
section XTF
theorem xt_frame {s U : State} {A : Nat → Prop} {locs : List Loc} {k n : Nat} (h : s.sameButNew ({ U with vm := s.vm } : State) locs k n) (hS : ∀ z ∈ locs, A z.base) : va_F A s U := by
  obtain ⟨-, h2, -, -, -, h6⟩ := h
  refine ⟨h2, fun q hq hA => ?_⟩
  have hc : s.heap[q]? = some s.heap[q] := Array.getElem?_eq_getElem hq
  obtain ⟨c', h7, h8, h9, h10⟩ := h6 q _ hc
  have e1 : c'.slots = s.heap[q].slots := by
    apply Array.ext_getElem?
    intro i
    exact h10 i (fun hz => hA (hS _ hz))
  have h11 : U.heap[q]? = some c' := h7
  rw [h11, hc, h8, e1]
end XTF
section XTN
variable {p : Program} {l : Launch} {e : Env} {R : Room} {s : State} {m : MethodId} {args : Array Value} {below : List Frame} {meth : Method} {c : Code} {cells slots : Nat}
/-- the words of 'throw new E(text)', E's own constructor any that hands the text on to Y's -/
def xt_atoms (own : String) (ic : Nat) (E Y : String) (names : List String) (ix : Nat) (by9 : ByteArray) : List Cond :=
  Bundle.throwableAtoms ++ Bundle.throwableSAtoms ++ Bundle.passSAtoms E Y ix by9 ++ Bundle.chainSAtoms Y names ++
  [.methodLink own ic (Bundle.initS E), .instantiable E 6, .castable E E, .selects E Bundle.tFill0 Bundle.tFill0, .selects E Bundle.tFill Bundle.tFill,
   .lays E Bundle.tN "cause" "Ljava/lang/Throwable;", .lays E Bundle.tN "stackTrace" Bundle.steD, .lays E Bundle.tN "suppressedExceptions" Bundle.listD, .lays E Bundle.tN "detailMessage" "Ljava/lang/String;",
   .isRef (.static Bundle.tN "UNASSIGNED_STACK" Bundle.steD), .isRef (.static Bundle.tN "SUPPRESSED_SENTINEL" Bundle.listD),
   .fieldLink Bundle.tN 198 Bundle.tN "backtrace" "Ljava/lang/Object;", .lays Bundle.tN Bundle.tN "backtrace" "Ljava/lang/Object;", .lays E Bundle.tN "backtrace" "Ljava/lang/Object;"]
set_option maxHeartbeats 4000000 in
theorem xt_ctor {V : State} (X : Stand p l e R s m args below meth c V [] cells slots) (hx : p.tables.exec = Jvm.exec) (htr : e.platform.stackTraces = false) {own E Y : String} {names : List String} {ix ic : Nat} {by9 : ByteArray}
    (hown : s.vm.findClass own = some m.cls) (hE : Bundle.fit E = true) (hY : Bundle.fit Y = true) (hnames : ∀ n ∈ names, Bundle.fit n = true)
    (b0 : decode by9 0 = .ok (.aload_n 0, 1)) (b1 : decode by9 1 = .ok (.aload_n 1, 1)) (b2 : decode by9 2 = .ok (.invokespecial ix, 3)) (b5 : decode by9 5 = .ok (.return_, 1))
    (h : ∀ w ∈ xt_atoms own ic E Y names ix by9, w.before args s = true)
    {a : Addr} {cX : ClassId} {kX : Class} (hfX : s.vm.findClass E = some cX) (hkX : s.vm.classes[cX]? = some kX) (hcell : V.heap[a]? = some (freshCell cX kX)) (hnew : s.heap.size ≤ a) (hold : ∀ q : Nat, q < s.heap.size → V.heap[q]? = s.heap[q]?)
    {msg : Value} (hmsg : msg.isRef = true) {g : JFrame} (hg : g.method = m) (hsize : g.locals.size = c.maxLocals) (hlocked : g.locked = none) (hentered : g.entered = []) {rest : List Value} (hstack : g.stack = msg :: .ref a :: .ref a :: rest)
    (hd6 : decode c.code g.pc = .ok (.invokespecial ic, 3)) (hd9 : decode c.code (g.pc + 3) = .ok (.athrow, 1)) (hout : ∀ x ∈ c.exceptionTable.toList, covers x (g.pc + 3) = false)
    (hRf : names.length + 4 < R.frames) (hRl : 2 * g.monitorRoom + ((Value.ref a :: rest).map fun v => v.category).sum + (13 * (names.length + 2) + 42) ≤ R.locals) (hlocks : meth.locks = false) :
    ∃ (U : State) (ce : Cell), Steps p.tables e below (V.setTop g) U ∧ U.status = .running ∧ Ended U below (.threw a) ∧ s.WarmedH U.vm ∧ s.sameButNew ({ U with vm := s.vm } : State) [] cells slots ∧ U.heap[a]? = some ce ∧ ce.vm = .none ∧ ce.cls = cX := by
  have howns : e.platform.frameOwnsMonitors = true := by rw [X.admits.platform]
  have hfin : e.platform.finalization = false := by rw [X.admits.platform]
  have hpl : e.platform.magicAccessors = ({} : Platform).magicAccessors := by rw [X.admits.platform]
  have hw : ∀ x, x ∈ xt_atoms own ic E Y names ix by9 → x.holds args s none s [] = true := fun x hx9 => h x hx9
  obtain ⟨T, Z0, L, -, D⟩ := ThrowableC.of_atoms (args := args) howns hfin hpl (fun x hx9 => h x (by simp [xt_atoms, hx9]))
  obtain ⟨Z, M, LZ, LM, hnZ⟩ := Init0T.ofS_atoms (args := args) hpl L D (fun x hx9 => h x (by simp [xt_atoms, hx9]))
  obtain ⟨P2, Ps, hlen, L2, hL, hP2m, hlink2, hlink⟩ := Bundle.chainS (args := args) hpl hnZ names Y hY hnames (fun x hx9 => h x (by simp [xt_atoms, hx9]))
  obtain ⟨P1, L1, hP1m, hP1s⟩ := PassC.ofS_atoms (args := args) (s := s) hpl (X := E) (Y := Y) (Bundle.fit_spec hE).1 (Bundle.fit_spec hY).2 b0 b1 b2 b5 (fun x hx9 => h x (by simp [xt_atoms, hx9]))
  have hfound : s.vm.findClass E = some P1.m.cls := findClass_of_methodNamed hP1m
  cases Option.some.inj (hfX.symm.trans hfound)
  obtain ⟨c1, kX', hc1, hk, hord, -, -, hn6⟩ := Cond.instantiable_spec (hw (.instantiable E 6) (by simp [xt_atoms]))
  cases Option.some.inj (hc1.symm.trans hfound)
  cases Option.some.inj (hkX.symm.trans hk)
  have pick : ∀ (f : MethodName) (mf : MethodId), s.methodNamed? f = some mf → (f.cls ≠ "java/lang/invoke/MethodHandle" ∧ f.cls ≠ "java/lang/invoke/VarHandle") → (Cond.selects E f f).holds args s none s [] = true → selectMethod e.platform s.vm P1.m.cls mf = .method mf := by
    intro f mf hf hne hs9
    obtain ⟨c2, r2, m2, q1, q2, q3, q4, -⟩ := Cond.selects_spec hs9
    cases Option.some.inj (q1.symm.trans hfound)
    cases Option.some.inj (q2.symm.trans (State.methodFound?_of_named hf hne))
    cases Option.some.inj (q3.symm.trans hf)
    rw [Launch.admits_selectMethod X.admits]; exact q4
  have hsel0 := pick Bundle.tFill0 T.fill0 D.fill0 (by decide) (hw _ (by simp [xt_atoms]))
  have hselF := pick Bundle.tFill T.fill D.fill (by decide) (hw _ (by simp [xt_atoms]))
  obtain ⟨cellS, hcS, hiss⟩ := D.statics
  obtain ⟨u0, hu0⟩ := Cond.staticRefV D.unassigned L.unassignedStatic L.statics hcS hiss (hw (.isRef (.static Bundle.tN "UNASSIGNED_STACK" Bundle.steD)) (by simp [xt_atoms]))
  obtain ⟨sen, hsen⟩ := Cond.staticRefV D.sentinel L.sentinelStatic L.statics hcS hiss (hw (.isRef (.static Bundle.tN "SUPPRESSED_SENTINEL" Bundle.listD)) (by simp [xt_atoms]))
  obtain ⟨ci198, i198, fB, hk198, hg198, ha198, hsB, -, hnB, htB, hffB⟩ := Cond.ownField (t := .object "java/lang/Object") D.found L.cls (by decide +kernel) (hw (.fieldLink Bundle.tN 198 Bundle.tN "backtrace" "Ljava/lang/Object;") (by simp [xt_atoms])) (hw (.lays Bundle.tN Bundle.tN "backtrace" "Ljava/lang/Object;") (by simp [xt_atoms])) e.platform hpl
  have hltS : T.aS < s.heap.size := (Array.getElem?_eq_some_iff.mp hcS).1
  have hcellS : V.heap[T.aS]? = some cellS := (hold _ hltS).trans hcS
  have hknownS : cellS.vm ≠ .unknown := fun hu => by rw [hu] at hiss; cases hiss
  have hneS : T.aS ≠ a := Nat.ne_of_lt (Nat.lt_of_lt_of_le hltS hnew)
  obtain ⟨iM, hffM⟩ := D.msg
  obtain ⟨tyC, dC, hdC, hdnC⟩ := Cond.laysAt hfound hk D.cause (hw (.lays E Bundle.tN "cause" "Ljava/lang/Throwable;") (by simp [xt_atoms]))
  obtain ⟨tyS, dS, hdS, hdnS⟩ := Cond.laysAt hfound hk D.stack (hw (.lays E Bundle.tN "stackTrace" Bundle.steD) (by simp [xt_atoms]))
  obtain ⟨tyP, dP, hdP, hdnP⟩ := Cond.laysAt hfound hk D.supp (hw (.lays E Bundle.tN "suppressedExceptions" Bundle.listD) (by simp [xt_atoms]))
  obtain ⟨tyM, dM, hdM, hdnM⟩ := Cond.laysAt hfound hk hffM (hw (.lays E Bundle.tN "detailMessage" "Ljava/lang/String;") (by simp [xt_atoms]))
  obtain ⟨tyB, dB, hdB, hdnB⟩ := Cond.laysAt hfound hk hffB (hw (.lays E Bundle.tN "backtrace" "Ljava/lang/Object;") (by simp [xt_atoms]))
  have bC := Cond.laysApart hdB hdC hdnB hdnC (by rw [hnB, D.causeName]; decide)
  have bS := Cond.laysApart hdB hdS hdnB hdnS (by rw [hnB, D.stackName]; decide)
  have bP := Cond.laysApart hdB hdP hdnB hdnP (by rw [hnB, D.suppName]; decide)
  have hskip : SkipFacts T e.platform s (fun u => u) u0 ((preparedCellV T.toThrowableT (freshCell P1.m.cls kX) a u0 sen).withEntry V.cur) :=
    ⟨{ ci198 := ci198, i198 := i198, fBack := fB }, ⟨hk198, hg198, ha198, hsB⟩, by
      have h9 := fresh_default (c := P1.m.cls) tyB
      rw [htB] at h9
      simpa [preparedCellV, Cell.setSlot, Cell.withEntry, Array.getElem?_setIfInBounds, bC, bS, bP, bC.symm, bS.symm, bP.symm, defaultValue] using h9, fun _ _ => rfl⟩
  obtain ⟨tm, methC, cdC, kC, vm₁, hnC, -, -, -, -, -, -, -, hW₁, st1⟩ := Steps.initColdS (tb := p.tables) (e := e) (below := below) (s := s) (U := V) X.here hx X.warmed hpl hown (t := Bundle.initS E) rfl rfl (Bundle.fit_spec hE).2
    (hw (.methodLink own ic (Bundle.initS E)) (by simp [xt_atoms])) (h (.instanceMethod (Bundle.initS E)) (by simp [xt_atoms, Bundle.passSAtoms])) (bytes := by9) (maxL := 2) (h (.code (Bundle.initS E) by9 2 none) (by simp [xt_atoms, Bundle.passSAtoms]))
    (f := g) hg (a := a) (msg := msg) (rest := .ref a :: rest) hstack hd6
  cases Option.some.inj (hnC.symm.trans hP1m)
  have X₁ := X.noted hW₁
  have hl1 : P1.sup = firstOf (Z.m T.toThrowableT) ((P2 :: Ps).map (·.toPassT)) := Option.some.inj (hP1s.symm.trans hP2m)
  obtain ⟨vm₂, X₂, st2⟩ := X₁.ctorMessageOffV hx (g := { g with stack := .ref a :: rest }) hg hsize T L Z LZ M LM (P1 :: P2 :: Ps)
    (fun P hP => by
      rcases List.mem_cons.mp hP with rfl | hP
      · exact L1
      · rcases List.mem_cons.mp hP with rfl | hP
        · exact L2
        · exact hL P hP) ⟨hl1, hlink2, hlink⟩ (u0 := u0) (sen := sen) (self := a) hmsg (cell := freshCell P1.m.cls kX) (cellS := cellS)
    hcell (fun _ => by simp) (by simp) rfl rfl hsel0 hselF hcellS hneS hknownS hu0 hsen
    (Takes.of_laid hk hord tyC (by rw [D.causeType]; rfl)) (Takes.of_laid hk hord tyS (by rw [D.stackType]; exact fits_refV_array _ u0)) (Takes.of_laid hk hord tyP (by rw [D.suppType]; exact fits_refV_object _ sen))
    (Takes.of_laid hk hord tyM (by rw [D.msgType]; exact fits_refV_object _ ⟨msg, hmsg⟩)) D.objLocals hskip htr [] hd6
    (by simp only [List.length_cons, hlen]; omega) (by simp only [List.length_cons, hlen]; exact hRl)
  obtain ⟨hwalk, hrun, hended, hWU, hsame⟩ := X₂.athrowLeaves hx (g := { g with stack := .ref a :: rest, pc := g.pc + 3 }) hg hlocked hentered hout (a := a) (rest := rest) rfl hd9 hlocks
  have hlt : a < ((V.setVm vm₁).setVm vm₂).heap.size := (Array.getElem?_eq_some_iff.mp hcell).1
  have hU := heapAt_setCell_self (s := (V.setVm vm₁).setVm vm₂) (plainBareV T.toThrowableT (freshCell P1.m.cls kX) a u0 sen msg) hlt
  refine ⟨_, _, st1 _ (fun acts => ?_), hrun, hended, hWU, hsame.weaken (fun y hy hlt' => ?_) (Nat.le_refl _) (Nat.le_refl _), hU, rfl, rfl⟩
  · rw [doInvoke_state]
    exact st2 _ hwalk
  · exfalso
    have hb9 : y.base = a := by
      simp only [List.nil_append, List.mem_cons, List.not_mem_nil, or_false] at hy
      rcases hy with rfl | rfl | rfl | rfl | rfl <;> rfl
    rw [hb9] at hlt'
    exact Nat.not_lt.mpr hnew hlt'
end XTN
section XTE
/-- the words of a throw that aren't good ones -/
def xt_rest (E : String) (decls : List MethodName) : List Cond := [.castable E E, .isRef (.static Bundle.tN "UNASSIGNED_STACK" Bundle.steD), .isRef (.static Bundle.tN "SUPPRESSED_SENTINEL" Bundle.listD), .laysStatic Bundle.tN "UNASSIGNED_STACK" Bundle.steD, .laysStatic Bundle.tN "SUPPRESSED_SENTINEL" Bundle.listD] ++ decls.map Cond.declares
theorem xt_rest_ok {own E : String} {texts : List (Nat × String)} {excs : List String × List MethodName} {A : Nat → Prop} {U : State} {args : Array Value} (hX : xt_X own texts excs A U U.heap) (hE : E ∈ excs.1) : ∀ w ∈ xt_rest E excs.2, w.before args U = true := by
  intro w hw
  unfold xt_rest at hw
  rcases List.mem_append.mp hw with hw | hw
  · simp only [List.mem_cons, List.not_mem_nil, or_false] at hw
    rcases hw with rfl | rfl | rfl | rfl | rfl
    · exact (hX.2.2.2.1 E hE).word
    · exact hX.1.ref
    · exact hX.2.1.ref
    · exact hX.1.lays
    · exact hX.2.1.lays
  · obtain ⟨x, hx, rfl⟩ := List.mem_map.mp hw
    exact va_any rfl (hX.2.2.2.2 x hx)
end XTE
section XTD
variable {p : Program} {l : Launch} {e : Env} {R : Room} {s : State} {m : MethodId} {args : Array Value} {below : List Frame} {meth : Method} {c : Code} {H : Heap} {locs : List Loc} {Q : State → Prop}
variable {cc : ByteArray} {pc cells slots : Nat} {ls : Array Slot} {rest : List Value} {G : va_G} {cl : List vw_C} {tys : List (ClassId × FieldType)} {wc : va_W} {A : Nat → Prop} {WS : List Cond} {own E tx : String} {texts : List (Nat × String)} {excs : List String × List MethodName} {names : List String} {ik is ic ix : Nat} {by9 : ByteArray} {Y : String}
theorem xt_here {g : JFrame} {R' : Room} (hf : R'.frames ≤ R.frames) (hl : R'.locals ≤ R.locals) (hc : cells + R'.cells ≤ R.cells) (hs : slots + R'.slots ≤ R.slots)
    (k : ∀ s' : State, s'.vm = s.vm → s'.heap = H → (∀ (U : State) (k n : Nat), s'.sameButNew ({ U with vm := s'.vm } : State) [] k n → s.sameButNew ({ U with vm := s.vm } : State) locs (cells + k) (slots + n)) → W p l e R' s' m args below meth c H [] 0 0 Q g) : W p l e R s m args below meth c H locs cells slots Q g := by
  intro T hT X
  have Y := xt_rebase X hf hl hc hs
  refine k ((T.setVm s.vm).setFrames (.invoking m args :: below)) rfl hT (fun U k n h => ?_) T hT Y
  have h1 : (T.setVm s.vm).sameButNew ({ U with vm := s.vm } : State) [] k n := by
    obtain ⟨e1, e2⟩ := h
    refine ⟨?_, e2⟩
    rw [State.setFrames_setFrames] at e1
    exact e1
  have h2 := X.same.trans h1
  rw [List.append_nil] at h2
  exact h2
/-- throw new E(text): new, dup, ldc, invokespecial, athrow; or with the wide ldc -/
theorem xt_throw (hx : p.tables.exec = Jvm.exec) (hb : c.code = cc) (hst : l.stackTraces = false) (hml : c.maxLocals = ls.size) (hown : s.vm.findClass own = some m.cls) (hlocks : meth.locks = false) (hout : ∀ x ∈ c.exceptionTable.toList, False)
    (hX : xt_X own texts excs A s s.heap)
    (hend : ∀ (t : State) (o : Outcome), t.status = .running → Ended t below o → xt_Q E G cl wc A args s o t → Q t)
    (hP : va_P G cl wc H) (hS : va_S A s.heap H locs) (hcls : Bundle.fit E = true) (hY : Bundle.fit Y = true) (hnames : ∀ n ∈ names, Bundle.fit n = true) (b0 : decode by9 0 = .ok (.aload_n 0, 1)) (b1 : decode by9 1 = .ok (.aload_n 1, 1)) (b2 : decode by9 2 = .ok (.invokespecial ix, 3)) (b5 : decode by9 5 = .ok (.return_, 1))
    (hk : (Cond.classLink own ik E).before args s = true) (hini : (Cond.initialized E).before args s = true)
    (hat : ∀ w ∈ xt_atoms own ic E Y names ix by9, (goodWord w = true ∧ w.before args s = true) ∨ w ∈ xt_rest E excs.2) (hEx : E ∈ excs.1) (htx : (is, tx) ∈ texts)
    (d0 : decode cc pc = .ok (.new ik, 3)) (d3 : decode cc (pc + 3) = .ok (.dup, 1)) {ln : Nat} (d4 : (ln = 2 ∧ decode cc (pc + 4) = .ok (.ldc is, 2)) ∨ (ln = 3 ∧ decode cc (pc + 4) = .ok (.ldc_w is, 3))) (d6 : decode cc (pc + 4 + ln) = .ok (.invokespecial ic, 3)) (d9 : decode cc (pc + 4 + ln + 3) = .ok (.athrow, 1))
    (hRf : names.length + 4 < R.frames) (hRl : (rest.map fun v => v.category).sum + (13 * (names.length + 2) + 43) ≤ R.locals) (hRc : 1 ≤ R.cells) (hRs : 6 ≤ R.slots) :
    W p l e R s m args below meth c H locs 0 0 Q (F0 m pc ls rest) := by
  refine xt_here (R' := { frames := R.frames, locals := R.locals, cells := 1, slots := 6 }) (Nat.le_refl _) (Nat.le_refl _) (by show 0 + 1 ≤ R.cells; omega) (by show 0 + 6 ≤ R.slots; omega) (fun s' hvm hheap hsame => ?_)
  have hWs : s.WarmedH s'.vm := by rw [hvm]; exact State.WarmedH.refl s
  have hown' : s'.vm.findClass own = some m.cls := by rw [hvm]; exact hown
  have hX' : xt_X own texts excs A s' s'.heap := hX.go hWs (fun a h1 h2 => by rw [hheap]; exact hS.2.1 a h1 h2) (fun q _ h => h)
  have hall : ∀ w ∈ xt_atoms own ic E Y names ix by9, w.before args s' = true := by
    intro w hw
    rcases hat w hw with ⟨h1, h2⟩ | h1
    · exact word_at hWs (good_of_word h1) h2
    · exact xt_rest_ok hX' hEx w h1
  obtain ⟨sa, hsa⟩ := hX'.2.2.1 _ htx
  have hk' : (Cond.classLink own ik E).before args s' = true := word_at hWs (Or.inl (by first | rfl | simp [Cond.onTables, Cond.keeps, Cond.steady])) hk
  have hini' : (Cond.initialized E).before args s' = true := word_at hWs (Or.inl (by first | rfl | simp [Cond.onTables, Cond.keeps, Cond.steady])) hini
  have hins : (Cond.instantiable E 6).before args s' = true := hall _ (by simp [xt_atoms])
  refine W.newc hx hb hown' hk' hins hini' rfl d0 (Nat.le_refl _) (Nat.le_refl _) (fun cC kC h1 h2 h3 h4 => ?_)
  refine W.eq (g2 := F0 m (pc + 3) ls (.ref H.size :: rest)) rfl ?_
  refine lv_dup hx hb d3 rfl ?_
  have hgo : W p l e { frames := R.frames, locals := R.locals, cells := 1, slots := 6 } s' m args below meth c (H.push { cls := cC, slots := kC.instanceTypes.map defaultValue, vm := .none }) [] (0 + 1) (0 + 6) Q (F0 m (pc + 4 + ln) ls (.ref sa :: .ref H.size :: .ref H.size :: rest)) := by
    intro T hT X
    have htr : e.platform.stackTraces = false := (show e.platform.stackTraces = l.stackTraces by rw [X.admits.platform]).trans hst
    have hcell : T.heap[H.size]? = some (freshCell cC kC) := by
      rw [hT, Array.getElem?_push_size]
      first | done | rfl
    obtain ⟨U, ce, hsteps, hrun, hended, hW, hsm, hce, hcv, hcc⟩ := xt_ctor X hx htr (own := own) (E := E) (Y := Y) (names := names) (ic := ic) (ix := ix) (by9 := by9) hown' hcls hY hnames b0 b1 b2 b5 hall
      h1 h2 hcell (by rw [hheap]; exact Nat.le_refl _) (fun q hq => by rw [hheap] at hq ⊢; rw [hT, Array.getElem?_push, if_neg (by omega)]) (msg := .ref sa) rfl
      (g := F0 m (pc + 4 + ln) ls (.ref sa :: .ref H.size :: .ref H.size :: rest)) rfl hml.symm rfl rfl (rest := rest) rfl
      (by rw [hb]; exact d6) (by rw [hb]; exact d9) (fun x hx9 => (hout x hx9).elim) hRf (by rw [List.map_cons, List.sum_cons]; have h9 : (Value.ref H.size).category = 1 := rfl; rw [h9]; show 2 * 0 + _ + _ ≤ R.locals; omega) hlocks
    have hF := xt_frame (A := fun _ => False) hsm (fun z hz => by cases hz)
    have hsz : s.heap.size ≤ H.size := hS.1
    have hold : ∀ q : Nat, q < H.size → U.heap[q]? = H[q]? := fun q hq => by
      have h9 := hF.2 q (by rw [hheap]; exact hq) (fun h => h)
      rw [hheap] at h9; exact h9
    have hlt : H.size ≤ U.heap.size := by have h9 := hF.1; rw [hheap] at h9; exact h9
    refine ⟨U, hsteps, hend U (.threw H.size) hrun hended ⟨H.size, ce, locs, rfl, hce, hcv, by rw [hcc, ← hvm]; exact h1, State.WarmedH.trans hWs hW, hsame U _ _ hsm, hS.2.2, ?_, ?_⟩⟩
    · exact hP.kept (fun k q hk9 => hold q.1 (hP k q hk9).lt)
    · refine ⟨Nat.le_trans hsz hlt, fun q hq hA => ?_⟩
      rw [hold q (Nat.lt_of_lt_of_le hq hsz)]
      exact hS.2.1 q hq hA
  rcases d4 with ⟨rfl, d4⟩ | ⟨rfl, d4⟩
  · refine va_ldcS hx hb hown' hsa d4 ?_
    exact hgo
  · intro T hT X
    obtain ⟨t, a1, b1⟩ := hgo T hT X
    exact ⟨t, X.ldcStringW hx hown' (text := tx) (a := sa) hsa.1 hsa.2 (g := F0 m (pc + 4) ls (.ref H.size :: .ref H.size :: rest)) rfl (by rw [hb]; exact d4) t a1, b1⟩
end XTD
section XTG
variable {p : Program} {l : Launch} {e : Env} {R : Room} {s : State} {m : MethodId} {args : Array Value} {below : List Frame} {meth : Method} {c : Code} {H : Heap} {locs : List Loc} {Q : State → Prop}
variable {cc bt : ByteArray} {pc cells slots n nL index k ci : Nat} {ls : Array Slot} {rest st As fs : List Value} {G : va_G} {cl : List vw_C} {tys : List (ClassId × FieldType)} {ws : va_W} {A : Nat → Prop} {WS : List Cond} {own E : String} {texts : List (Nat × String)} {excs : List String × List MethodName} {y : MethodName} {rt : Option FieldType} {rm : Room} {b : Nat} {T0 : u_T} {N : Nat}
/-- a callee that throws: the machine over the caller's frame, the exception thrown there -/
theorem xt_back {U : State} {Ls : List Loc} {c0 s0 : Nat} {g : JFrame} {ig : Instr} {mk : MethodId} {a : Array Value} {Pc : Array Value → State → Prop} {wc : va_W} {A1 : Nat → Prop}
    (X : Stand p l e R s m args below meth c U Ls c0 s0) (hM : MetFree l y (headSpec (.code y bt n rt :: WS) rm) Pc (fun _ _ _ _ _ => True) (xt_Q E G cl wc A1))
    (hg : g.method = m) (hsize : g.locals.size = c.maxLocals) (hdg : decode c.code g.pc = .ok (ig, 3)) (hW : 2 * g.monitorRoom + (g.stack.map fun v => v.category).sum ≤ 8) (hn : U.methodNamed? y = some mk)
    (hws : ∀ w ∈ (Cond.code y bt n rt :: WS), w.before a U = true) (hini : (Cond.initialized y.cls).before a U = true) (hrm : rm.cells = 1 ∧ rm.slots = 6) (hR : rm.frames + 1 ≤ R.frames ∧ 8 + (n + 11) + rm.locals ≤ R.locals) (hcs : c0 + 1 ≤ R.cells ∧ s0 + 6 ≤ R.slots)
    (hP : Pc a (U.calling g mk a)) :
    ∃ (q : Addr) (ce : Cell) (L : List Loc) (U' : State), Stand p l e R s m args below meth c U' (Ls ++ L) (c0 + 1) (s0 + 6) ∧ U'.heap[q]? = some ce ∧ ce.vm = .none ∧ U.vm.findClass E = some ce.cls ∧ (∀ z ∈ L, A1 z.base) ∧ va_P G cl wc U'.heap ∧ U.heap.size ≤ U'.heap.size ∧ (∀ z : Nat, z < U.heap.size → ¬ A1 z → U'.heap[z]? = U.heap[z]?) ∧
      Steps p.tables e below (doInvoke e (U.setTop g) [] mk a).1 ((U'.setTop g).pushFrame (.throwing q)) := by
  have h2 := hws _ List.mem_cons_self
  obtain ⟨methY, cY, hmY, hcY, -, hlY, -, -, -, -⟩ := Cond.code_spec hn h2
  obtain ⟨kY, hkY, -⟩ := className_of_methodNamed hn
  have hinitY : kY.init = .initialized := Cond.initialized_spec (findClass_of_methodNamed hn) hkY hini
  have h : At U g.method c below := by rw [hg]; exact X.here
  have happ : (headSpec (.code y bt n rt :: WS) rm).appliesLoose y e.platform (U.calling g mk a) = true :=
    Spec.appliesLoose_calling (g := g) h hdg hn hkY hinitY
      (X.room_calling (g := g) (R' := (headSpec (.code y bt n rt :: WS) rm).room) hsize hmY hcY hR.1 (by rw [hlY]; show _ + _ + rm.locals ≤ _; omega) (by show c0 + rm.cells ≤ _; rw [hrm.1]; exact hcs.1) (by show s0 + rm.slots ≤ _; rw [hrm.2]; exact hcs.2)) (atoms_intro hws)
  obtain ⟨mid, hmid⟩ := h.above
  have hfr : (U.setTop g).frames = (.java g :: mid) ++ below := by rw [State.frames_setTop' g h.top, hmid]; rfl
  obtain ⟨o, s₂, hsteps, -, hend, hq⟩ := Steps.callFree hM p X.admits X.cas X.clock (acts := []) hfr happ hP trivial
  obtain ⟨q, ce, L, rfl, hce, hcv, hcl, hW₂, hsm, hL, hPw, hF⟩ := hq
  have hend' : s₂.frames = .throwing q :: (U.setTop g).frames := hend
  obtain ⟨e2, q2, q3, q4, q5, q6⟩ := hsm
  have e3 : s₂ = ({ (U.calling g mk a).setFrames s₂.frames with heap := s₂.heap, slotsUsed := s₂.slotsUsed } : State).setVm s₂.vm := by
    have h9 : s₂ = ({ s₂ with vm := (U.calling g mk a).vm } : State).setVm s₂.vm := rfl
    have e4 : ({ s₂ with vm := (U.calling g mk a).vm } : State) = { (U.calling g mk a).setFrames s₂.frames with heap := s₂.heap, slotsUsed := s₂.slotsUsed } := e2
    rw [e4] at h9
    exact h9
  have hW' : U.WarmedH s₂.vm := hW₂
  obtain ⟨g₀, hg0⟩ := Option.isSome_iff_exists.mp h.top
  obtain ⟨r, hr⟩ := State.topJava?_eq_some.mp hg0
  have hr' : (({ U with heap := s₂.heap, slotsUsed := s₂.slotsUsed } : State).setVm s₂.vm).frames = .java g₀ :: r := hr
  have hs₂ : s₂ = ((({ U with heap := s₂.heap, slotsUsed := s₂.slotsUsed } : State).setVm s₂.vm).setTop g).pushFrame (.throwing q) := by
    refine e3.trans ?_
    rw [hend', State.frames_setTop' g h.top, State.calling_eq h.top, State.setFrames_setFrames, State.pushFrame, State.frames_setTop' (s := ({ U with heap := s₂.heap, slotsUsed := s₂.slotsUsed } : State).setVm s₂.vm) g h.top, State.setTop_of_frames _ hr', State.setFrames_setFrames]
    rfl
  have hsame : U.sameButNew ({ U with heap := s₂.heap, slotsUsed := s₂.slotsUsed } : State) L 1 6 := by
    refine ⟨?_, q2, q3, q4, q5, q6⟩
    obtain ⟨t, ht, -⟩ := State.frames_cons hr
    show ({ U with heap := s₂.heap, slotsUsed := s₂.slotsUsed } : State) = { U.setFrames U.frames with heap := s₂.heap, slotsUsed := s₂.slotsUsed }
    rw [State.setFrames_self ht]
  refine ⟨q, ce, L, (({ U with heap := s₂.heap, slotsUsed := s₂.slotsUsed } : State).setVm s₂.vm),
    ⟨X.admits, X.cas, X.clock, X.frames, X.room, X.hears, X.method, X.code, (X.here.setHeapUsed s₂.heap s₂.slotsUsed).setVm hW'.alike, X.tail, State.WarmedH.trans X.warmed hW', X.limits, X.bytes, X.same.trans (hsame.setVm s.vm)⟩,
    hce, hcv, hcl, hL, hPw, hF.1, hF.2, ?_⟩
  rw [← hs₂]
  exact hsteps
end XTG
