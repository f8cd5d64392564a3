/-! calls of methods that throw: by invokevirtual, by invokestatic; passed on; caught by a row of this method's table -/
section XTH
variable {p : Program} {l : Launch} {e : Env} {R : Room} {s : State} {m : MethodId} {args : Array Value} {below : List Frame} {meth : Method} {c : Code} {H H0 : Heap} {locs : List Loc} {Q : State → Prop}
variable {cc bt : ByteArray} {pc cells slots n nL index k ci : Nat} {ls : Array Slot} {rest st As fs : List Value} {G : va_G} {cl : List vw_C} {tys : List (ClassId × FieldType)} {ws : va_W} {A A1 : Nat → Prop} {WS : List Cond} {own txo E : String} {texts : List (Nat × String)} {excs : List String × List MethodName} {y : MethodName} {rt : Option FieldType} {rm : Room} {b : Nat} {T0 : u_T} {N : Nat} {g : JFrame}
def xt_Run (p : Program) (l : Launch) (e : Env) (R : Room) (s : State) (m : MethodId) (args : Array Value) (below : List Frame) (meth : Method) (c : Code) (H : Heap) (locs : List Loc) (cells slots : Nat) (g : JFrame) (rest : List Value) (E : String) (G : va_G) (cl : List vw_C) (ws : va_W) (A1 : Nat → Prop) : Prop :=
  ∀ T : State, T.heap = H → Stand p l e R s m args below meth c T locs cells slots → ∃ (q : Addr) (ce : Cell) (L : List Loc) (U : State), Stand p l e R s m args below meth c U (locs ++ L) (cells + 1) (slots + 6) ∧ U.heap[q]? = some ce ∧ ce.vm = .none ∧ s.vm.findClass E = some ce.cls ∧ (∀ z ∈ L, A1 z.base) ∧ va_P G cl ws U.heap ∧ H.size ≤ U.heap.size ∧ (∀ z : Nat, z < H.size → ¬ A1 z → U.heap[z]? = H[z]?) ∧
    Steps p.tables e below (T.setTop g) ((U.setTop { g with stack := rest }).pushFrame (.throwing q))
theorem xt_blind {av : List Value} {sz : Nat} {B : Nat → Prop} {a : Array Value} {U : State} {mk : MethodId} (h : xk_Pre G cl tys av ws sz a U ∧ xt_X txo texts excs B U U.heap) : xk_Pre G cl tys av ws sz a (U.calling g mk a) ∧ xt_X txo texts excs B (U.calling g mk a) (U.calling g mk a).heap :=
  ⟨xk_blind _ _ _ _ h.1, xt_X.go (s := U) (U := U.calling g mk a) (State.WarmedH.refl U) (fun _ _ _ => rfl) (fun _ _ h => h) h.2⟩
theorem xt_runV (hx : p.tables.exec = Jvm.exec) (hb : c.code = cc) (hml : c.maxLocals = nL) (hts : ∀ w ∈ WS, w.before args s = true) (hown : s.vm.findClass own = some m.cls) (hK : va_K G cl tys s) (hP : va_P G cl ws H) (hD : va_D A ws)
    (hX : xt_X txo texts excs A s s.heap) (hS : va_S A s.heap H locs) (hFc : ∀ q, va_A ws H.size q → A q)
    (hM : xt_C l y bt n rt WS rm G cl tys txo texts excs (.ref b :: As) ws E) (F : xk_VF WS own index y bt n rt k)
    (q0 : Nat) (he : ws[q0]? = some (b, .inr (ci, fs))) (hc : cl[ci]? = some (y.cls, T0, N)) (hrm : rm.cells = 1 ∧ rm.slots = 6) (hR : rm.frames + 1 ≤ R.frames ∧ 8 + (n + 11) + rm.locals ≤ R.locals) (hk : As.length = k) (hsz : ls.size = nL) (hst : st = As.reverse ++ .ref b :: rest) (hw : (rest.map fun v => v.category).sum ≤ 8) (hcs : cells + 1 ≤ R.cells ∧ slots + 6 ≤ R.slots)
    (hdg : decode cc pc = .ok (.invokevirtual index, 3)) : xt_Run p l e R s m args below meth c H locs cells slots (F0 m pc ls st) rest E G cl ws (va_A ws H.size) := by
  intro T hT X
  subst hst
  obtain ⟨hG, hy, hpd⟩ := F
  have ok : ∀ w ∈ wsV own index y.cls y (.code y bt n rt :: WS), w.before args s = true := fun w h => hts w (hG w h).1
  have hlink := ok (.methodLink own index y) (by simp [wsV])
  have hinst := ok (.instanceMethod y) (by simp [wsV])
  have hsel := ok (.selects y.cls y y) (by simp [wsV])
  have hini := ok (.initialized y.cls) (by simp [wsV])
  have hcode := ok (.code y bt n rt) (by simp [wsV])
  obtain ⟨cellB, hcB, hoB, hclB⟩ := va_recv hK hP hc he
  obtain ⟨mk, methM, hnamed, hmethM, hstM, habM⟩ := Cond.instanceMethod_spec hinst
  obtain ⟨methM', cM, hmethM', -, -, -, -, -, -, hsigM⟩ := Cond.code_spec hnamed hcode
  cases hmethM.symm.trans hmethM'
  obtain ⟨c2, r2, m2, q1, q2, q3, q4, kP, hkP, hkPi⟩ := Cond.selects_spec hsel
  cases hclB.symm.trans q1
  cases (State.methodFound?_of_named hnamed hy).symm.trans q2
  cases hnamed.symm.trans q3
  have hselP : selectMethod e.platform s.vm cellB.cls mk = .method mk := by rw [Launch.admits_selectMethod X.admits]; exact q4
  have hlen : As.length = methM.sig.parameters.length := by
    rw [hsigM] at hpd
    rw [hk]; exact (Option.some.inj hpd).symm
  obtain ⟨vm₁, X₁, hstep₁⟩ := X.invokevirtual hx hown hlink hnamed hmethM hstM hkP hkPi hy (a := b) (cell := cellB) (by rw [hT]; exact hcB)
    (fun z h => by rw [h] at hoB; cases hoB) hselP hmethM habM hkP hkPi (g := F0 m pc ls (As.reverse ++ .ref b :: rest)) rfl (argsL := As) (rest := rest) hlen rfl (by rw [hb]; exact hdg)
  have hwords : ∀ w ∈ (Cond.code y bt n rt :: WS), w.before (Value.ref b :: As).toArray (T.setVm vm₁) = true := fun w hw9 => pay_in hts (fun w h => hG w (by unfold wsV; exact List.mem_append_right _ h)) w hw9 _ _ X₁.warmed
  have hinit : (Cond.initialized y.cls).before (Value.ref b :: As).toArray (T.setVm vm₁) = true := word_at (U := T.setVm vm₁) X₁.warmed (Or.inl (by first | rfl | simp [Cond.onTables, Cond.keeps, Cond.steady])) hini
  have hpre : xk_Pre G cl tys (.ref b :: As) ws H.size (Value.ref b :: As).toArray (T.setVm vm₁) := xk_pre hK hP hD hT X₁.warmed
  have hXc : xt_X txo texts excs (va_A ws H.size) (T.setVm vm₁) (T.setVm vm₁).heap := hX.go X₁.warmed (fun a h1 h2 => by show T.heap[a]? = _; rw [hT]; exact hS.2.1 a h1 h2) (fun q _ h => hFc q h)
  obtain ⟨q, ce, L, U, Y, a1, a2, a3, a4, a5, a6, a7, a8⟩ := xt_back (ig := .invokevirtual index) X₁ (hM H.size) (g := F0 m pc ls rest) rfl (hsz.trans hml.symm) (by rw [hb]; exact hdg) (lv_room hw) (X₁.named hnamed) hwords hinit hrm hR hcs (xt_blind ⟨hpre, hXc⟩)
  refine ⟨q, ce, L, U, Y, a1, a2, ?_, a4, a5, ?_, ?_, ?_⟩
  · have h9 : (T.setVm vm₁).vm.findClass E = some ce.cls := a3
    rw [X₁.warmed.alike.findClass] at h9; exact h9
  · have h9 : T.heap.size ≤ U.heap.size := a6
    rw [hT] at h9; exact h9
  · intro z hz hA9
    have h9 : U.heap[z]? = T.heap[z]? := a7 z (by show z < T.heap.size; rw [hT]; exact hz) hA9
    rw [h9, hT]
  · exact hstep₁ _ fun acts => by rw [doInvoke_state]; exact a8
theorem xt_runS (hx : p.tables.exec = Jvm.exec) (hb : c.code = cc) (hml : c.maxLocals = nL) (hts : ∀ w ∈ WS, w.before args s = true) (hown : s.vm.findClass own = some m.cls) (hK : va_K G cl tys s) (hP : va_P G cl ws H) (hD : va_D A ws)
    (hX : xt_X txo texts excs A s s.heap) (hS : va_S A s.heap H locs) (hFc : ∀ q, va_A ws H.size q → A q)
    (hM : xt_C l y bt n rt WS rm G cl tys txo texts excs As ws E) (F : xk_SF WS own index y bt n rt k)
    (hrm : rm.cells = 1 ∧ rm.slots = 6) (hR : rm.frames + 1 ≤ R.frames ∧ 8 + (n + 11) + rm.locals ≤ R.locals) (hk : As.length = k) (hsz : ls.size = nL) (hst : st = As.reverse ++ rest) (hw : (rest.map fun v => v.category).sum ≤ 8) (hcs : cells + 1 ≤ R.cells ∧ slots + 6 ≤ R.slots)
    (hdg : decode cc pc = .ok (.invokestatic index, 3)) : xt_Run p l e R s m args below meth c H locs cells slots (F0 m pc ls st) rest E G cl ws (va_A ws H.size) := by
  intro T hT X
  subst hst
  obtain ⟨hG, hyo, hy, hpd⟩ := F
  have ok : ∀ w ∈ wsS own index y (.code y bt n rt :: WS), w.before args s = true := fun w h => hts w (hG w h).1
  have hlink := ok (.methodLink own index y) (by simp [wsS])
  have hstat := ok (.static y) (by simp [wsS])
  have hini : (Cond.initialized y.cls).before args s = true := by rw [hyo]; exact ok (.initialized own) (by simp [wsS])
  have hcode := ok (.code y bt n rt) (by simp [wsS])
  obtain ⟨mk, hnamed⟩ := Cond.code_named hcode
  obtain ⟨methM, cM, hmethM, -, -, -, -, -, -, hsigM⟩ := Cond.code_spec hnamed hcode
  have hstatic : methM.isStatic = true := Cond.static_spec hnamed hmethM hstat
  obtain ⟨kP, hkP, -⟩ := className_of_methodNamed hnamed
  have hinitP : kP.init = .initialized := Cond.initialized_spec (findClass_of_methodNamed hnamed) hkP hini
  have hlen : As.length = methM.sig.parameters.length := by
    rw [hsigM] at hpd
    rw [hk]; exact (Option.some.inj hpd).symm
  obtain ⟨vm₁, X₁, hstep₁⟩ := X.invokestatic hx hown hlink hnamed hmethM hstatic hkP hinitP hy (g := F0 m pc ls (As.reverse ++ rest)) rfl (argsL := As) (rest := rest) hlen rfl (by rw [hb]; exact hdg)
  have hwords : ∀ w ∈ (Cond.code y bt n rt :: WS), w.before As.toArray (T.setVm vm₁) = true := fun w hw9 => pay_in hts (fun w h => hG w (by unfold wsS; exact List.mem_append_right _ h)) w hw9 _ _ X₁.warmed
  have hinit : (Cond.initialized y.cls).before As.toArray (T.setVm vm₁) = true := word_at (U := T.setVm vm₁) X₁.warmed (Or.inl (by first | rfl | simp [Cond.onTables, Cond.keeps, Cond.steady])) hini
  have hpre : xk_Pre G cl tys As ws H.size As.toArray (T.setVm vm₁) := xk_pre hK hP hD hT X₁.warmed
  have hXc : xt_X txo texts excs (va_A ws H.size) (T.setVm vm₁) (T.setVm vm₁).heap := hX.go X₁.warmed (fun a h1 h2 => by show T.heap[a]? = _; rw [hT]; exact hS.2.1 a h1 h2) (fun q _ h => hFc q h)
  obtain ⟨q, ce, L, U, Y, a1, a2, a3, a4, a5, a6, a7, a8⟩ := xt_back (ig := .invokestatic index) X₁ (hM H.size) (g := F0 m pc ls rest) rfl (hsz.trans hml.symm) (by rw [hb]; exact hdg) (lv_room hw) (X₁.named hnamed) hwords hinit hrm hR hcs (xt_blind ⟨hpre, hXc⟩)
  refine ⟨q, ce, L, U, Y, a1, a2, ?_, a4, a5, ?_, ?_, ?_⟩
  · have h9 : (T.setVm vm₁).vm.findClass E = some ce.cls := a3
    rw [X₁.warmed.alike.findClass] at h9; exact h9
  · have h9 : T.heap.size ≤ U.heap.size := a6
    rw [hT] at h9; exact h9
  · intro z hz hA9
    have h9 : U.heap[z]? = T.heap[z]? := a7 z (by show z < T.heap.size; rw [hT]; exact hz) hA9
    rw [h9, hT]
  · exact hstep₁ _ fun acts => by rw [doInvoke_state]; exact a8
/-- not caught here: the method ends by the same throw -/
theorem xt_pass (hr : xt_Run p l e R s m args below meth c H locs 0 0 (F0 m pc ls st) rest E G cl ws A1) (hlocks : meth.locks = false) (hout : ∀ x ∈ c.exceptionTable.toList, False)
    (hend : ∀ (t : State) (o : Outcome), t.status = .running → Ended t below o → xt_Q E G cl ws A args s o t → Q t) (hS : va_S A s.heap H locs) (hF : ∀ q, A1 q → A q) : W p l e R s m args below meth c H locs 0 0 Q (F0 m pc ls st) := by
  intro T hT X
  obtain ⟨q, ce, L, U, Y, a1, a2, a3, a4, a5, a6, a7, a8⟩ := hr T hT X
  obtain ⟨st1, hrun, hended, hW, hsm⟩ := Y.leaveThrown q (g := F0 m pc ls rest) rfl rfl rfl (fun x hx => (hout x hx).elim) hlocks
  have hL : ∀ z ∈ locs ++ L, A z.base := fun z hz => (List.mem_append.mp hz).elim (fun h => hS.2.2 z h) (fun h => hF _ (a4 z h))
  refine ⟨_, a8.trans st1, hend _ (.threw q) hrun hended ⟨q, ce, locs ++ L, rfl, a1, a2, a3, hW, hsm, hL, a5, ?_⟩⟩
  exact xt_frame hsm hL
end XTH
