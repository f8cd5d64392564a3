/-! a throw that a row of this method's table takes: the catch types may be cold -/
section XTI
/-- the search over these rows ends at h, the tables warmer than s0's -/
def xt_goes (e : Env) (s0 : State) (f : JFrame) (a : Addr) (h : Nat) (S : State) (rows : List ExceptionTableEntry) : Prop :=
  ∃ vm' : Vm, s0.WarmedH vm' ∧ ∀ (Q : Handler → Pre) (E : CtlPost) (d : Bool) (acts : List Action), wp (findHandler.go f a rows) Q E e d acts S ↔ Q (.found h) d acts (S.setVm vm')
variable {e : Env} {s0 S : State} {f : JFrame} {a : Addr} {cell : Cell} {x : ExceptionTableEntry} {t : List ExceptionTableEntry} {c : ClassId}
theorem xt_hit (hx : covers x f.pc = true) (h0 : x.catchType ≠ 0) (hl : s0.vm.ClassLinks e.platform f.method.cls x.catchType c) (hW : s0.WarmedH S.vm) (hcell : S.heap[a]? = some cell) (hobj : ∀ k, cell.vm ≠ .statics k) (hk : ∃ k, s0.vm.classes[cell.cls]? = some k) (hfit : s0.vm.assignable cell.cls c = true) :
    xt_goes e s0 f a x.handlerPc S (x :: t) := by
  have hl' := hW.classLinks hl
  obtain ⟨dk, _, _, kt, hd, _, _, _, _, hkt, _, hopen⟩ := hl.here
  obtain ⟨kt', hkt', -⟩ := hW.alike.2.2 _ _ hkt
  obtain ⟨k0, hk0⟩ := hk
  obtain ⟨k0', hk0', -⟩ := hW.alike.2.2 _ _ hk0
  have hal : S.vm.Alike (S.vm.noted f.method.cls x.catchType (.cls c)) := (Vm.Alike.refl S.vm).noted _ _ _
  obtain ⟨k1', hk1', -⟩ := hal.2.2 _ _ hk0'
  obtain ⟨k2', hk2', -⟩ := hal.2.2 _ _ hkt'
  have hfit' : (S.vm.noted f.method.cls x.catchType (.cls c)).assignable cell.cls c = true := by rw [hal.assignable, hW.alike.assignable]; exact hfit
  obtain ⟨ha, ht⟩ := (resolveClass_links e.toSetting hl').op (op := VmOp.resolveClass f.method.cls x.catchType) rfl
  refine ⟨S.vm.noted f.method.cls x.catchType (.cls c), hW.noted hd hopen (State.rightAt_cls hl), fun Q E d acts => ?_⟩
  simp only [covers] at hx
  simp [findHandler.go, hx, h0, ha, ht, hcell, hobj, hk1', hk2', hfit', VmOp.dirties, VmOp.acts]
theorem xt_miss {h : Nat} (hx : covers x f.pc = true) (h0 : x.catchType ≠ 0) (hl : s0.vm.ClassLinks e.platform f.method.cls x.catchType c) (hW : s0.WarmedH S.vm) (hcell : S.heap[a]? = some cell) (hobj : ∀ k, cell.vm ≠ .statics k) (hk : ∃ k, s0.vm.classes[cell.cls]? = some k) (hno : s0.vm.assignable cell.cls c = false)
    (next : ∀ S' : State, s0.WarmedH S'.vm → S'.heap = S.heap → xt_goes e s0 f a h S' t) : xt_goes e s0 f a h S (x :: t) := by
  have hl' := hW.classLinks hl
  obtain ⟨dk, _, _, kt, hd, _, _, _, _, hkt, _, hopen⟩ := hl.here
  obtain ⟨kt', hkt', -⟩ := hW.alike.2.2 _ _ hkt
  obtain ⟨k0, hk0⟩ := hk
  obtain ⟨k0', hk0', -⟩ := hW.alike.2.2 _ _ hk0
  have hal : S.vm.Alike (S.vm.noted f.method.cls x.catchType (.cls c)) := (Vm.Alike.refl S.vm).noted _ _ _
  obtain ⟨k1', hk1', -⟩ := hal.2.2 _ _ hk0'
  obtain ⟨k2', hk2', -⟩ := hal.2.2 _ _ hkt'
  have hno' : (S.vm.noted f.method.cls x.catchType (.cls c)).assignable cell.cls c = false := by rw [hal.assignable, hW.alike.assignable]; exact hno
  obtain ⟨ha, ht⟩ := (resolveClass_links e.toSetting hl').op (op := VmOp.resolveClass f.method.cls x.catchType) rfl
  obtain ⟨vm', hW', hq⟩ := next (S.setVm (S.vm.noted f.method.cls x.catchType (.cls c))) (hW.noted hd hopen (State.rightAt_cls hl)) rfl
  refine ⟨vm', hW', fun Q E d acts => ?_⟩
  have hq9 := hq Q E d acts
  rw [State.setVm_twice] at hq9
  rw [← hq9]
  simp only [covers] at hx
  simp [findHandler.go, hx, h0, ha, ht, hcell, hobj, hk1', hk2', hno', VmOp.dirties, VmOp.acts]
end XTI
section XTJ
variable {p : Program} {l : Launch} {e : Env} {R : Room} {s : State} {m : MethodId} {args : Array Value} {below : List Frame} {meth : Method} {c : Code} {H : Heap} {locs : List Loc} {cells slots : Nat} {Q : State → Prop}
/-- from the note over the frame to the handler -/
theorem xt_caught {T : State} {a : Addr} {g : JFrame} {h : Nat} (X : Stand p l e R s m args below meth c T locs cells slots) (hg : g.method = m) (hgo : xt_goes e s g a h ((T.setTop g).pushFrame (.throwing a)) c.exceptionTable.toList) :
    ∃ vm' : Vm, Stand p l e R s m args below meth c (T.setVm vm') locs cells slots ∧ ∀ target : State, Steps p.tables e below ((T.setVm vm').setTop { g with pc := h, stack := [.ref a] }) target → Steps p.tables e below ((T.setTop g).pushFrame (.throwing a)) target := by
  obtain ⟨vm', hW', hq⟩ := hgo
  have hAt : At T g.method c below := by rw [hg]; exact X.here
  have hmeth : ((T.setTop g).pushFrame (.throwing a)).vm.method? g.method = some meth := by rw [hg]; exact X.method'
  refine ⟨vm', X.noted hW', fun target hrest => ?_⟩
  have hfind : ∀ (Q : Handler → Pre) (E : CtlPost) (d : Bool) (acts : List Action), wp (findHandler g a) Q E e d acts ((T.setTop g).pushFrame (.throwing a)) ↔ Q (.found h) d acts (((T.setTop g).pushFrame (.throwing a)).setVm vm') := by
    intro Q E d acts
    rw [W.findHandler_eq hmeth X.code]
    exact hq Q E d acts
  have hstep : ∀ r : List Frame, (stepThrowing e ((T.setTop g).pushFrame (.throwing a)) a (.java g :: r)).Is ((((T.setTop g).pushFrame (.throwing a)).setVm vm').setFrames (.java { g with pc := h, stack := [.ref a] } :: r)) [] := by
    intro r
    simp only [stepThrowing, searchFrame, vmDo]
    generalize hr : Sem.go _ e false [] ((T.setTop g).pushFrame (.throwing a)) = res
    obtain ⟨as, rfl, ha⟩ := Sem.eq_ok_of hr (a := Handler.found h) (s' := ((T.setTop g).pushFrame (.throwing a)).setVm vm') (acts' := []) (by simp [hfind _ _ _ _])
    exact ⟨rfl, ha⟩
  obtain ⟨hgo9, hw9⟩ := hAt.throwing a
  refine Steps.head hgo9 hw9 ?_
  rw [stepThread_throwing (frames_entered hAt.top _), (hstep _).1]
  obtain ⟨g₀, hg0⟩ := Option.isSome_iff_exists.mp hAt.top
  obtain ⟨r, hr⟩ := State.topJava?_eq_some.mp hg0
  have hr' : (T.setVm vm').frames = .java g₀ :: r := hr
  rw [State.setTop_of_frames _ hr'] at hrest
  have e1 : (((T.setTop g).pushFrame (.throwing a)).setVm vm').setFrames (.java { g with pc := h, stack := [.ref a] } :: T.frames.tail) = (T.setVm vm').setFrames (.java { g with pc := h, stack := [.ref a] } :: r) := by
    rw [State.pushFrame, State.setTop_of_frames _ hr, State.setFrames_setFrames, hr]
    have e2 : ∀ F : List Frame, ((T.setFrames F).setVm vm') = (T.setVm vm').setFrames F := fun F => rfl
    rw [e2, State.setFrames_setFrames]
    rfl
  rw [e1]
  exact hrest
end XTJ
