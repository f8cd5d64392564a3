/-! my kit: worlds changed in place by a call; contracts of one shape; one row a call -/
section XKA
def xk_set (ws : va_W) (isC : List Nat) (w1 : va_W) : va_W := (isC.zip w1).foldl (fun w q => w.set q.1 q.2) ws
theorem xk_set_at : ∀ (isC : List Nat) (w1 ws : va_W), isC.length = w1.length → ∀ (k : Nat) (q : Nat × va_E), (xk_set ws isC w1)[k]? = some q → (∃ j : Nat, isC[j]? = some k ∧ w1[j]? = some q) ∨ (k ∉ isC ∧ ws[k]? = some q)
  | [], _, _, _, _, _, h => Or.inr ⟨List.not_mem_nil, h⟩
  | _ :: _, [], _, hl, _, _, _ => by cases hl
  | i :: is, e :: es, ws, hl, k, q, h => by
    have h' : (xk_set (ws.set i e) is es)[k]? = some q := h
    rcases xk_set_at is es (ws.set i e) (Nat.succ.inj hl) k q h' with ⟨j, h1, h2⟩ | ⟨h1, h2⟩
    · exact Or.inl ⟨j + 1, h1, h2⟩
    · by_cases hk : i = k
      · subst hk
        have h3 : i < (ws.set i e).length := (List.getElem?_eq_some_iff.mp h2).1
        rw [List.length_set] at h3
        rw [List.getElem?_set_self h3] at h2
        exact Or.inl ⟨0, rfl, h2⟩
      · rw [List.getElem?_set_ne hk] at h2
        exact Or.inr ⟨fun hm => (List.mem_cons.mp hm).elim (fun he => hk he.symm) h1, h2⟩
theorem xk_put {A0 : Nat → Prop} {D : va_G} {cl : List vw_C} {ws wc w1 : va_W} {H H1 : Heap} (hP : va_P D cl ws H) (hD : va_D A0 ws) (isC : List Nat) (hC : isC.map (fun i => ws[i]?) = wc.map some) (ha : w1.map Prod.fst = wc.map Prod.fst)
    (hk : ∀ q : Nat, q < H.size → ¬ va_A wc H.size q → H1[q]? = H[q]?) (hP1 : va_P D cl w1 H1) : va_P D cl (xk_set ws isC w1) H1 ∧ va_D A0 (xk_set ws isC w1) := by
  have hl1 : isC.length = wc.length := by simpa using congrArg List.length hC
  have hl2 : w1.length = wc.length := by simpa using congrArg List.length ha
  have hat : ∀ (j k : Nat), isC[j]? = some k → ∀ q, w1[j]? = some q → ∃ q0, ws[k]? = some q0 ∧ q0.1 = q.1 := by
    intro j k h1 q h2
    have e1 : (isC.map (fun i => ws[i]?))[j]? = (wc.map some)[j]? := by rw [hC]
    rw [List.getElem?_map, List.getElem?_map, h1] at e1
    have e2 : (w1.map Prod.fst)[j]? = (wc.map Prod.fst)[j]? := by rw [ha]
    rw [List.getElem?_map, List.getElem?_map, h2] at e2
    cases hw : wc[j]? with
    | none => rw [hw] at e2; cases e2
    | some q0 =>
      rw [hw] at e1 e2
      exact ⟨q0, Option.some.inj e1, (Option.some.inj e2).symm⟩
  have hin : ∀ (k : Nat) (q : Nat × va_E), (xk_set ws isC w1)[k]? = some q → ∃ q0, ws[k]? = some q0 ∧ q0.1 = q.1 := by
    intro k q h
    rcases xk_set_at isC w1 ws (hl1.trans hl2.symm) k q h with ⟨j, h1, h2⟩ | ⟨-, h2⟩
    · exact hat j k h1 q h2
    · exact ⟨q, h2, rfl⟩
  refine ⟨fun k q h => ?_, fun i j x y hx hy hxy => ?_, fun k q h => ?_⟩
  · rcases xk_set_at isC w1 ws (hl1.trans hl2.symm) k q h with ⟨j, h1, h2⟩ | ⟨h1, h2⟩
    · exact hP1 j q h2
    · have hlt := (hP k q h2).lt
      refine (hP k q h2).kept (hk q.1 hlt ?_)
      rintro (⟨j, e, hj⟩ | hj)
      · have e1 : (isC.map (fun i => ws[i]?))[j]? = (wc.map some)[j]? := by rw [hC]
        rw [List.getElem?_map, List.getElem?_map, hj] at e1
        cases hi : isC[j]? with
        | none => rw [hi] at e1; cases e1
        | some i =>
          rw [hi] at e1
          have e2 : ws[i]? = some (q.1, e) := Option.some.inj e1
          have e3 : k = i := hD.1 k i q (q.1, e) h2 e2 rfl
          exact h1 (by rw [e3]; exact List.mem_of_getElem? hi)
      · omega
  · obtain ⟨x0, h1, h2⟩ := hin i x hx
    obtain ⟨y0, h3, h4⟩ := hin j y hy
    exact hD.1 i j x0 y0 h1 h3 (by rw [h2, h4]; exact hxy)
  · obtain ⟨q0, h1, h2⟩ := hin k q h
    rw [← h2]; exact hD.2 k q0 h1
/-- a boolean -/
def xk_b (x : Int32) : Prop := x = 0 ∨ x = 1
theorem xk_b0 : xk_b 0 := Or.inl rfl
theorem xk_b1 : xk_b 1 := Or.inr rfl
theorem xk_bi {c : Prop} [Decidable c] {x y : Int32} (hx : xk_b x) (hy : xk_b y) : xk_b (if c then x else y) := by
  by_cases h : c
  · rw [if_pos h]; exact hx
  · rw [if_neg h]; exact hy
theorem xk_be {x y : Int32} (e : x = y) (hy : xk_b y) : xk_b x := by rw [e]; exact hy
theorem xk_bn {x : Int32} (h : xk_b x) : narrow .boolean (.int x) = .int x := by
  rcases h with h | h <;> subst h <;> rfl
theorem xk_bf {x : Int32} (h : xk_b x) : fits .boolean (.int x) = true := by
  rcases h with h | h <;> subst h <;> decide
theorem xk_bv {x : Int32} (h : xk_b x) : vp_nar .boolean x = x := by
  rcases h with h | h <;> subst h <;> rfl
end XKA
section XKB
/-- what a contract asks at its start -/
def xk_Pre (G : va_G) (cl : List vw_C) (tys : List (ClassId × FieldType)) (av : List Value) (wc : va_W) (sz : Nat) : Array Value → State → Prop := va_Pc av (fun U => U.heap.size = sz ∧ va_P G cl wc U.heap ∧ va_K G cl tys U ∧ va_D (fun _ => True) wc)
def xk_B (G : va_G) (cl : List vw_C) {S : Type} (w1 : S → va_W) (u : S) (t : State) : Prop := va_P G cl (w1 u) t.heap
theorem xk_blind {G : va_G} {cl : List vw_C} {tys : List (ClassId × FieldType)} {av : List Value} {wc : va_W} {sz : Nat} : FrameBlind (xk_Pre G cl tys av wc sz) := by
  intro a U g mk q
  obtain ⟨q0, q1, qP, qK, qD⟩ := q
  exact ⟨q0, q1, qP, va_K.moved (u := U) (U := U.calling g mk a) (Vm.Alike.refl U.vm) qK, qD⟩
/-- an int (or small) answer -/
def xk_CI (l : Launch) (y : MethodName) (bt : ByteArray) (n : Nat) (ret : FieldType) (WS : List Cond) (rm : Room) (G : va_G) (cl : List vw_C) (tys : List (ClassId × FieldType)) (av : List Value) (wc : va_W) {S : Type} (post : Int32 → S → Prop) (w1 : S → va_W) : Prop :=
  ∀ sz, Met l y (.code y bt n (some ret) :: WS) rm (xk_Pre G cl tys av wc sz) (va_Qi post (xk_B G cl w1) (va_A wc sz)) 0 0 (va_A wc sz)
/-- no answer -/
def xk_CV (l : Launch) (y : MethodName) (bt : ByteArray) (n : Nat) (WS : List Cond) (rm : Room) (G : va_G) (cl : List vw_C) (tys : List (ClassId × FieldType)) (av : List Value) (wc : va_W) {S : Type} (post : S → Prop) (w1 : S → va_W) : Prop :=
  ∀ sz, Met l y (.code y bt n none :: WS) rm (xk_Pre G cl tys av wc sz) (va_Qv post (xk_B G cl w1) (va_A wc sz)) 0 0 (va_A wc sz)
/-- the answer is a cell that is known ahead; nothing changes -/
def xk_CR (l : Launch) (y : MethodName) (bt : ByteArray) (n : Nat) (ret : FieldType) (WS : List Cond) (rm : Room) (G : va_G) (cl : List vw_C) (tys : List (ClassId × FieldType)) (av : List Value) (wc : va_W) (ra : Nat) : Prop :=
  ∀ sz, Met l y (.code y bt n (some ret) :: WS) rm (xk_Pre G cl tys av wc sz) (va_Qr (fun _ : Unit => True) (fun _ a t => a = ra ∧ va_P G cl wc t.heap) (va_A wc sz)) 0 0 (va_A wc sz)
end XKB
section XKC
variable {l : Launch} {y : MethodName} {bt : ByteArray} {n : Nat} {ret : FieldType} {WS : List Cond} {rm : Room} {G : va_G} {cl : List vw_C} {tys : List (ClassId × FieldType)} {av : List Value} {wc : va_W} {S : Type}
/-- what a body knows at its start -/
abbrev xk_At (p : Program) (s : State) (m : MethodId) (args : Array Value) (meth : Method) (c : Code) (A : Nat → Prop) (bt : ByteArray) (n : Nat) (WS : List Cond) (own : String) (G : va_G) (cl : List vw_C) (tys : List (ClassId × FieldType)) : Prop :=
  p.tables.exec = Jvm.exec ∧ c.code = bt ∧ c.maxLocals = n ∧ (∀ w ∈ WS, w.before args s = true) ∧ s.vm.findClass own = some m.cls ∧ va_K G cl tys s ∧ (∀ q : Nat, s.heap.size ≤ q → A q)
theorem xk_ofI {post : Int32 → S → Prop} {w1 : S → va_W} (hy : plainName y.cls = true) (hn : (lg_sl av).length ≤ n)
    (body : ∀ (p : Program) (e : Env) (s : State) (m : MethodId) (args : Array Value) (below : List Frame) (meth : Method) (c : Code) (A : Nat → Prop) (Q : State → Prop) (H : Heap) (locs : List Loc) (ls : Array Slot),
      xk_At p s m args meth c A bt n WS y.cls G cl tys →
      (∀ (v : Int32) (u : S) (H : Heap) (locs : List Loc) (pc : Nat) (ls : Array Slot), va_P G cl (w1 u) H → va_S A s.heap H locs → narrow ret (.int v) = .int v → post v u → decode bt pc = .ok (.ireturn, 1) → W p l e rm s m args below meth c H locs 0 0 Q (F0 m pc ls [.int v])) →
      va_P G cl wc H → va_D A wc → va_S A s.heap H locs → lv_has ls n (lv_args 0 av) → W p l e rm s m args below meth c H locs 0 0 Q (F0 m 0 ls [])) : xk_CI l y bt n ret WS rm G cl tys av wc post w1 := by
  intro sz
  refine Met.ofW (cc := bt) (maxL := n) (ret := some ret) hy rfl ?_
  intro p e s m args below meth c s₁ B hml hv
  obtain ⟨rfl, hsz, hP, hK, hD0⟩ := hv
  subst hsz
  have hts := atoms_spec (ws := .code y bt n (some ret) :: WS) B.pre
  have hlocks := B.notSynchronized
  rw [lg_entry_eq]
  exact body p e s m av.toArray below meth c (va_A wc s.heap.size) _ s.heap [] _ ⟨B.exec, B.bytes, hml, fun w h => hts w (List.mem_cons_of_mem _ h), findClass_of_methodNamed B.named, hK, fun q h => Or.inr h⟩
    (fun v u H locs pc ls hP hS hn hp hdg => W.zret B.exec B.bytes B.returns hn (fun t ht hW => ⟨⟨v, u, rfl, hp, by show va_P _ _ _ t.heap; rw [ht]; exact hP⟩, hS.F ht⟩) hS.2.2 hdg hlocks)
    hP hD0.self va_S.rf (lv_entry av hn)
theorem xk_ofV {post : S → Prop} {w1 : S → va_W} (hy : plainName y.cls = true) (hn : (lg_sl av).length ≤ n)
    (body : ∀ (p : Program) (e : Env) (s : State) (m : MethodId) (args : Array Value) (below : List Frame) (meth : Method) (c : Code) (A : Nat → Prop) (Q : State → Prop) (H : Heap) (locs : List Loc) (ls : Array Slot),
      xk_At p s m args meth c A bt n WS y.cls G cl tys →
      (∀ (u : S) (H : Heap) (locs : List Loc) (pc : Nat) (ls : Array Slot), va_P G cl (w1 u) H → va_S A s.heap H locs → post u → decode bt pc = .ok (.return_, 1) → W p l e rm s m args below meth c H locs 0 0 Q (F0 m pc ls [])) →
      va_P G cl wc H → va_D A wc → va_S A s.heap H locs → lv_has ls n (lv_args 0 av) → W p l e rm s m args below meth c H locs 0 0 Q (F0 m 0 ls [])) : xk_CV l y bt n WS rm G cl tys av wc post w1 := by
  intro sz
  refine Met.ofW (cc := bt) (maxL := n) (ret := none) hy rfl ?_
  intro p e s m args below meth c s₁ B hml hv
  obtain ⟨rfl, hsz, hP, hK, hD0⟩ := hv
  subst hsz
  have hts := atoms_spec (ws := .code y bt n none :: WS) B.pre
  have hlocks := B.notSynchronized
  rw [lg_entry_eq]
  exact body p e s m av.toArray below meth c (va_A wc s.heap.size) _ s.heap [] _ ⟨B.exec, B.bytes, hml, fun w h => hts w (List.mem_cons_of_mem _ h), findClass_of_methodNamed B.named, hK, fun q h => Or.inr h⟩
    (fun u H locs pc ls hP hS hp hdg => W.vret B.exec B.bytes B.returns (fun t ht hW => ⟨⟨u, rfl, hp, by show va_P _ _ _ t.heap; rw [ht]; exact hP⟩, hS.F ht⟩) hS.2.2 hdg hlocks)
    hP hD0.self va_S.rf (lv_entry av hn)
theorem xk_ofR {ra : Nat} {Cr : String} (hy : plainName y.cls = true) (hn : (lg_sl av).length ≤ n) (hret : ret = .object Cr)
    (body : ∀ (p : Program) (e : Env) (s : State) (m : MethodId) (args : Array Value) (below : List Frame) (meth : Method) (c : Code) (A : Nat → Prop) (Q : State → Prop) (H : Heap) (locs : List Loc) (ls : Array Slot),
      xk_At p s m args meth c A bt n WS y.cls G cl tys →
      (∀ (H : Heap) (locs : List Loc) (pc : Nat) (ls : Array Slot), va_P G cl wc H → va_S A s.heap H locs → decode bt pc = .ok (.areturn, 1) → W p l e rm s m args below meth c H locs 0 0 Q (F0 m pc ls [.ref ra])) →
      va_P G cl wc H → va_D A wc → va_S A s.heap H locs → lv_has ls n (lv_args 0 av) → W p l e rm s m args below meth c H locs 0 0 Q (F0 m 0 ls [])) : xk_CR l y bt n ret WS rm G cl tys av wc ra := by
  intro sz
  refine Met.ofW (cc := bt) (maxL := n) (ret := some ret) hy rfl ?_
  intro p e s m args below meth c s₁ B hml hv
  obtain ⟨rfl, hsz, hP, hK, hD0⟩ := hv
  subst hsz
  have hts := atoms_spec (ws := .code y bt n (some ret) :: WS) B.pre
  have hlocks := B.notSynchronized
  have hr : meth.sig.returnType = some (.object Cr) := by rw [← hret]; exact B.returns
  rw [lg_entry_eq]
  exact body p e s m av.toArray below meth c (va_A wc s.heap.size) _ s.heap [] _ ⟨B.exec, B.bytes, hml, fun w h => hts w (List.mem_cons_of_mem _ h), findClass_of_methodNamed B.named, hK, fun q h => Or.inr h⟩
    (fun H locs pc ls hP hS hdg => W.aret B.exec B.bytes hr (Or.inl ⟨Cr, rfl⟩) (Or.inr ⟨ra, rfl⟩) (fun t ht hW => ⟨⟨(), ra, rfl, trivial, rfl, by rw [ht]; exact hP⟩, hS.F ht⟩) hS.2.2 hdg hlocks)
    hP hD0.self va_S.rf (lv_entry av hn)
end XKC
section XKD
variable {p : Program} {l : Launch} {e : Env} {R : Room} {s : State} {m : MethodId} {args : Array Value} {below : List Frame} {meth : Method} {c : Code} {H : Heap} {locs : List Loc} {cells slots : Nat} {Q : State → Prop}
variable {cc : ByteArray} {pc : Nat} {ls : Array Slot} {rest : List Value} {G : va_G} {cl : List vw_C} {tys : List (ClassId × FieldType)} {ws : va_W} {A : Nat → Prop} {S : Type}
/-- what a read of a field asks of the words -/
def xk_FF (WS : List Cond) (cl : List vw_C) (own : String) (index ci k : Nat) : Prop :=
  ∃ (C : String) (T : u_T) (N : Nat), cl[ci]? = some (C, T, N) ∧ k < N ∧ (∀ w ∈ u_ws C T N, w ∈ WS) ∧ Cond.fieldLink own index (T k).1 (T k).2.1 (T k).2.2.1 ∈ WS
/-- .. and a write -/
def xk_PF (WS : List Cond) (cl : List vw_C) (own : String) (index ci k : Nat) (ty : FieldType) : Prop :=
  ∃ (C : String) (T : u_T) (N : Nat) (ty0 : Nat → FieldType), cl[ci]? = some (C, T, N) ∧ k < N ∧ (∀ w ∈ u_ws C T N, w ∈ WS) ∧ Cond.fieldLink own index (T k).1 (T k).2.1 (T k).2.2.1 ∈ WS ∧
    (∀ k, k < N → parseFieldDescriptor (T k).2.2.1 = some (ty0 k)) ∧ (∀ a, a < N → ∀ b, b < N → a ≠ b → (T a).2.1 ≠ (T b).2.1) ∧ (T k).2.2.2 = false ∧ ty0 k = ty
theorem xk_get {WS : List Cond} {own : String} {index ci k a : Nat} {fs : List Value} {v : Value} (hx : p.tables.exec = Jvm.exec) (hb : c.code = cc) (hts : ∀ w ∈ WS, w.before args s = true) (hown : s.vm.findClass own = some m.cls) (hK : va_K G cl tys s) (hP : va_P G cl ws H) (F : xk_FF WS cl own index ci k) (q0 : Nat) (he : ws[q0]? = some (a, .inr (ci, fs))) (hv : fs[k]? = some v) (hdg : decode cc pc = .ok (.getfield index, 3))
    (kk : W p l e R s m args below meth c H locs cells slots Q (F0 m (pc + 3) ls (v :: rest))) : W p l e R s m args below meth c H locs cells slots Q (F0 m pc ls (.ref a :: rest)) := by
  obtain ⟨C, T, N, h1, h2, h3, h4⟩ := F
  exact va_get (D := G) hx hb hts h3 hown hK hP q0 he h1 k h2 (hts _ h4) (fun _ h => h) hv hdg kk
theorem xk_putf {H0 : Heap} {WS : List Cond} {own : String} {index ci k a : Nat} {fs : List Value} {v : Value} {ty : FieldType} (hx : p.tables.exec = Jvm.exec) (hb : c.code = cc) (hts : ∀ w ∈ WS, w.before args s = true) (hown : s.vm.findClass own = some m.cls) (hK : va_K G cl tys s) (hP : va_P G cl ws H) (hD : va_D A ws) (hS : va_S A H0 H locs) (F : xk_PF WS cl own index ci k ty) (q0 : Nat) (he : ws[q0]? = some (a, .inr (ci, fs))) (hn : narrow ty v = v) (hfit : fits ty v = true) (hl : k < fs.length) (hdg : decode cc pc = .ok (.putfield index, 3))
    (kk : ∀ (H1 : Heap) (locs1 : List Loc), va_P G cl (ws.set q0 (a, .inr (ci, fs.set k v))) H1 → va_D A (ws.set q0 (a, .inr (ci, fs.set k v))) → va_S A H0 H1 locs1 → W p l e R s m args below meth c H1 locs1 cells slots Q (F0 m (pc + 3) ls rest)) : W p l e R s m args below meth c H locs cells slots Q (F0 m pc ls (v :: .ref a :: rest)) := by
  obtain ⟨C, T, N, ty0, h1, h2, h3, h4, h5, h6, h7, h8⟩ := F
  exact va_put (D := G) hx hb hts h3 ty0 h5 h6 hown hK hP hD hS q0 he h1 k h2 (hts _ h4) (fun _ h => h) h7 (by rw [← h8]; exact h5 k h2) hn hfit hl hdg kk
/-- array rows with the place as a number -/
theorem xk_iald {a n j q0 t0 : Nat} {cA : ClassId} {f : Nat → Int32} {i : Int32} (hx : p.tables.exec = Jvm.exec) (hb : c.code = cc) (hK : va_K G cl tys s) (hP : va_P G cl ws H) (ha : ws[q0]? = some (a, .inl (cA, n, .inl f))) (ht : tys[t0]? = some (cA, .int)) (hin : vp_in i n) (hj : i.toNatClampNeg = j) (hdg : decode cc pc = .ok (.iaload, 1))
    (kk : W p l e R s m args below meth c H locs cells slots Q (F0 m (pc + 1) ls (.int (f j) :: rest))) : W p l e R s m args below meth c H locs cells slots Q (F0 m pc ls (.int i :: .ref a :: rest)) := by
  subst hj
  exact va_iald hx hb hK hP q0 t0 ha ht hin hdg kk
theorem xk_zald {a n j q0 t0 : Nat} {cA : ClassId} {f : Nat → Int32} {i : Int32} (hx : p.tables.exec = Jvm.exec) (hb : c.code = cc) (hK : va_K G cl tys s) (hP : va_P G cl ws H) (ha : ws[q0]? = some (a, .inl (cA, n, .inl f))) (ht : tys[t0]? = some (cA, .boolean)) (hin : vp_in i n) (hj : i.toNatClampNeg = j) (hdg : decode cc pc = .ok (.baload, 1))
    (kk : W p l e R s m args below meth c H locs cells slots Q (F0 m (pc + 1) ls (.int (f j) :: rest))) : W p l e R s m args below meth c H locs cells slots Q (F0 m pc ls (.int i :: .ref a :: rest)) := by
  subst hj
  exact va_zald hx hb hK hP q0 t0 ha ht hin hdg kk
theorem xk_aald {a n j q0 t0 b : Nat} {cA : ClassId} {C : String} {f : Nat → Option Nat} {i : Int32} (hx : p.tables.exec = Jvm.exec) (hb : c.code = cc) (hK : va_K G cl tys s) (hP : va_P G cl ws H) (ha : ws[q0]? = some (a, .inl (cA, n, .inr (.inr (.inr (.inr f)))))) (ht : tys[t0]? = some (cA, .object C)) (hin : vp_in i n) (hj : i.toNatClampNeg = j) (hf : f j = some b) (hdg : decode cc pc = .ok (.aaload, 1))
    (kk : W p l e R s m args below meth c H locs cells slots Q (F0 m (pc + 1) ls (.ref b :: rest))) : W p l e R s m args below meth c H locs cells slots Q (F0 m pc ls (.int i :: .ref a :: rest)) := by
  subst hj
  refine va_aldq hx hb hK hP q0 t0 ha ht hin hdg ?_
  rw [hf]
  exact kk
theorem xk_iast {H0 : Heap} {a n j q0 t0 : Nat} {cA : ClassId} {f : Nat → Int32} {i x : Int32} (hx : p.tables.exec = Jvm.exec) (hb : c.code = cc) (hK : va_K G cl tys s) (hP : va_P G cl ws H) (hD : va_D A ws) (hS : va_S A H0 H locs) (ha : ws[q0]? = some (a, .inl (cA, n, .inl f))) (ht : tys[t0]? = some (cA, .int)) (hin : vp_in i n) (hj : i.toNatClampNeg = j) (hdg : decode cc pc = .ok (.iastore, 1))
    (kk : ∀ (H1 : Heap) (locs1 : List Loc), va_P G cl (ws.set q0 (a, .inl (cA, n, .inl (upd f j x)))) H1 → va_D A (ws.set q0 (a, .inl (cA, n, .inl (upd f j x)))) → va_S A H0 H1 locs1 → W p l e R s m args below meth c H1 locs1 cells slots Q (F0 m (pc + 1) ls rest)) : W p l e R s m args below meth c H locs cells slots Q (F0 m pc ls (.int x :: .int i :: .ref a :: rest)) := by
  subst hj
  exact va_iast hx hb hK hP hD hS q0 t0 ha ht hin hdg kk
theorem xk_zast {H0 : Heap} {a n j q0 t0 : Nat} {cA : ClassId} {f : Nat → Int32} {i x : Int32} (hx : p.tables.exec = Jvm.exec) (hb : c.code = cc) (hK : va_K G cl tys s) (hP : va_P G cl ws H) (hD : va_D A ws) (hS : va_S A H0 H locs) (ha : ws[q0]? = some (a, .inl (cA, n, .inl f))) (ht : tys[t0]? = some (cA, .boolean)) (hin : vp_in i n) (hj : i.toNatClampNeg = j) (hbx : xk_b x) (hdg : decode cc pc = .ok (.bastore, 1))
    (kk : ∀ (H1 : Heap) (locs1 : List Loc), va_P G cl (ws.set q0 (a, .inl (cA, n, .inl (upd f j x)))) H1 → va_D A (ws.set q0 (a, .inl (cA, n, .inl (upd f j x)))) → va_S A H0 H1 locs1 → W p l e R s m args below meth c H1 locs1 cells slots Q (F0 m (pc + 1) ls rest)) : W p l e R s m args below meth c H locs cells slots Q (F0 m pc ls (.int x :: .int i :: .ref a :: rest)) := by
  subst hj
  refine va_zast hx hb hK hP hD hS q0 t0 ha ht hin hdg ?_
  rw [xk_bv hbx]
  exact kk
/-- a number on top is this one -/
theorem xk_is {x y : Int32} (h : x = y) (k : W p l e R s m args below meth c H locs cells slots Q (F0 m pc ls (.int y :: rest))) : W p l e R s m args below meth c H locs cells slots Q (F0 m pc ls (.int x :: rest)) := by rw [h]; exact k
end XKD
section XKE
variable {p : Program} {l : Launch} {e : Env} {R : Room} {s : State} {m : MethodId} {args : Array Value} {below : List Frame} {meth : Method} {c : Code} {H H0 : Heap} {locs : List Loc} {cells slots : Nat} {Q : State → Prop}
variable {cc bt : ByteArray} {pc nL n k index ci : Nat} {ls : Array Slot} {rest st : List Value} {G : va_G} {cl : List vw_C} {tys : List (ClassId × FieldType)} {ws wc : va_W} {A : Nat → Prop} {S : Type} {WS : List Cond} {own C : String} {y : MethodName} {ret : FieldType} {rt : Option FieldType} {rm : Room} {b : Nat} {As fs : List Value} {T : u_T} {N : Nat}
/-- what an invokevirtual asks of the words -/
def xk_VF (WS : List Cond) (own : String) (index : Nat) (y : MethodName) (bt : ByteArray) (n : Nat) (rt : Option FieldType) (k : Nat) : Prop :=
  GoodIn WS (wsV own index y.cls y (.code y bt n rt :: WS)) ∧ (y.cls ≠ "java/lang/invoke/MethodHandle" ∧ y.cls ≠ "java/lang/invoke/VarHandle") ∧ (parseMethodDescriptor y.desc).map (fun d => d.parameters.length) = some k
def xk_SF (WS : List Cond) (own : String) (index : Nat) (y : MethodName) (bt : ByteArray) (n : Nat) (rt : Option FieldType) (k : Nat) : Prop :=
  GoodIn WS (wsS own index y (.code y bt n rt :: WS)) ∧ y.cls = own ∧ (y.cls ≠ "java/lang/invoke/MethodHandle" ∧ y.cls ≠ "java/lang/invoke/VarHandle") ∧ (parseMethodDescriptor y.desc).map (fun d => d.parameters.length) = some k
theorem xk_pre {U : State} {av : List Value} (hK : va_K G cl tys s) (hPc : va_P G cl wc H) (hDc : va_D A wc) (hU : U.heap = H) (hW : s.WarmedH U.vm) : xk_Pre G cl tys av wc H.size av.toArray U :=
  ⟨rfl, by rw [hU], by rw [hU]; exact hPc, va_K.moved hW.alike hK, hDc.weaken (fun _ _ _ _ => trivial)⟩
theorem xk_subP {isC : List Nat} (hP : va_P G cl ws H) (hC : isC.map (fun i => ws[i]?) = wc.map some) : va_P G cl wc H := by
  intro k q hq
  have h1 : (isC.map (fun i => ws[i]?))[k]? = some (some q) := by rw [hC, List.getElem?_map, hq]; rfl
  rw [List.getElem?_map] at h1
  cases hi : isC[k]? with
  | none => rw [hi] at h1; cases h1
  | some i => rw [hi] at h1; exact hP i q (Option.some.inj h1)
theorem xk_callVI {post : Int32 → S → Prop} {w1 : S → va_W} (hx : p.tables.exec = Jvm.exec) (hb : c.code = cc) (hml : c.maxLocals = nL) (hts : ∀ w ∈ WS, w.before args s = true) (hown : s.vm.findClass own = some m.cls) (hK : va_K G cl tys s) (hA : ∀ q : Nat, H0.size ≤ q → A q) (hP : va_P G cl ws H) (hD : va_D A ws) (hS : va_S A H0 H locs)
    (hM : xk_CI l y bt n ret WS rm G cl tys (.ref b :: As) wc post w1) (F : xk_VF WS own index y bt n (some ret) k) (isC : List Nat) (hnd : va_nd isC = true) (hC : isC.map (fun i => ws[i]?) = wc.map some) (ha : ∀ u, (w1 u).map Prod.fst = wc.map Prod.fst)
    (q0 : Nat) (he : ws[q0]? = some (b, .inr (ci, fs))) (hc : cl[ci]? = some (y.cls, T, N)) (hrm : rm.cells = 0 ∧ rm.slots = 0) (hR : rm.frames + 1 ≤ R.frames ∧ 8 + (n + 11) + rm.locals ≤ R.locals) (hk : As.length = k) (hsz : ls.size = nL) (hst : st = As.reverse ++ .ref b :: rest) (hw : (rest.map fun v => v.category).sum ≤ 8) (hcs : cells ≤ R.cells ∧ slots ≤ R.slots)
    (hdg : decode cc pc = .ok (.invokevirtual index, 3))
    (kk : ∀ (r : Int32) (u : S) (H1 : Heap) (locs1 : List Loc), post r u → va_P G cl (xk_set ws isC (w1 u)) H1 → va_D A (xk_set ws isC (w1 u)) → va_S A H0 H1 locs1 → W p l e R s m args below meth c H1 locs1 cells slots Q (F0 m (pc + 3) ls (.int r :: rest))) : W p l e R s m args below meth c H locs cells slots Q (F0 m pc ls st) := by
  subst hst
  have hPc := xk_subP hP hC
  have hDc := hD.sub isC hnd hC
  have hFc := va_free (wc := wc) hD hS hA isC hC
  refine va_calli (va_runV (As := As) (rest := rest) (b := b) ⟨hx, hb, hml, hown, hts⟩ (hM H.size) (cwV k hts F.1 rfl hrm.1 hrm.2 ⟨rfl, F.2.1.1, F.2.1.2, F.2.2⟩ hR) ⟨xk_blind, va_recv hK hP hc he, fun U hU hW => xk_pre hK hPc hDc hU hW⟩ rfl hk hsz rfl (lv_room hw) hdg ⟨hcs.1, hcs.2⟩) hS (fun q _ h => hFc q h) hFc (fun r u t H1 locs1 ht hvm hp hB hz1 hk1 hS1 => ?_)
  have hP1 : va_P G cl (w1 u) H1 := by rw [← ht]; exact hB
  obtain ⟨hP2, hD2⟩ := xk_put hP hD isC hC (ha u) hk1 hP1
  exact kk r u H1 locs1 hp hP2 hD2 hS1
theorem xk_callVV {post : S → Prop} {w1 : S → va_W} (hx : p.tables.exec = Jvm.exec) (hb : c.code = cc) (hml : c.maxLocals = nL) (hts : ∀ w ∈ WS, w.before args s = true) (hown : s.vm.findClass own = some m.cls) (hK : va_K G cl tys s) (hA : ∀ q : Nat, H0.size ≤ q → A q) (hP : va_P G cl ws H) (hD : va_D A ws) (hS : va_S A H0 H locs)
    (hM : xk_CV l y bt n WS rm G cl tys (.ref b :: As) wc post w1) (F : xk_VF WS own index y bt n none k) (isC : List Nat) (hnd : va_nd isC = true) (hC : isC.map (fun i => ws[i]?) = wc.map some) (ha : ∀ u, (w1 u).map Prod.fst = wc.map Prod.fst)
    (q0 : Nat) (he : ws[q0]? = some (b, .inr (ci, fs))) (hc : cl[ci]? = some (y.cls, T, N)) (hrm : rm.cells = 0 ∧ rm.slots = 0) (hR : rm.frames + 1 ≤ R.frames ∧ 8 + (n + 11) + rm.locals ≤ R.locals) (hk : As.length = k) (hsz : ls.size = nL) (hst : st = As.reverse ++ .ref b :: rest) (hw : (rest.map fun v => v.category).sum ≤ 8) (hcs : cells ≤ R.cells ∧ slots ≤ R.slots)
    (hdg : decode cc pc = .ok (.invokevirtual index, 3))
    (kk : ∀ (u : S) (H1 : Heap) (locs1 : List Loc), post u → va_P G cl (xk_set ws isC (w1 u)) H1 → va_D A (xk_set ws isC (w1 u)) → va_S A H0 H1 locs1 → W p l e R s m args below meth c H1 locs1 cells slots Q (F0 m (pc + 3) ls rest)) : W p l e R s m args below meth c H locs cells slots Q (F0 m pc ls st) := by
  subst hst
  have hPc := xk_subP hP hC
  have hDc := hD.sub isC hnd hC
  have hFc := va_free (wc := wc) hD hS hA isC hC
  refine va_callv (va_runV (As := As) (rest := rest) (b := b) ⟨hx, hb, hml, hown, hts⟩ (hM H.size) (cwV k hts F.1 rfl hrm.1 hrm.2 ⟨rfl, F.2.1.1, F.2.1.2, F.2.2⟩ hR) ⟨xk_blind, va_recv hK hP hc he, fun U hU hW => xk_pre hK hPc hDc hU hW⟩ rfl hk hsz rfl (lv_room hw) hdg ⟨hcs.1, hcs.2⟩) hS (fun q _ h => hFc q h) hFc (fun u t H1 locs1 ht hvm hp hB hz1 hk1 hS1 => ?_)
  have hP1 : va_P G cl (w1 u) H1 := by rw [← ht]; exact hB
  obtain ⟨hP2, hD2⟩ := xk_put hP hD isC hC (ha u) hk1 hP1
  exact kk u H1 locs1 hp hP2 hD2 hS1
theorem xk_callVR {ra : Nat} (hx : p.tables.exec = Jvm.exec) (hb : c.code = cc) (hml : c.maxLocals = nL) (hts : ∀ w ∈ WS, w.before args s = true) (hown : s.vm.findClass own = some m.cls) (hK : va_K G cl tys s) (hA : ∀ q : Nat, H0.size ≤ q → A q) (hP : va_P G cl ws H) (hD : va_D A ws) (hS : va_S A H0 H locs)
    (hM : xk_CR l y bt n ret WS rm G cl tys (.ref b :: As) wc ra) (F : xk_VF WS own index y bt n (some ret) k) (isC : List Nat) (hnd : va_nd isC = true) (hC : isC.map (fun i => ws[i]?) = wc.map some)
    (q0 : Nat) (he : ws[q0]? = some (b, .inr (ci, fs))) (hc : cl[ci]? = some (y.cls, T, N)) (hrm : rm.cells = 0 ∧ rm.slots = 0) (hR : rm.frames + 1 ≤ R.frames ∧ 8 + (n + 11) + rm.locals ≤ R.locals) (hk : As.length = k) (hsz : ls.size = nL) (hst : st = As.reverse ++ .ref b :: rest) (hw : (rest.map fun v => v.category).sum ≤ 8) (hcs : cells ≤ R.cells ∧ slots ≤ R.slots)
    (hdg : decode cc pc = .ok (.invokevirtual index, 3))
    (kk : ∀ (H1 : Heap) (locs1 : List Loc), va_P G cl (xk_set ws isC wc) H1 → va_D A (xk_set ws isC wc) → va_S A H0 H1 locs1 → W p l e R s m args below meth c H1 locs1 cells slots Q (F0 m (pc + 3) ls (.ref ra :: rest))) : W p l e R s m args below meth c H locs cells slots Q (F0 m pc ls st) := by
  subst hst
  have hPc := xk_subP hP hC
  have hDc := hD.sub isC hnd hC
  have hFc := va_free (wc := wc) hD hS hA isC hC
  refine va_callr (va_runV (As := As) (rest := rest) (b := b) ⟨hx, hb, hml, hown, hts⟩ (hM H.size) (cwV k hts F.1 rfl hrm.1 hrm.2 ⟨rfl, F.2.1.1, F.2.1.2, F.2.2⟩ hR) ⟨xk_blind, va_recv hK hP hc he, fun U hU hW => xk_pre hK hPc hDc hU hW⟩ rfl hk hsz rfl (lv_room hw) hdg ⟨hcs.1, hcs.2⟩) hS (fun q _ h => hFc q h) hFc (fun u ra1 t H1 locs1 ht hvm hp hB hz1 hk1 hS1 => ?_)
  obtain ⟨rfl, hB⟩ := hB
  have hP1 : va_P G cl wc H1 := by rw [← ht]; exact hB
  obtain ⟨hP2, hD2⟩ := xk_put hP hD isC hC rfl hk1 hP1
  exact kk H1 locs1 hP2 hD2 hS1
theorem xk_callSI {post : Int32 → S → Prop} {w1 : S → va_W} (hx : p.tables.exec = Jvm.exec) (hb : c.code = cc) (hml : c.maxLocals = nL) (hts : ∀ w ∈ WS, w.before args s = true) (hown : s.vm.findClass own = some m.cls) (hK : va_K G cl tys s) (hA : ∀ q : Nat, H0.size ≤ q → A q) (hP : va_P G cl ws H) (hD : va_D A ws) (hS : va_S A H0 H locs)
    (hM : xk_CI l y bt n ret WS rm G cl tys As wc post w1) (F : xk_SF WS own index y bt n (some ret) k) (isC : List Nat) (hnd : va_nd isC = true) (hC : isC.map (fun i => ws[i]?) = wc.map some) (ha : ∀ u, (w1 u).map Prod.fst = wc.map Prod.fst)
    (hrm : rm.cells = 0 ∧ rm.slots = 0) (hR : rm.frames + 1 ≤ R.frames ∧ 8 + (n + 11) + rm.locals ≤ R.locals) (hk : As.length = k) (hsz : ls.size = nL) (hst : st = As.reverse ++ rest) (hw : (rest.map fun v => v.category).sum ≤ 8) (hcs : cells ≤ R.cells ∧ slots ≤ R.slots)
    (hdg : decode cc pc = .ok (.invokestatic index, 3))
    (kk : ∀ (r : Int32) (u : S) (H1 : Heap) (locs1 : List Loc), post r u → va_P G cl (xk_set ws isC (w1 u)) H1 → va_D A (xk_set ws isC (w1 u)) → va_S A H0 H1 locs1 → W p l e R s m args below meth c H1 locs1 cells slots Q (F0 m (pc + 3) ls (.int r :: rest))) : W p l e R s m args below meth c H locs cells slots Q (F0 m pc ls st) := by
  subst hst
  have hPc := xk_subP hP hC
  have hDc := hD.sub isC hnd hC
  have hFc := va_free (wc := wc) hD hS hA isC hC
  refine va_calli (va_runS (As := As) (rest := rest) ⟨hx, hb, hml, hown, hts⟩ (hM H.size) (cwS k hts F.1 rfl hrm.1 hrm.2 ⟨F.2.1, F.2.2.1.1, F.2.2.1.2, F.2.2.2⟩ hR) ⟨xk_blind, fun U hU hW => xk_pre hK hPc hDc hU hW⟩ rfl hk hsz rfl (lv_room hw) hdg ⟨hcs.1, hcs.2⟩) hS (fun q _ h => hFc q h) hFc (fun r u t H1 locs1 ht hvm hp hB hz1 hk1 hS1 => ?_)
  have hP1 : va_P G cl (w1 u) H1 := by rw [← ht]; exact hB
  obtain ⟨hP2, hD2⟩ := xk_put hP hD isC hC (ha u) hk1 hP1
  exact kk r u H1 locs1 hp hP2 hD2 hS1
theorem xk_callSV {post : S → Prop} {w1 : S → va_W} (hx : p.tables.exec = Jvm.exec) (hb : c.code = cc) (hml : c.maxLocals = nL) (hts : ∀ w ∈ WS, w.before args s = true) (hown : s.vm.findClass own = some m.cls) (hK : va_K G cl tys s) (hA : ∀ q : Nat, H0.size ≤ q → A q) (hP : va_P G cl ws H) (hD : va_D A ws) (hS : va_S A H0 H locs)
    (hM : xk_CV l y bt n WS rm G cl tys As wc post w1) (F : xk_SF WS own index y bt n none k) (isC : List Nat) (hnd : va_nd isC = true) (hC : isC.map (fun i => ws[i]?) = wc.map some) (ha : ∀ u, (w1 u).map Prod.fst = wc.map Prod.fst)
    (hrm : rm.cells = 0 ∧ rm.slots = 0) (hR : rm.frames + 1 ≤ R.frames ∧ 8 + (n + 11) + rm.locals ≤ R.locals) (hk : As.length = k) (hsz : ls.size = nL) (hst : st = As.reverse ++ rest) (hw : (rest.map fun v => v.category).sum ≤ 8) (hcs : cells ≤ R.cells ∧ slots ≤ R.slots)
    (hdg : decode cc pc = .ok (.invokestatic index, 3))
    (kk : ∀ (u : S) (H1 : Heap) (locs1 : List Loc), post u → va_P G cl (xk_set ws isC (w1 u)) H1 → va_D A (xk_set ws isC (w1 u)) → va_S A H0 H1 locs1 → W p l e R s m args below meth c H1 locs1 cells slots Q (F0 m (pc + 3) ls rest)) : W p l e R s m args below meth c H locs cells slots Q (F0 m pc ls st) := by
  subst hst
  have hPc := xk_subP hP hC
  have hDc := hD.sub isC hnd hC
  have hFc := va_free (wc := wc) hD hS hA isC hC
  refine va_callv (va_runS (As := As) (rest := rest) ⟨hx, hb, hml, hown, hts⟩ (hM H.size) (cwS k hts F.1 rfl hrm.1 hrm.2 ⟨F.2.1, F.2.2.1.1, F.2.2.1.2, F.2.2.2⟩ hR) ⟨xk_blind, fun U hU hW => xk_pre hK hPc hDc hU hW⟩ rfl hk hsz rfl (lv_room hw) hdg ⟨hcs.1, hcs.2⟩) hS (fun q _ h => hFc q h) hFc (fun u t H1 locs1 ht hvm hp hB hz1 hk1 hS1 => ?_)
  have hP1 : va_P G cl (w1 u) H1 := by rw [← ht]; exact hB
  obtain ⟨hP2, hD2⟩ := xk_put hP hD isC hC (ha u) hk1 hP1
  exact kk u H1 locs1 hp hP2 hD2 hS1
theorem xk_Dmap {w1 : va_W} (h : va_D A ws) (ha : w1.map Prod.fst = ws.map Prod.fst) : va_D A w1 := by
  have hat : ∀ (k : Nat) (q : Nat × va_E), w1[k]? = some q → ∃ q0, ws[k]? = some q0 ∧ q0.1 = q.1 := by
    intro k q hq
    have e2 : (w1.map Prod.fst)[k]? = (ws.map Prod.fst)[k]? := by rw [ha]
    rw [List.getElem?_map, List.getElem?_map, hq] at e2
    cases hw : ws[k]? with
    | none => rw [hw] at e2; cases e2
    | some q0 => rw [hw] at e2; exact ⟨q0, rfl, (Option.some.inj e2).symm⟩
  refine ⟨fun i j x y hx hy hxy => ?_, fun k q hq => ?_⟩
  · obtain ⟨x0, h1, h2⟩ := hat i x hx
    obtain ⟨y0, h3, h4⟩ := hat j y hy
    exact h.1 i j x0 y0 h1 h3 (by rw [h2, h4]; exact hxy)
  · obtain ⟨q0, h1, h2⟩ := hat k q hq
    rw [← h2]; exact h.2 k q0 h1
theorem xk_freeAll (hD : va_D A ws) (hS : va_S A H0 H locs) (hA : ∀ q : Nat, H0.size ≤ q → A q) : ∀ q, va_A ws H.size q → A q := by
  rintro q (⟨k, e, h⟩ | h)
  · exact hD.2 k (q, e) h
  · exact hA q (Nat.le_trans hS.1 h)
/-- a call that takes the whole world -/
theorem xk_allVI {post : Int32 → S → Prop} {w1 : S → va_W} (hx : p.tables.exec = Jvm.exec) (hb : c.code = cc) (hml : c.maxLocals = nL) (hts : ∀ w ∈ WS, w.before args s = true) (hown : s.vm.findClass own = some m.cls) (hK : va_K G cl tys s) (hA : ∀ q : Nat, H0.size ≤ q → A q) (hP : va_P G cl ws H) (hD : va_D A ws) (hS : va_S A H0 H locs)
    (hM : xk_CI l y bt n ret WS rm G cl tys (.ref b :: As) ws post w1) (F : xk_VF WS own index y bt n (some ret) k) (ha : ∀ u, (w1 u).map Prod.fst = ws.map Prod.fst)
    (q0 : Nat) (he : ws[q0]? = some (b, .inr (ci, fs))) (hc : cl[ci]? = some (y.cls, T, N)) (hrm : rm.cells = 0 ∧ rm.slots = 0) (hR : rm.frames + 1 ≤ R.frames ∧ 8 + (n + 11) + rm.locals ≤ R.locals) (hk : As.length = k) (hsz : ls.size = nL) (hst : st = As.reverse ++ .ref b :: rest) (hw : (rest.map fun v => v.category).sum ≤ 8) (hcs : cells ≤ R.cells ∧ slots ≤ R.slots)
    (hdg : decode cc pc = .ok (.invokevirtual index, 3))
    (kk : ∀ (r : Int32) (u : S) (H1 : Heap) (locs1 : List Loc), post r u → va_P G cl (w1 u) H1 → va_D A (w1 u) → va_S A H0 H1 locs1 → W p l e R s m args below meth c H1 locs1 cells slots Q (F0 m (pc + 3) ls (.int r :: rest))) : W p l e R s m args below meth c H locs cells slots Q (F0 m pc ls st) := by
  subst hst
  have hFc := xk_freeAll hD hS hA
  refine va_calli (va_runV (As := As) (rest := rest) (b := b) ⟨hx, hb, hml, hown, hts⟩ (hM H.size) (cwV k hts F.1 rfl hrm.1 hrm.2 ⟨rfl, F.2.1.1, F.2.1.2, F.2.2⟩ hR) ⟨xk_blind, va_recv hK hP hc he, fun U hU hW => xk_pre hK hP hD hU hW⟩ rfl hk hsz rfl (lv_room hw) hdg ⟨hcs.1, hcs.2⟩) hS (fun q _ h => hFc q h) hFc (fun r u t H1 locs1 ht hvm hp hB hz1 hk1 hS1 => ?_)
  exact kk r u H1 locs1 hp (by rw [← ht]; exact hB) (xk_Dmap hD (ha u)) hS1
theorem xk_allVV {post : S → Prop} {w1 : S → va_W} (hx : p.tables.exec = Jvm.exec) (hb : c.code = cc) (hml : c.maxLocals = nL) (hts : ∀ w ∈ WS, w.before args s = true) (hown : s.vm.findClass own = some m.cls) (hK : va_K G cl tys s) (hA : ∀ q : Nat, H0.size ≤ q → A q) (hP : va_P G cl ws H) (hD : va_D A ws) (hS : va_S A H0 H locs)
    (hM : xk_CV l y bt n WS rm G cl tys (.ref b :: As) ws post w1) (F : xk_VF WS own index y bt n none k) (ha : ∀ u, (w1 u).map Prod.fst = ws.map Prod.fst)
    (q0 : Nat) (he : ws[q0]? = some (b, .inr (ci, fs))) (hc : cl[ci]? = some (y.cls, T, N)) (hrm : rm.cells = 0 ∧ rm.slots = 0) (hR : rm.frames + 1 ≤ R.frames ∧ 8 + (n + 11) + rm.locals ≤ R.locals) (hk : As.length = k) (hsz : ls.size = nL) (hst : st = As.reverse ++ .ref b :: rest) (hw : (rest.map fun v => v.category).sum ≤ 8) (hcs : cells ≤ R.cells ∧ slots ≤ R.slots)
    (hdg : decode cc pc = .ok (.invokevirtual index, 3))
    (kk : ∀ (u : S) (H1 : Heap) (locs1 : List Loc), post u → va_P G cl (w1 u) H1 → va_D A (w1 u) → va_S A H0 H1 locs1 → W p l e R s m args below meth c H1 locs1 cells slots Q (F0 m (pc + 3) ls rest)) : W p l e R s m args below meth c H locs cells slots Q (F0 m pc ls st) := by
  subst hst
  have hFc := xk_freeAll hD hS hA
  refine va_callv (va_runV (As := As) (rest := rest) (b := b) ⟨hx, hb, hml, hown, hts⟩ (hM H.size) (cwV k hts F.1 rfl hrm.1 hrm.2 ⟨rfl, F.2.1.1, F.2.1.2, F.2.2⟩ hR) ⟨xk_blind, va_recv hK hP hc he, fun U hU hW => xk_pre hK hP hD hU hW⟩ rfl hk hsz rfl (lv_room hw) hdg ⟨hcs.1, hcs.2⟩) hS (fun q _ h => hFc q h) hFc (fun u t H1 locs1 ht hvm hp hB hz1 hk1 hS1 => ?_)
  exact kk u H1 locs1 hp (by rw [← ht]; exact hB) (xk_Dmap hD (ha u)) hS1
theorem xk_goodV {big : List Cond} (hg : big.all goodWord = true) (h1 : Cond.methodLink own index y ∈ big) (h2 : Cond.instanceMethod y ∈ big) (h3 : Cond.selects C y y ∈ big) (h4 : Cond.initialized C ∈ big) (h5 : Cond.code y bt n rt ∈ big) : GoodIn big (wsV own index C y (.code y bt n rt :: big)) := by
  have hw : ∀ w ∈ big, w ∈ big ∧ ((w.onTables && w.keeps) = true ∨ ∃ ty, w = .arrayClass ty) := fun w h => ⟨h, good_of_word (List.all_eq_true.mp hg w h)⟩
  intro w h
  unfold wsV at h
  rcases List.mem_append.mp h with h | h
  · simp only [List.mem_cons, List.not_mem_nil, or_false] at h
    rcases h with rfl | rfl | rfl | rfl
    · exact hw _ h1
    · exact hw _ h2
    · exact hw _ h3
    · exact hw _ h4
  · rcases List.mem_cons.mp h with rfl | h
    · exact hw _ h5
    · exact hw _ h
theorem xk_goodS {big : List Cond} (hg : big.all goodWord = true) (h1 : Cond.methodLink own index y ∈ big) (h2 : Cond.static y ∈ big) (h4 : Cond.initialized own ∈ big) (h5 : Cond.code y bt n rt ∈ big) : GoodIn big (wsS own index y (.code y bt n rt :: big)) := by
  have hw : ∀ w ∈ big, w ∈ big ∧ ((w.onTables && w.keeps) = true ∨ ∃ ty, w = .arrayClass ty) := fun w h => ⟨h, good_of_word (List.all_eq_true.mp hg w h)⟩
  intro w h
  unfold wsS at h
  rcases List.mem_append.mp h with h | h
  · simp only [List.mem_cons, List.not_mem_nil, or_false] at h
    rcases h with rfl | rfl | rfl
    · exact hw _ h1
    · exact hw _ h2
    · exact hw _ h4
  · rcases List.mem_cons.mp h with rfl | h
    · exact hw _ h5
    · exact hw _ h
end XKE
