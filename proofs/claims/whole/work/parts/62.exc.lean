abbrev xk_tx : List (Nat × String) := [(72, "a direction is 1 or -1"), (83, "the head has a pulse that is kept"), (132, "0 to 1000 ticks"), (139, "no such barrier"), (142, "a position is 0 to 100"), (147, "no such lamp"), (184, "the section is not disturbed"), (192, "someone else has to have asked"), (210, "of a section there is 0 to 3"), (248, "there is 0 to 10 to be asked about"), (253, "no such event is kept"), (264, "of an event there is 0 to 2"), (266, "no such track"), (268, "no such section"), (270, "no such head"), (272, "persons are counted from 1")]
def xk_sI (C : String) : MethodName := ⟨C, "<init>", "(Ljava/lang/String;)V"⟩
abbrev xk_ex : List String × List MethodName := (["java/util/NoSuchElementException", "java/lang/IllegalArgumentException", "java/lang/IllegalStateException"], [Bundle.initS "java/lang/RuntimeException", Bundle.initS "java/lang/Exception", Bundle.initS "java/lang/Throwable"])
def xt_r0 : Room := { frames := 6, cells := 1, slots := 6, locals := 100 }
def xt_r1 : Room := { frames := 7, cells := 1, slots := 6, locals := 136 }
def xt_r2 : Room := { frames := 8, cells := 1, slots := 6, locals := 172 }
def xt_r3 : Room := { frames := 9, cells := 1, slots := 6, locals := 208 }
theorem xbNS_0 : decode prog_18_method_4_code 0 = .ok (.aload_n 0, 1) := by decide +kernel
theorem xbNS_1 : decode prog_18_method_4_code 1 = .ok (.aload_n 1, 1) := by decide +kernel
theorem xbNS_2 : decode prog_18_method_4_code 2 = .ok (.invokespecial 13, 3) := by decide +kernel
theorem xbNS_5 : decode prog_18_method_4_code 5 = .ok (.return_, 1) := by decide +kernel
set_option maxRecDepth 100000 in
theorem xcNS : (xt_atoms RzU 141 "java/util/NoSuchElementException" "java/lang/RuntimeException" ["java/lang/Exception"] 13 prog_18_method_4_code).all (fun w => decide (w ∈ xk_TW) || decide (w ∈ xt_rest "java/util/NoSuchElementException" xk_ex.2)) = true := by decide +kernel
theorem xaNS {args : Array Value} {s : State} (hts : ∀ w ∈ xk_WS, w.before args s = true) : ∀ w ∈ xt_atoms RzU 141 "java/util/NoSuchElementException" "java/lang/RuntimeException" ["java/lang/Exception"] 13 prog_18_method_4_code, (goodWord w = true ∧ w.before args s = true) ∨ w ∈ xt_rest "java/util/NoSuchElementException" xk_ex.2 := by
  intro w hw
  have h1 := List.all_eq_true.mp xcNS w hw
  simp only [Bool.or_eq_true, decide_eq_true_eq] at h1
  rcases h1 with h1 | h1
  · exact Or.inl ⟨List.all_eq_true.mp gWS w (xk_inT w h1), hts w (xk_inT w h1)⟩
  · exact Or.inr h1
theorem xbIA_0 : decode prog_12_method_2_code 0 = .ok (.aload_n 0, 1) := by decide +kernel
theorem xbIA_1 : decode prog_12_method_2_code 1 = .ok (.aload_n 1, 1) := by decide +kernel
theorem xbIA_2 : decode prog_12_method_2_code 2 = .ok (.invokespecial 7, 3) := by decide +kernel
theorem xbIA_5 : decode prog_12_method_2_code 5 = .ok (.return_, 1) := by decide +kernel
set_option maxRecDepth 100000 in
theorem xcIA : (xt_atoms RzU 74 "java/lang/IllegalArgumentException" "java/lang/RuntimeException" ["java/lang/Exception"] 7 prog_12_method_2_code).all (fun w => decide (w ∈ xk_TW) || decide (w ∈ xt_rest "java/lang/IllegalArgumentException" xk_ex.2)) = true := by decide +kernel
theorem xaIA {args : Array Value} {s : State} (hts : ∀ w ∈ xk_WS, w.before args s = true) : ∀ w ∈ xt_atoms RzU 74 "java/lang/IllegalArgumentException" "java/lang/RuntimeException" ["java/lang/Exception"] 7 prog_12_method_2_code, (goodWord w = true ∧ w.before args s = true) ∨ w ∈ xt_rest "java/lang/IllegalArgumentException" xk_ex.2 := by
  intro w hw
  have h1 := List.all_eq_true.mp xcIA w hw
  simp only [Bool.or_eq_true, decide_eq_true_eq] at h1
  rcases h1 with h1 | h1
  · exact Or.inl ⟨List.all_eq_true.mp gWS w (xk_inT w h1), hts w (xk_inT w h1)⟩
  · exact Or.inr h1
theorem xbIS_0 : decode prog_13_method_2_code 0 = .ok (.aload_n 0, 1) := by decide +kernel
theorem xbIS_1 : decode prog_13_method_2_code 1 = .ok (.aload_n 1, 1) := by decide +kernel
theorem xbIS_2 : decode prog_13_method_2_code 2 = .ok (.invokespecial 7, 3) := by decide +kernel
theorem xbIS_5 : decode prog_13_method_2_code 5 = .ok (.return_, 1) := by decide +kernel
set_option maxRecDepth 100000 in
theorem xcIS : (xt_atoms RzU 85 "java/lang/IllegalStateException" "java/lang/RuntimeException" ["java/lang/Exception"] 7 prog_13_method_2_code).all (fun w => decide (w ∈ xk_TW) || decide (w ∈ xt_rest "java/lang/IllegalStateException" xk_ex.2)) = true := by decide +kernel
theorem xaIS {args : Array Value} {s : State} (hts : ∀ w ∈ xk_WS, w.before args s = true) : ∀ w ∈ xt_atoms RzU 85 "java/lang/IllegalStateException" "java/lang/RuntimeException" ["java/lang/Exception"] 7 prog_13_method_2_code, (goodWord w = true ∧ w.before args s = true) ∨ w ∈ xt_rest "java/lang/IllegalStateException" xk_ex.2 := by
  intro w hw
  have h1 := List.all_eq_true.mp xcIS w hw
  simp only [Bool.or_eq_true, decide_eq_true_eq] at h1
  rcases h1 with h1 | h1
  · exact Or.inl ⟨List.all_eq_true.mp gWS w (xk_inT w h1), hts w (xk_inT w h1)⟩
  · exact Or.inr h1
theorem xk_sw {x n : Int32} {k : Int} (h : x < 0 ∨ n < x) (hn : n.toInt = k) : x.toInt < 0 ∨ k < x.toInt := by
  rcases h with h | h
  · exact Or.inl (Int32.lt_iff_toInt_lt.mp h)
  · exact Or.inr (by rw [← hn]; exact Int32.lt_iff_toInt_lt.mp h)
