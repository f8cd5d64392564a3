-- ===== PART A: goes FIRST, ahead of the names: the tables' words, and 'selects' of the private methods out of them =====
/-- a private method of a class that the tables say can be made, by its rows of tables_1 -/
def lw_okq (q : MethodName × Nat) : Prop := (q.1.cls ≠ "java/lang/invoke/MethodHandle" ∧ q.1.cls ≠ "java/lang/invoke/VarHandle") ∧ Cond.instantiable q.1.cls q.2 ∈ tables_1 ∧ Cond.privateMethod q.1 ∈ tables_1 ∧ Cond.instanceMethod q.1 ∈ tables_1
theorem lw_p0 : lw_okq (⟨"CrossingUnit", "rememberBalances", "()V"⟩, 10) := ⟨⟨by decide +kernel, by decide +kernel⟩, List.mem_of_getElem? (i := 18) (by decide +kernel), List.mem_of_getElem? (i := 253) (by decide +kernel), List.mem_of_getElem? (i := 254) (by decide +kernel)⟩
theorem lw_p1 : lw_okq (⟨"CrossingUnit", "countPulses", "()V"⟩, 10) := ⟨⟨by decide +kernel, by decide +kernel⟩, List.mem_of_getElem? (i := 18) (by decide +kernel), List.mem_of_getElem? (i := 261) (by decide +kernel), List.mem_of_getElem? (i := 262) (by decide +kernel)⟩
theorem lw_p2 : lw_okq (⟨"CrossingUnit", "countAxle", "(LCrossingUnit$Track;II)V"⟩, 10) := ⟨⟨by decide +kernel, by decide +kernel⟩, List.mem_of_getElem? (i := 18) (by decide +kernel), List.mem_of_getElem? (i := 269) (by decide +kernel), List.mem_of_getElem? (i := 270) (by decide +kernel)⟩
theorem lw_p3 : lw_okq (⟨"CrossingUnit", "disturbIfMiscounted", "(LCrossingUnit$Section;)V"⟩, 10) := ⟨⟨by decide +kernel, by decide +kernel⟩, List.mem_of_getElem? (i := 18) (by decide +kernel), List.mem_of_getElem? (i := 277) (by decide +kernel), List.mem_of_getElem? (i := 278) (by decide +kernel)⟩
theorem lw_p4 : lw_okq (⟨"CrossingUnit", "disturb", "(LCrossingUnit$Section;)V"⟩, 10) := ⟨⟨by decide +kernel, by decide +kernel⟩, List.mem_of_getElem? (i := 18) (by decide +kernel), List.mem_of_getElem? (i := 281) (by decide +kernel), List.mem_of_getElem? (i := 282) (by decide +kernel)⟩
theorem lw_p5 : lw_okq (⟨"CrossingUnit", "followComings", "()V"⟩, 10) := ⟨⟨by decide +kernel, by decide +kernel⟩, List.mem_of_getElem? (i := 18) (by decide +kernel), List.mem_of_getElem? (i := 293) (by decide +kernel), List.mem_of_getElem? (i := 294) (by decide +kernel)⟩
theorem lw_p6 : lw_okq (⟨"CrossingUnit", "useUpOrders", "()V"⟩, 10) := ⟨⟨by decide +kernel, by decide +kernel⟩, List.mem_of_getElem? (i := 18) (by decide +kernel), List.mem_of_getElem? (i := 304) (by decide +kernel), List.mem_of_getElem? (i := 305) (by decide +kernel)⟩
theorem lw_p7 : lw_okq (⟨"CrossingUnit", "watchLamps", "()V"⟩, 10) := ⟨⟨by decide +kernel, by decide +kernel⟩, List.mem_of_getElem? (i := 18) (by decide +kernel), List.mem_of_getElem? (i := 308) (by decide +kernel), List.mem_of_getElem? (i := 309) (by decide +kernel)⟩
theorem lw_p8 : lw_okq (⟨"CrossingUnit", "watchBarriers", "()V"⟩, 10) := ⟨⟨by decide +kernel, by decide +kernel⟩, List.mem_of_getElem? (i := 18) (by decide +kernel), List.mem_of_getElem? (i := 316) (by decide +kernel), List.mem_of_getElem? (i := 317) (by decide +kernel)⟩
theorem lw_p9 : lw_okq (⟨"CrossingUnit", "moveRoad", "()V"⟩, 10) := ⟨⟨by decide +kernel, by decide +kernel⟩, List.mem_of_getElem? (i := 18) (by decide +kernel), List.mem_of_getElem? (i := 324) (by decide +kernel), List.mem_of_getElem? (i := 325) (by decide +kernel)⟩
theorem lw_p10 : lw_okq (⟨"CrossingUnit", "isDemanded", "()Z"⟩, 10) := ⟨⟨by decide +kernel, by decide +kernel⟩, List.mem_of_getElem? (i := 18) (by decide +kernel), List.mem_of_getElem? (i := 328) (by decide +kernel), List.mem_of_getElem? (i := 329) (by decide +kernel)⟩
theorem lw_p11 : lw_okq (⟨"CrossingUnit", "isUp", "()Z"⟩, 10) := ⟨⟨by decide +kernel, by decide +kernel⟩, List.mem_of_getElem? (i := 18) (by decide +kernel), List.mem_of_getElem? (i := 340) (by decide +kernel), List.mem_of_getElem? (i := 341) (by decide +kernel)⟩
theorem lw_p12 : lw_okq (⟨"CrossingUnit$Road", "stepToCome", "(ZZZ)I"⟩, 3) := ⟨⟨by decide +kernel, by decide +kernel⟩, List.mem_of_getElem? (i := 32) (by decide +kernel), List.mem_of_getElem? (i := 348) (by decide +kernel), List.mem_of_getElem? (i := 349) (by decide +kernel)⟩
theorem lw_p13 : lw_okq (⟨"CrossingUnit", "driveMotors", "()V"⟩, 10) := ⟨⟨by decide +kernel, by decide +kernel⟩, List.mem_of_getElem? (i := 18) (by decide +kernel), List.mem_of_getElem? (i := 352) (by decide +kernel), List.mem_of_getElem? (i := 353) (by decide +kernel)⟩
theorem lw_p14 : lw_okq (⟨"CrossingUnit", "lightLamps", "()V"⟩, 10) := ⟨⟨by decide +kernel, by decide +kernel⟩, List.mem_of_getElem? (i := 18) (by decide +kernel), List.mem_of_getElem? (i := 360) (by decide +kernel), List.mem_of_getElem? (i := 361) (by decide +kernel)⟩
theorem lw_p15 : lw_okq (⟨"CrossingUnit", "bellIsDue", "()Z"⟩, 10) := ⟨⟨by decide +kernel, by decide +kernel⟩, List.mem_of_getElem? (i := 18) (by decide +kernel), List.mem_of_getElem? (i := 367) (by decide +kernel), List.mem_of_getElem? (i := 368) (by decide +kernel)⟩
def lw_privs_1 : List (MethodName × Nat) := [(⟨"CrossingUnit", "rememberBalances", "()V"⟩, 10), (⟨"CrossingUnit", "countPulses", "()V"⟩, 10), (⟨"CrossingUnit", "countAxle", "(LCrossingUnit$Track;II)V"⟩, 10), (⟨"CrossingUnit", "disturbIfMiscounted", "(LCrossingUnit$Section;)V"⟩, 10), (⟨"CrossingUnit", "disturb", "(LCrossingUnit$Section;)V"⟩, 10), (⟨"CrossingUnit", "followComings", "()V"⟩, 10), (⟨"CrossingUnit", "useUpOrders", "()V"⟩, 10), (⟨"CrossingUnit", "watchLamps", "()V"⟩, 10), (⟨"CrossingUnit", "watchBarriers", "()V"⟩, 10), (⟨"CrossingUnit", "moveRoad", "()V"⟩, 10), (⟨"CrossingUnit", "isDemanded", "()Z"⟩, 10), (⟨"CrossingUnit", "isUp", "()Z"⟩, 10), (⟨"CrossingUnit$Road", "stepToCome", "(ZZZ)I"⟩, 3), (⟨"CrossingUnit", "driveMotors", "()V"⟩, 10), (⟨"CrossingUnit", "lightLamps", "()V"⟩, 10), (⟨"CrossingUnit", "bellIsDue", "()Z"⟩, 10)]
theorem lw_r1 : ∀ q ∈ lw_privs_1, lw_okq q := List.forall_mem_cons.mpr ⟨lw_p0, List.forall_mem_cons.mpr ⟨lw_p1, List.forall_mem_cons.mpr ⟨lw_p2, List.forall_mem_cons.mpr ⟨lw_p3, List.forall_mem_cons.mpr ⟨lw_p4, List.forall_mem_cons.mpr ⟨lw_p5, List.forall_mem_cons.mpr ⟨lw_p6, List.forall_mem_cons.mpr ⟨lw_p7, List.forall_mem_cons.mpr ⟨lw_p8, List.forall_mem_cons.mpr ⟨lw_p9, List.forall_mem_cons.mpr ⟨lw_p10, List.forall_mem_cons.mpr ⟨lw_p11, List.forall_mem_cons.mpr ⟨lw_p12, List.forall_mem_cons.mpr ⟨lw_p13, List.forall_mem_cons.mpr ⟨lw_p14, List.forall_mem_cons.mpr ⟨lw_p15, fun _ h => absurd h List.not_mem_nil⟩⟩⟩⟩⟩⟩⟩⟩⟩⟩⟩⟩⟩⟩⟩⟩
theorem lw_p16 : lw_okq (⟨"CrossingUnit", "setSignals", "()V"⟩, 10) := ⟨⟨by decide +kernel, by decide +kernel⟩, List.mem_of_getElem? (i := 18) (by decide +kernel), List.mem_of_getElem? (i := 371) (by decide +kernel), List.mem_of_getElem? (i := 372) (by decide +kernel)⟩
theorem lw_p17 : lw_okq (⟨"CrossingUnit", "signalIsDue", "(LCrossingUnit$Track;)Z"⟩, 10) := ⟨⟨by decide +kernel, by decide +kernel⟩, List.mem_of_getElem? (i := 18) (by decide +kernel), List.mem_of_getElem? (i := 375) (by decide +kernel), List.mem_of_getElem? (i := 376) (by decide +kernel)⟩
theorem lw_p18 : lw_okq (⟨"CrossingUnit", "gatherOutput", "()I"⟩, 10) := ⟨⟨by decide +kernel, by decide +kernel⟩, List.mem_of_getElem? (i := 18) (by decide +kernel), List.mem_of_getElem? (i := 384) (by decide +kernel), List.mem_of_getElem? (i := 385) (by decide +kernel)⟩
theorem lw_p19 : lw_okq (⟨"CrossingUnit", "findTrack", "(I)LCrossingUnit$Track;"⟩, 10) := ⟨⟨by decide +kernel, by decide +kernel⟩, List.mem_of_getElem? (i := 18) (by decide +kernel), List.mem_of_getElem? (i := 402) (by decide +kernel), List.mem_of_getElem? (i := 403) (by decide +kernel)⟩
theorem lw_p20 : lw_okq (⟨"java/lang/Throwable", "fillInStackTrace", "(I)Ljava/lang/Throwable;"⟩, 6) := ⟨⟨by decide +kernel, by decide +kernel⟩, List.mem_of_getElem? (i := 444) (by decide +kernel), List.mem_of_getElem? (i := 442) (by decide +kernel), List.mem_of_getElem? (i := 443) (by decide +kernel)⟩
theorem lw_p21 : lw_okq (⟨"CrossingUnit", "disturbIfThere", "(LCrossingUnit$Track;I)V"⟩, 10) := ⟨⟨by decide +kernel, by decide +kernel⟩, List.mem_of_getElem? (i := 18) (by decide +kernel), List.mem_of_getElem? (i := 517) (by decide +kernel), List.mem_of_getElem? (i := 518) (by decide +kernel)⟩
theorem lw_p22 : lw_okq (⟨"CrossingUnit", "isAlarmed", "()Z"⟩, 10) := ⟨⟨by decide +kernel, by decide +kernel⟩, List.mem_of_getElem? (i := 18) (by decide +kernel), List.mem_of_getElem? (i := 554) (by decide +kernel), List.mem_of_getElem? (i := 555) (by decide +kernel)⟩
theorem lw_p23 : lw_okq (⟨"CrossingUnit", "findSection", "(II)LCrossingUnit$Section;"⟩, 10) := ⟨⟨by decide +kernel, by decide +kernel⟩, List.mem_of_getElem? (i := 18) (by decide +kernel), List.mem_of_getElem? (i := 572) (by decide +kernel), List.mem_of_getElem? (i := 573) (by decide +kernel)⟩
theorem lw_p24 : lw_okq (⟨"CrossingUnit", "deadLamps", "()I"⟩, 10) := ⟨⟨by decide +kernel, by decide +kernel⟩, List.mem_of_getElem? (i := 18) (by decide +kernel), List.mem_of_getElem? (i := 634) (by decide +kernel), List.mem_of_getElem? (i := 635) (by decide +kernel)⟩
theorem lw_p25 : lw_okq (⟨"CrossingUnit", "standingOrders", "()I"⟩, 10) := ⟨⟨by decide +kernel, by decide +kernel⟩, List.mem_of_getElem? (i := 18) (by decide +kernel), List.mem_of_getElem? (i := 638) (by decide +kernel), List.mem_of_getElem? (i := 639) (by decide +kernel)⟩
theorem lw_p26 : lw_okq (⟨"CrossingUnitModel", "goes", "(ZZZ)Z"⟩, 35) := ⟨⟨by decide +kernel, by decide +kernel⟩, List.mem_of_getElem? (i := 656) (by decide +kernel), List.mem_of_getElem? (i := 782) (by decide +kernel), List.mem_of_getElem? (i := 783) (by decide +kernel)⟩
theorem lw_p27 : lw_okq (⟨"CrossingUnitModel", "disturb", "(I)V"⟩, 35) := ⟨⟨by decide +kernel, by decide +kernel⟩, List.mem_of_getElem? (i := 656) (by decide +kernel), List.mem_of_getElem? (i := 790) (by decide +kernel), List.mem_of_getElem? (i := 791) (by decide +kernel)⟩
theorem lw_p28 : lw_okq (⟨"CrossingUnitModel", "note", "(II)V"⟩, 35) := ⟨⟨by decide +kernel, by decide +kernel⟩, List.mem_of_getElem? (i := 656) (by decide +kernel), List.mem_of_getElem? (i := 794) (by decide +kernel), List.mem_of_getElem? (i := 795) (by decide +kernel)⟩
theorem lw_p29 : lw_okq (⟨"CrossingUnitModel", "anyDisturbed", "(I)Z"⟩, 35) := ⟨⟨by decide +kernel, by decide +kernel⟩, List.mem_of_getElem? (i := 656) (by decide +kernel), List.mem_of_getElem? (i := 814) (by decide +kernel), List.mem_of_getElem? (i := 815) (by decide +kernel)⟩
theorem lw_p30 : lw_okq (⟨"CrossingUnitModel", "isFree", "(I)Z"⟩, 35) := ⟨⟨by decide +kernel, by decide +kernel⟩, List.mem_of_getElem? (i := 656) (by decide +kernel), List.mem_of_getElem? (i := 818) (by decide +kernel), List.mem_of_getElem? (i := 819) (by decide +kernel)⟩
theorem lw_p31 : lw_okq (⟨"CrossingUnitModel", "swept", "(I)Z"⟩, 35) := ⟨⟨by decide +kernel, by decide +kernel⟩, List.mem_of_getElem? (i := 656) (by decide +kernel), List.mem_of_getElem? (i := 837) (by decide +kernel), List.mem_of_getElem? (i := 838) (by decide +kernel)⟩
def lw_privs_2 : List (MethodName × Nat) := [(⟨"CrossingUnit", "setSignals", "()V"⟩, 10), (⟨"CrossingUnit", "signalIsDue", "(LCrossingUnit$Track;)Z"⟩, 10), (⟨"CrossingUnit", "gatherOutput", "()I"⟩, 10), (⟨"CrossingUnit", "findTrack", "(I)LCrossingUnit$Track;"⟩, 10), (⟨"java/lang/Throwable", "fillInStackTrace", "(I)Ljava/lang/Throwable;"⟩, 6), (⟨"CrossingUnit", "disturbIfThere", "(LCrossingUnit$Track;I)V"⟩, 10), (⟨"CrossingUnit", "isAlarmed", "()Z"⟩, 10), (⟨"CrossingUnit", "findSection", "(II)LCrossingUnit$Section;"⟩, 10), (⟨"CrossingUnit", "deadLamps", "()I"⟩, 10), (⟨"CrossingUnit", "standingOrders", "()I"⟩, 10), (⟨"CrossingUnitModel", "goes", "(ZZZ)Z"⟩, 35), (⟨"CrossingUnitModel", "disturb", "(I)V"⟩, 35), (⟨"CrossingUnitModel", "note", "(II)V"⟩, 35), (⟨"CrossingUnitModel", "anyDisturbed", "(I)Z"⟩, 35), (⟨"CrossingUnitModel", "isFree", "(I)Z"⟩, 35), (⟨"CrossingUnitModel", "swept", "(I)Z"⟩, 35)]
theorem lw_r2 : ∀ q ∈ lw_privs_2, lw_okq q := List.forall_mem_cons.mpr ⟨lw_p16, List.forall_mem_cons.mpr ⟨lw_p17, List.forall_mem_cons.mpr ⟨lw_p18, List.forall_mem_cons.mpr ⟨lw_p19, List.forall_mem_cons.mpr ⟨lw_p20, List.forall_mem_cons.mpr ⟨lw_p21, List.forall_mem_cons.mpr ⟨lw_p22, List.forall_mem_cons.mpr ⟨lw_p23, List.forall_mem_cons.mpr ⟨lw_p24, List.forall_mem_cons.mpr ⟨lw_p25, List.forall_mem_cons.mpr ⟨lw_p26, List.forall_mem_cons.mpr ⟨lw_p27, List.forall_mem_cons.mpr ⟨lw_p28, List.forall_mem_cons.mpr ⟨lw_p29, List.forall_mem_cons.mpr ⟨lw_p30, List.forall_mem_cons.mpr ⟨lw_p31, fun _ h => absurd h List.not_mem_nil⟩⟩⟩⟩⟩⟩⟩⟩⟩⟩⟩⟩⟩⟩⟩⟩
theorem lw_p32 : lw_okq (⟨"CrossingUnitModel", "oneTick", "()V"⟩, 35) := ⟨⟨by decide +kernel, by decide +kernel⟩, List.mem_of_getElem? (i := 656) (by decide +kernel), List.mem_of_getElem? (i := 845) (by decide +kernel), List.mem_of_getElem? (i := 846) (by decide +kernel)⟩
theorem lw_p33 : lw_okq (⟨"CrossingUnitModel", "allPulses", "()V"⟩, 35) := ⟨⟨by decide +kernel, by decide +kernel⟩, List.mem_of_getElem? (i := 656) (by decide +kernel), List.mem_of_getElem? (i := 849) (by decide +kernel), List.mem_of_getElem? (i := 850) (by decide +kernel)⟩
theorem lw_p34 : lw_okq (⟨"CrossingUnitModel", "counts", "(III)V"⟩, 35) := ⟨⟨by decide +kernel, by decide +kernel⟩, List.mem_of_getElem? (i := 656) (by decide +kernel), List.mem_of_getElem? (i := 853) (by decide +kernel), List.mem_of_getElem? (i := 854) (by decide +kernel)⟩
theorem lw_p35 : lw_okq (⟨"CrossingUnitModel", "change", "(II)V"⟩, 35) := ⟨⟨by decide +kernel, by decide +kernel⟩, List.mem_of_getElem? (i := 656) (by decide +kernel), List.mem_of_getElem? (i := 857) (by decide +kernel), List.mem_of_getElem? (i := 858) (by decide +kernel)⟩
theorem lw_p36 : lw_okq (⟨"CrossingUnitModel", "allComings", "()V"⟩, 35) := ⟨⟨by decide +kernel, by decide +kernel⟩, List.mem_of_getElem? (i := 656) (by decide +kernel), List.mem_of_getElem? (i := 861) (by decide +kernel), List.mem_of_getElem? (i := 862) (by decide +kernel)⟩
theorem lw_p37 : lw_okq (⟨"CrossingUnitModel", "useOrders", "()V"⟩, 35) := ⟨⟨by decide +kernel, by decide +kernel⟩, List.mem_of_getElem? (i := 656) (by decide +kernel), List.mem_of_getElem? (i := 865) (by decide +kernel), List.mem_of_getElem? (i := 866) (by decide +kernel)⟩
theorem lw_p38 : lw_okq (⟨"CrossingUnitModel", "watchLamps", "()V"⟩, 35) := ⟨⟨by decide +kernel, by decide +kernel⟩, List.mem_of_getElem? (i := 656) (by decide +kernel), List.mem_of_getElem? (i := 869) (by decide +kernel), List.mem_of_getElem? (i := 870) (by decide +kernel)⟩
theorem lw_p39 : lw_okq (⟨"CrossingUnitModel", "watchBarriers", "()V"⟩, 35) := ⟨⟨by decide +kernel, by decide +kernel⟩, List.mem_of_getElem? (i := 656) (by decide +kernel), List.mem_of_getElem? (i := 873) (by decide +kernel), List.mem_of_getElem? (i := 874) (by decide +kernel)⟩
theorem lw_p40 : lw_okq (⟨"CrossingUnitModel", "goOn", "()V"⟩, 35) := ⟨⟨by decide +kernel, by decide +kernel⟩, List.mem_of_getElem? (i := 656) (by decide +kernel), List.mem_of_getElem? (i := 877) (by decide +kernel), List.mem_of_getElem? (i := 878) (by decide +kernel)⟩
theorem lw_p41 : lw_okq (⟨"CrossingUnitModel", "demand", "()Z"⟩, 35) := ⟨⟨by decide +kernel, by decide +kernel⟩, List.mem_of_getElem? (i := 656) (by decide +kernel), List.mem_of_getElem? (i := 881) (by decide +kernel), List.mem_of_getElem? (i := 882) (by decide +kernel)⟩
theorem lw_p42 : lw_okq (⟨"CrossingUnitModel", "isProved", "()Z"⟩, 35) := ⟨⟨by decide +kernel, by decide +kernel⟩, List.mem_of_getElem? (i := 656) (by decide +kernel), List.mem_of_getElem? (i := 885) (by decide +kernel), List.mem_of_getElem? (i := 886) (by decide +kernel)⟩
theorem lw_p43 : lw_okq (⟨"CrossingUnitModel", "drive", "()V"⟩, 35) := ⟨⟨by decide +kernel, by decide +kernel⟩, List.mem_of_getElem? (i := 656) (by decide +kernel), List.mem_of_getElem? (i := 889) (by decide +kernel), List.mem_of_getElem? (i := 890) (by decide +kernel)⟩
theorem lw_p44 : lw_okq (⟨"CrossingUnitModel", "signal", "()V"⟩, 35) := ⟨⟨by decide +kernel, by decide +kernel⟩, List.mem_of_getElem? (i := 656) (by decide +kernel), List.mem_of_getElem? (i := 893) (by decide +kernel), List.mem_of_getElem? (i := 894) (by decide +kernel)⟩
theorem lw_p45 : lw_okq (⟨"CrossingUnitModel", "output", "()I"⟩, 35) := ⟨⟨by decide +kernel, by decide +kernel⟩, List.mem_of_getElem? (i := 656) (by decide +kernel), List.mem_of_getElem? (i := 897) (by decide +kernel), List.mem_of_getElem? (i := 898) (by decide +kernel)⟩
def lw_privs_3 : List (MethodName × Nat) := [(⟨"CrossingUnitModel", "oneTick", "()V"⟩, 35), (⟨"CrossingUnitModel", "allPulses", "()V"⟩, 35), (⟨"CrossingUnitModel", "counts", "(III)V"⟩, 35), (⟨"CrossingUnitModel", "change", "(II)V"⟩, 35), (⟨"CrossingUnitModel", "allComings", "()V"⟩, 35), (⟨"CrossingUnitModel", "useOrders", "()V"⟩, 35), (⟨"CrossingUnitModel", "watchLamps", "()V"⟩, 35), (⟨"CrossingUnitModel", "watchBarriers", "()V"⟩, 35), (⟨"CrossingUnitModel", "goOn", "()V"⟩, 35), (⟨"CrossingUnitModel", "demand", "()Z"⟩, 35), (⟨"CrossingUnitModel", "isProved", "()Z"⟩, 35), (⟨"CrossingUnitModel", "drive", "()V"⟩, 35), (⟨"CrossingUnitModel", "signal", "()V"⟩, 35), (⟨"CrossingUnitModel", "output", "()I"⟩, 35)]
theorem lw_r3 : ∀ q ∈ lw_privs_3, lw_okq q := List.forall_mem_cons.mpr ⟨lw_p32, List.forall_mem_cons.mpr ⟨lw_p33, List.forall_mem_cons.mpr ⟨lw_p34, List.forall_mem_cons.mpr ⟨lw_p35, List.forall_mem_cons.mpr ⟨lw_p36, List.forall_mem_cons.mpr ⟨lw_p37, List.forall_mem_cons.mpr ⟨lw_p38, List.forall_mem_cons.mpr ⟨lw_p39, List.forall_mem_cons.mpr ⟨lw_p40, List.forall_mem_cons.mpr ⟨lw_p41, List.forall_mem_cons.mpr ⟨lw_p42, List.forall_mem_cons.mpr ⟨lw_p43, List.forall_mem_cons.mpr ⟨lw_p44, List.forall_mem_cons.mpr ⟨lw_p45, fun _ h => absurd h List.not_mem_nil⟩⟩⟩⟩⟩⟩⟩⟩⟩⟩⟩⟩⟩⟩
def lw_privs : List (MethodName × Nat) := lw_privs_1 ++ (lw_privs_2 ++ (lw_privs_3))
def lw_tbl : List Cond := k2_sels lw_privs ++ tables_1
theorem lw_privs_ok : ∀ q ∈ lw_privs, lw_okq q := by
  show ∀ q ∈ lw_privs_1 ++ (lw_privs_2 ++ (lw_privs_3)), lw_okq q
  exact List.forall_mem_append.mpr ⟨lw_r1, List.forall_mem_append.mpr ⟨lw_r2, lw_r3⟩⟩
def RzU : String := "CrossingUnit"
def TzU : u_T := fun k => match k with
  | 0 => ("CrossingUnit", "tracks", "[LCrossingUnit$Track;", true)
  | 1 => ("CrossingUnit", "barriers", "[LCrossingUnit$Barrier;", true)
  | 2 => ("CrossingUnit", "lamps", "[LCrossingUnit$Lamp;", true)
  | 3 => ("CrossingUnit", "road", "LCrossingUnit$Road;", true)
  | 4 => ("CrossingUnit", "journal", "LCrossingUnit$Journal;", true)
  | 5 => ("CrossingUnit", "time", "I", false)
  | 6 => ("CrossingUnit", "output", "I", false)
  | 7 => ("CrossingUnit", "atNight", "Z", false)
  | 8 => ("CrossingUnit", "bellRings", "Z", false)
  | _ => ("CrossingUnit", "proved", "Z", false)
def tyzU : Nat → FieldType := fun k => match k with
  | 0 => .array (.object "CrossingUnit$Track")
  | 1 => .array (.object "CrossingUnit$Barrier")
  | 2 => .array (.object "CrossingUnit$Lamp")
  | 3 => .object "CrossingUnit$Road"
  | 4 => .object "CrossingUnit$Journal"
  | 5 => .int
  | 6 => .int
  | 7 => .boolean
  | 8 => .boolean
  | _ => .boolean
theorem nmzU : ∀ a, a < 10 → ∀ b, b < 10 → a ≠ b → (TzU a).2.1 ≠ (TzU b).2.1 := by decide +kernel
theorem tyzU_ok : ∀ k, k < 10 → parseFieldDescriptor (TzU k).2.2.1 = some (tyzU k) := by decide +kernel
def RzS : String := "CrossingUnit$Section"
def TzS : u_T := fun k => match k with
  | 0 => ("CrossingUnit$Section", "number", "I", true)
  | 1 => ("CrossingUnit$Section", "balance", "I", false)
  | 2 => ("CrossingUnit$Section", "balanceAhead", "I", false)
  | 3 => ("CrossingUnit$Section", "disturbed", "Z", false)
  | 4 => ("CrossingUnit$Section", "asker", "I", false)
  | 5 => ("CrossingUnit$Section", "forwardIn", "I", false)
  | 6 => ("CrossingUnit$Section", "forwardOut", "I", false)
  | 7 => ("CrossingUnit$Section", "backIn", "I", false)
  | _ => ("CrossingUnit$Section", "backOut", "I", false)
def tyzS : Nat → FieldType := fun k => match k with
  | 0 => .int
  | 1 => .int
  | 2 => .int
  | 3 => .boolean
  | 4 => .int
  | 5 => .int
  | 6 => .int
  | 7 => .int
  | _ => .int
theorem nmzS : ∀ a, a < 9 → ∀ b, b < 9 → a ≠ b → (TzS a).2.1 ≠ (TzS b).2.1 := by decide +kernel
theorem tyzS_ok : ∀ k, k < 9 → parseFieldDescriptor (TzS k).2.2.1 = some (tyzS k) := by decide +kernel
def RzE : String := "CrossingUnit$End"
def TzE : u_T := fun k => match k with
  | 0 => ("CrossingUnit$End", "section", "LCrossingUnit$Section;", true)
  | 1 => ("CrossingUnit$End", "coming", "I", false)
  | _ => ("CrossingUnit$End", "entered", "Z", false)
def tyzE : Nat → FieldType := fun k => match k with
  | 0 => .object "CrossingUnit$Section"
  | 1 => .int
  | _ => .boolean
theorem nmzE : ∀ a, a < 3 → ∀ b, b < 3 → a ≠ b → (TzE a).2.1 ≠ (TzE b).2.1 := by decide +kernel
theorem tyzE_ok : ∀ k, k < 3 → parseFieldDescriptor (TzE k).2.2.1 = some (tyzE k) := by decide +kernel
def RzK : String := "CrossingUnit$Track"
def TzK : u_T := fun k => match k with
  | 0 => ("CrossingUnit$Track", "sections", "[LCrossingUnit$Section;", true)
  | 1 => ("CrossingUnit$Track", "ends", "[LCrossingUnit$End;", true)
  | 2 => ("CrossingUnit$Track", "kept", "[I", true)
  | 3 => ("CrossingUnit$Track", "healthy", "[Z", true)
  | 4 => ("CrossingUnit$Track", "ordered", "Z", false)
  | _ => ("CrossingUnit$Track", "cleared", "Z", false)
def tyzK : Nat → FieldType := fun k => match k with
  | 0 => .array (.object "CrossingUnit$Section")
  | 1 => .array (.object "CrossingUnit$End")
  | 2 => .array (.int)
  | 3 => .array (.boolean)
  | 4 => .boolean
  | _ => .boolean
theorem nmzK : ∀ a, a < 6 → ∀ b, b < 6 → a ≠ b → (TzK a).2.1 ≠ (TzK b).2.1 := by decide +kernel
theorem tyzK_ok : ∀ k, k < 6 → parseFieldDescriptor (TzK k).2.2.1 = some (tyzK k) := by decide +kernel
def RzB : String := "CrossingUnit$Barrier"
def TzB : u_T := fun k => match k with
  | 0 => ("CrossingUnit$Barrier", "position", "I", false)
  | 1 => ("CrossingUnit$Barrier", "positionBefore", "I", false)
  | 2 => ("CrossingUnit$Barrier", "motor", "I", false)
  | 3 => ("CrossingUnit$Barrier", "zeros", "I", false)
  | 4 => ("CrossingUnit$Barrier", "stall", "I", false)
  | _ => ("CrossingUnit$Barrier", "alarmed", "Z", false)
def tyzB : Nat → FieldType := fun k => match k with
  | 0 => .int
  | 1 => .int
  | 2 => .int
  | 3 => .int
  | 4 => .int
  | _ => .boolean
theorem nmzB : ∀ a, a < 6 → ∀ b, b < 6 → a ≠ b → (TzB a).2.1 ≠ (TzB b).2.1 := by decide +kernel
theorem tyzB_ok : ∀ k, k < 6 → parseFieldDescriptor (TzB k).2.2.1 = some (tyzB k) := by decide +kernel
def RzP : String := "CrossingUnit$Lamp"
def TzP : u_T := fun k => match k with
  | 0 => ("CrossingUnit$Lamp", "hasCurrent", "Z", false)
  | 1 => ("CrossingUnit$Lamp", "lit", "Z", false)
  | 2 => ("CrossingUnit$Lamp", "dead", "Z", false)
  | _ => ("CrossingUnit$Lamp", "dark", "I", false)
def tyzP : Nat → FieldType := fun k => match k with
  | 0 => .boolean
  | 1 => .boolean
  | 2 => .boolean
  | _ => .int
theorem nmzP : ∀ a, a < 4 → ∀ b, b < 4 → a ≠ b → (TzP a).2.1 ≠ (TzP b).2.1 := by decide +kernel
theorem tyzP_ok : ∀ k, k < 4 → parseFieldDescriptor (TzP k).2.2.1 = some (tyzP k) := by decide +kernel
def RzR : String := "CrossingUnit$Road"
def TzR : u_T := fun k => match k with
  | 0 => ("CrossingUnit$Road", "step", "I", false)
  | 1 => ("CrossingUnit$Road", "age", "I", false)
  | _ => ("CrossingUnit$Road", "quiet", "I", false)
def tyzR : Nat → FieldType := fun k => match k with
  | 0 => .int
  | 1 => .int
  | _ => .int
theorem nmzR : ∀ a, a < 3 → ∀ b, b < 3 → a ≠ b → (TzR a).2.1 ≠ (TzR b).2.1 := by decide +kernel
theorem tyzR_ok : ∀ k, k < 3 → parseFieldDescriptor (TzR k).2.2.1 = some (tyzR k) := by decide +kernel
def RzJ : String := "CrossingUnit$Journal"
def TzJ : u_T := fun k => match k with
  | 0 => ("CrossingUnit$Journal", "times", "[I", true)
  | 1 => ("CrossingUnit$Journal", "kinds", "[I", true)
  | 2 => ("CrossingUnit$Journal", "subjects", "[I", true)
  | _ => ("CrossingUnit$Journal", "total", "I", false)
def tyzJ : Nat → FieldType := fun k => match k with
  | 0 => .array (.int)
  | 1 => .array (.int)
  | 2 => .array (.int)
  | _ => .int
theorem nmzJ : ∀ a, a < 4 → ∀ b, b < 4 → a ≠ b → (TzJ a).2.1 ≠ (TzJ b).2.1 := by decide +kernel
theorem tyzJ_ok : ∀ k, k < 4 → parseFieldDescriptor (TzJ k).2.2.1 = some (tyzJ k) := by decide +kernel
def RzM : String := "CrossingUnitModel"
def TzM : u_T := fun k => match k with
  | 0 => ("CrossingUnitModel", "thrown", "I", false)
  | 1 => ("CrossingUnitModel", "pulses", "[I", true)
  | 2 => ("CrossingUnitModel", "sick", "[Z", true)
  | 3 => ("CrossingUnitModel", "balances", "[I", true)
  | 4 => ("CrossingUnitModel", "before", "[I", true)
  | 5 => ("CrossingUnitModel", "disturbed", "[Z", true)
  | 6 => ("CrossingUnitModel", "askers", "[I", true)
  | 7 => ("CrossingUnitModel", "lowerIn", "[I", true)
  | 8 => ("CrossingUnitModel", "upperOut", "[I", true)
  | 9 => ("CrossingUnitModel", "upperIn", "[I", true)
  | 10 => ("CrossingUnitModel", "lowerOut", "[I", true)
  | 11 => ("CrossingUnitModel", "comings", "[I", true)
  | 12 => ("CrossingUnitModel", "cameIn", "[Z", true)
  | 13 => ("CrossingUnitModel", "orders", "[Z", true)
  | 14 => ("CrossingUnitModel", "positions", "[I", true)
  | 15 => ("CrossingUnitModel", "lastPositions", "[I", true)
  | 16 => ("CrossingUnitModel", "motors", "[I", true)
  | 17 => ("CrossingUnitModel", "zeros", "[I", true)
  | 18 => ("CrossingUnitModel", "stalls", "[I", true)
  | 19 => ("CrossingUnitModel", "alarms", "[Z", true)
  | 20 => ("CrossingUnitModel", "noCurrent", "[Z", true)
  | 21 => ("CrossingUnitModel", "lit", "[Z", true)
  | 22 => ("CrossingUnitModel", "dark", "[I", true)
  | 23 => ("CrossingUnitModel", "dead", "[Z", true)
  | 24 => ("CrossingUnitModel", "night", "Z", false)
  | 25 => ("CrossingUnitModel", "bell", "Z", false)
  | 26 => ("CrossingUnitModel", "clear", "[Z", true)
  | 27 => ("CrossingUnitModel", "time", "I", false)
  | 28 => ("CrossingUnitModel", "step", "I", false)
  | 29 => ("CrossingUnitModel", "age", "I", false)
  | 30 => ("CrossingUnitModel", "quiet", "I", false)
  | 31 => ("CrossingUnitModel", "many", "I", false)
  | 32 => ("CrossingUnitModel", "times", "[I", true)
  | 33 => ("CrossingUnitModel", "kinds", "[I", true)
  | _ => ("CrossingUnitModel", "whiches", "[I", true)
def tyzM : Nat → FieldType := fun k => match k with
  | 0 => .int
  | 1 => .array (.int)
  | 2 => .array (.boolean)
  | 3 => .array (.int)
  | 4 => .array (.int)
  | 5 => .array (.boolean)
  | 6 => .array (.int)
  | 7 => .array (.int)
  | 8 => .array (.int)
  | 9 => .array (.int)
  | 10 => .array (.int)
  | 11 => .array (.int)
  | 12 => .array (.boolean)
  | 13 => .array (.boolean)
  | 14 => .array (.int)
  | 15 => .array (.int)
  | 16 => .array (.int)
  | 17 => .array (.int)
  | 18 => .array (.int)
  | 19 => .array (.boolean)
  | 20 => .array (.boolean)
  | 21 => .array (.boolean)
  | 22 => .array (.int)
  | 23 => .array (.boolean)
  | 24 => .boolean
  | 25 => .boolean
  | 26 => .array (.boolean)
  | 27 => .int
  | 28 => .int
  | 29 => .int
  | 30 => .int
  | 31 => .int
  | 32 => .array (.int)
  | 33 => .array (.int)
  | _ => .array (.int)
theorem nmzM : ∀ a, a < 35 → ∀ b, b < 35 → a ≠ b → (TzM a).2.1 ≠ (TzM b).2.1 := by decide +kernel
theorem tyzM_ok : ∀ k, k < 35 → parseFieldDescriptor (TzM k).2.2.1 = some (tyzM k) := by decide +kernel
def RzL : String := "CrossingUnitLaw"
abbrev czU_init : ByteArray := prog_1_method_1_code
def yzU_init : MethodName := ⟨RzU, "<init>", "()V"⟩
abbrev czR_init : ByteArray := prog_6_method_1_code
def yzR_init : MethodName := ⟨RzR, "<init>", "()V"⟩
abbrev czJ_init : ByteArray := prog_4_method_1_code
def yzJ_init : MethodName := ⟨RzJ, "<init>", "()V"⟩
abbrev czK_init : ByteArray := prog_8_method_1_code
def yzK_init : MethodName := ⟨RzK, "<init>", "(I)V"⟩
abbrev czS_init : ByteArray := prog_7_method_1_code
def yzS_init : MethodName := ⟨RzS, "<init>", "(I)V"⟩
abbrev czE_init : ByteArray := prog_3_method_1_code
def yzE_init : MethodName := ⟨RzE, "<init>", "(LCrossingUnit$Section;)V"⟩
abbrev czB_init : ByteArray := prog_2_method_1_code
def yzB_init : MethodName := ⟨RzB, "<init>", "()V"⟩
abbrev czP_init : ByteArray := prog_5_method_1_code
def yzP_init : MethodName := ⟨RzP, "<init>", "()V"⟩
abbrev czU_tick : ByteArray := prog_1_method_4_code
def yzU_tick : MethodName := ⟨RzU, "tick", "()I"⟩
abbrev czU_rememberBalances : ByteArray := prog_1_method_23_code
def yzU_rememberBalances : MethodName := ⟨RzU, "rememberBalances", "()V"⟩
abbrev czS_rememberBalance : ByteArray := prog_7_method_3_code
def yzS_rememberBalance : MethodName := ⟨RzS, "rememberBalance", "()V"⟩
abbrev czU_countPulses : ByteArray := prog_1_method_24_code
def yzU_countPulses : MethodName := ⟨RzU, "countPulses", "()V"⟩
abbrev czK_takePulse : ByteArray := prog_8_method_2_code
def yzK_takePulse : MethodName := ⟨RzK, "takePulse", "(I)I"⟩
abbrev czU_countAxle : ByteArray := prog_1_method_25_code
def yzU_countAxle : MethodName := ⟨RzU, "countAxle", "(LCrossingUnit$Track;II)V"⟩
abbrev czS_countOut : ByteArray := prog_7_method_5_code
def yzS_countOut : MethodName := ⟨RzS, "countOut", "(I)V"⟩
abbrev czU_disturbIfMiscounted : ByteArray := prog_1_method_26_code
def yzU_disturbIfMiscounted : MethodName := ⟨RzU, "disturbIfMiscounted", "(LCrossingUnit$Section;)V"⟩
abbrev czU_disturb : ByteArray := prog_1_method_22_code
def yzU_disturb : MethodName := ⟨RzU, "disturb", "(LCrossingUnit$Section;)V"⟩
abbrev czJ_add : ByteArray := prog_4_method_2_code
def yzJ_add : MethodName := ⟨RzJ, "add", "(III)V"⟩
abbrev czS_countIn : ByteArray := prog_7_method_4_code
def yzS_countIn : MethodName := ⟨RzS, "countIn", "(I)V"⟩
abbrev czU_followComings : ByteArray := prog_1_method_27_code
def yzU_followComings : MethodName := ⟨RzU, "followComings", "()V"⟩
abbrev czE_follow : ByteArray := prog_3_method_2_code
def yzE_follow : MethodName := ⟨RzE, "follow", "()V"⟩
abbrev czU_useUpOrders : ByteArray := prog_1_method_28_code
def yzU_useUpOrders : MethodName := ⟨RzU, "useUpOrders", "()V"⟩
abbrev czU_watchLamps : ByteArray := prog_1_method_29_code
def yzU_watchLamps : MethodName := ⟨RzU, "watchLamps", "()V"⟩
abbrev czP_dies : ByteArray := prog_5_method_2_code
def yzP_dies : MethodName := ⟨RzP, "dies", "()Z"⟩
abbrev czU_watchBarriers : ByteArray := prog_1_method_30_code
def yzU_watchBarriers : MethodName := ⟨RzU, "watchBarriers", "()V"⟩
abbrev czB_startsAlarm : ByteArray := prog_2_method_2_code
def yzB_startsAlarm : MethodName := ⟨RzB, "startsAlarm", "()Z"⟩
abbrev czU_moveRoad : ByteArray := prog_1_method_31_code
def yzU_moveRoad : MethodName := ⟨RzU, "moveRoad", "()V"⟩
abbrev czU_isDemanded : ByteArray := prog_1_method_32_code
def yzU_isDemanded : MethodName := ⟨RzU, "isDemanded", "()Z"⟩
abbrev czK_isFree : ByteArray := prog_8_method_4_code
def yzK_isFree : MethodName := ⟨RzK, "isFree", "()Z"⟩
abbrev czS_state : ByteArray := prog_7_method_2_code
def yzS_state : MethodName := ⟨RzS, "state", "()I"⟩
abbrev czU_isUp : ByteArray := prog_1_method_33_code
def yzU_isUp : MethodName := ⟨RzU, "isUp", "()Z"⟩
abbrev czR_moves : ByteArray := prog_6_method_2_code
def yzR_moves : MethodName := ⟨RzR, "moves", "(ZZZ)Z"⟩
abbrev czR_stepToCome : ByteArray := prog_6_method_3_code
def yzR_stepToCome : MethodName := ⟨RzR, "stepToCome", "(ZZZ)I"⟩
abbrev czU_driveMotors : ByteArray := prog_1_method_35_code
def yzU_driveMotors : MethodName := ⟨RzU, "driveMotors", "()V"⟩
abbrev czB_drive : ByteArray := prog_2_method_3_code
def yzB_drive : MethodName := ⟨RzB, "drive", "(I)V"⟩
abbrev czU_lightLamps : ByteArray := prog_1_method_36_code
def yzU_lightLamps : MethodName := ⟨RzU, "lightLamps", "()V"⟩
abbrev czU_isEven : ByteArray := prog_1_method_38_code
def yzU_isEven : MethodName := ⟨RzU, "isEven", "(I)Z"⟩
abbrev czU_bellIsDue : ByteArray := prog_1_method_37_code
def yzU_bellIsDue : MethodName := ⟨RzU, "bellIsDue", "()Z"⟩
abbrev czU_setSignals : ByteArray := prog_1_method_39_code
def yzU_setSignals : MethodName := ⟨RzU, "setSignals", "()V"⟩
abbrev czU_signalIsDue : ByteArray := prog_1_method_40_code
def yzU_signalIsDue : MethodName := ⟨RzU, "signalIsDue", "(LCrossingUnit$Track;)Z"⟩
abbrev czK_isDisturbed : ByteArray := prog_8_method_3_code
def yzK_isDisturbed : MethodName := ⟨RzK, "isDisturbed", "()Z"⟩
abbrev czU_gatherOutput : ByteArray := prog_1_method_41_code
def yzU_gatherOutput : MethodName := ⟨RzU, "gatherOutput", "()I"⟩
abbrev czU_night : ByteArray := prog_1_method_8_code
def yzU_night : MethodName := ⟨RzU, "night", "(Z)Z"⟩
abbrev czL_pulse : ByteArray := method_3_code
def yzL_pulse : MethodName := ⟨RzL, "pulse", "(LCrossingUnit;III)I"⟩
abbrev czU_pulse : ByteArray := prog_1_method_2_code
def yzU_pulse : MethodName := ⟨RzU, "pulse", "(III)V"⟩
abbrev czU_findTrack : ByteArray := prog_1_method_17_code
def yzU_findTrack : MethodName := ⟨RzU, "findTrack", "(I)LCrossingUnit$Track;"⟩
abbrev czU_checkHead : ByteArray := prog_1_method_19_code
def yzU_checkHead : MethodName := ⟨RzU, "checkHead", "(I)V"⟩
abbrev czL_health : ByteArray := method_4_code
def yzL_health : MethodName := ⟨RzL, "health", "(LCrossingUnit;IIZ[J)I"⟩
abbrev czU_health : ByteArray := prog_1_method_3_code
def yzU_health : MethodName := ⟨RzU, "health", "(IIZ)Z"⟩
abbrev czU_disturbIfThere : ByteArray := prog_1_method_21_code
def yzU_disturbIfThere : MethodName := ⟨RzU, "disturbIfThere", "(LCrossingUnit$Track;I)V"⟩
abbrev czL_ticks : ByteArray := method_5_code
def yzL_ticks : MethodName := ⟨RzL, "ticks", "(LCrossingUnit;I[J)I"⟩
abbrev czU_ticks : ByteArray := prog_1_method_5_code
def yzU_ticks : MethodName := ⟨RzU, "ticks", "(I)I"⟩
abbrev czL_barrier : ByteArray := method_6_code
def yzL_barrier : MethodName := ⟨RzL, "barrier", "(LCrossingUnit;II[J)I"⟩
abbrev czU_barrier : ByteArray := prog_1_method_6_code
def yzU_barrier : MethodName := ⟨RzU, "barrier", "(II)I"⟩
abbrev czL_current : ByteArray := method_7_code
def yzL_current : MethodName := ⟨RzL, "current", "(LCrossingUnit;IZ[J)I"⟩
abbrev czU_current : ByteArray := prog_1_method_7_code
def yzU_current : MethodName := ⟨RzU, "current", "(IZ)Z"⟩
abbrev czL_order : ByteArray := method_8_code
def yzL_order : MethodName := ⟨RzL, "order", "(LCrossingUnit;I[J)I"⟩
abbrev czU_order : ByteArray := prog_1_method_9_code
def yzU_order : MethodName := ⟨RzU, "order", "(I)I"⟩
abbrev czU_isAlarmed : ByteArray := prog_1_method_34_code
def yzU_isAlarmed : MethodName := ⟨RzU, "isAlarmed", "()Z"⟩
abbrev czL_cancel : ByteArray := method_9_code
def yzL_cancel : MethodName := ⟨RzL, "cancel", "(LCrossingUnit;I[J)I"⟩
abbrev czU_cancel : ByteArray := prog_1_method_10_code
def yzU_cancel : MethodName := ⟨RzU, "cancel", "(I)Z"⟩
abbrev czL_ask : ByteArray := method_10_code
def yzL_ask : MethodName := ⟨RzL, "ask", "(LCrossingUnit;III)I"⟩
abbrev czU_ask : ByteArray := prog_1_method_11_code
def yzU_ask : MethodName := ⟨RzU, "ask", "(III)V"⟩
abbrev czU_findSection : ByteArray := prog_1_method_18_code
def yzU_findSection : MethodName := ⟨RzU, "findSection", "(II)LCrossingUnit$Section;"⟩
abbrev czU_checkPerson : ByteArray := prog_1_method_20_code
def yzU_checkPerson : MethodName := ⟨RzU, "checkPerson", "(I)V"⟩
abbrev czS_startSweep : ByteArray := prog_7_method_6_code
def yzS_startSweep : MethodName := ⟨RzS, "startSweep", "(I)V"⟩
abbrev czL_confirm : ByteArray := method_11_code
def yzL_confirm : MethodName := ⟨RzL, "confirm", "(LCrossingUnit;III[J)I"⟩
abbrev czU_confirm : ByteArray := prog_1_method_12_code
def yzU_confirm : MethodName := ⟨RzU, "confirm", "(III)Z"⟩
abbrev czS_isSwept : ByteArray := prog_7_method_7_code
def yzS_isSwept : MethodName := ⟨RzS, "isSwept", "()Z"⟩
abbrev czS_isSweep : ByteArray := prog_7_method_8_code
def yzS_isSweep : MethodName := ⟨RzS, "isSweep", "(IIII)Z"⟩
abbrev czK_hasHealthyHeads : ByteArray := prog_8_method_5_code
def yzK_hasHealthyHeads : MethodName := ⟨RzK, "hasHealthyHeads", "(I)Z"⟩
abbrev czS_reset : ByteArray := prog_7_method_9_code
def yzS_reset : MethodName := ⟨RzS, "reset", "()V"⟩
abbrev czL_section : ByteArray := method_12_code
def yzL_section : MethodName := ⟨RzL, "section", "(LCrossingUnit;III[J)I"⟩
abbrev czU_section : ByteArray := prog_1_method_13_code
def yzU_section : MethodName := ⟨RzU, "section", "(III)I"⟩
abbrev czL_earliest : ByteArray := method_13_code
def yzL_earliest : MethodName := ⟨RzL, "earliest", "(LCrossingUnit;I[J)I"⟩
abbrev czU_earliest : ByteArray := prog_1_method_14_code
def yzU_earliest : MethodName := ⟨RzU, "earliest", "(I)I"⟩
abbrev czL_about : ByteArray := method_14_code
def yzL_about : MethodName := ⟨RzL, "about", "(LCrossingUnit;I[J)I"⟩
abbrev czU_about : ByteArray := prog_1_method_15_code
def yzU_about : MethodName := ⟨RzU, "about", "(I)I"⟩
abbrev czU_deadLamps : ByteArray := prog_1_method_42_code
def yzU_deadLamps : MethodName := ⟨RzU, "deadLamps", "()I"⟩
abbrev czU_standingOrders : ByteArray := prog_1_method_43_code
def yzU_standingOrders : MethodName := ⟨RzU, "standingOrders", "()I"⟩
abbrev czL_event : ByteArray := method_15_code
def yzL_event : MethodName := ⟨RzL, "event", "(LCrossingUnit;II[J)I"⟩
abbrev czU_event : ByteArray := prog_1_method_16_code
def yzU_event : MethodName := ⟨RzU, "event", "(II)I"⟩
abbrev czJ_keeps : ByteArray := prog_4_method_3_code
def yzJ_keeps : MethodName := ⟨RzJ, "keeps", "(I)Z"⟩
abbrev czM_init : ByteArray := prog_10_method_1_code
def yzM_init : MethodName := ⟨RzM, "<init>", "()V"⟩
abbrev czM_thrown : ByteArray := prog_10_method_2_code
def yzM_thrown : MethodName := ⟨RzM, "thrown", "()I"⟩
abbrev czM_pulse : ByteArray := prog_10_method_10_code
def yzM_pulse : MethodName := ⟨RzM, "pulse", "(III)V"⟩
abbrev czM_isHead : ByteArray := prog_10_method_5_code
def yzM_isHead : MethodName := ⟨RzM, "isHead", "(II)Z"⟩
abbrev czM_isTrack : ByteArray := prog_10_method_4_code
def yzM_isTrack : MethodName := ⟨RzM, "isTrack", "(I)Z"⟩
abbrev czM_goes : ByteArray := prog_10_method_3_code
def yzM_goes : MethodName := ⟨RzM, "goes", "(ZZZ)Z"⟩
abbrev czM_health : ByteArray := prog_10_method_11_code
def yzM_health : MethodName := ⟨RzM, "health", "(IIZ)Z"⟩
abbrev czM_disturb : ByteArray := prog_10_method_8_code
def yzM_disturb : MethodName := ⟨RzM, "disturb", "(I)V"⟩
abbrev czM_note : ByteArray := prog_10_method_7_code
def yzM_note : MethodName := ⟨RzM, "note", "(II)V"⟩
abbrev czM_barrier : ByteArray := prog_10_method_12_code
def yzM_barrier : MethodName := ⟨RzM, "barrier", "(II)I"⟩
abbrev czM_current : ByteArray := prog_10_method_13_code
def yzM_current : MethodName := ⟨RzM, "current", "(IZ)Z"⟩
abbrev czM_night : ByteArray := prog_10_method_14_code
def yzM_night : MethodName := ⟨RzM, "night", "(Z)Z"⟩
abbrev czM_order : ByteArray := prog_10_method_16_code
def yzM_order : MethodName := ⟨RzM, "order", "(I)I"⟩
abbrev czM_anyDisturbed : ByteArray := prog_10_method_15_code
def yzM_anyDisturbed : MethodName := ⟨RzM, "anyDisturbed", "(I)Z"⟩
abbrev czM_isFree : ByteArray := prog_10_method_9_code
def yzM_isFree : MethodName := ⟨RzM, "isFree", "(I)Z"⟩
abbrev czM_cancel : ByteArray := prog_10_method_17_code
def yzM_cancel : MethodName := ⟨RzM, "cancel", "(I)Z"⟩
abbrev czM_ask : ByteArray := prog_10_method_18_code
def yzM_ask : MethodName := ⟨RzM, "ask", "(III)V"⟩
abbrev czM_isSection : ByteArray := prog_10_method_6_code
def yzM_isSection : MethodName := ⟨RzM, "isSection", "(II)Z"⟩
abbrev czM_confirm : ByteArray := prog_10_method_20_code
def yzM_confirm : MethodName := ⟨RzM, "confirm", "(III)Z"⟩
abbrev czM_swept : ByteArray := prog_10_method_19_code
def yzM_swept : MethodName := ⟨RzM, "swept", "(I)Z"⟩
abbrev czM_tick : ByteArray := prog_10_method_35_code
def yzM_tick : MethodName := ⟨RzM, "tick", "()I"⟩
abbrev czM_oneTick : ByteArray := prog_10_method_34_code
def yzM_oneTick : MethodName := ⟨RzM, "oneTick", "()V"⟩
abbrev czM_allPulses : ByteArray := prog_10_method_23_code
def yzM_allPulses : MethodName := ⟨RzM, "allPulses", "()V"⟩
abbrev czM_counts : ByteArray := prog_10_method_22_code
def yzM_counts : MethodName := ⟨RzM, "counts", "(III)V"⟩
abbrev czM_change : ByteArray := prog_10_method_21_code
def yzM_change : MethodName := ⟨RzM, "change", "(II)V"⟩
abbrev czM_allComings : ByteArray := prog_10_method_24_code
def yzM_allComings : MethodName := ⟨RzM, "allComings", "()V"⟩
abbrev czM_useOrders : ByteArray := prog_10_method_25_code
def yzM_useOrders : MethodName := ⟨RzM, "useOrders", "()V"⟩
abbrev czM_watchLamps : ByteArray := prog_10_method_26_code
def yzM_watchLamps : MethodName := ⟨RzM, "watchLamps", "()V"⟩
abbrev czM_watchBarriers : ByteArray := prog_10_method_27_code
def yzM_watchBarriers : MethodName := ⟨RzM, "watchBarriers", "()V"⟩
abbrev czM_goOn : ByteArray := prog_10_method_30_code
def yzM_goOn : MethodName := ⟨RzM, "goOn", "()V"⟩
abbrev czM_demand : ByteArray := prog_10_method_29_code
def yzM_demand : MethodName := ⟨RzM, "demand", "()Z"⟩
abbrev czM_isProved : ByteArray := prog_10_method_28_code
def yzM_isProved : MethodName := ⟨RzM, "isProved", "()Z"⟩
abbrev czM_drive : ByteArray := prog_10_method_31_code
def yzM_drive : MethodName := ⟨RzM, "drive", "()V"⟩
abbrev czM_signal : ByteArray := prog_10_method_32_code
def yzM_signal : MethodName := ⟨RzM, "signal", "()V"⟩
abbrev czM_output : ByteArray := prog_10_method_33_code
def yzM_output : MethodName := ⟨RzM, "output", "()I"⟩
abbrev czM_ticks : ByteArray := prog_10_method_36_code
def yzM_ticks : MethodName := ⟨RzM, "ticks", "(I)I"⟩
abbrev czM_section : ByteArray := prog_10_method_37_code
def yzM_section : MethodName := ⟨RzM, "section", "(III)I"⟩
abbrev czM_earliest : ByteArray := prog_10_method_38_code
def yzM_earliest : MethodName := ⟨RzM, "earliest", "(I)I"⟩
abbrev czM_about : ByteArray := prog_10_method_39_code
def yzM_about : MethodName := ⟨RzM, "about", "(I)I"⟩
abbrev czM_event : ByteArray := prog_10_method_40_code
def yzM_event : MethodName := ⟨RzM, "event", "(II)I"⟩
abbrev czL_law : ByteArray := code
def yzL_law : MethodName := ⟨RzL, "law", "([I)Z"⟩
