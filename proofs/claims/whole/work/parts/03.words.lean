def xk_w0 : List Cond := [Cond.selects RzU yzU_rememberBalances yzU_rememberBalances, Cond.selects RzU yzU_countPulses yzU_countPulses, Cond.selects RzU yzU_countAxle yzU_countAxle, Cond.selects RzU yzU_disturbIfMiscounted yzU_disturbIfMiscounted, Cond.selects RzU yzU_disturb yzU_disturb, Cond.selects RzU yzU_followComings yzU_followComings, Cond.selects RzU yzU_useUpOrders yzU_useUpOrders, Cond.selects RzU yzU_watchLamps yzU_watchLamps, Cond.selects RzU yzU_watchBarriers yzU_watchBarriers, Cond.selects RzU yzU_moveRoad yzU_moveRoad, Cond.selects RzU yzU_isDemanded yzU_isDemanded, Cond.selects RzU yzU_isUp yzU_isUp, Cond.selects RzR yzR_stepToCome yzR_stepToCome, Cond.selects RzU yzU_driveMotors yzU_driveMotors, Cond.selects RzU yzU_lightLamps yzU_lightLamps, Cond.selects RzU yzU_bellIsDue yzU_bellIsDue, Cond.selects RzU yzU_setSignals yzU_setSignals, Cond.selects RzU yzU_signalIsDue yzU_signalIsDue, Cond.selects RzU yzU_gatherOutput yzU_gatherOutput, Cond.selects RzU yzU_findTrack yzU_findTrack, Cond.selects RzU yzU_disturbIfThere yzU_disturbIfThere, Cond.selects RzU yzU_isAlarmed yzU_isAlarmed, Cond.selects RzU yzU_findSection yzU_findSection, Cond.selects RzU yzU_deadLamps yzU_deadLamps]
def xk_w1 : List Cond := [Cond.selects RzU yzU_standingOrders yzU_standingOrders, Cond.selects RzM yzM_goes yzM_goes, Cond.selects RzM yzM_disturb yzM_disturb, Cond.selects RzM yzM_note yzM_note, Cond.selects RzM yzM_anyDisturbed yzM_anyDisturbed, Cond.selects RzM yzM_isFree yzM_isFree, Cond.selects RzM yzM_swept yzM_swept, Cond.selects RzM yzM_oneTick yzM_oneTick, Cond.selects RzM yzM_allPulses yzM_allPulses, Cond.selects RzM yzM_counts yzM_counts, Cond.selects RzM yzM_change yzM_change, Cond.selects RzM yzM_allComings yzM_allComings, Cond.selects RzM yzM_useOrders yzM_useOrders, Cond.selects RzM yzM_watchLamps yzM_watchLamps, Cond.selects RzM yzM_watchBarriers yzM_watchBarriers, Cond.selects RzM yzM_goOn yzM_goOn, Cond.selects RzM yzM_demand yzM_demand, Cond.selects RzM yzM_isProved yzM_isProved, Cond.selects RzM yzM_drive yzM_drive, Cond.selects RzM yzM_signal yzM_signal, Cond.selects RzM yzM_output yzM_output, Cond.initialized RzU, Cond.initialized RzR, Cond.initialized RzJ]
def xk_w2 : List Cond := [Cond.initialized RzK, Cond.initialized RzS, Cond.initialized RzE, Cond.initialized RzB, Cond.initialized RzP, Cond.initialized RzM, Cond.initialized "java/lang/Throwable", Cond.initialized "java/lang/Exception", Cond.initialized "java/lang/RuntimeException", Cond.initialized "java/util/NoSuchElementException", Cond.initialized "java/lang/IllegalArgumentException", Cond.initialized "java/lang/IllegalStateException", Cond.initialized "java/lang/Math", Cond.instantiable RzU 10, Cond.instanceMethod yzU_init, Cond.code yzU_init czU_init 2 none, Cond.methodLink RzU 1 objectInit, Cond.instanceMethod objectInit, Cond.code objectInit object_method_1_code 1 none, Cond.classLink RzU 9 RzK, Cond.classLink RzU 15 RzB, Cond.classLink RzU 21 RzP, Cond.classLink RzU 27 RzR, Cond.instantiable RzR 3]
def xk_w3 : List Cond := [Cond.instanceMethod yzR_init, Cond.code yzR_init czR_init 1 none, Cond.methodLink RzR 3 objectInit, Cond.fieldLink RzR 9 "CrossingUnit$Road" "step" "I", Cond.fieldLink RzU 227 "CrossingUnit$Road" "step" "I", Cond.fieldLink RzR 15 "CrossingUnit$Road" "age" "I", Cond.fieldLink RzU 230 "CrossingUnit$Road" "age" "I", Cond.fieldLink RzR 18 "CrossingUnit$Road" "quiet" "I", Cond.fieldLink RzU 233 "CrossingUnit$Road" "quiet" "I", Cond.classLink RzU 34 RzJ, Cond.instantiable RzJ 4, Cond.instanceMethod yzJ_init, Cond.code yzJ_init czJ_init 1 none, Cond.methodLink RzJ 3 objectInit, Cond.fieldLink RzJ 9 "CrossingUnit$Journal" "times" "[I", Cond.fieldLink RzU 255 "CrossingUnit$Journal" "times" "[I", Cond.fieldLink RzJ 13 "CrossingUnit$Journal" "kinds" "[I", Cond.fieldLink RzU 258 "CrossingUnit$Journal" "kinds" "[I", Cond.fieldLink RzJ 16 "CrossingUnit$Journal" "subjects" "[I", Cond.fieldLink RzU 261 "CrossingUnit$Journal" "subjects" "[I", Cond.fieldLink RzJ 19 "CrossingUnit$Journal" "total" "I", Cond.fieldLink RzU 245 "CrossingUnit$Journal" "total" "I", Cond.arrayClass .int, Cond.instantiable RzK 6]
def xk_w4 : List Cond := [Cond.methodLink RzU 58 yzK_init, Cond.instanceMethod yzK_init, Cond.code yzK_init czK_init 3 none, Cond.methodLink RzK 3 objectInit, Cond.classLink RzK 9 RzS, Cond.classLink RzK 17 RzE, Cond.instantiable RzS 9, Cond.methodLink RzK 38 yzS_init, Cond.instanceMethod yzS_init, Cond.code yzS_init czS_init 2 none, Cond.methodLink RzS 3 objectInit, Cond.fieldLink RzS 37 "CrossingUnit$Section" "number" "I", Cond.fieldLink RzU 204 "CrossingUnit$Section" "number" "I", Cond.fieldLink RzS 9 "CrossingUnit$Section" "balance" "I", Cond.fieldLink RzE 28 "CrossingUnit$Section" "balance" "I", Cond.fieldLink RzU 207 "CrossingUnit$Section" "balance" "I", Cond.fieldLink RzS 15 "CrossingUnit$Section" "balanceAhead" "I", Cond.fieldLink RzE 23 "CrossingUnit$Section" "balanceAhead" "I", Cond.fieldLink RzU 304 "CrossingUnit$Section" "balanceAhead" "I", Cond.fieldLink RzS 18 "CrossingUnit$Section" "disturbed" "Z", Cond.fieldLink RzK 44 "CrossingUnit$Section" "disturbed" "Z", Cond.fieldLink RzU 181 "CrossingUnit$Section" "disturbed" "Z", Cond.fieldLink RzS 22 "CrossingUnit$Section" "asker" "I", Cond.fieldLink RzU 189 "CrossingUnit$Section" "asker" "I"]
def xk_w5 : List Cond := [Cond.fieldLink RzS 25 "CrossingUnit$Section" "forwardIn" "I", Cond.fieldLink RzS 28 "CrossingUnit$Section" "forwardOut" "I", Cond.fieldLink RzS 31 "CrossingUnit$Section" "backIn" "I", Cond.fieldLink RzS 34 "CrossingUnit$Section" "backOut" "I", Cond.arrayClass .boolean, Cond.instantiable RzE 3, Cond.methodLink RzK 41 yzE_init, Cond.instanceMethod yzE_init, Cond.code yzE_init czE_init 2 none, Cond.methodLink RzE 3 objectInit, Cond.fieldLink RzE 19 "CrossingUnit$End" "section" "LCrossingUnit$Section;", Cond.fieldLink RzE 9 "CrossingUnit$End" "coming" "I", Cond.fieldLink RzU 216 "CrossingUnit$End" "coming" "I", Cond.fieldLink RzE 15 "CrossingUnit$End" "entered" "Z", Cond.fieldLink RzU 295 "CrossingUnit$End" "entered" "Z", Cond.fieldLink RzK 11 "CrossingUnit$Track" "sections" "[LCrossingUnit$Section;", Cond.fieldLink RzU 158 "CrossingUnit$Track" "sections" "[LCrossingUnit$Section;", Cond.fieldLink RzK 19 "CrossingUnit$Track" "ends" "[LCrossingUnit$End;", Cond.fieldLink RzU 212 "CrossingUnit$Track" "ends" "[LCrossingUnit$End;", Cond.fieldLink RzK 23 "CrossingUnit$Track" "kept" "[I", Cond.fieldLink RzU 77 "CrossingUnit$Track" "kept" "[I", Cond.fieldLink RzK 27 "CrossingUnit$Track" "healthy" "[Z", Cond.fieldLink RzU 86 "CrossingUnit$Track" "healthy" "[Z", Cond.fieldLink RzK 31 "CrossingUnit$Track" "ordered" "Z"]
def xk_w6 : List Cond := [Cond.fieldLink RzU 152 "CrossingUnit$Track" "ordered" "Z", Cond.fieldLink RzK 35 "CrossingUnit$Track" "cleared" "Z", Cond.fieldLink RzU 345 "CrossingUnit$Track" "cleared" "Z", Cond.instantiable RzB 6, Cond.instanceMethod yzB_init, Cond.code yzB_init czB_init 1 none, Cond.methodLink RzB 3 objectInit, Cond.fieldLink RzB 9 "CrossingUnit$Barrier" "position" "I", Cond.fieldLink RzU 144 "CrossingUnit$Barrier" "position" "I", Cond.fieldLink RzB 15 "CrossingUnit$Barrier" "positionBefore" "I", Cond.fieldLink RzB 18 "CrossingUnit$Barrier" "motor" "I", Cond.fieldLink RzU 351 "CrossingUnit$Barrier" "motor" "I", Cond.fieldLink RzB 21 "CrossingUnit$Barrier" "zeros" "I", Cond.fieldLink RzU 313 "CrossingUnit$Barrier" "zeros" "I", Cond.fieldLink RzB 24 "CrossingUnit$Barrier" "stall" "I", Cond.fieldLink RzU 236 "CrossingUnit$Barrier" "stall" "I", Cond.fieldLink RzB 27 "CrossingUnit$Barrier" "alarmed" "Z", Cond.fieldLink RzU 329 "CrossingUnit$Barrier" "alarmed" "Z", Cond.instantiable RzP 4, Cond.instanceMethod yzP_init, Cond.code yzP_init czP_init 1 none, Cond.methodLink RzP 3 objectInit, Cond.fieldLink RzP 9 "CrossingUnit$Lamp" "hasCurrent" "Z", Cond.fieldLink RzU 149 "CrossingUnit$Lamp" "hasCurrent" "Z"]
def xk_w7 : List Cond := [Cond.fieldLink RzP 15 "CrossingUnit$Lamp" "lit" "Z", Cond.fieldLink RzU 338 "CrossingUnit$Lamp" "lit" "Z", Cond.fieldLink RzP 18 "CrossingUnit$Lamp" "dead" "Z", Cond.fieldLink RzU 348 "CrossingUnit$Lamp" "dead" "Z", Cond.fieldLink RzP 21 "CrossingUnit$Lamp" "dark" "I", Cond.fieldLink RzU 11 "CrossingUnit" "tracks" "[LCrossingUnit$Track;", Cond.fieldLink RzU 17 "CrossingUnit" "barriers" "[LCrossingUnit$Barrier;", Cond.fieldLink RzU 23 "CrossingUnit" "lamps" "[LCrossingUnit$Lamp;", Cond.fieldLink RzU 30 "CrossingUnit" "road" "LCrossingUnit$Road;", Cond.fieldLink RzU 37 "CrossingUnit" "journal" "LCrossingUnit$Journal;", Cond.fieldLink RzU 41 "CrossingUnit" "time" "I", Cond.fieldLink RzU 45 "CrossingUnit" "output" "I", Cond.fieldLink RzU 48 "CrossingUnit" "atNight" "Z", Cond.fieldLink RzU 52 "CrossingUnit" "bellRings" "Z", Cond.fieldLink RzU 55 "CrossingUnit" "proved" "Z", Cond.instanceMethod yzU_tick, Cond.selects RzU yzU_tick yzU_tick, Cond.code yzU_tick czU_tick 1 (some .int), Cond.methodLink RzU 94 yzU_rememberBalances, Cond.instanceMethod yzU_rememberBalances, Cond.code yzU_rememberBalances czU_rememberBalances 3 none, Cond.methodLink RzU 278 yzS_rememberBalance, Cond.instanceMethod yzS_rememberBalance, Cond.selects RzS yzS_rememberBalance yzS_rememberBalance]
def xk_w8 : List Cond := [Cond.code yzS_rememberBalance czS_rememberBalance 1 none, Cond.methodLink RzU 97 yzU_countPulses, Cond.instanceMethod yzU_countPulses, Cond.code yzU_countPulses czU_countPulses 4 none, Cond.methodLink RzU 281 yzK_takePulse, Cond.instanceMethod yzK_takePulse, Cond.selects RzK yzK_takePulse yzK_takePulse, Cond.code yzK_takePulse czK_takePulse 3 (some .int), Cond.methodLink RzU 285 yzU_countAxle, Cond.instanceMethod yzU_countAxle, Cond.code yzU_countAxle czU_countAxle 6 none, Cond.methodLink RzU 289 yzS_countOut, Cond.instanceMethod yzS_countOut, Cond.selects RzS yzS_countOut yzS_countOut, Cond.code yzS_countOut czS_countOut 2 none, Cond.methodLink RzU 292 yzU_disturbIfMiscounted, Cond.instanceMethod yzU_disturbIfMiscounted, Cond.code yzU_disturbIfMiscounted czU_disturbIfMiscounted 2 none, Cond.methodLink RzU 274 yzU_disturb, Cond.instanceMethod yzU_disturb, Cond.code yzU_disturb czU_disturb 2 none, Cond.methodLink RzU 170 yzJ_add, Cond.instanceMethod yzJ_add, Cond.selects RzJ yzJ_add yzJ_add]
def xk_w9 : List Cond := [Cond.code yzJ_add czJ_add 5 none, Cond.methodLink RzU 298 yzS_countIn, Cond.instanceMethod yzS_countIn, Cond.selects RzS yzS_countIn yzS_countIn, Cond.code yzS_countIn czS_countIn 2 none, Cond.methodLink RzU 100 yzU_followComings, Cond.instanceMethod yzU_followComings, Cond.code yzU_followComings czU_followComings 3 none, Cond.methodLink RzU 301 yzE_follow, Cond.instanceMethod yzE_follow, Cond.selects RzE yzE_follow yzE_follow, Cond.code yzE_follow czE_follow 1 none, Cond.methodLink RzE 31 Lib.Math.max.name, Cond.static Lib.Math.max.name, Cond.code Lib.Math.max.name Lib.Math.max.code 2 (some .int), Cond.methodLink RzU 103 yzU_useUpOrders, Cond.instanceMethod yzU_useUpOrders, Cond.code yzU_useUpOrders czU_useUpOrders 3 none, Cond.methodLink RzU 106 yzU_watchLamps, Cond.instanceMethod yzU_watchLamps, Cond.code yzU_watchLamps czU_watchLamps 2 none, Cond.methodLink RzU 307 yzP_dies, Cond.instanceMethod yzP_dies, Cond.selects RzP yzP_dies yzP_dies]
def xk_w10 : List Cond := [Cond.code yzP_dies czP_dies 1 (some .boolean), Cond.methodLink RzU 109 yzU_watchBarriers, Cond.instanceMethod yzU_watchBarriers, Cond.code yzU_watchBarriers czU_watchBarriers 2 none, Cond.methodLink RzU 310 yzB_startsAlarm, Cond.instanceMethod yzB_startsAlarm, Cond.selects RzB yzB_startsAlarm yzB_startsAlarm, Cond.code yzB_startsAlarm czB_startsAlarm 2 (some .boolean), Cond.methodLink RzU 112 yzU_moveRoad, Cond.instanceMethod yzU_moveRoad, Cond.code yzU_moveRoad czU_moveRoad 1 none, Cond.methodLink RzU 316 yzU_isDemanded, Cond.instanceMethod yzU_isDemanded, Cond.code yzU_isDemanded czU_isDemanded 2 (some .boolean), Cond.methodLink RzU 326 yzK_isFree, Cond.instanceMethod yzK_isFree, Cond.selects RzK yzK_isFree yzK_isFree, Cond.code yzK_isFree czK_isFree 2 (some .boolean), Cond.methodLink RzK 47 yzS_state, Cond.instanceMethod yzS_state, Cond.selects RzS yzS_state yzS_state, Cond.code yzS_state czS_state 1 (some .int), Cond.methodLink RzU 319 yzU_isUp, Cond.instanceMethod yzU_isUp]
def xk_w11 : List Cond := [Cond.code yzU_isUp czU_isUp 1 (some .boolean), Cond.methodLink RzU 322 yzR_moves, Cond.instanceMethod yzR_moves, Cond.selects RzR yzR_moves yzR_moves, Cond.code yzR_moves czR_moves 5 (some .boolean), Cond.methodLink RzR 21 yzR_stepToCome, Cond.instanceMethod yzR_stepToCome, Cond.code yzR_stepToCome czR_stepToCome 4 (some .int), Cond.methodLink RzU 115 yzU_driveMotors, Cond.instanceMethod yzU_driveMotors, Cond.code yzU_driveMotors czU_driveMotors 2 none, Cond.methodLink RzU 332 yzB_drive, Cond.instanceMethod yzB_drive, Cond.selects RzB yzB_drive yzB_drive, Cond.code yzB_drive czB_drive 2 none, Cond.methodLink RzU 118 yzU_lightLamps, Cond.instanceMethod yzU_lightLamps, Cond.code yzU_lightLamps czU_lightLamps 3 none, Cond.methodLink RzU 335 yzU_isEven, Cond.static yzU_isEven, Cond.code yzU_isEven czU_isEven 1 (some .boolean), Cond.methodLink RzU 121 yzU_bellIsDue, Cond.instanceMethod yzU_bellIsDue, Cond.code yzU_bellIsDue czU_bellIsDue 2 (some .boolean)]
def xk_w12 : List Cond := [Cond.methodLink RzU 125 yzU_setSignals, Cond.instanceMethod yzU_setSignals, Cond.code yzU_setSignals czU_setSignals 3 none, Cond.methodLink RzU 341 yzU_signalIsDue, Cond.instanceMethod yzU_signalIsDue, Cond.code yzU_signalIsDue czU_signalIsDue 2 (some .boolean), Cond.methodLink RzU 155 yzK_isDisturbed, Cond.instanceMethod yzK_isDisturbed, Cond.selects RzK yzK_isDisturbed yzK_isDisturbed, Cond.code yzK_isDisturbed czK_isDisturbed 2 (some .boolean), Cond.methodLink RzU 162 yzS_state, Cond.methodLink RzU 128 yzU_gatherOutput, Cond.instanceMethod yzU_gatherOutput, Cond.code yzU_gatherOutput czU_gatherOutput 3 (some .int), Cond.instanceMethod yzU_night, Cond.selects RzU yzU_night yzU_night, Cond.code yzU_night czU_night 3 (some .boolean), Cond.instanceMethod yzU_pulse, Cond.selects RzU yzU_pulse yzU_pulse, Cond.code yzU_pulse czU_pulse 5 none, Cond.methodLink RzU 63 yzU_findTrack, Cond.instanceMethod yzU_findTrack, Cond.code yzU_findTrack czU_findTrack 2 (some (.object "CrossingUnit$Track")), Cond.classLink RzU 137 "java/util/NoSuchElementException"]
def xk_w13 : List Cond := [Cond.methodLink "java/lang/Throwable" 1 objectInit, Cond.arrayClass .byte, Cond.methodLink RzU 67 yzU_checkHead, Cond.static yzU_checkHead, Cond.code yzU_checkHead czU_checkHead 1 none, Cond.classLink RzU 70 "java/lang/IllegalArgumentException", Cond.classLink RzU 81 "java/lang/IllegalStateException", Cond.instanceMethod yzU_health, Cond.selects RzU yzU_health yzU_health, Cond.code yzU_health czU_health 6 (some .boolean), Cond.methodLink RzU 90 yzU_disturbIfThere, Cond.instanceMethod yzU_disturbIfThere, Cond.code yzU_disturbIfThere czU_disturbIfThere 3 none, Cond.instanceMethod yzU_ticks, Cond.selects RzU yzU_ticks yzU_ticks, Cond.code yzU_ticks czU_ticks 3 (some .int), Cond.methodLink RzU 134 yzU_tick, Cond.instanceMethod yzU_barrier, Cond.selects RzU yzU_barrier yzU_barrier, Cond.code yzU_barrier czU_barrier 4 (some .int), Cond.instanceMethod yzU_current, Cond.selects RzU yzU_current yzU_current, Cond.code yzU_current czU_current 4 (some .boolean), Cond.instanceMethod yzU_order]
def xk_w14 : List Cond := [Cond.selects RzU yzU_order yzU_order, Cond.code yzU_order czU_order 3 (some .int), Cond.methodLink RzU 167 yzU_isAlarmed, Cond.instanceMethod yzU_isAlarmed, Cond.code yzU_isAlarmed czU_isAlarmed 1 (some .boolean), Cond.instanceMethod yzU_cancel, Cond.selects RzU yzU_cancel yzU_cancel, Cond.code yzU_cancel czU_cancel 4 (some .boolean), Cond.instanceMethod yzU_ask, Cond.selects RzU yzU_ask yzU_ask, Cond.code yzU_ask czU_ask 5 none, Cond.methodLink RzU 174 yzU_findSection, Cond.instanceMethod yzU_findSection, Cond.code yzU_findSection czU_findSection 4 (some (.object "CrossingUnit$Section")), Cond.methodLink RzU 178 yzU_checkPerson, Cond.static yzU_checkPerson, Cond.code yzU_checkPerson czU_checkPerson 1 none, Cond.methodLink RzU 186 yzS_startSweep, Cond.instanceMethod yzS_startSweep, Cond.selects RzS yzS_startSweep yzS_startSweep, Cond.code yzS_startSweep czS_startSweep 2 none, Cond.instanceMethod yzU_confirm, Cond.selects RzU yzU_confirm yzU_confirm, Cond.code yzU_confirm czU_confirm 5 (some .boolean)]
def xk_w15 : List Cond := [Cond.methodLink RzU 194 yzS_isSwept, Cond.instanceMethod yzS_isSwept, Cond.selects RzS yzS_isSwept yzS_isSwept, Cond.code yzS_isSwept czS_isSwept 1 (some .boolean), Cond.methodLink RzS 40 yzS_isSweep, Cond.static yzS_isSweep, Cond.code yzS_isSweep czS_isSweep 4 (some .boolean), Cond.methodLink RzU 197 yzK_hasHealthyHeads, Cond.instanceMethod yzK_hasHealthyHeads, Cond.selects RzK yzK_hasHealthyHeads yzK_hasHealthyHeads, Cond.code yzK_hasHealthyHeads czK_hasHealthyHeads 2 (some .boolean), Cond.methodLink RzU 201 yzS_reset, Cond.instanceMethod yzS_reset, Cond.selects RzS yzS_reset yzS_reset, Cond.code yzS_reset czS_reset 1 none, Cond.instanceMethod yzU_section, Cond.selects RzU yzU_section yzU_section, Cond.code yzU_section czU_section 5 (some .int), Cond.instanceMethod yzU_earliest, Cond.selects RzU yzU_earliest yzU_earliest, Cond.code yzU_earliest czU_earliest 5 (some .int), Cond.methodLink RzU 221 Lib.Math.min.name, Cond.static Lib.Math.min.name, Cond.code Lib.Math.min.name Lib.Math.min.code 2 (some .int)]
def xk_w16 : List Cond := [Cond.instanceMethod yzU_about, Cond.selects RzU yzU_about yzU_about, Cond.code yzU_about czU_about 2 (some .int), Cond.methodLink RzU 239 yzU_deadLamps, Cond.instanceMethod yzU_deadLamps, Cond.code yzU_deadLamps czU_deadLamps 3 (some .int), Cond.methodLink RzU 242 yzU_standingOrders, Cond.instanceMethod yzU_standingOrders, Cond.code yzU_standingOrders czU_standingOrders 3 (some .int), Cond.instanceMethod yzU_event, Cond.selects RzU yzU_event yzU_event, Cond.code yzU_event czU_event 4 (some .int), Cond.methodLink RzU 250 yzJ_keeps, Cond.instanceMethod yzJ_keeps, Cond.selects RzJ yzJ_keeps yzJ_keeps, Cond.code yzJ_keeps czJ_keeps 2 (some .boolean), Cond.instantiable RzM 35, Cond.instanceMethod yzM_init, Cond.code yzM_init czM_init 2 none, Cond.methodLink RzM 1 objectInit, Cond.fieldLink RzM 92 "CrossingUnitModel" "thrown" "I", Cond.fieldLink RzM 7 "CrossingUnitModel" "pulses" "[I", Cond.fieldLink RzM 13 "CrossingUnitModel" "sick" "[Z", Cond.fieldLink RzM 17 "CrossingUnitModel" "balances" "[I"]
def xk_w17 : List Cond := [Cond.fieldLink RzM 20 "CrossingUnitModel" "before" "[I", Cond.fieldLink RzM 23 "CrossingUnitModel" "disturbed" "[Z", Cond.fieldLink RzM 26 "CrossingUnitModel" "askers" "[I", Cond.fieldLink RzM 29 "CrossingUnitModel" "lowerIn" "[I", Cond.fieldLink RzM 32 "CrossingUnitModel" "upperOut" "[I", Cond.fieldLink RzM 35 "CrossingUnitModel" "upperIn" "[I", Cond.fieldLink RzM 38 "CrossingUnitModel" "lowerOut" "[I", Cond.fieldLink RzM 41 "CrossingUnitModel" "comings" "[I", Cond.fieldLink RzM 44 "CrossingUnitModel" "cameIn" "[Z", Cond.fieldLink RzM 47 "CrossingUnitModel" "orders" "[Z", Cond.fieldLink RzM 50 "CrossingUnitModel" "positions" "[I", Cond.fieldLink RzM 53 "CrossingUnitModel" "lastPositions" "[I", Cond.fieldLink RzM 56 "CrossingUnitModel" "motors" "[I", Cond.fieldLink RzM 59 "CrossingUnitModel" "zeros" "[I", Cond.fieldLink RzM 62 "CrossingUnitModel" "stalls" "[I", Cond.fieldLink RzM 65 "CrossingUnitModel" "alarms" "[Z", Cond.fieldLink RzM 68 "CrossingUnitModel" "noCurrent" "[Z", Cond.fieldLink RzM 71 "CrossingUnitModel" "lit" "[Z", Cond.fieldLink RzM 74 "CrossingUnitModel" "dark" "[I", Cond.fieldLink RzM 77 "CrossingUnitModel" "dead" "[Z", Cond.fieldLink RzM 122 "CrossingUnitModel" "night" "Z", Cond.fieldLink RzM 161 "CrossingUnitModel" "bell" "Z", Cond.fieldLink RzM 80 "CrossingUnitModel" "clear" "[Z", Cond.fieldLink RzM 103 "CrossingUnitModel" "time" "I"]
def xk_w18 : List Cond := [Cond.fieldLink RzM 152 "CrossingUnitModel" "step" "I", Cond.fieldLink RzM 149 "CrossingUnitModel" "age" "I", Cond.fieldLink RzM 155 "CrossingUnitModel" "quiet" "I", Cond.fieldLink RzM 100 "CrossingUnitModel" "many" "I", Cond.fieldLink RzM 83 "CrossingUnitModel" "times" "[I", Cond.fieldLink RzM 86 "CrossingUnitModel" "kinds" "[I", Cond.fieldLink RzM 89 "CrossingUnitModel" "whiches" "[I", Cond.instanceMethod yzM_thrown, Cond.selects RzM yzM_thrown yzM_thrown, Cond.code yzM_thrown czM_thrown 1 (some .int), Cond.instanceMethod yzM_pulse, Cond.selects RzM yzM_pulse yzM_pulse, Cond.code yzM_pulse czM_pulse 5 none, Cond.methodLink RzM 110 yzM_isHead, Cond.static yzM_isHead, Cond.code yzM_isHead czM_isHead 2 (some .boolean), Cond.methodLink RzM 96 yzM_isTrack, Cond.static yzM_isTrack, Cond.code yzM_isTrack czM_isTrack 1 (some .boolean), Cond.methodLink RzM 114 yzM_goes, Cond.instanceMethod yzM_goes, Cond.code yzM_goes czM_goes 4 (some .boolean), Cond.instanceMethod yzM_health, Cond.selects RzM yzM_health yzM_health]
def xk_w19 : List Cond := [Cond.code yzM_health czM_health 7 (some .boolean), Cond.methodLink RzM 118 yzM_disturb, Cond.instanceMethod yzM_disturb, Cond.code yzM_disturb czM_disturb 2 none, Cond.methodLink RzM 106 yzM_note, Cond.instanceMethod yzM_note, Cond.code yzM_note czM_note 3 none, Cond.instanceMethod yzM_barrier, Cond.selects RzM yzM_barrier yzM_barrier, Cond.code yzM_barrier czM_barrier 5 (some .int), Cond.instanceMethod yzM_current, Cond.selects RzM yzM_current yzM_current, Cond.code yzM_current czM_current 4 (some .boolean), Cond.instanceMethod yzM_night, Cond.selects RzM yzM_night yzM_night, Cond.code yzM_night czM_night 3 (some .boolean), Cond.instanceMethod yzM_order, Cond.selects RzM yzM_order yzM_order, Cond.code yzM_order czM_order 3 (some .int), Cond.methodLink RzM 126 yzM_anyDisturbed, Cond.instanceMethod yzM_anyDisturbed, Cond.code yzM_anyDisturbed czM_anyDisturbed 2 (some .boolean), Cond.methodLink RzM 129 yzM_isFree, Cond.instanceMethod yzM_isFree]
def xk_w20 : List Cond := [Cond.code yzM_isFree czM_isFree 2 (some .boolean), Cond.instanceMethod yzM_cancel, Cond.selects RzM yzM_cancel yzM_cancel, Cond.code yzM_cancel czM_cancel 3 (some .boolean), Cond.instanceMethod yzM_ask, Cond.selects RzM yzM_ask yzM_ask, Cond.code yzM_ask czM_ask 6 none, Cond.methodLink RzM 132 yzM_isSection, Cond.static yzM_isSection, Cond.code yzM_isSection czM_isSection 2 (some .boolean), Cond.instanceMethod yzM_confirm, Cond.selects RzM yzM_confirm yzM_confirm, Cond.code yzM_confirm czM_confirm 7 (some .boolean), Cond.methodLink RzM 135 yzM_swept, Cond.instanceMethod yzM_swept, Cond.code yzM_swept czM_swept 4 (some .boolean), Cond.instanceMethod yzM_tick, Cond.selects RzM yzM_tick yzM_tick, Cond.code yzM_tick czM_tick 1 (some .int), Cond.methodLink RzM 188 yzM_oneTick, Cond.instanceMethod yzM_oneTick, Cond.code yzM_oneTick czM_oneTick 1 none, Cond.methodLink RzM 164 yzM_allPulses, Cond.instanceMethod yzM_allPulses]
def xk_w21 : List Cond := [Cond.code yzM_allPulses czM_allPulses 3 none, Cond.methodLink RzM 141 yzM_counts, Cond.instanceMethod yzM_counts, Cond.code yzM_counts czM_counts 6 none, Cond.methodLink RzM 138 yzM_change, Cond.instanceMethod yzM_change, Cond.code yzM_change czM_change 3 none, Cond.methodLink RzM 167 yzM_allComings, Cond.instanceMethod yzM_allComings, Cond.code yzM_allComings czM_allComings 3 none, Cond.methodLink RzM 170 yzM_useOrders, Cond.instanceMethod yzM_useOrders, Cond.code yzM_useOrders czM_useOrders 2 none, Cond.methodLink RzM 173 yzM_watchLamps, Cond.instanceMethod yzM_watchLamps, Cond.code yzM_watchLamps czM_watchLamps 2 none, Cond.methodLink RzM 176 yzM_watchBarriers, Cond.instanceMethod yzM_watchBarriers, Cond.code yzM_watchBarriers czM_watchBarriers 3 none, Cond.methodLink RzM 179 yzM_goOn, Cond.instanceMethod yzM_goOn, Cond.code yzM_goOn czM_goOn 3 none, Cond.methodLink RzM 145 yzM_demand, Cond.instanceMethod yzM_demand]
def xk_w22 : List Cond := [Cond.code yzM_demand czM_demand 3 (some .boolean), Cond.methodLink RzM 158 yzM_isProved, Cond.instanceMethod yzM_isProved, Cond.code yzM_isProved czM_isProved 1 (some .boolean), Cond.methodLink RzM 182 yzM_drive, Cond.instanceMethod yzM_drive, Cond.code yzM_drive czM_drive 4 none, Cond.methodLink RzM 185 yzM_signal, Cond.instanceMethod yzM_signal, Cond.code yzM_signal czM_signal 3 none, Cond.methodLink RzM 191 yzM_output, Cond.instanceMethod yzM_output, Cond.code yzM_output czM_output 3 (some .int), Cond.instanceMethod yzM_ticks, Cond.selects RzM yzM_ticks yzM_ticks, Cond.code yzM_ticks czM_ticks 3 (some .int), Cond.instanceMethod yzM_section, Cond.selects RzM yzM_section yzM_section, Cond.code yzM_section czM_section 5 (some .int), Cond.instanceMethod yzM_earliest, Cond.selects RzM yzM_earliest yzM_earliest, Cond.code yzM_earliest czM_earliest 4 (some .int), Cond.instanceMethod yzM_about, Cond.selects RzM yzM_about yzM_about]
def xk_w23 : List Cond := [Cond.code yzM_about czM_about 2 (some .int), Cond.instanceMethod yzM_event, Cond.selects RzM yzM_event yzM_event, Cond.code yzM_event czM_event 3 (some .int), Cond.arrayClass .long, Cond.initialized RzL, Cond.classLink RzL 8 RzU, Cond.methodLink RzL 62 yzU_init, Cond.methodLink RzL 80 yzU_tick, Cond.methodLink RzL 96 yzU_night, Cond.methodLink RzL 66 yzL_pulse, Cond.static yzL_pulse, Cond.codeWith yzL_pulse czL_pulse 5 (some .int) [(0, 7, 10, 13), (0, 7, 14, 15), (0, 7, 18, 17)], Cond.classLink RzL 13 "java/util/NoSuchElementException", Cond.classLink RzL 15 "java/lang/IllegalArgumentException", Cond.classLink RzL 17 "java/lang/IllegalStateException", Cond.methodLink RzL 7 yzU_pulse, Cond.methodLink RzL 76 yzL_health, Cond.static yzL_health, Cond.codeWith yzL_health czL_health 6 (some .int) [(0, 19, 22, 13)], Cond.methodLink RzL 19 yzU_health, Cond.methodLink RzL 84 yzL_ticks, Cond.static yzL_ticks, Cond.codeWith yzL_ticks czL_ticks 4 (some .int) [(0, 9, 12, 15)]]
def xk_w24 : List Cond := [Cond.methodLink RzL 23 yzU_ticks, Cond.methodLink RzL 88 yzL_barrier, Cond.static yzL_barrier, Cond.codeWith yzL_barrier czL_barrier 5 (some .int) [(0, 10, 13, 13), (0, 10, 17, 15)], Cond.methodLink RzL 27 yzU_barrier, Cond.methodLink RzL 92 yzL_current, Cond.static yzL_current, Cond.codeWith yzL_current czL_current 5 (some .int) [(0, 17, 20, 13)], Cond.methodLink RzL 31 yzU_current, Cond.methodLink RzL 101 yzL_order, Cond.static yzL_order, Cond.codeWith yzL_order czL_order 4 (some .int) [(0, 9, 12, 13)], Cond.methodLink RzL 35 yzU_order, Cond.methodLink RzL 104 yzL_cancel, Cond.static yzL_cancel, Cond.codeWith yzL_cancel czL_cancel 4 (some .int) [(0, 16, 19, 13)], Cond.methodLink RzL 38 yzU_cancel, Cond.methodLink RzL 107 yzL_ask, Cond.static yzL_ask, Cond.codeWith yzL_ask czL_ask 5 (some .int) [(0, 7, 10, 13), (0, 7, 14, 17)], Cond.methodLink RzL 42 yzU_ask, Cond.methodLink RzL 110 yzL_confirm, Cond.static yzL_confirm, Cond.codeWith yzL_confirm czL_confirm 6 (some .int) [(0, 19, 22, 13), (0, 19, 26, 17)]]
def xk_w25 : List Cond := [Cond.methodLink RzL 45 yzU_confirm, Cond.methodLink RzL 114 yzL_section, Cond.static yzL_section, Cond.codeWith yzL_section czL_section 6 (some .int) [(0, 12, 15, 13), (0, 12, 19, 15)], Cond.methodLink RzL 49 yzU_section, Cond.methodLink RzL 117 yzL_earliest, Cond.static yzL_earliest, Cond.codeWith yzL_earliest czL_earliest 4 (some .int) [(0, 9, 12, 13)], Cond.methodLink RzL 53 yzU_earliest, Cond.methodLink RzL 120 yzL_about, Cond.static yzL_about, Cond.codeWith yzL_about czL_about 4 (some .int) [(0, 9, 12, 15)], Cond.methodLink RzL 56 yzU_about, Cond.methodLink RzL 123 yzL_event, Cond.static yzL_event, Cond.codeWith yzL_event czL_event 5 (some .int) [(0, 10, 13, 13), (0, 10, 17, 15)], Cond.methodLink RzL 59 yzU_event, Cond.classLink RzL 63 RzM, Cond.methodLink RzL 65 yzM_init, Cond.methodLink RzL 72 yzM_thrown, Cond.methodLink RzL 71 yzM_pulse, Cond.methodLink RzL 79 yzM_health, Cond.methodLink RzL 91 yzM_barrier, Cond.methodLink RzL 95 yzM_current]
def xk_w26 : List Cond := [Cond.methodLink RzL 100 yzM_night, Cond.methodLink RzL 103 yzM_order, Cond.methodLink RzL 106 yzM_cancel, Cond.methodLink RzL 109 yzM_ask, Cond.methodLink RzL 113 yzM_confirm, Cond.methodLink RzL 83 yzM_tick, Cond.methodLink RzL 87 yzM_ticks, Cond.methodLink RzL 116 yzM_section, Cond.methodLink RzL 119 yzM_earliest, Cond.methodLink RzL 122 yzM_about, Cond.methodLink RzL 125 yzM_event]
def xk_WSa : List Cond := xk_w0 ++ (xk_w1 ++ (xk_w2 ++ (xk_w3 ++ (xk_w4 ++ (xk_w5 ++ (xk_w6 ++ (xk_w7 ++ (xk_w8 ++ (xk_w9 ++ (xk_w10 ++ (xk_w11 ++ (xk_w12 ++ (xk_w13 ++ (xk_w14 ++ (xk_w15 ++ (xk_w16 ++ (xk_w17 ++ (xk_w18 ++ (xk_w19 ++ (xk_w20 ++ (xk_w21 ++ (xk_w22 ++ (xk_w23 ++ (xk_w24 ++ (xk_w25 ++ (xk_w26))))))))))))))))))))))))))
def xk_WSb : List Cond := u_ws RzU TzU 10 ++ (u_ws RzS TzS 9 ++ (u_ws RzE TzE 3 ++ (u_ws RzK TzK 6 ++ (u_ws RzB TzB 6 ++ (u_ws RzP TzP 4 ++ (u_ws RzR TzR 3 ++ (u_ws RzJ TzJ 4 ++ (u_ws RzM TzM 35))))))))
def xk_t0 : List Cond := [Cond.initialized "java/lang/Throwable", Cond.initialized "java/lang/Exception", Cond.initialized "java/lang/RuntimeException", Cond.initialized "java/util/NoSuchElementException", Cond.initialized "java/lang/IllegalArgumentException", Cond.initialized "java/lang/IllegalStateException", Cond.methodLink RzU 1 objectInit, Cond.instanceMethod objectInit, Cond.code objectInit object_method_1_code 1 none, Cond.methodLink RzR 3 objectInit, Cond.methodLink RzJ 3 objectInit, Cond.methodLink RzK 3 objectInit, Cond.methodLink RzS 3 objectInit, Cond.methodLink RzE 3 objectInit, Cond.methodLink RzB 3 objectInit, Cond.methodLink RzP 3 objectInit, Cond.instantiable "java/util/NoSuchElementException" 6, Cond.selects "java/util/NoSuchElementException" ⟨"java/lang/Throwable", "fillInStackTrace", "(I)Ljava/lang/Throwable;"⟩ ⟨"java/lang/Throwable", "fillInStackTrace", "(I)Ljava/lang/Throwable;"⟩, Cond.selects "java/util/NoSuchElementException" ⟨"java/lang/Throwable", "fillInStackTrace", "()Ljava/lang/Throwable;"⟩ ⟨"java/lang/Throwable", "fillInStackTrace", "()Ljava/lang/Throwable;"⟩, Cond.lays "java/util/NoSuchElementException" "java/lang/Throwable" "cause" "Ljava/lang/Throwable;", Cond.lays "java/lang/Throwable" "java/lang/Throwable" "cause" "Ljava/lang/Throwable;", Cond.lays "java/util/NoSuchElementException" "java/lang/Throwable" "stackTrace" "[Ljava/lang/StackTraceElement;", Cond.lays "java/lang/Throwable" "java/lang/Throwable" "stackTrace" "[Ljava/lang/StackTraceElement;", Cond.lays "java/util/NoSuchElementException" "java/lang/Throwable" "suppressedExceptions" "Ljava/util/List;"]
def xk_t1 : List Cond := [Cond.lays "java/lang/Throwable" "java/lang/Throwable" "suppressedExceptions" "Ljava/util/List;", Cond.lays "java/util/NoSuchElementException" "java/lang/Throwable" "detailMessage" "Ljava/lang/String;", Cond.lays "java/lang/Throwable" "java/lang/Throwable" "detailMessage" "Ljava/lang/String;", Cond.lays "java/util/NoSuchElementException" "java/lang/Throwable" "backtrace" "Ljava/lang/Object;", Cond.lays "java/lang/Throwable" "java/lang/Throwable" "backtrace" "Ljava/lang/Object;", Cond.fieldLink "java/lang/Throwable" 198 "java/lang/Throwable" "backtrace" "Ljava/lang/Object;", Cond.superclass "java/lang/Throwable" "java/lang/Object", Cond.instanceMethod ⟨"java/lang/Throwable", "<init>", "()V"⟩, Cond.code ⟨"java/lang/Throwable", "<init>", "()V"⟩ prog_17_method_1_code 1 none, Cond.methodLink "java/lang/Throwable" 1 objectInit, Cond.fieldLink "java/lang/Throwable" 13 "java/lang/Throwable" "UNASSIGNED_STACK" "[Ljava/lang/StackTraceElement;", Cond.fieldLink "java/lang/Throwable" 20 "java/lang/Throwable" "SUPPRESSED_SENTINEL" "Ljava/util/List;", Cond.methodLink "java/lang/Throwable" 27 ⟨"java/lang/Throwable", "fillInStackTrace", "()Ljava/lang/Throwable;"⟩, Cond.instanceMethod ⟨"java/lang/Throwable", "fillInStackTrace", "()Ljava/lang/Throwable;"⟩, Cond.selects "java/lang/IllegalArgumentException" ⟨"java/lang/Throwable", "fillInStackTrace", "()Ljava/lang/Throwable;"⟩ ⟨"java/lang/Throwable", "fillInStackTrace", "()Ljava/lang/Throwable;"⟩, Cond.selects "java/lang/IllegalStateException" ⟨"java/lang/Throwable", "fillInStackTrace", "()Ljava/lang/Throwable;"⟩ ⟨"java/lang/Throwable", "fillInStackTrace", "()Ljava/lang/Throwable;"⟩, Cond.codeSync ⟨"java/lang/Throwable", "fillInStackTrace", "()Ljava/lang/Throwable;"⟩ prog_17_method_18_code 1 (some (.object "java/lang/Throwable")), Cond.methodLink "java/lang/Throwable" 202 ⟨"java/lang/Throwable", "fillInStackTrace", "(I)Ljava/lang/Throwable;"⟩, Cond.instanceMethod ⟨"java/lang/Throwable", "fillInStackTrace", "(I)Ljava/lang/Throwable;"⟩, Cond.instantiable "java/lang/Throwable" 6, Cond.native ⟨"java/lang/Throwable", "fillInStackTrace", "(I)Ljava/lang/Throwable;"⟩, Cond.methodLink RzU 141 ⟨"java/util/NoSuchElementException", "<init>", "(Ljava/lang/String;)V"⟩, Cond.instanceMethod ⟨"java/util/NoSuchElementException", "<init>", "(Ljava/lang/String;)V"⟩, Cond.code ⟨"java/util/NoSuchElementException", "<init>", "(Ljava/lang/String;)V"⟩ prog_18_method_4_code 2 none]
def xk_t2 : List Cond := [Cond.methodLink "java/util/NoSuchElementException" 13 ⟨"java/lang/RuntimeException", "<init>", "(Ljava/lang/String;)V"⟩, Cond.instanceMethod ⟨"java/lang/RuntimeException", "<init>", "(Ljava/lang/String;)V"⟩, Cond.code ⟨"java/lang/RuntimeException", "<init>", "(Ljava/lang/String;)V"⟩ prog_15_method_2_code 2 none, Cond.methodLink "java/lang/RuntimeException" 7 ⟨"java/lang/Exception", "<init>", "(Ljava/lang/String;)V"⟩, Cond.instanceMethod ⟨"java/lang/Exception", "<init>", "(Ljava/lang/String;)V"⟩, Cond.code ⟨"java/lang/Exception", "<init>", "(Ljava/lang/String;)V"⟩ prog_11_method_2_code 2 none, Cond.methodLink "java/lang/Exception" 7 ⟨"java/lang/Throwable", "<init>", "(Ljava/lang/String;)V"⟩, Cond.instanceMethod ⟨"java/lang/Throwable", "<init>", "(Ljava/lang/String;)V"⟩, Cond.code ⟨"java/lang/Throwable", "<init>", "(Ljava/lang/String;)V"⟩ prog_17_method_2_code 2 none, Cond.fieldLink "java/lang/Throwable" 198 "java/lang/Throwable" "backtrace" "Ljava/lang/Object;", Cond.fieldLink "java/lang/Throwable" 31 "java/lang/Throwable" "detailMessage" "Ljava/lang/String;", Cond.fieldLink "java/lang/Throwable" 7 "java/lang/Throwable" "cause" "Ljava/lang/Throwable;", Cond.fieldLink "java/lang/Throwable" 17 "java/lang/Throwable" "stackTrace" "[Ljava/lang/StackTraceElement;", Cond.fieldLink "java/lang/Throwable" 24 "java/lang/Throwable" "suppressedExceptions" "Ljava/util/List;", Cond.lays "java/util/NoSuchElementException" "java/lang/Throwable" "depth" "I", Cond.superclass "java/util/NoSuchElementException" "java/lang/RuntimeException", Cond.instantiable "java/lang/IllegalArgumentException" 6, Cond.selects "java/lang/IllegalArgumentException" ⟨"java/lang/Throwable", "fillInStackTrace", "(I)Ljava/lang/Throwable;"⟩ ⟨"java/lang/Throwable", "fillInStackTrace", "(I)Ljava/lang/Throwable;"⟩, Cond.lays "java/lang/IllegalArgumentException" "java/lang/Throwable" "cause" "Ljava/lang/Throwable;", Cond.lays "java/lang/IllegalArgumentException" "java/lang/Throwable" "stackTrace" "[Ljava/lang/StackTraceElement;", Cond.lays "java/lang/IllegalArgumentException" "java/lang/Throwable" "suppressedExceptions" "Ljava/util/List;", Cond.lays "java/lang/IllegalArgumentException" "java/lang/Throwable" "detailMessage" "Ljava/lang/String;", Cond.lays "java/lang/IllegalArgumentException" "java/lang/Throwable" "backtrace" "Ljava/lang/Object;", Cond.methodLink RzU 74 ⟨"java/lang/IllegalArgumentException", "<init>", "(Ljava/lang/String;)V"⟩]
def xk_t3 : List Cond := [Cond.instanceMethod ⟨"java/lang/IllegalArgumentException", "<init>", "(Ljava/lang/String;)V"⟩, Cond.code ⟨"java/lang/IllegalArgumentException", "<init>", "(Ljava/lang/String;)V"⟩ prog_12_method_2_code 2 none, Cond.methodLink "java/lang/IllegalArgumentException" 7 ⟨"java/lang/RuntimeException", "<init>", "(Ljava/lang/String;)V"⟩, Cond.lays "java/lang/IllegalArgumentException" "java/lang/Throwable" "depth" "I", Cond.superclass "java/lang/IllegalArgumentException" "java/lang/RuntimeException", Cond.instantiable "java/lang/IllegalStateException" 6, Cond.selects "java/lang/IllegalStateException" ⟨"java/lang/Throwable", "fillInStackTrace", "(I)Ljava/lang/Throwable;"⟩ ⟨"java/lang/Throwable", "fillInStackTrace", "(I)Ljava/lang/Throwable;"⟩, Cond.lays "java/lang/IllegalStateException" "java/lang/Throwable" "cause" "Ljava/lang/Throwable;", Cond.lays "java/lang/IllegalStateException" "java/lang/Throwable" "stackTrace" "[Ljava/lang/StackTraceElement;", Cond.lays "java/lang/IllegalStateException" "java/lang/Throwable" "suppressedExceptions" "Ljava/util/List;", Cond.lays "java/lang/IllegalStateException" "java/lang/Throwable" "detailMessage" "Ljava/lang/String;", Cond.lays "java/lang/IllegalStateException" "java/lang/Throwable" "backtrace" "Ljava/lang/Object;", Cond.methodLink RzU 85 ⟨"java/lang/IllegalStateException", "<init>", "(Ljava/lang/String;)V"⟩, Cond.instanceMethod ⟨"java/lang/IllegalStateException", "<init>", "(Ljava/lang/String;)V"⟩, Cond.code ⟨"java/lang/IllegalStateException", "<init>", "(Ljava/lang/String;)V"⟩ prog_13_method_2_code 2 none, Cond.methodLink "java/lang/IllegalStateException" 7 ⟨"java/lang/RuntimeException", "<init>", "(Ljava/lang/String;)V"⟩, Cond.lays "java/lang/IllegalStateException" "java/lang/Throwable" "depth" "I", Cond.superclass "java/lang/IllegalStateException" "java/lang/RuntimeException", Cond.methodLink RzM 1 objectInit]
def xk_TW : List Cond := xk_t0 ++ (xk_t1 ++ (xk_t2 ++ (xk_t3)))
def xk_WS : List Cond := xk_WSa ++ (xk_WSb ++ xk_TW)
theorem iwzU : ∀ w ∈ u_ws RzU TzU 10, w ∈ xk_WS := fun w h => List.mem_append_right _ (List.mem_append_left _ (List.mem_append_left _ h))
theorem iwzS : ∀ w ∈ u_ws RzS TzS 9, w ∈ xk_WS := fun w h => List.mem_append_right _ (List.mem_append_left _ (List.mem_append_right _ (List.mem_append_left _ h)))
theorem iwzE : ∀ w ∈ u_ws RzE TzE 3, w ∈ xk_WS := fun w h => List.mem_append_right _ (List.mem_append_left _ (List.mem_append_right _ (List.mem_append_right _ (List.mem_append_left _ h))))
theorem iwzK : ∀ w ∈ u_ws RzK TzK 6, w ∈ xk_WS := fun w h => List.mem_append_right _ (List.mem_append_left _ (List.mem_append_right _ (List.mem_append_right _ (List.mem_append_right _ (List.mem_append_left _ h)))))
theorem iwzB : ∀ w ∈ u_ws RzB TzB 6, w ∈ xk_WS := fun w h => List.mem_append_right _ (List.mem_append_left _ (List.mem_append_right _ (List.mem_append_right _ (List.mem_append_right _ (List.mem_append_right _ (List.mem_append_left _ h))))))
theorem iwzP : ∀ w ∈ u_ws RzP TzP 4, w ∈ xk_WS := fun w h => List.mem_append_right _ (List.mem_append_left _ (List.mem_append_right _ (List.mem_append_right _ (List.mem_append_right _ (List.mem_append_right _ (List.mem_append_right _ (List.mem_append_left _ h)))))))
theorem iwzR : ∀ w ∈ u_ws RzR TzR 3, w ∈ xk_WS := fun w h => List.mem_append_right _ (List.mem_append_left _ (List.mem_append_right _ (List.mem_append_right _ (List.mem_append_right _ (List.mem_append_right _ (List.mem_append_right _ (List.mem_append_right _ (List.mem_append_left _ h))))))))
theorem iwzJ : ∀ w ∈ u_ws RzJ TzJ 4, w ∈ xk_WS := fun w h => List.mem_append_right _ (List.mem_append_left _ (List.mem_append_right _ (List.mem_append_right _ (List.mem_append_right _ (List.mem_append_right _ (List.mem_append_right _ (List.mem_append_right _ (List.mem_append_right _ (List.mem_append_left _ h)))))))))
theorem iwzM : ∀ w ∈ u_ws RzM TzM 35, w ∈ xk_WS := fun w h => List.mem_append_right _ (List.mem_append_left _ (List.mem_append_right _ (List.mem_append_right _ (List.mem_append_right _ (List.mem_append_right _ (List.mem_append_right _ (List.mem_append_right _ (List.mem_append_right _ (List.mem_append_right _ h)))))))))
theorem xk_inT : ∀ w ∈ xk_TW, w ∈ xk_WS := fun w h => List.mem_append_right _ (List.mem_append_right _ h)
theorem gWS : xk_WS.all goodWord = true := by decide +kernel
abbrev xk_cls : List vw_C := [(RzU, TzU, 10), (RzS, TzS, 9), (RzE, TzE, 3), (RzK, TzK, 6), (RzB, TzB, 6), (RzP, TzP, 4), (RzR, TzR, 3), (RzJ, TzJ, 4), (RzM, TzM, 35)]
def xk_tys (ac : Nat → ClassId) : List (ClassId × FieldType) := [(ac 0, .int), (ac 1, .boolean), (ac 2, .object "CrossingUnit$Track"), (ac 3, .object "CrossingUnit$Section"), (ac 4, .object "CrossingUnit$End"), (ac 5, .object "CrossingUnit$Barrier"), (ac 6, .object "CrossingUnit$Lamp"), (ac 7, .long)]
abbrev xk_St : Type := Nat → Nat → Int32
def xk_r0 : Room := { frames := 0, cells := 0, slots := 0, locals := 0 }
def xk_r1 : Room := { frames := 1, cells := 0, slots := 0, locals := 36 }
def xk_r2 : Room := { frames := 2, cells := 0, slots := 0, locals := 72 }
def xk_r3 : Room := { frames := 3, cells := 0, slots := 0, locals := 108 }
def xk_r4 : Room := { frames := 4, cells := 0, slots := 0, locals := 144 }
def xk_r5 : Room := { frames := 5, cells := 0, slots := 0, locals := 180 }
def xk_r6 : Room := { frames := 6, cells := 0, slots := 0, locals := 216 }
def xk_r7 : Room := { frames := 7, cells := 0, slots := 0, locals := 252 }
def xk_r8 : Room := { frames := 8, cells := 0, slots := 0, locals := 288 }
def xk_r9 : Room := { frames := 9, cells := 0, slots := 0, locals := 324 }
theorem xk_in0 : ∀ w ∈ xk_w0, w ∈ xk_WS := fun w h => List.mem_append_left _ (List.mem_append_left _ h)
theorem xk_in1 : ∀ w ∈ xk_w1, w ∈ xk_WS := fun w h => List.mem_append_left _ (List.mem_append_right _ (List.mem_append_left _ h))
theorem xk_in2 : ∀ w ∈ xk_w2, w ∈ xk_WS := fun w h => List.mem_append_left _ (List.mem_append_right _ (List.mem_append_right _ (List.mem_append_left _ h)))
theorem xk_in3 : ∀ w ∈ xk_w3, w ∈ xk_WS := fun w h => List.mem_append_left _ (List.mem_append_right _ (List.mem_append_right _ (List.mem_append_right _ (List.mem_append_left _ h))))
theorem xk_in4 : ∀ w ∈ xk_w4, w ∈ xk_WS := fun w h => List.mem_append_left _ (List.mem_append_right _ (List.mem_append_right _ (List.mem_append_right _ (List.mem_append_right _ (List.mem_append_left _ h)))))
theorem xk_in5 : ∀ w ∈ xk_w5, w ∈ xk_WS := fun w h => List.mem_append_left _ (List.mem_append_right _ (List.mem_append_right _ (List.mem_append_right _ (List.mem_append_right _ (List.mem_append_right _ (List.mem_append_left _ h))))))
theorem xk_in6 : ∀ w ∈ xk_w6, w ∈ xk_WS := fun w h => List.mem_append_left _ (List.mem_append_right _ (List.mem_append_right _ (List.mem_append_right _ (List.mem_append_right _ (List.mem_append_right _ (List.mem_append_right _ (List.mem_append_left _ h)))))))
theorem xk_in7 : ∀ w ∈ xk_w7, w ∈ xk_WS := fun w h => List.mem_append_left _ (List.mem_append_right _ (List.mem_append_right _ (List.mem_append_right _ (List.mem_append_right _ (List.mem_append_right _ (List.mem_append_right _ (List.mem_append_right _ (List.mem_append_left _ h))))))))
theorem xk_in8 : ∀ w ∈ xk_w8, w ∈ xk_WS := fun w h => List.mem_append_left _ (List.mem_append_right _ (List.mem_append_right _ (List.mem_append_right _ (List.mem_append_right _ (List.mem_append_right _ (List.mem_append_right _ (List.mem_append_right _ (List.mem_append_right _ (List.mem_append_left _ h)))))))))
theorem xk_in9 : ∀ w ∈ xk_w9, w ∈ xk_WS := fun w h => List.mem_append_left _ (List.mem_append_right _ (List.mem_append_right _ (List.mem_append_right _ (List.mem_append_right _ (List.mem_append_right _ (List.mem_append_right _ (List.mem_append_right _ (List.mem_append_right _ (List.mem_append_right _ (List.mem_append_left _ h))))))))))
theorem xk_in10 : ∀ w ∈ xk_w10, w ∈ xk_WS := fun w h => List.mem_append_left _ (List.mem_append_right _ (List.mem_append_right _ (List.mem_append_right _ (List.mem_append_right _ (List.mem_append_right _ (List.mem_append_right _ (List.mem_append_right _ (List.mem_append_right _ (List.mem_append_right _ (List.mem_append_right _ (List.mem_append_left _ h)))))))))))
theorem xk_in11 : ∀ w ∈ xk_w11, w ∈ xk_WS := fun w h => List.mem_append_left _ (List.mem_append_right _ (List.mem_append_right _ (List.mem_append_right _ (List.mem_append_right _ (List.mem_append_right _ (List.mem_append_right _ (List.mem_append_right _ (List.mem_append_right _ (List.mem_append_right _ (List.mem_append_right _ (List.mem_append_right _ (List.mem_append_left _ h))))))))))))
theorem xk_in12 : ∀ w ∈ xk_w12, w ∈ xk_WS := fun w h => List.mem_append_left _ (List.mem_append_right _ (List.mem_append_right _ (List.mem_append_right _ (List.mem_append_right _ (List.mem_append_right _ (List.mem_append_right _ (List.mem_append_right _ (List.mem_append_right _ (List.mem_append_right _ (List.mem_append_right _ (List.mem_append_right _ (List.mem_append_right _ (List.mem_append_left _ h)))))))))))))
theorem xk_in13 : ∀ w ∈ xk_w13, w ∈ xk_WS := fun w h => List.mem_append_left _ (List.mem_append_right _ (List.mem_append_right _ (List.mem_append_right _ (List.mem_append_right _ (List.mem_append_right _ (List.mem_append_right _ (List.mem_append_right _ (List.mem_append_right _ (List.mem_append_right _ (List.mem_append_right _ (List.mem_append_right _ (List.mem_append_right _ (List.mem_append_right _ (List.mem_append_left _ h))))))))))))))
theorem xk_in14 : ∀ w ∈ xk_w14, w ∈ xk_WS := fun w h => List.mem_append_left _ (List.mem_append_right _ (List.mem_append_right _ (List.mem_append_right _ (List.mem_append_right _ (List.mem_append_right _ (List.mem_append_right _ (List.mem_append_right _ (List.mem_append_right _ (List.mem_append_right _ (List.mem_append_right _ (List.mem_append_right _ (List.mem_append_right _ (List.mem_append_right _ (List.mem_append_right _ (List.mem_append_left _ h)))))))))))))))
theorem xk_in15 : ∀ w ∈ xk_w15, w ∈ xk_WS := fun w h => List.mem_append_left _ (List.mem_append_right _ (List.mem_append_right _ (List.mem_append_right _ (List.mem_append_right _ (List.mem_append_right _ (List.mem_append_right _ (List.mem_append_right _ (List.mem_append_right _ (List.mem_append_right _ (List.mem_append_right _ (List.mem_append_right _ (List.mem_append_right _ (List.mem_append_right _ (List.mem_append_right _ (List.mem_append_right _ (List.mem_append_left _ h))))))))))))))))
theorem xk_in16 : ∀ w ∈ xk_w16, w ∈ xk_WS := fun w h => List.mem_append_left _ (List.mem_append_right _ (List.mem_append_right _ (List.mem_append_right _ (List.mem_append_right _ (List.mem_append_right _ (List.mem_append_right _ (List.mem_append_right _ (List.mem_append_right _ (List.mem_append_right _ (List.mem_append_right _ (List.mem_append_right _ (List.mem_append_right _ (List.mem_append_right _ (List.mem_append_right _ (List.mem_append_right _ (List.mem_append_right _ (List.mem_append_left _ h)))))))))))))))))
theorem xk_in17 : ∀ w ∈ xk_w17, w ∈ xk_WS := fun w h => List.mem_append_left _ (List.mem_append_right _ (List.mem_append_right _ (List.mem_append_right _ (List.mem_append_right _ (List.mem_append_right _ (List.mem_append_right _ (List.mem_append_right _ (List.mem_append_right _ (List.mem_append_right _ (List.mem_append_right _ (List.mem_append_right _ (List.mem_append_right _ (List.mem_append_right _ (List.mem_append_right _ (List.mem_append_right _ (List.mem_append_right _ (List.mem_append_right _ (List.mem_append_left _ h))))))))))))))))))
theorem xk_in18 : ∀ w ∈ xk_w18, w ∈ xk_WS := fun w h => List.mem_append_left _ (List.mem_append_right _ (List.mem_append_right _ (List.mem_append_right _ (List.mem_append_right _ (List.mem_append_right _ (List.mem_append_right _ (List.mem_append_right _ (List.mem_append_right _ (List.mem_append_right _ (List.mem_append_right _ (List.mem_append_right _ (List.mem_append_right _ (List.mem_append_right _ (List.mem_append_right _ (List.mem_append_right _ (List.mem_append_right _ (List.mem_append_right _ (List.mem_append_right _ (List.mem_append_left _ h)))))))))))))))))))
theorem xk_in19 : ∀ w ∈ xk_w19, w ∈ xk_WS := fun w h => List.mem_append_left _ (List.mem_append_right _ (List.mem_append_right _ (List.mem_append_right _ (List.mem_append_right _ (List.mem_append_right _ (List.mem_append_right _ (List.mem_append_right _ (List.mem_append_right _ (List.mem_append_right _ (List.mem_append_right _ (List.mem_append_right _ (List.mem_append_right _ (List.mem_append_right _ (List.mem_append_right _ (List.mem_append_right _ (List.mem_append_right _ (List.mem_append_right _ (List.mem_append_right _ (List.mem_append_right _ (List.mem_append_left _ h))))))))))))))))))))
theorem xk_in20 : ∀ w ∈ xk_w20, w ∈ xk_WS := fun w h => List.mem_append_left _ (List.mem_append_right _ (List.mem_append_right _ (List.mem_append_right _ (List.mem_append_right _ (List.mem_append_right _ (List.mem_append_right _ (List.mem_append_right _ (List.mem_append_right _ (List.mem_append_right _ (List.mem_append_right _ (List.mem_append_right _ (List.mem_append_right _ (List.mem_append_right _ (List.mem_append_right _ (List.mem_append_right _ (List.mem_append_right _ (List.mem_append_right _ (List.mem_append_right _ (List.mem_append_right _ (List.mem_append_right _ (List.mem_append_left _ h)))))))))))))))))))))
theorem xk_in21 : ∀ w ∈ xk_w21, w ∈ xk_WS := fun w h => List.mem_append_left _ (List.mem_append_right _ (List.mem_append_right _ (List.mem_append_right _ (List.mem_append_right _ (List.mem_append_right _ (List.mem_append_right _ (List.mem_append_right _ (List.mem_append_right _ (List.mem_append_right _ (List.mem_append_right _ (List.mem_append_right _ (List.mem_append_right _ (List.mem_append_right _ (List.mem_append_right _ (List.mem_append_right _ (List.mem_append_right _ (List.mem_append_right _ (List.mem_append_right _ (List.mem_append_right _ (List.mem_append_right _ (List.mem_append_right _ (List.mem_append_left _ h))))))))))))))))))))))
theorem xk_in22 : ∀ w ∈ xk_w22, w ∈ xk_WS := fun w h => List.mem_append_left _ (List.mem_append_right _ (List.mem_append_right _ (List.mem_append_right _ (List.mem_append_right _ (List.mem_append_right _ (List.mem_append_right _ (List.mem_append_right _ (List.mem_append_right _ (List.mem_append_right _ (List.mem_append_right _ (List.mem_append_right _ (List.mem_append_right _ (List.mem_append_right _ (List.mem_append_right _ (List.mem_append_right _ (List.mem_append_right _ (List.mem_append_right _ (List.mem_append_right _ (List.mem_append_right _ (List.mem_append_right _ (List.mem_append_right _ (List.mem_append_right _ (List.mem_append_left _ h)))))))))))))))))))))))
theorem xk_in23 : ∀ w ∈ xk_w23, w ∈ xk_WS := fun w h => List.mem_append_left _ (List.mem_append_right _ (List.mem_append_right _ (List.mem_append_right _ (List.mem_append_right _ (List.mem_append_right _ (List.mem_append_right _ (List.mem_append_right _ (List.mem_append_right _ (List.mem_append_right _ (List.mem_append_right _ (List.mem_append_right _ (List.mem_append_right _ (List.mem_append_right _ (List.mem_append_right _ (List.mem_append_right _ (List.mem_append_right _ (List.mem_append_right _ (List.mem_append_right _ (List.mem_append_right _ (List.mem_append_right _ (List.mem_append_right _ (List.mem_append_right _ (List.mem_append_right _ (List.mem_append_left _ h))))))))))))))))))))))))
theorem xk_in24 : ∀ w ∈ xk_w24, w ∈ xk_WS := fun w h => List.mem_append_left _ (List.mem_append_right _ (List.mem_append_right _ (List.mem_append_right _ (List.mem_append_right _ (List.mem_append_right _ (List.mem_append_right _ (List.mem_append_right _ (List.mem_append_right _ (List.mem_append_right _ (List.mem_append_right _ (List.mem_append_right _ (List.mem_append_right _ (List.mem_append_right _ (List.mem_append_right _ (List.mem_append_right _ (List.mem_append_right _ (List.mem_append_right _ (List.mem_append_right _ (List.mem_append_right _ (List.mem_append_right _ (List.mem_append_right _ (List.mem_append_right _ (List.mem_append_right _ (List.mem_append_right _ (List.mem_append_left _ h)))))))))))))))))))))))))
theorem xk_in25 : ∀ w ∈ xk_w25, w ∈ xk_WS := fun w h => List.mem_append_left _ (List.mem_append_right _ (List.mem_append_right _ (List.mem_append_right _ (List.mem_append_right _ (List.mem_append_right _ (List.mem_append_right _ (List.mem_append_right _ (List.mem_append_right _ (List.mem_append_right _ (List.mem_append_right _ (List.mem_append_right _ (List.mem_append_right _ (List.mem_append_right _ (List.mem_append_right _ (List.mem_append_right _ (List.mem_append_right _ (List.mem_append_right _ (List.mem_append_right _ (List.mem_append_right _ (List.mem_append_right _ (List.mem_append_right _ (List.mem_append_right _ (List.mem_append_right _ (List.mem_append_right _ (List.mem_append_right _ (List.mem_append_left _ h))))))))))))))))))))))))))
theorem xk_in26 : ∀ w ∈ xk_w26, w ∈ xk_WS := fun w h => List.mem_append_left _ (List.mem_append_right _ (List.mem_append_right _ (List.mem_append_right _ (List.mem_append_right _ (List.mem_append_right _ (List.mem_append_right _ (List.mem_append_right _ (List.mem_append_right _ (List.mem_append_right _ (List.mem_append_right _ (List.mem_append_right _ (List.mem_append_right _ (List.mem_append_right _ (List.mem_append_right _ (List.mem_append_right _ (List.mem_append_right _ (List.mem_append_right _ (List.mem_append_right _ (List.mem_append_right _ (List.mem_append_right _ (List.mem_append_right _ (List.mem_append_right _ (List.mem_append_right _ (List.mem_append_right _ (List.mem_append_right _ (List.mem_append_right _ h))))))))))))))))))))))))))
theorem xk_m0 : Cond.selects RzU yzU_rememberBalances yzU_rememberBalances ∈ xk_WS := xk_in0 _ (List.mem_of_getElem? (i := 0) rfl)
theorem xk_m1 : Cond.selects RzU yzU_countPulses yzU_countPulses ∈ xk_WS := xk_in0 _ (List.mem_of_getElem? (i := 1) rfl)
theorem xk_m2 : Cond.selects RzU yzU_countAxle yzU_countAxle ∈ xk_WS := xk_in0 _ (List.mem_of_getElem? (i := 2) rfl)
theorem xk_m3 : Cond.selects RzU yzU_disturbIfMiscounted yzU_disturbIfMiscounted ∈ xk_WS := xk_in0 _ (List.mem_of_getElem? (i := 3) rfl)
theorem xk_m4 : Cond.selects RzU yzU_disturb yzU_disturb ∈ xk_WS := xk_in0 _ (List.mem_of_getElem? (i := 4) rfl)
theorem xk_m5 : Cond.selects RzU yzU_followComings yzU_followComings ∈ xk_WS := xk_in0 _ (List.mem_of_getElem? (i := 5) rfl)
theorem xk_m6 : Cond.selects RzU yzU_useUpOrders yzU_useUpOrders ∈ xk_WS := xk_in0 _ (List.mem_of_getElem? (i := 6) rfl)
theorem xk_m7 : Cond.selects RzU yzU_watchLamps yzU_watchLamps ∈ xk_WS := xk_in0 _ (List.mem_of_getElem? (i := 7) rfl)
theorem xk_m8 : Cond.selects RzU yzU_watchBarriers yzU_watchBarriers ∈ xk_WS := xk_in0 _ (List.mem_of_getElem? (i := 8) rfl)
theorem xk_m9 : Cond.selects RzU yzU_moveRoad yzU_moveRoad ∈ xk_WS := xk_in0 _ (List.mem_of_getElem? (i := 9) rfl)
theorem xk_m10 : Cond.selects RzU yzU_isDemanded yzU_isDemanded ∈ xk_WS := xk_in0 _ (List.mem_of_getElem? (i := 10) rfl)
theorem xk_m11 : Cond.selects RzU yzU_isUp yzU_isUp ∈ xk_WS := xk_in0 _ (List.mem_of_getElem? (i := 11) rfl)
theorem xk_m12 : Cond.selects RzR yzR_stepToCome yzR_stepToCome ∈ xk_WS := xk_in0 _ (List.mem_of_getElem? (i := 12) rfl)
theorem xk_m13 : Cond.selects RzU yzU_driveMotors yzU_driveMotors ∈ xk_WS := xk_in0 _ (List.mem_of_getElem? (i := 13) rfl)
theorem xk_m14 : Cond.selects RzU yzU_lightLamps yzU_lightLamps ∈ xk_WS := xk_in0 _ (List.mem_of_getElem? (i := 14) rfl)
theorem xk_m15 : Cond.selects RzU yzU_bellIsDue yzU_bellIsDue ∈ xk_WS := xk_in0 _ (List.mem_of_getElem? (i := 15) rfl)
theorem xk_m16 : Cond.selects RzU yzU_setSignals yzU_setSignals ∈ xk_WS := xk_in0 _ (List.mem_of_getElem? (i := 16) rfl)
theorem xk_m17 : Cond.selects RzU yzU_signalIsDue yzU_signalIsDue ∈ xk_WS := xk_in0 _ (List.mem_of_getElem? (i := 17) rfl)
theorem xk_m18 : Cond.selects RzU yzU_gatherOutput yzU_gatherOutput ∈ xk_WS := xk_in0 _ (List.mem_of_getElem? (i := 18) rfl)
theorem xk_m19 : Cond.selects RzU yzU_findTrack yzU_findTrack ∈ xk_WS := xk_in0 _ (List.mem_of_getElem? (i := 19) rfl)
theorem xk_m20 : Cond.selects RzU yzU_disturbIfThere yzU_disturbIfThere ∈ xk_WS := xk_in0 _ (List.mem_of_getElem? (i := 20) rfl)
theorem xk_m21 : Cond.selects RzU yzU_isAlarmed yzU_isAlarmed ∈ xk_WS := xk_in0 _ (List.mem_of_getElem? (i := 21) rfl)
theorem xk_m22 : Cond.selects RzU yzU_findSection yzU_findSection ∈ xk_WS := xk_in0 _ (List.mem_of_getElem? (i := 22) rfl)
theorem xk_m23 : Cond.selects RzU yzU_deadLamps yzU_deadLamps ∈ xk_WS := xk_in0 _ (List.mem_of_getElem? (i := 23) rfl)
theorem xk_m24 : Cond.selects RzU yzU_standingOrders yzU_standingOrders ∈ xk_WS := xk_in1 _ (List.mem_of_getElem? (i := 0) rfl)
theorem xk_m25 : Cond.selects RzM yzM_goes yzM_goes ∈ xk_WS := xk_in1 _ (List.mem_of_getElem? (i := 1) rfl)
theorem xk_m26 : Cond.selects RzM yzM_disturb yzM_disturb ∈ xk_WS := xk_in1 _ (List.mem_of_getElem? (i := 2) rfl)
theorem xk_m27 : Cond.selects RzM yzM_note yzM_note ∈ xk_WS := xk_in1 _ (List.mem_of_getElem? (i := 3) rfl)
theorem xk_m28 : Cond.selects RzM yzM_anyDisturbed yzM_anyDisturbed ∈ xk_WS := xk_in1 _ (List.mem_of_getElem? (i := 4) rfl)
theorem xk_m29 : Cond.selects RzM yzM_isFree yzM_isFree ∈ xk_WS := xk_in1 _ (List.mem_of_getElem? (i := 5) rfl)
theorem xk_m30 : Cond.selects RzM yzM_swept yzM_swept ∈ xk_WS := xk_in1 _ (List.mem_of_getElem? (i := 6) rfl)
theorem xk_m31 : Cond.selects RzM yzM_oneTick yzM_oneTick ∈ xk_WS := xk_in1 _ (List.mem_of_getElem? (i := 7) rfl)
theorem xk_m32 : Cond.selects RzM yzM_allPulses yzM_allPulses ∈ xk_WS := xk_in1 _ (List.mem_of_getElem? (i := 8) rfl)
theorem xk_m33 : Cond.selects RzM yzM_counts yzM_counts ∈ xk_WS := xk_in1 _ (List.mem_of_getElem? (i := 9) rfl)
theorem xk_m34 : Cond.selects RzM yzM_change yzM_change ∈ xk_WS := xk_in1 _ (List.mem_of_getElem? (i := 10) rfl)
theorem xk_m35 : Cond.selects RzM yzM_allComings yzM_allComings ∈ xk_WS := xk_in1 _ (List.mem_of_getElem? (i := 11) rfl)
theorem xk_m36 : Cond.selects RzM yzM_useOrders yzM_useOrders ∈ xk_WS := xk_in1 _ (List.mem_of_getElem? (i := 12) rfl)
theorem xk_m37 : Cond.selects RzM yzM_watchLamps yzM_watchLamps ∈ xk_WS := xk_in1 _ (List.mem_of_getElem? (i := 13) rfl)
theorem xk_m38 : Cond.selects RzM yzM_watchBarriers yzM_watchBarriers ∈ xk_WS := xk_in1 _ (List.mem_of_getElem? (i := 14) rfl)
theorem xk_m39 : Cond.selects RzM yzM_goOn yzM_goOn ∈ xk_WS := xk_in1 _ (List.mem_of_getElem? (i := 15) rfl)
theorem xk_m40 : Cond.selects RzM yzM_demand yzM_demand ∈ xk_WS := xk_in1 _ (List.mem_of_getElem? (i := 16) rfl)
theorem xk_m41 : Cond.selects RzM yzM_isProved yzM_isProved ∈ xk_WS := xk_in1 _ (List.mem_of_getElem? (i := 17) rfl)
theorem xk_m42 : Cond.selects RzM yzM_drive yzM_drive ∈ xk_WS := xk_in1 _ (List.mem_of_getElem? (i := 18) rfl)
theorem xk_m43 : Cond.selects RzM yzM_signal yzM_signal ∈ xk_WS := xk_in1 _ (List.mem_of_getElem? (i := 19) rfl)
theorem xk_m44 : Cond.selects RzM yzM_output yzM_output ∈ xk_WS := xk_in1 _ (List.mem_of_getElem? (i := 20) rfl)
theorem xk_m45 : Cond.initialized RzU ∈ xk_WS := xk_in1 _ (List.mem_of_getElem? (i := 21) rfl)
theorem xk_m46 : Cond.initialized RzR ∈ xk_WS := xk_in1 _ (List.mem_of_getElem? (i := 22) rfl)
theorem xk_m47 : Cond.initialized RzJ ∈ xk_WS := xk_in1 _ (List.mem_of_getElem? (i := 23) rfl)
theorem xk_m48 : Cond.initialized RzK ∈ xk_WS := xk_in2 _ (List.mem_of_getElem? (i := 0) rfl)
theorem xk_m49 : Cond.initialized RzS ∈ xk_WS := xk_in2 _ (List.mem_of_getElem? (i := 1) rfl)
theorem xk_m50 : Cond.initialized RzE ∈ xk_WS := xk_in2 _ (List.mem_of_getElem? (i := 2) rfl)
theorem xk_m51 : Cond.initialized RzB ∈ xk_WS := xk_in2 _ (List.mem_of_getElem? (i := 3) rfl)
theorem xk_m52 : Cond.initialized RzP ∈ xk_WS := xk_in2 _ (List.mem_of_getElem? (i := 4) rfl)
theorem xk_m53 : Cond.initialized RzM ∈ xk_WS := xk_in2 _ (List.mem_of_getElem? (i := 5) rfl)
theorem xk_m54 : Cond.initialized "java/lang/Throwable" ∈ xk_WS := xk_in2 _ (List.mem_of_getElem? (i := 6) rfl)
theorem xk_m55 : Cond.initialized "java/lang/Exception" ∈ xk_WS := xk_in2 _ (List.mem_of_getElem? (i := 7) rfl)
theorem xk_m56 : Cond.initialized "java/lang/RuntimeException" ∈ xk_WS := xk_in2 _ (List.mem_of_getElem? (i := 8) rfl)
theorem xk_m57 : Cond.initialized "java/util/NoSuchElementException" ∈ xk_WS := xk_in2 _ (List.mem_of_getElem? (i := 9) rfl)
theorem xk_m58 : Cond.initialized "java/lang/IllegalArgumentException" ∈ xk_WS := xk_in2 _ (List.mem_of_getElem? (i := 10) rfl)
theorem xk_m59 : Cond.initialized "java/lang/IllegalStateException" ∈ xk_WS := xk_in2 _ (List.mem_of_getElem? (i := 11) rfl)
theorem xk_m60 : Cond.initialized "java/lang/Math" ∈ xk_WS := xk_in2 _ (List.mem_of_getElem? (i := 12) rfl)
theorem xk_m61 : Cond.instantiable RzU 10 ∈ xk_WS := xk_in2 _ (List.mem_of_getElem? (i := 13) rfl)
theorem xk_m62 : Cond.instanceMethod yzU_init ∈ xk_WS := xk_in2 _ (List.mem_of_getElem? (i := 14) rfl)
theorem xk_m63 : Cond.code yzU_init czU_init 2 none ∈ xk_WS := xk_in2 _ (List.mem_of_getElem? (i := 15) rfl)
theorem xk_m64 : Cond.methodLink RzU 1 objectInit ∈ xk_WS := xk_in2 _ (List.mem_of_getElem? (i := 16) rfl)
theorem xk_m65 : Cond.instanceMethod objectInit ∈ xk_WS := xk_in2 _ (List.mem_of_getElem? (i := 17) rfl)
theorem xk_m66 : Cond.code objectInit object_method_1_code 1 none ∈ xk_WS := xk_in2 _ (List.mem_of_getElem? (i := 18) rfl)
theorem xk_m67 : Cond.classLink RzU 9 RzK ∈ xk_WS := xk_in2 _ (List.mem_of_getElem? (i := 19) rfl)
theorem xk_m68 : Cond.classLink RzU 15 RzB ∈ xk_WS := xk_in2 _ (List.mem_of_getElem? (i := 20) rfl)
theorem xk_m69 : Cond.classLink RzU 21 RzP ∈ xk_WS := xk_in2 _ (List.mem_of_getElem? (i := 21) rfl)
theorem xk_m70 : Cond.classLink RzU 27 RzR ∈ xk_WS := xk_in2 _ (List.mem_of_getElem? (i := 22) rfl)
theorem xk_m71 : Cond.instantiable RzR 3 ∈ xk_WS := xk_in2 _ (List.mem_of_getElem? (i := 23) rfl)
theorem xk_m72 : Cond.instanceMethod yzR_init ∈ xk_WS := xk_in3 _ (List.mem_of_getElem? (i := 0) rfl)
theorem xk_m73 : Cond.code yzR_init czR_init 1 none ∈ xk_WS := xk_in3 _ (List.mem_of_getElem? (i := 1) rfl)
theorem xk_m74 : Cond.methodLink RzR 3 objectInit ∈ xk_WS := xk_in3 _ (List.mem_of_getElem? (i := 2) rfl)
theorem xk_m75 : Cond.fieldLink RzR 9 "CrossingUnit$Road" "step" "I" ∈ xk_WS := xk_in3 _ (List.mem_of_getElem? (i := 3) rfl)
theorem xk_m76 : Cond.fieldLink RzU 227 "CrossingUnit$Road" "step" "I" ∈ xk_WS := xk_in3 _ (List.mem_of_getElem? (i := 4) rfl)
theorem xk_m77 : Cond.fieldLink RzR 15 "CrossingUnit$Road" "age" "I" ∈ xk_WS := xk_in3 _ (List.mem_of_getElem? (i := 5) rfl)
theorem xk_m78 : Cond.fieldLink RzU 230 "CrossingUnit$Road" "age" "I" ∈ xk_WS := xk_in3 _ (List.mem_of_getElem? (i := 6) rfl)
theorem xk_m79 : Cond.fieldLink RzR 18 "CrossingUnit$Road" "quiet" "I" ∈ xk_WS := xk_in3 _ (List.mem_of_getElem? (i := 7) rfl)
theorem xk_m80 : Cond.fieldLink RzU 233 "CrossingUnit$Road" "quiet" "I" ∈ xk_WS := xk_in3 _ (List.mem_of_getElem? (i := 8) rfl)
theorem xk_m81 : Cond.classLink RzU 34 RzJ ∈ xk_WS := xk_in3 _ (List.mem_of_getElem? (i := 9) rfl)
theorem xk_m82 : Cond.instantiable RzJ 4 ∈ xk_WS := xk_in3 _ (List.mem_of_getElem? (i := 10) rfl)
theorem xk_m83 : Cond.instanceMethod yzJ_init ∈ xk_WS := xk_in3 _ (List.mem_of_getElem? (i := 11) rfl)
theorem xk_m84 : Cond.code yzJ_init czJ_init 1 none ∈ xk_WS := xk_in3 _ (List.mem_of_getElem? (i := 12) rfl)
theorem xk_m85 : Cond.methodLink RzJ 3 objectInit ∈ xk_WS := xk_in3 _ (List.mem_of_getElem? (i := 13) rfl)
theorem xk_m86 : Cond.fieldLink RzJ 9 "CrossingUnit$Journal" "times" "[I" ∈ xk_WS := xk_in3 _ (List.mem_of_getElem? (i := 14) rfl)
theorem xk_m87 : Cond.fieldLink RzU 255 "CrossingUnit$Journal" "times" "[I" ∈ xk_WS := xk_in3 _ (List.mem_of_getElem? (i := 15) rfl)
theorem xk_m88 : Cond.fieldLink RzJ 13 "CrossingUnit$Journal" "kinds" "[I" ∈ xk_WS := xk_in3 _ (List.mem_of_getElem? (i := 16) rfl)
theorem xk_m89 : Cond.fieldLink RzU 258 "CrossingUnit$Journal" "kinds" "[I" ∈ xk_WS := xk_in3 _ (List.mem_of_getElem? (i := 17) rfl)
theorem xk_m90 : Cond.fieldLink RzJ 16 "CrossingUnit$Journal" "subjects" "[I" ∈ xk_WS := xk_in3 _ (List.mem_of_getElem? (i := 18) rfl)
theorem xk_m91 : Cond.fieldLink RzU 261 "CrossingUnit$Journal" "subjects" "[I" ∈ xk_WS := xk_in3 _ (List.mem_of_getElem? (i := 19) rfl)
theorem xk_m92 : Cond.fieldLink RzJ 19 "CrossingUnit$Journal" "total" "I" ∈ xk_WS := xk_in3 _ (List.mem_of_getElem? (i := 20) rfl)
theorem xk_m93 : Cond.fieldLink RzU 245 "CrossingUnit$Journal" "total" "I" ∈ xk_WS := xk_in3 _ (List.mem_of_getElem? (i := 21) rfl)
theorem xk_m94 : Cond.arrayClass .int ∈ xk_WS := xk_in3 _ (List.mem_of_getElem? (i := 22) rfl)
theorem xk_m95 : Cond.instantiable RzK 6 ∈ xk_WS := xk_in3 _ (List.mem_of_getElem? (i := 23) rfl)
theorem xk_m96 : Cond.methodLink RzU 58 yzK_init ∈ xk_WS := xk_in4 _ (List.mem_of_getElem? (i := 0) rfl)
theorem xk_m97 : Cond.instanceMethod yzK_init ∈ xk_WS := xk_in4 _ (List.mem_of_getElem? (i := 1) rfl)
theorem xk_m98 : Cond.code yzK_init czK_init 3 none ∈ xk_WS := xk_in4 _ (List.mem_of_getElem? (i := 2) rfl)
theorem xk_m99 : Cond.methodLink RzK 3 objectInit ∈ xk_WS := xk_in4 _ (List.mem_of_getElem? (i := 3) rfl)
theorem xk_m100 : Cond.classLink RzK 9 RzS ∈ xk_WS := xk_in4 _ (List.mem_of_getElem? (i := 4) rfl)
theorem xk_m101 : Cond.classLink RzK 17 RzE ∈ xk_WS := xk_in4 _ (List.mem_of_getElem? (i := 5) rfl)
theorem xk_m102 : Cond.instantiable RzS 9 ∈ xk_WS := xk_in4 _ (List.mem_of_getElem? (i := 6) rfl)
theorem xk_m103 : Cond.methodLink RzK 38 yzS_init ∈ xk_WS := xk_in4 _ (List.mem_of_getElem? (i := 7) rfl)
theorem xk_m104 : Cond.instanceMethod yzS_init ∈ xk_WS := xk_in4 _ (List.mem_of_getElem? (i := 8) rfl)
theorem xk_m105 : Cond.code yzS_init czS_init 2 none ∈ xk_WS := xk_in4 _ (List.mem_of_getElem? (i := 9) rfl)
theorem xk_m106 : Cond.methodLink RzS 3 objectInit ∈ xk_WS := xk_in4 _ (List.mem_of_getElem? (i := 10) rfl)
theorem xk_m107 : Cond.fieldLink RzS 37 "CrossingUnit$Section" "number" "I" ∈ xk_WS := xk_in4 _ (List.mem_of_getElem? (i := 11) rfl)
theorem xk_m108 : Cond.fieldLink RzU 204 "CrossingUnit$Section" "number" "I" ∈ xk_WS := xk_in4 _ (List.mem_of_getElem? (i := 12) rfl)
theorem xk_m109 : Cond.fieldLink RzS 9 "CrossingUnit$Section" "balance" "I" ∈ xk_WS := xk_in4 _ (List.mem_of_getElem? (i := 13) rfl)
theorem xk_m110 : Cond.fieldLink RzE 28 "CrossingUnit$Section" "balance" "I" ∈ xk_WS := xk_in4 _ (List.mem_of_getElem? (i := 14) rfl)
theorem xk_m111 : Cond.fieldLink RzU 207 "CrossingUnit$Section" "balance" "I" ∈ xk_WS := xk_in4 _ (List.mem_of_getElem? (i := 15) rfl)
theorem xk_m112 : Cond.fieldLink RzS 15 "CrossingUnit$Section" "balanceAhead" "I" ∈ xk_WS := xk_in4 _ (List.mem_of_getElem? (i := 16) rfl)
theorem xk_m113 : Cond.fieldLink RzE 23 "CrossingUnit$Section" "balanceAhead" "I" ∈ xk_WS := xk_in4 _ (List.mem_of_getElem? (i := 17) rfl)
theorem xk_m114 : Cond.fieldLink RzU 304 "CrossingUnit$Section" "balanceAhead" "I" ∈ xk_WS := xk_in4 _ (List.mem_of_getElem? (i := 18) rfl)
theorem xk_m115 : Cond.fieldLink RzS 18 "CrossingUnit$Section" "disturbed" "Z" ∈ xk_WS := xk_in4 _ (List.mem_of_getElem? (i := 19) rfl)
theorem xk_m116 : Cond.fieldLink RzK 44 "CrossingUnit$Section" "disturbed" "Z" ∈ xk_WS := xk_in4 _ (List.mem_of_getElem? (i := 20) rfl)
theorem xk_m117 : Cond.fieldLink RzU 181 "CrossingUnit$Section" "disturbed" "Z" ∈ xk_WS := xk_in4 _ (List.mem_of_getElem? (i := 21) rfl)
theorem xk_m118 : Cond.fieldLink RzS 22 "CrossingUnit$Section" "asker" "I" ∈ xk_WS := xk_in4 _ (List.mem_of_getElem? (i := 22) rfl)
theorem xk_m119 : Cond.fieldLink RzU 189 "CrossingUnit$Section" "asker" "I" ∈ xk_WS := xk_in4 _ (List.mem_of_getElem? (i := 23) rfl)
theorem xk_m120 : Cond.fieldLink RzS 25 "CrossingUnit$Section" "forwardIn" "I" ∈ xk_WS := xk_in5 _ (List.mem_of_getElem? (i := 0) rfl)
theorem xk_m121 : Cond.fieldLink RzS 28 "CrossingUnit$Section" "forwardOut" "I" ∈ xk_WS := xk_in5 _ (List.mem_of_getElem? (i := 1) rfl)
theorem xk_m122 : Cond.fieldLink RzS 31 "CrossingUnit$Section" "backIn" "I" ∈ xk_WS := xk_in5 _ (List.mem_of_getElem? (i := 2) rfl)
theorem xk_m123 : Cond.fieldLink RzS 34 "CrossingUnit$Section" "backOut" "I" ∈ xk_WS := xk_in5 _ (List.mem_of_getElem? (i := 3) rfl)
theorem xk_m124 : Cond.arrayClass .boolean ∈ xk_WS := xk_in5 _ (List.mem_of_getElem? (i := 4) rfl)
theorem xk_m125 : Cond.instantiable RzE 3 ∈ xk_WS := xk_in5 _ (List.mem_of_getElem? (i := 5) rfl)
theorem xk_m126 : Cond.methodLink RzK 41 yzE_init ∈ xk_WS := xk_in5 _ (List.mem_of_getElem? (i := 6) rfl)
theorem xk_m127 : Cond.instanceMethod yzE_init ∈ xk_WS := xk_in5 _ (List.mem_of_getElem? (i := 7) rfl)
theorem xk_m128 : Cond.code yzE_init czE_init 2 none ∈ xk_WS := xk_in5 _ (List.mem_of_getElem? (i := 8) rfl)
theorem xk_m129 : Cond.methodLink RzE 3 objectInit ∈ xk_WS := xk_in5 _ (List.mem_of_getElem? (i := 9) rfl)
theorem xk_m130 : Cond.fieldLink RzE 19 "CrossingUnit$End" "section" "LCrossingUnit$Section;" ∈ xk_WS := xk_in5 _ (List.mem_of_getElem? (i := 10) rfl)
theorem xk_m131 : Cond.fieldLink RzE 9 "CrossingUnit$End" "coming" "I" ∈ xk_WS := xk_in5 _ (List.mem_of_getElem? (i := 11) rfl)
theorem xk_m132 : Cond.fieldLink RzU 216 "CrossingUnit$End" "coming" "I" ∈ xk_WS := xk_in5 _ (List.mem_of_getElem? (i := 12) rfl)
theorem xk_m133 : Cond.fieldLink RzE 15 "CrossingUnit$End" "entered" "Z" ∈ xk_WS := xk_in5 _ (List.mem_of_getElem? (i := 13) rfl)
theorem xk_m134 : Cond.fieldLink RzU 295 "CrossingUnit$End" "entered" "Z" ∈ xk_WS := xk_in5 _ (List.mem_of_getElem? (i := 14) rfl)
theorem xk_m135 : Cond.fieldLink RzK 11 "CrossingUnit$Track" "sections" "[LCrossingUnit$Section;" ∈ xk_WS := xk_in5 _ (List.mem_of_getElem? (i := 15) rfl)
theorem xk_m136 : Cond.fieldLink RzU 158 "CrossingUnit$Track" "sections" "[LCrossingUnit$Section;" ∈ xk_WS := xk_in5 _ (List.mem_of_getElem? (i := 16) rfl)
theorem xk_m137 : Cond.fieldLink RzK 19 "CrossingUnit$Track" "ends" "[LCrossingUnit$End;" ∈ xk_WS := xk_in5 _ (List.mem_of_getElem? (i := 17) rfl)
theorem xk_m138 : Cond.fieldLink RzU 212 "CrossingUnit$Track" "ends" "[LCrossingUnit$End;" ∈ xk_WS := xk_in5 _ (List.mem_of_getElem? (i := 18) rfl)
theorem xk_m139 : Cond.fieldLink RzK 23 "CrossingUnit$Track" "kept" "[I" ∈ xk_WS := xk_in5 _ (List.mem_of_getElem? (i := 19) rfl)
theorem xk_m140 : Cond.fieldLink RzU 77 "CrossingUnit$Track" "kept" "[I" ∈ xk_WS := xk_in5 _ (List.mem_of_getElem? (i := 20) rfl)
theorem xk_m141 : Cond.fieldLink RzK 27 "CrossingUnit$Track" "healthy" "[Z" ∈ xk_WS := xk_in5 _ (List.mem_of_getElem? (i := 21) rfl)
theorem xk_m142 : Cond.fieldLink RzU 86 "CrossingUnit$Track" "healthy" "[Z" ∈ xk_WS := xk_in5 _ (List.mem_of_getElem? (i := 22) rfl)
theorem xk_m143 : Cond.fieldLink RzK 31 "CrossingUnit$Track" "ordered" "Z" ∈ xk_WS := xk_in5 _ (List.mem_of_getElem? (i := 23) rfl)
theorem xk_m144 : Cond.fieldLink RzU 152 "CrossingUnit$Track" "ordered" "Z" ∈ xk_WS := xk_in6 _ (List.mem_of_getElem? (i := 0) rfl)
theorem xk_m145 : Cond.fieldLink RzK 35 "CrossingUnit$Track" "cleared" "Z" ∈ xk_WS := xk_in6 _ (List.mem_of_getElem? (i := 1) rfl)
theorem xk_m146 : Cond.fieldLink RzU 345 "CrossingUnit$Track" "cleared" "Z" ∈ xk_WS := xk_in6 _ (List.mem_of_getElem? (i := 2) rfl)
theorem xk_m147 : Cond.instantiable RzB 6 ∈ xk_WS := xk_in6 _ (List.mem_of_getElem? (i := 3) rfl)
theorem xk_m148 : Cond.instanceMethod yzB_init ∈ xk_WS := xk_in6 _ (List.mem_of_getElem? (i := 4) rfl)
theorem xk_m149 : Cond.code yzB_init czB_init 1 none ∈ xk_WS := xk_in6 _ (List.mem_of_getElem? (i := 5) rfl)
theorem xk_m150 : Cond.methodLink RzB 3 objectInit ∈ xk_WS := xk_in6 _ (List.mem_of_getElem? (i := 6) rfl)
theorem xk_m151 : Cond.fieldLink RzB 9 "CrossingUnit$Barrier" "position" "I" ∈ xk_WS := xk_in6 _ (List.mem_of_getElem? (i := 7) rfl)
theorem xk_m152 : Cond.fieldLink RzU 144 "CrossingUnit$Barrier" "position" "I" ∈ xk_WS := xk_in6 _ (List.mem_of_getElem? (i := 8) rfl)
theorem xk_m153 : Cond.fieldLink RzB 15 "CrossingUnit$Barrier" "positionBefore" "I" ∈ xk_WS := xk_in6 _ (List.mem_of_getElem? (i := 9) rfl)
theorem xk_m154 : Cond.fieldLink RzB 18 "CrossingUnit$Barrier" "motor" "I" ∈ xk_WS := xk_in6 _ (List.mem_of_getElem? (i := 10) rfl)
theorem xk_m155 : Cond.fieldLink RzU 351 "CrossingUnit$Barrier" "motor" "I" ∈ xk_WS := xk_in6 _ (List.mem_of_getElem? (i := 11) rfl)
theorem xk_m156 : Cond.fieldLink RzB 21 "CrossingUnit$Barrier" "zeros" "I" ∈ xk_WS := xk_in6 _ (List.mem_of_getElem? (i := 12) rfl)
theorem xk_m157 : Cond.fieldLink RzU 313 "CrossingUnit$Barrier" "zeros" "I" ∈ xk_WS := xk_in6 _ (List.mem_of_getElem? (i := 13) rfl)
theorem xk_m158 : Cond.fieldLink RzB 24 "CrossingUnit$Barrier" "stall" "I" ∈ xk_WS := xk_in6 _ (List.mem_of_getElem? (i := 14) rfl)
theorem xk_m159 : Cond.fieldLink RzU 236 "CrossingUnit$Barrier" "stall" "I" ∈ xk_WS := xk_in6 _ (List.mem_of_getElem? (i := 15) rfl)
theorem xk_m160 : Cond.fieldLink RzB 27 "CrossingUnit$Barrier" "alarmed" "Z" ∈ xk_WS := xk_in6 _ (List.mem_of_getElem? (i := 16) rfl)
theorem xk_m161 : Cond.fieldLink RzU 329 "CrossingUnit$Barrier" "alarmed" "Z" ∈ xk_WS := xk_in6 _ (List.mem_of_getElem? (i := 17) rfl)
theorem xk_m162 : Cond.instantiable RzP 4 ∈ xk_WS := xk_in6 _ (List.mem_of_getElem? (i := 18) rfl)
theorem xk_m163 : Cond.instanceMethod yzP_init ∈ xk_WS := xk_in6 _ (List.mem_of_getElem? (i := 19) rfl)
theorem xk_m164 : Cond.code yzP_init czP_init 1 none ∈ xk_WS := xk_in6 _ (List.mem_of_getElem? (i := 20) rfl)
theorem xk_m165 : Cond.methodLink RzP 3 objectInit ∈ xk_WS := xk_in6 _ (List.mem_of_getElem? (i := 21) rfl)
theorem xk_m166 : Cond.fieldLink RzP 9 "CrossingUnit$Lamp" "hasCurrent" "Z" ∈ xk_WS := xk_in6 _ (List.mem_of_getElem? (i := 22) rfl)
theorem xk_m167 : Cond.fieldLink RzU 149 "CrossingUnit$Lamp" "hasCurrent" "Z" ∈ xk_WS := xk_in6 _ (List.mem_of_getElem? (i := 23) rfl)
theorem xk_m168 : Cond.fieldLink RzP 15 "CrossingUnit$Lamp" "lit" "Z" ∈ xk_WS := xk_in7 _ (List.mem_of_getElem? (i := 0) rfl)
theorem xk_m169 : Cond.fieldLink RzU 338 "CrossingUnit$Lamp" "lit" "Z" ∈ xk_WS := xk_in7 _ (List.mem_of_getElem? (i := 1) rfl)
theorem xk_m170 : Cond.fieldLink RzP 18 "CrossingUnit$Lamp" "dead" "Z" ∈ xk_WS := xk_in7 _ (List.mem_of_getElem? (i := 2) rfl)
theorem xk_m171 : Cond.fieldLink RzU 348 "CrossingUnit$Lamp" "dead" "Z" ∈ xk_WS := xk_in7 _ (List.mem_of_getElem? (i := 3) rfl)
theorem xk_m172 : Cond.fieldLink RzP 21 "CrossingUnit$Lamp" "dark" "I" ∈ xk_WS := xk_in7 _ (List.mem_of_getElem? (i := 4) rfl)
theorem xk_m173 : Cond.fieldLink RzU 11 "CrossingUnit" "tracks" "[LCrossingUnit$Track;" ∈ xk_WS := xk_in7 _ (List.mem_of_getElem? (i := 5) rfl)
theorem xk_m174 : Cond.fieldLink RzU 17 "CrossingUnit" "barriers" "[LCrossingUnit$Barrier;" ∈ xk_WS := xk_in7 _ (List.mem_of_getElem? (i := 6) rfl)
theorem xk_m175 : Cond.fieldLink RzU 23 "CrossingUnit" "lamps" "[LCrossingUnit$Lamp;" ∈ xk_WS := xk_in7 _ (List.mem_of_getElem? (i := 7) rfl)
theorem xk_m176 : Cond.fieldLink RzU 30 "CrossingUnit" "road" "LCrossingUnit$Road;" ∈ xk_WS := xk_in7 _ (List.mem_of_getElem? (i := 8) rfl)
theorem xk_m177 : Cond.fieldLink RzU 37 "CrossingUnit" "journal" "LCrossingUnit$Journal;" ∈ xk_WS := xk_in7 _ (List.mem_of_getElem? (i := 9) rfl)
theorem xk_m178 : Cond.fieldLink RzU 41 "CrossingUnit" "time" "I" ∈ xk_WS := xk_in7 _ (List.mem_of_getElem? (i := 10) rfl)
theorem xk_m179 : Cond.fieldLink RzU 45 "CrossingUnit" "output" "I" ∈ xk_WS := xk_in7 _ (List.mem_of_getElem? (i := 11) rfl)
theorem xk_m180 : Cond.fieldLink RzU 48 "CrossingUnit" "atNight" "Z" ∈ xk_WS := xk_in7 _ (List.mem_of_getElem? (i := 12) rfl)
theorem xk_m181 : Cond.fieldLink RzU 52 "CrossingUnit" "bellRings" "Z" ∈ xk_WS := xk_in7 _ (List.mem_of_getElem? (i := 13) rfl)
theorem xk_m182 : Cond.fieldLink RzU 55 "CrossingUnit" "proved" "Z" ∈ xk_WS := xk_in7 _ (List.mem_of_getElem? (i := 14) rfl)
theorem xk_m183 : Cond.instanceMethod yzU_tick ∈ xk_WS := xk_in7 _ (List.mem_of_getElem? (i := 15) rfl)
theorem xk_m184 : Cond.selects RzU yzU_tick yzU_tick ∈ xk_WS := xk_in7 _ (List.mem_of_getElem? (i := 16) rfl)
theorem xk_m185 : Cond.code yzU_tick czU_tick 1 (some .int) ∈ xk_WS := xk_in7 _ (List.mem_of_getElem? (i := 17) rfl)
theorem xk_m186 : Cond.methodLink RzU 94 yzU_rememberBalances ∈ xk_WS := xk_in7 _ (List.mem_of_getElem? (i := 18) rfl)
theorem xk_m187 : Cond.instanceMethod yzU_rememberBalances ∈ xk_WS := xk_in7 _ (List.mem_of_getElem? (i := 19) rfl)
theorem xk_m188 : Cond.code yzU_rememberBalances czU_rememberBalances 3 none ∈ xk_WS := xk_in7 _ (List.mem_of_getElem? (i := 20) rfl)
theorem xk_m189 : Cond.methodLink RzU 278 yzS_rememberBalance ∈ xk_WS := xk_in7 _ (List.mem_of_getElem? (i := 21) rfl)
theorem xk_m190 : Cond.instanceMethod yzS_rememberBalance ∈ xk_WS := xk_in7 _ (List.mem_of_getElem? (i := 22) rfl)
theorem xk_m191 : Cond.selects RzS yzS_rememberBalance yzS_rememberBalance ∈ xk_WS := xk_in7 _ (List.mem_of_getElem? (i := 23) rfl)
theorem xk_m192 : Cond.code yzS_rememberBalance czS_rememberBalance 1 none ∈ xk_WS := xk_in8 _ (List.mem_of_getElem? (i := 0) rfl)
theorem xk_m193 : Cond.methodLink RzU 97 yzU_countPulses ∈ xk_WS := xk_in8 _ (List.mem_of_getElem? (i := 1) rfl)
theorem xk_m194 : Cond.instanceMethod yzU_countPulses ∈ xk_WS := xk_in8 _ (List.mem_of_getElem? (i := 2) rfl)
theorem xk_m195 : Cond.code yzU_countPulses czU_countPulses 4 none ∈ xk_WS := xk_in8 _ (List.mem_of_getElem? (i := 3) rfl)
theorem xk_m196 : Cond.methodLink RzU 281 yzK_takePulse ∈ xk_WS := xk_in8 _ (List.mem_of_getElem? (i := 4) rfl)
theorem xk_m197 : Cond.instanceMethod yzK_takePulse ∈ xk_WS := xk_in8 _ (List.mem_of_getElem? (i := 5) rfl)
theorem xk_m198 : Cond.selects RzK yzK_takePulse yzK_takePulse ∈ xk_WS := xk_in8 _ (List.mem_of_getElem? (i := 6) rfl)
theorem xk_m199 : Cond.code yzK_takePulse czK_takePulse 3 (some .int) ∈ xk_WS := xk_in8 _ (List.mem_of_getElem? (i := 7) rfl)
theorem xk_m200 : Cond.methodLink RzU 285 yzU_countAxle ∈ xk_WS := xk_in8 _ (List.mem_of_getElem? (i := 8) rfl)
theorem xk_m201 : Cond.instanceMethod yzU_countAxle ∈ xk_WS := xk_in8 _ (List.mem_of_getElem? (i := 9) rfl)
theorem xk_m202 : Cond.code yzU_countAxle czU_countAxle 6 none ∈ xk_WS := xk_in8 _ (List.mem_of_getElem? (i := 10) rfl)
theorem xk_m203 : Cond.methodLink RzU 289 yzS_countOut ∈ xk_WS := xk_in8 _ (List.mem_of_getElem? (i := 11) rfl)
theorem xk_m204 : Cond.instanceMethod yzS_countOut ∈ xk_WS := xk_in8 _ (List.mem_of_getElem? (i := 12) rfl)
theorem xk_m205 : Cond.selects RzS yzS_countOut yzS_countOut ∈ xk_WS := xk_in8 _ (List.mem_of_getElem? (i := 13) rfl)
theorem xk_m206 : Cond.code yzS_countOut czS_countOut 2 none ∈ xk_WS := xk_in8 _ (List.mem_of_getElem? (i := 14) rfl)
theorem xk_m207 : Cond.methodLink RzU 292 yzU_disturbIfMiscounted ∈ xk_WS := xk_in8 _ (List.mem_of_getElem? (i := 15) rfl)
theorem xk_m208 : Cond.instanceMethod yzU_disturbIfMiscounted ∈ xk_WS := xk_in8 _ (List.mem_of_getElem? (i := 16) rfl)
theorem xk_m209 : Cond.code yzU_disturbIfMiscounted czU_disturbIfMiscounted 2 none ∈ xk_WS := xk_in8 _ (List.mem_of_getElem? (i := 17) rfl)
theorem xk_m210 : Cond.methodLink RzU 274 yzU_disturb ∈ xk_WS := xk_in8 _ (List.mem_of_getElem? (i := 18) rfl)
theorem xk_m211 : Cond.instanceMethod yzU_disturb ∈ xk_WS := xk_in8 _ (List.mem_of_getElem? (i := 19) rfl)
theorem xk_m212 : Cond.code yzU_disturb czU_disturb 2 none ∈ xk_WS := xk_in8 _ (List.mem_of_getElem? (i := 20) rfl)
theorem xk_m213 : Cond.methodLink RzU 170 yzJ_add ∈ xk_WS := xk_in8 _ (List.mem_of_getElem? (i := 21) rfl)
theorem xk_m214 : Cond.instanceMethod yzJ_add ∈ xk_WS := xk_in8 _ (List.mem_of_getElem? (i := 22) rfl)
theorem xk_m215 : Cond.selects RzJ yzJ_add yzJ_add ∈ xk_WS := xk_in8 _ (List.mem_of_getElem? (i := 23) rfl)
theorem xk_m216 : Cond.code yzJ_add czJ_add 5 none ∈ xk_WS := xk_in9 _ (List.mem_of_getElem? (i := 0) rfl)
theorem xk_m217 : Cond.methodLink RzU 298 yzS_countIn ∈ xk_WS := xk_in9 _ (List.mem_of_getElem? (i := 1) rfl)
theorem xk_m218 : Cond.instanceMethod yzS_countIn ∈ xk_WS := xk_in9 _ (List.mem_of_getElem? (i := 2) rfl)
theorem xk_m219 : Cond.selects RzS yzS_countIn yzS_countIn ∈ xk_WS := xk_in9 _ (List.mem_of_getElem? (i := 3) rfl)
theorem xk_m220 : Cond.code yzS_countIn czS_countIn 2 none ∈ xk_WS := xk_in9 _ (List.mem_of_getElem? (i := 4) rfl)
theorem xk_m221 : Cond.methodLink RzU 100 yzU_followComings ∈ xk_WS := xk_in9 _ (List.mem_of_getElem? (i := 5) rfl)
theorem xk_m222 : Cond.instanceMethod yzU_followComings ∈ xk_WS := xk_in9 _ (List.mem_of_getElem? (i := 6) rfl)
theorem xk_m223 : Cond.code yzU_followComings czU_followComings 3 none ∈ xk_WS := xk_in9 _ (List.mem_of_getElem? (i := 7) rfl)
theorem xk_m224 : Cond.methodLink RzU 301 yzE_follow ∈ xk_WS := xk_in9 _ (List.mem_of_getElem? (i := 8) rfl)
theorem xk_m225 : Cond.instanceMethod yzE_follow ∈ xk_WS := xk_in9 _ (List.mem_of_getElem? (i := 9) rfl)
theorem xk_m226 : Cond.selects RzE yzE_follow yzE_follow ∈ xk_WS := xk_in9 _ (List.mem_of_getElem? (i := 10) rfl)
theorem xk_m227 : Cond.code yzE_follow czE_follow 1 none ∈ xk_WS := xk_in9 _ (List.mem_of_getElem? (i := 11) rfl)
theorem xk_m228 : Cond.methodLink RzE 31 Lib.Math.max.name ∈ xk_WS := xk_in9 _ (List.mem_of_getElem? (i := 12) rfl)
theorem xk_m229 : Cond.static Lib.Math.max.name ∈ xk_WS := xk_in9 _ (List.mem_of_getElem? (i := 13) rfl)
theorem xk_m230 : Cond.code Lib.Math.max.name Lib.Math.max.code 2 (some .int) ∈ xk_WS := xk_in9 _ (List.mem_of_getElem? (i := 14) rfl)
theorem xk_m231 : Cond.methodLink RzU 103 yzU_useUpOrders ∈ xk_WS := xk_in9 _ (List.mem_of_getElem? (i := 15) rfl)
theorem xk_m232 : Cond.instanceMethod yzU_useUpOrders ∈ xk_WS := xk_in9 _ (List.mem_of_getElem? (i := 16) rfl)
theorem xk_m233 : Cond.code yzU_useUpOrders czU_useUpOrders 3 none ∈ xk_WS := xk_in9 _ (List.mem_of_getElem? (i := 17) rfl)
theorem xk_m234 : Cond.methodLink RzU 106 yzU_watchLamps ∈ xk_WS := xk_in9 _ (List.mem_of_getElem? (i := 18) rfl)
theorem xk_m235 : Cond.instanceMethod yzU_watchLamps ∈ xk_WS := xk_in9 _ (List.mem_of_getElem? (i := 19) rfl)
theorem xk_m236 : Cond.code yzU_watchLamps czU_watchLamps 2 none ∈ xk_WS := xk_in9 _ (List.mem_of_getElem? (i := 20) rfl)
theorem xk_m237 : Cond.methodLink RzU 307 yzP_dies ∈ xk_WS := xk_in9 _ (List.mem_of_getElem? (i := 21) rfl)
theorem xk_m238 : Cond.instanceMethod yzP_dies ∈ xk_WS := xk_in9 _ (List.mem_of_getElem? (i := 22) rfl)
theorem xk_m239 : Cond.selects RzP yzP_dies yzP_dies ∈ xk_WS := xk_in9 _ (List.mem_of_getElem? (i := 23) rfl)
theorem xk_m240 : Cond.code yzP_dies czP_dies 1 (some .boolean) ∈ xk_WS := xk_in10 _ (List.mem_of_getElem? (i := 0) rfl)
theorem xk_m241 : Cond.methodLink RzU 109 yzU_watchBarriers ∈ xk_WS := xk_in10 _ (List.mem_of_getElem? (i := 1) rfl)
theorem xk_m242 : Cond.instanceMethod yzU_watchBarriers ∈ xk_WS := xk_in10 _ (List.mem_of_getElem? (i := 2) rfl)
theorem xk_m243 : Cond.code yzU_watchBarriers czU_watchBarriers 2 none ∈ xk_WS := xk_in10 _ (List.mem_of_getElem? (i := 3) rfl)
theorem xk_m244 : Cond.methodLink RzU 310 yzB_startsAlarm ∈ xk_WS := xk_in10 _ (List.mem_of_getElem? (i := 4) rfl)
theorem xk_m245 : Cond.instanceMethod yzB_startsAlarm ∈ xk_WS := xk_in10 _ (List.mem_of_getElem? (i := 5) rfl)
theorem xk_m246 : Cond.selects RzB yzB_startsAlarm yzB_startsAlarm ∈ xk_WS := xk_in10 _ (List.mem_of_getElem? (i := 6) rfl)
theorem xk_m247 : Cond.code yzB_startsAlarm czB_startsAlarm 2 (some .boolean) ∈ xk_WS := xk_in10 _ (List.mem_of_getElem? (i := 7) rfl)
theorem xk_m248 : Cond.methodLink RzU 112 yzU_moveRoad ∈ xk_WS := xk_in10 _ (List.mem_of_getElem? (i := 8) rfl)
theorem xk_m249 : Cond.instanceMethod yzU_moveRoad ∈ xk_WS := xk_in10 _ (List.mem_of_getElem? (i := 9) rfl)
theorem xk_m250 : Cond.code yzU_moveRoad czU_moveRoad 1 none ∈ xk_WS := xk_in10 _ (List.mem_of_getElem? (i := 10) rfl)
theorem xk_m251 : Cond.methodLink RzU 316 yzU_isDemanded ∈ xk_WS := xk_in10 _ (List.mem_of_getElem? (i := 11) rfl)
theorem xk_m252 : Cond.instanceMethod yzU_isDemanded ∈ xk_WS := xk_in10 _ (List.mem_of_getElem? (i := 12) rfl)
theorem xk_m253 : Cond.code yzU_isDemanded czU_isDemanded 2 (some .boolean) ∈ xk_WS := xk_in10 _ (List.mem_of_getElem? (i := 13) rfl)
theorem xk_m254 : Cond.methodLink RzU 326 yzK_isFree ∈ xk_WS := xk_in10 _ (List.mem_of_getElem? (i := 14) rfl)
theorem xk_m255 : Cond.instanceMethod yzK_isFree ∈ xk_WS := xk_in10 _ (List.mem_of_getElem? (i := 15) rfl)
theorem xk_m256 : Cond.selects RzK yzK_isFree yzK_isFree ∈ xk_WS := xk_in10 _ (List.mem_of_getElem? (i := 16) rfl)
theorem xk_m257 : Cond.code yzK_isFree czK_isFree 2 (some .boolean) ∈ xk_WS := xk_in10 _ (List.mem_of_getElem? (i := 17) rfl)
theorem xk_m258 : Cond.methodLink RzK 47 yzS_state ∈ xk_WS := xk_in10 _ (List.mem_of_getElem? (i := 18) rfl)
theorem xk_m259 : Cond.instanceMethod yzS_state ∈ xk_WS := xk_in10 _ (List.mem_of_getElem? (i := 19) rfl)
theorem xk_m260 : Cond.selects RzS yzS_state yzS_state ∈ xk_WS := xk_in10 _ (List.mem_of_getElem? (i := 20) rfl)
theorem xk_m261 : Cond.code yzS_state czS_state 1 (some .int) ∈ xk_WS := xk_in10 _ (List.mem_of_getElem? (i := 21) rfl)
theorem xk_m262 : Cond.methodLink RzU 319 yzU_isUp ∈ xk_WS := xk_in10 _ (List.mem_of_getElem? (i := 22) rfl)
theorem xk_m263 : Cond.instanceMethod yzU_isUp ∈ xk_WS := xk_in10 _ (List.mem_of_getElem? (i := 23) rfl)
theorem xk_m264 : Cond.code yzU_isUp czU_isUp 1 (some .boolean) ∈ xk_WS := xk_in11 _ (List.mem_of_getElem? (i := 0) rfl)
theorem xk_m265 : Cond.methodLink RzU 322 yzR_moves ∈ xk_WS := xk_in11 _ (List.mem_of_getElem? (i := 1) rfl)
theorem xk_m266 : Cond.instanceMethod yzR_moves ∈ xk_WS := xk_in11 _ (List.mem_of_getElem? (i := 2) rfl)
theorem xk_m267 : Cond.selects RzR yzR_moves yzR_moves ∈ xk_WS := xk_in11 _ (List.mem_of_getElem? (i := 3) rfl)
theorem xk_m268 : Cond.code yzR_moves czR_moves 5 (some .boolean) ∈ xk_WS := xk_in11 _ (List.mem_of_getElem? (i := 4) rfl)
theorem xk_m269 : Cond.methodLink RzR 21 yzR_stepToCome ∈ xk_WS := xk_in11 _ (List.mem_of_getElem? (i := 5) rfl)
theorem xk_m270 : Cond.instanceMethod yzR_stepToCome ∈ xk_WS := xk_in11 _ (List.mem_of_getElem? (i := 6) rfl)
theorem xk_m271 : Cond.code yzR_stepToCome czR_stepToCome 4 (some .int) ∈ xk_WS := xk_in11 _ (List.mem_of_getElem? (i := 7) rfl)
theorem xk_m272 : Cond.methodLink RzU 115 yzU_driveMotors ∈ xk_WS := xk_in11 _ (List.mem_of_getElem? (i := 8) rfl)
theorem xk_m273 : Cond.instanceMethod yzU_driveMotors ∈ xk_WS := xk_in11 _ (List.mem_of_getElem? (i := 9) rfl)
theorem xk_m274 : Cond.code yzU_driveMotors czU_driveMotors 2 none ∈ xk_WS := xk_in11 _ (List.mem_of_getElem? (i := 10) rfl)
theorem xk_m275 : Cond.methodLink RzU 332 yzB_drive ∈ xk_WS := xk_in11 _ (List.mem_of_getElem? (i := 11) rfl)
theorem xk_m276 : Cond.instanceMethod yzB_drive ∈ xk_WS := xk_in11 _ (List.mem_of_getElem? (i := 12) rfl)
theorem xk_m277 : Cond.selects RzB yzB_drive yzB_drive ∈ xk_WS := xk_in11 _ (List.mem_of_getElem? (i := 13) rfl)
theorem xk_m278 : Cond.code yzB_drive czB_drive 2 none ∈ xk_WS := xk_in11 _ (List.mem_of_getElem? (i := 14) rfl)
theorem xk_m279 : Cond.methodLink RzU 118 yzU_lightLamps ∈ xk_WS := xk_in11 _ (List.mem_of_getElem? (i := 15) rfl)
theorem xk_m280 : Cond.instanceMethod yzU_lightLamps ∈ xk_WS := xk_in11 _ (List.mem_of_getElem? (i := 16) rfl)
theorem xk_m281 : Cond.code yzU_lightLamps czU_lightLamps 3 none ∈ xk_WS := xk_in11 _ (List.mem_of_getElem? (i := 17) rfl)
theorem xk_m282 : Cond.methodLink RzU 335 yzU_isEven ∈ xk_WS := xk_in11 _ (List.mem_of_getElem? (i := 18) rfl)
theorem xk_m283 : Cond.static yzU_isEven ∈ xk_WS := xk_in11 _ (List.mem_of_getElem? (i := 19) rfl)
theorem xk_m284 : Cond.code yzU_isEven czU_isEven 1 (some .boolean) ∈ xk_WS := xk_in11 _ (List.mem_of_getElem? (i := 20) rfl)
theorem xk_m285 : Cond.methodLink RzU 121 yzU_bellIsDue ∈ xk_WS := xk_in11 _ (List.mem_of_getElem? (i := 21) rfl)
theorem xk_m286 : Cond.instanceMethod yzU_bellIsDue ∈ xk_WS := xk_in11 _ (List.mem_of_getElem? (i := 22) rfl)
theorem xk_m287 : Cond.code yzU_bellIsDue czU_bellIsDue 2 (some .boolean) ∈ xk_WS := xk_in11 _ (List.mem_of_getElem? (i := 23) rfl)
theorem xk_m288 : Cond.methodLink RzU 125 yzU_setSignals ∈ xk_WS := xk_in12 _ (List.mem_of_getElem? (i := 0) rfl)
theorem xk_m289 : Cond.instanceMethod yzU_setSignals ∈ xk_WS := xk_in12 _ (List.mem_of_getElem? (i := 1) rfl)
theorem xk_m290 : Cond.code yzU_setSignals czU_setSignals 3 none ∈ xk_WS := xk_in12 _ (List.mem_of_getElem? (i := 2) rfl)
theorem xk_m291 : Cond.methodLink RzU 341 yzU_signalIsDue ∈ xk_WS := xk_in12 _ (List.mem_of_getElem? (i := 3) rfl)
theorem xk_m292 : Cond.instanceMethod yzU_signalIsDue ∈ xk_WS := xk_in12 _ (List.mem_of_getElem? (i := 4) rfl)
theorem xk_m293 : Cond.code yzU_signalIsDue czU_signalIsDue 2 (some .boolean) ∈ xk_WS := xk_in12 _ (List.mem_of_getElem? (i := 5) rfl)
theorem xk_m294 : Cond.methodLink RzU 155 yzK_isDisturbed ∈ xk_WS := xk_in12 _ (List.mem_of_getElem? (i := 6) rfl)
theorem xk_m295 : Cond.instanceMethod yzK_isDisturbed ∈ xk_WS := xk_in12 _ (List.mem_of_getElem? (i := 7) rfl)
theorem xk_m296 : Cond.selects RzK yzK_isDisturbed yzK_isDisturbed ∈ xk_WS := xk_in12 _ (List.mem_of_getElem? (i := 8) rfl)
theorem xk_m297 : Cond.code yzK_isDisturbed czK_isDisturbed 2 (some .boolean) ∈ xk_WS := xk_in12 _ (List.mem_of_getElem? (i := 9) rfl)
theorem xk_m298 : Cond.methodLink RzU 162 yzS_state ∈ xk_WS := xk_in12 _ (List.mem_of_getElem? (i := 10) rfl)
theorem xk_m299 : Cond.methodLink RzU 128 yzU_gatherOutput ∈ xk_WS := xk_in12 _ (List.mem_of_getElem? (i := 11) rfl)
theorem xk_m300 : Cond.instanceMethod yzU_gatherOutput ∈ xk_WS := xk_in12 _ (List.mem_of_getElem? (i := 12) rfl)
theorem xk_m301 : Cond.code yzU_gatherOutput czU_gatherOutput 3 (some .int) ∈ xk_WS := xk_in12 _ (List.mem_of_getElem? (i := 13) rfl)
theorem xk_m302 : Cond.instanceMethod yzU_night ∈ xk_WS := xk_in12 _ (List.mem_of_getElem? (i := 14) rfl)
theorem xk_m303 : Cond.selects RzU yzU_night yzU_night ∈ xk_WS := xk_in12 _ (List.mem_of_getElem? (i := 15) rfl)
theorem xk_m304 : Cond.code yzU_night czU_night 3 (some .boolean) ∈ xk_WS := xk_in12 _ (List.mem_of_getElem? (i := 16) rfl)
theorem xk_m305 : Cond.instanceMethod yzU_pulse ∈ xk_WS := xk_in12 _ (List.mem_of_getElem? (i := 17) rfl)
theorem xk_m306 : Cond.selects RzU yzU_pulse yzU_pulse ∈ xk_WS := xk_in12 _ (List.mem_of_getElem? (i := 18) rfl)
theorem xk_m307 : Cond.code yzU_pulse czU_pulse 5 none ∈ xk_WS := xk_in12 _ (List.mem_of_getElem? (i := 19) rfl)
theorem xk_m308 : Cond.methodLink RzU 63 yzU_findTrack ∈ xk_WS := xk_in12 _ (List.mem_of_getElem? (i := 20) rfl)
theorem xk_m309 : Cond.instanceMethod yzU_findTrack ∈ xk_WS := xk_in12 _ (List.mem_of_getElem? (i := 21) rfl)
theorem xk_m310 : Cond.code yzU_findTrack czU_findTrack 2 (some (.object "CrossingUnit$Track")) ∈ xk_WS := xk_in12 _ (List.mem_of_getElem? (i := 22) rfl)
theorem xk_m311 : Cond.classLink RzU 137 "java/util/NoSuchElementException" ∈ xk_WS := xk_in12 _ (List.mem_of_getElem? (i := 23) rfl)
theorem xk_m312 : Cond.methodLink "java/lang/Throwable" 1 objectInit ∈ xk_WS := xk_in13 _ (List.mem_of_getElem? (i := 0) rfl)
theorem xk_m313 : Cond.arrayClass .byte ∈ xk_WS := xk_in13 _ (List.mem_of_getElem? (i := 1) rfl)
theorem xk_m314 : Cond.methodLink RzU 67 yzU_checkHead ∈ xk_WS := xk_in13 _ (List.mem_of_getElem? (i := 2) rfl)
theorem xk_m315 : Cond.static yzU_checkHead ∈ xk_WS := xk_in13 _ (List.mem_of_getElem? (i := 3) rfl)
theorem xk_m316 : Cond.code yzU_checkHead czU_checkHead 1 none ∈ xk_WS := xk_in13 _ (List.mem_of_getElem? (i := 4) rfl)
theorem xk_m317 : Cond.classLink RzU 70 "java/lang/IllegalArgumentException" ∈ xk_WS := xk_in13 _ (List.mem_of_getElem? (i := 5) rfl)
theorem xk_m318 : Cond.classLink RzU 81 "java/lang/IllegalStateException" ∈ xk_WS := xk_in13 _ (List.mem_of_getElem? (i := 6) rfl)
theorem xk_m319 : Cond.instanceMethod yzU_health ∈ xk_WS := xk_in13 _ (List.mem_of_getElem? (i := 7) rfl)
theorem xk_m320 : Cond.selects RzU yzU_health yzU_health ∈ xk_WS := xk_in13 _ (List.mem_of_getElem? (i := 8) rfl)
theorem xk_m321 : Cond.code yzU_health czU_health 6 (some .boolean) ∈ xk_WS := xk_in13 _ (List.mem_of_getElem? (i := 9) rfl)
theorem xk_m322 : Cond.methodLink RzU 90 yzU_disturbIfThere ∈ xk_WS := xk_in13 _ (List.mem_of_getElem? (i := 10) rfl)
theorem xk_m323 : Cond.instanceMethod yzU_disturbIfThere ∈ xk_WS := xk_in13 _ (List.mem_of_getElem? (i := 11) rfl)
theorem xk_m324 : Cond.code yzU_disturbIfThere czU_disturbIfThere 3 none ∈ xk_WS := xk_in13 _ (List.mem_of_getElem? (i := 12) rfl)
theorem xk_m325 : Cond.instanceMethod yzU_ticks ∈ xk_WS := xk_in13 _ (List.mem_of_getElem? (i := 13) rfl)
theorem xk_m326 : Cond.selects RzU yzU_ticks yzU_ticks ∈ xk_WS := xk_in13 _ (List.mem_of_getElem? (i := 14) rfl)
theorem xk_m327 : Cond.code yzU_ticks czU_ticks 3 (some .int) ∈ xk_WS := xk_in13 _ (List.mem_of_getElem? (i := 15) rfl)
theorem xk_m328 : Cond.methodLink RzU 134 yzU_tick ∈ xk_WS := xk_in13 _ (List.mem_of_getElem? (i := 16) rfl)
theorem xk_m329 : Cond.instanceMethod yzU_barrier ∈ xk_WS := xk_in13 _ (List.mem_of_getElem? (i := 17) rfl)
theorem xk_m330 : Cond.selects RzU yzU_barrier yzU_barrier ∈ xk_WS := xk_in13 _ (List.mem_of_getElem? (i := 18) rfl)
theorem xk_m331 : Cond.code yzU_barrier czU_barrier 4 (some .int) ∈ xk_WS := xk_in13 _ (List.mem_of_getElem? (i := 19) rfl)
theorem xk_m332 : Cond.instanceMethod yzU_current ∈ xk_WS := xk_in13 _ (List.mem_of_getElem? (i := 20) rfl)
theorem xk_m333 : Cond.selects RzU yzU_current yzU_current ∈ xk_WS := xk_in13 _ (List.mem_of_getElem? (i := 21) rfl)
theorem xk_m334 : Cond.code yzU_current czU_current 4 (some .boolean) ∈ xk_WS := xk_in13 _ (List.mem_of_getElem? (i := 22) rfl)
theorem xk_m335 : Cond.instanceMethod yzU_order ∈ xk_WS := xk_in13 _ (List.mem_of_getElem? (i := 23) rfl)
theorem xk_m336 : Cond.selects RzU yzU_order yzU_order ∈ xk_WS := xk_in14 _ (List.mem_of_getElem? (i := 0) rfl)
theorem xk_m337 : Cond.code yzU_order czU_order 3 (some .int) ∈ xk_WS := xk_in14 _ (List.mem_of_getElem? (i := 1) rfl)
theorem xk_m338 : Cond.methodLink RzU 167 yzU_isAlarmed ∈ xk_WS := xk_in14 _ (List.mem_of_getElem? (i := 2) rfl)
theorem xk_m339 : Cond.instanceMethod yzU_isAlarmed ∈ xk_WS := xk_in14 _ (List.mem_of_getElem? (i := 3) rfl)
theorem xk_m340 : Cond.code yzU_isAlarmed czU_isAlarmed 1 (some .boolean) ∈ xk_WS := xk_in14 _ (List.mem_of_getElem? (i := 4) rfl)
theorem xk_m341 : Cond.instanceMethod yzU_cancel ∈ xk_WS := xk_in14 _ (List.mem_of_getElem? (i := 5) rfl)
theorem xk_m342 : Cond.selects RzU yzU_cancel yzU_cancel ∈ xk_WS := xk_in14 _ (List.mem_of_getElem? (i := 6) rfl)
theorem xk_m343 : Cond.code yzU_cancel czU_cancel 4 (some .boolean) ∈ xk_WS := xk_in14 _ (List.mem_of_getElem? (i := 7) rfl)
theorem xk_m344 : Cond.instanceMethod yzU_ask ∈ xk_WS := xk_in14 _ (List.mem_of_getElem? (i := 8) rfl)
theorem xk_m345 : Cond.selects RzU yzU_ask yzU_ask ∈ xk_WS := xk_in14 _ (List.mem_of_getElem? (i := 9) rfl)
theorem xk_m346 : Cond.code yzU_ask czU_ask 5 none ∈ xk_WS := xk_in14 _ (List.mem_of_getElem? (i := 10) rfl)
theorem xk_m347 : Cond.methodLink RzU 174 yzU_findSection ∈ xk_WS := xk_in14 _ (List.mem_of_getElem? (i := 11) rfl)
theorem xk_m348 : Cond.instanceMethod yzU_findSection ∈ xk_WS := xk_in14 _ (List.mem_of_getElem? (i := 12) rfl)
theorem xk_m349 : Cond.code yzU_findSection czU_findSection 4 (some (.object "CrossingUnit$Section")) ∈ xk_WS := xk_in14 _ (List.mem_of_getElem? (i := 13) rfl)
theorem xk_m350 : Cond.methodLink RzU 178 yzU_checkPerson ∈ xk_WS := xk_in14 _ (List.mem_of_getElem? (i := 14) rfl)
theorem xk_m351 : Cond.static yzU_checkPerson ∈ xk_WS := xk_in14 _ (List.mem_of_getElem? (i := 15) rfl)
theorem xk_m352 : Cond.code yzU_checkPerson czU_checkPerson 1 none ∈ xk_WS := xk_in14 _ (List.mem_of_getElem? (i := 16) rfl)
theorem xk_m353 : Cond.methodLink RzU 186 yzS_startSweep ∈ xk_WS := xk_in14 _ (List.mem_of_getElem? (i := 17) rfl)
theorem xk_m354 : Cond.instanceMethod yzS_startSweep ∈ xk_WS := xk_in14 _ (List.mem_of_getElem? (i := 18) rfl)
theorem xk_m355 : Cond.selects RzS yzS_startSweep yzS_startSweep ∈ xk_WS := xk_in14 _ (List.mem_of_getElem? (i := 19) rfl)
theorem xk_m356 : Cond.code yzS_startSweep czS_startSweep 2 none ∈ xk_WS := xk_in14 _ (List.mem_of_getElem? (i := 20) rfl)
theorem xk_m357 : Cond.instanceMethod yzU_confirm ∈ xk_WS := xk_in14 _ (List.mem_of_getElem? (i := 21) rfl)
theorem xk_m358 : Cond.selects RzU yzU_confirm yzU_confirm ∈ xk_WS := xk_in14 _ (List.mem_of_getElem? (i := 22) rfl)
theorem xk_m359 : Cond.code yzU_confirm czU_confirm 5 (some .boolean) ∈ xk_WS := xk_in14 _ (List.mem_of_getElem? (i := 23) rfl)
theorem xk_m360 : Cond.methodLink RzU 194 yzS_isSwept ∈ xk_WS := xk_in15 _ (List.mem_of_getElem? (i := 0) rfl)
theorem xk_m361 : Cond.instanceMethod yzS_isSwept ∈ xk_WS := xk_in15 _ (List.mem_of_getElem? (i := 1) rfl)
theorem xk_m362 : Cond.selects RzS yzS_isSwept yzS_isSwept ∈ xk_WS := xk_in15 _ (List.mem_of_getElem? (i := 2) rfl)
theorem xk_m363 : Cond.code yzS_isSwept czS_isSwept 1 (some .boolean) ∈ xk_WS := xk_in15 _ (List.mem_of_getElem? (i := 3) rfl)
theorem xk_m364 : Cond.methodLink RzS 40 yzS_isSweep ∈ xk_WS := xk_in15 _ (List.mem_of_getElem? (i := 4) rfl)
theorem xk_m365 : Cond.static yzS_isSweep ∈ xk_WS := xk_in15 _ (List.mem_of_getElem? (i := 5) rfl)
theorem xk_m366 : Cond.code yzS_isSweep czS_isSweep 4 (some .boolean) ∈ xk_WS := xk_in15 _ (List.mem_of_getElem? (i := 6) rfl)
theorem xk_m367 : Cond.methodLink RzU 197 yzK_hasHealthyHeads ∈ xk_WS := xk_in15 _ (List.mem_of_getElem? (i := 7) rfl)
theorem xk_m368 : Cond.instanceMethod yzK_hasHealthyHeads ∈ xk_WS := xk_in15 _ (List.mem_of_getElem? (i := 8) rfl)
theorem xk_m369 : Cond.selects RzK yzK_hasHealthyHeads yzK_hasHealthyHeads ∈ xk_WS := xk_in15 _ (List.mem_of_getElem? (i := 9) rfl)
theorem xk_m370 : Cond.code yzK_hasHealthyHeads czK_hasHealthyHeads 2 (some .boolean) ∈ xk_WS := xk_in15 _ (List.mem_of_getElem? (i := 10) rfl)
theorem xk_m371 : Cond.methodLink RzU 201 yzS_reset ∈ xk_WS := xk_in15 _ (List.mem_of_getElem? (i := 11) rfl)
theorem xk_m372 : Cond.instanceMethod yzS_reset ∈ xk_WS := xk_in15 _ (List.mem_of_getElem? (i := 12) rfl)
theorem xk_m373 : Cond.selects RzS yzS_reset yzS_reset ∈ xk_WS := xk_in15 _ (List.mem_of_getElem? (i := 13) rfl)
theorem xk_m374 : Cond.code yzS_reset czS_reset 1 none ∈ xk_WS := xk_in15 _ (List.mem_of_getElem? (i := 14) rfl)
theorem xk_m375 : Cond.instanceMethod yzU_section ∈ xk_WS := xk_in15 _ (List.mem_of_getElem? (i := 15) rfl)
theorem xk_m376 : Cond.selects RzU yzU_section yzU_section ∈ xk_WS := xk_in15 _ (List.mem_of_getElem? (i := 16) rfl)
theorem xk_m377 : Cond.code yzU_section czU_section 5 (some .int) ∈ xk_WS := xk_in15 _ (List.mem_of_getElem? (i := 17) rfl)
theorem xk_m378 : Cond.instanceMethod yzU_earliest ∈ xk_WS := xk_in15 _ (List.mem_of_getElem? (i := 18) rfl)
theorem xk_m379 : Cond.selects RzU yzU_earliest yzU_earliest ∈ xk_WS := xk_in15 _ (List.mem_of_getElem? (i := 19) rfl)
theorem xk_m380 : Cond.code yzU_earliest czU_earliest 5 (some .int) ∈ xk_WS := xk_in15 _ (List.mem_of_getElem? (i := 20) rfl)
theorem xk_m381 : Cond.methodLink RzU 221 Lib.Math.min.name ∈ xk_WS := xk_in15 _ (List.mem_of_getElem? (i := 21) rfl)
theorem xk_m382 : Cond.static Lib.Math.min.name ∈ xk_WS := xk_in15 _ (List.mem_of_getElem? (i := 22) rfl)
theorem xk_m383 : Cond.code Lib.Math.min.name Lib.Math.min.code 2 (some .int) ∈ xk_WS := xk_in15 _ (List.mem_of_getElem? (i := 23) rfl)
theorem xk_m384 : Cond.instanceMethod yzU_about ∈ xk_WS := xk_in16 _ (List.mem_of_getElem? (i := 0) rfl)
theorem xk_m385 : Cond.selects RzU yzU_about yzU_about ∈ xk_WS := xk_in16 _ (List.mem_of_getElem? (i := 1) rfl)
theorem xk_m386 : Cond.code yzU_about czU_about 2 (some .int) ∈ xk_WS := xk_in16 _ (List.mem_of_getElem? (i := 2) rfl)
theorem xk_m387 : Cond.methodLink RzU 239 yzU_deadLamps ∈ xk_WS := xk_in16 _ (List.mem_of_getElem? (i := 3) rfl)
theorem xk_m388 : Cond.instanceMethod yzU_deadLamps ∈ xk_WS := xk_in16 _ (List.mem_of_getElem? (i := 4) rfl)
theorem xk_m389 : Cond.code yzU_deadLamps czU_deadLamps 3 (some .int) ∈ xk_WS := xk_in16 _ (List.mem_of_getElem? (i := 5) rfl)
theorem xk_m390 : Cond.methodLink RzU 242 yzU_standingOrders ∈ xk_WS := xk_in16 _ (List.mem_of_getElem? (i := 6) rfl)
theorem xk_m391 : Cond.instanceMethod yzU_standingOrders ∈ xk_WS := xk_in16 _ (List.mem_of_getElem? (i := 7) rfl)
theorem xk_m392 : Cond.code yzU_standingOrders czU_standingOrders 3 (some .int) ∈ xk_WS := xk_in16 _ (List.mem_of_getElem? (i := 8) rfl)
theorem xk_m393 : Cond.instanceMethod yzU_event ∈ xk_WS := xk_in16 _ (List.mem_of_getElem? (i := 9) rfl)
theorem xk_m394 : Cond.selects RzU yzU_event yzU_event ∈ xk_WS := xk_in16 _ (List.mem_of_getElem? (i := 10) rfl)
theorem xk_m395 : Cond.code yzU_event czU_event 4 (some .int) ∈ xk_WS := xk_in16 _ (List.mem_of_getElem? (i := 11) rfl)
theorem xk_m396 : Cond.methodLink RzU 250 yzJ_keeps ∈ xk_WS := xk_in16 _ (List.mem_of_getElem? (i := 12) rfl)
theorem xk_m397 : Cond.instanceMethod yzJ_keeps ∈ xk_WS := xk_in16 _ (List.mem_of_getElem? (i := 13) rfl)
theorem xk_m398 : Cond.selects RzJ yzJ_keeps yzJ_keeps ∈ xk_WS := xk_in16 _ (List.mem_of_getElem? (i := 14) rfl)
theorem xk_m399 : Cond.code yzJ_keeps czJ_keeps 2 (some .boolean) ∈ xk_WS := xk_in16 _ (List.mem_of_getElem? (i := 15) rfl)
theorem xk_m400 : Cond.instantiable RzM 35 ∈ xk_WS := xk_in16 _ (List.mem_of_getElem? (i := 16) rfl)
theorem xk_m401 : Cond.instanceMethod yzM_init ∈ xk_WS := xk_in16 _ (List.mem_of_getElem? (i := 17) rfl)
theorem xk_m402 : Cond.code yzM_init czM_init 2 none ∈ xk_WS := xk_in16 _ (List.mem_of_getElem? (i := 18) rfl)
theorem xk_m403 : Cond.methodLink RzM 1 objectInit ∈ xk_WS := xk_in16 _ (List.mem_of_getElem? (i := 19) rfl)
theorem xk_m404 : Cond.fieldLink RzM 92 "CrossingUnitModel" "thrown" "I" ∈ xk_WS := xk_in16 _ (List.mem_of_getElem? (i := 20) rfl)
theorem xk_m405 : Cond.fieldLink RzM 7 "CrossingUnitModel" "pulses" "[I" ∈ xk_WS := xk_in16 _ (List.mem_of_getElem? (i := 21) rfl)
theorem xk_m406 : Cond.fieldLink RzM 13 "CrossingUnitModel" "sick" "[Z" ∈ xk_WS := xk_in16 _ (List.mem_of_getElem? (i := 22) rfl)
theorem xk_m407 : Cond.fieldLink RzM 17 "CrossingUnitModel" "balances" "[I" ∈ xk_WS := xk_in16 _ (List.mem_of_getElem? (i := 23) rfl)
theorem xk_m408 : Cond.fieldLink RzM 20 "CrossingUnitModel" "before" "[I" ∈ xk_WS := xk_in17 _ (List.mem_of_getElem? (i := 0) rfl)
theorem xk_m409 : Cond.fieldLink RzM 23 "CrossingUnitModel" "disturbed" "[Z" ∈ xk_WS := xk_in17 _ (List.mem_of_getElem? (i := 1) rfl)
theorem xk_m410 : Cond.fieldLink RzM 26 "CrossingUnitModel" "askers" "[I" ∈ xk_WS := xk_in17 _ (List.mem_of_getElem? (i := 2) rfl)
theorem xk_m411 : Cond.fieldLink RzM 29 "CrossingUnitModel" "lowerIn" "[I" ∈ xk_WS := xk_in17 _ (List.mem_of_getElem? (i := 3) rfl)
theorem xk_m412 : Cond.fieldLink RzM 32 "CrossingUnitModel" "upperOut" "[I" ∈ xk_WS := xk_in17 _ (List.mem_of_getElem? (i := 4) rfl)
theorem xk_m413 : Cond.fieldLink RzM 35 "CrossingUnitModel" "upperIn" "[I" ∈ xk_WS := xk_in17 _ (List.mem_of_getElem? (i := 5) rfl)
theorem xk_m414 : Cond.fieldLink RzM 38 "CrossingUnitModel" "lowerOut" "[I" ∈ xk_WS := xk_in17 _ (List.mem_of_getElem? (i := 6) rfl)
theorem xk_m415 : Cond.fieldLink RzM 41 "CrossingUnitModel" "comings" "[I" ∈ xk_WS := xk_in17 _ (List.mem_of_getElem? (i := 7) rfl)
theorem xk_m416 : Cond.fieldLink RzM 44 "CrossingUnitModel" "cameIn" "[Z" ∈ xk_WS := xk_in17 _ (List.mem_of_getElem? (i := 8) rfl)
theorem xk_m417 : Cond.fieldLink RzM 47 "CrossingUnitModel" "orders" "[Z" ∈ xk_WS := xk_in17 _ (List.mem_of_getElem? (i := 9) rfl)
theorem xk_m418 : Cond.fieldLink RzM 50 "CrossingUnitModel" "positions" "[I" ∈ xk_WS := xk_in17 _ (List.mem_of_getElem? (i := 10) rfl)
theorem xk_m419 : Cond.fieldLink RzM 53 "CrossingUnitModel" "lastPositions" "[I" ∈ xk_WS := xk_in17 _ (List.mem_of_getElem? (i := 11) rfl)
theorem xk_m420 : Cond.fieldLink RzM 56 "CrossingUnitModel" "motors" "[I" ∈ xk_WS := xk_in17 _ (List.mem_of_getElem? (i := 12) rfl)
theorem xk_m421 : Cond.fieldLink RzM 59 "CrossingUnitModel" "zeros" "[I" ∈ xk_WS := xk_in17 _ (List.mem_of_getElem? (i := 13) rfl)
theorem xk_m422 : Cond.fieldLink RzM 62 "CrossingUnitModel" "stalls" "[I" ∈ xk_WS := xk_in17 _ (List.mem_of_getElem? (i := 14) rfl)
theorem xk_m423 : Cond.fieldLink RzM 65 "CrossingUnitModel" "alarms" "[Z" ∈ xk_WS := xk_in17 _ (List.mem_of_getElem? (i := 15) rfl)
theorem xk_m424 : Cond.fieldLink RzM 68 "CrossingUnitModel" "noCurrent" "[Z" ∈ xk_WS := xk_in17 _ (List.mem_of_getElem? (i := 16) rfl)
theorem xk_m425 : Cond.fieldLink RzM 71 "CrossingUnitModel" "lit" "[Z" ∈ xk_WS := xk_in17 _ (List.mem_of_getElem? (i := 17) rfl)
theorem xk_m426 : Cond.fieldLink RzM 74 "CrossingUnitModel" "dark" "[I" ∈ xk_WS := xk_in17 _ (List.mem_of_getElem? (i := 18) rfl)
theorem xk_m427 : Cond.fieldLink RzM 77 "CrossingUnitModel" "dead" "[Z" ∈ xk_WS := xk_in17 _ (List.mem_of_getElem? (i := 19) rfl)
theorem xk_m428 : Cond.fieldLink RzM 122 "CrossingUnitModel" "night" "Z" ∈ xk_WS := xk_in17 _ (List.mem_of_getElem? (i := 20) rfl)
theorem xk_m429 : Cond.fieldLink RzM 161 "CrossingUnitModel" "bell" "Z" ∈ xk_WS := xk_in17 _ (List.mem_of_getElem? (i := 21) rfl)
theorem xk_m430 : Cond.fieldLink RzM 80 "CrossingUnitModel" "clear" "[Z" ∈ xk_WS := xk_in17 _ (List.mem_of_getElem? (i := 22) rfl)
theorem xk_m431 : Cond.fieldLink RzM 103 "CrossingUnitModel" "time" "I" ∈ xk_WS := xk_in17 _ (List.mem_of_getElem? (i := 23) rfl)
theorem xk_m432 : Cond.fieldLink RzM 152 "CrossingUnitModel" "step" "I" ∈ xk_WS := xk_in18 _ (List.mem_of_getElem? (i := 0) rfl)
theorem xk_m433 : Cond.fieldLink RzM 149 "CrossingUnitModel" "age" "I" ∈ xk_WS := xk_in18 _ (List.mem_of_getElem? (i := 1) rfl)
theorem xk_m434 : Cond.fieldLink RzM 155 "CrossingUnitModel" "quiet" "I" ∈ xk_WS := xk_in18 _ (List.mem_of_getElem? (i := 2) rfl)
theorem xk_m435 : Cond.fieldLink RzM 100 "CrossingUnitModel" "many" "I" ∈ xk_WS := xk_in18 _ (List.mem_of_getElem? (i := 3) rfl)
theorem xk_m436 : Cond.fieldLink RzM 83 "CrossingUnitModel" "times" "[I" ∈ xk_WS := xk_in18 _ (List.mem_of_getElem? (i := 4) rfl)
theorem xk_m437 : Cond.fieldLink RzM 86 "CrossingUnitModel" "kinds" "[I" ∈ xk_WS := xk_in18 _ (List.mem_of_getElem? (i := 5) rfl)
theorem xk_m438 : Cond.fieldLink RzM 89 "CrossingUnitModel" "whiches" "[I" ∈ xk_WS := xk_in18 _ (List.mem_of_getElem? (i := 6) rfl)
theorem xk_m439 : Cond.instanceMethod yzM_thrown ∈ xk_WS := xk_in18 _ (List.mem_of_getElem? (i := 7) rfl)
theorem xk_m440 : Cond.selects RzM yzM_thrown yzM_thrown ∈ xk_WS := xk_in18 _ (List.mem_of_getElem? (i := 8) rfl)
theorem xk_m441 : Cond.code yzM_thrown czM_thrown 1 (some .int) ∈ xk_WS := xk_in18 _ (List.mem_of_getElem? (i := 9) rfl)
theorem xk_m442 : Cond.instanceMethod yzM_pulse ∈ xk_WS := xk_in18 _ (List.mem_of_getElem? (i := 10) rfl)
theorem xk_m443 : Cond.selects RzM yzM_pulse yzM_pulse ∈ xk_WS := xk_in18 _ (List.mem_of_getElem? (i := 11) rfl)
theorem xk_m444 : Cond.code yzM_pulse czM_pulse 5 none ∈ xk_WS := xk_in18 _ (List.mem_of_getElem? (i := 12) rfl)
theorem xk_m445 : Cond.methodLink RzM 110 yzM_isHead ∈ xk_WS := xk_in18 _ (List.mem_of_getElem? (i := 13) rfl)
theorem xk_m446 : Cond.static yzM_isHead ∈ xk_WS := xk_in18 _ (List.mem_of_getElem? (i := 14) rfl)
theorem xk_m447 : Cond.code yzM_isHead czM_isHead 2 (some .boolean) ∈ xk_WS := xk_in18 _ (List.mem_of_getElem? (i := 15) rfl)
theorem xk_m448 : Cond.methodLink RzM 96 yzM_isTrack ∈ xk_WS := xk_in18 _ (List.mem_of_getElem? (i := 16) rfl)
theorem xk_m449 : Cond.static yzM_isTrack ∈ xk_WS := xk_in18 _ (List.mem_of_getElem? (i := 17) rfl)
theorem xk_m450 : Cond.code yzM_isTrack czM_isTrack 1 (some .boolean) ∈ xk_WS := xk_in18 _ (List.mem_of_getElem? (i := 18) rfl)
theorem xk_m451 : Cond.methodLink RzM 114 yzM_goes ∈ xk_WS := xk_in18 _ (List.mem_of_getElem? (i := 19) rfl)
theorem xk_m452 : Cond.instanceMethod yzM_goes ∈ xk_WS := xk_in18 _ (List.mem_of_getElem? (i := 20) rfl)
theorem xk_m453 : Cond.code yzM_goes czM_goes 4 (some .boolean) ∈ xk_WS := xk_in18 _ (List.mem_of_getElem? (i := 21) rfl)
theorem xk_m454 : Cond.instanceMethod yzM_health ∈ xk_WS := xk_in18 _ (List.mem_of_getElem? (i := 22) rfl)
theorem xk_m455 : Cond.selects RzM yzM_health yzM_health ∈ xk_WS := xk_in18 _ (List.mem_of_getElem? (i := 23) rfl)
theorem xk_m456 : Cond.code yzM_health czM_health 7 (some .boolean) ∈ xk_WS := xk_in19 _ (List.mem_of_getElem? (i := 0) rfl)
theorem xk_m457 : Cond.methodLink RzM 118 yzM_disturb ∈ xk_WS := xk_in19 _ (List.mem_of_getElem? (i := 1) rfl)
theorem xk_m458 : Cond.instanceMethod yzM_disturb ∈ xk_WS := xk_in19 _ (List.mem_of_getElem? (i := 2) rfl)
theorem xk_m459 : Cond.code yzM_disturb czM_disturb 2 none ∈ xk_WS := xk_in19 _ (List.mem_of_getElem? (i := 3) rfl)
theorem xk_m460 : Cond.methodLink RzM 106 yzM_note ∈ xk_WS := xk_in19 _ (List.mem_of_getElem? (i := 4) rfl)
theorem xk_m461 : Cond.instanceMethod yzM_note ∈ xk_WS := xk_in19 _ (List.mem_of_getElem? (i := 5) rfl)
theorem xk_m462 : Cond.code yzM_note czM_note 3 none ∈ xk_WS := xk_in19 _ (List.mem_of_getElem? (i := 6) rfl)
theorem xk_m463 : Cond.instanceMethod yzM_barrier ∈ xk_WS := xk_in19 _ (List.mem_of_getElem? (i := 7) rfl)
theorem xk_m464 : Cond.selects RzM yzM_barrier yzM_barrier ∈ xk_WS := xk_in19 _ (List.mem_of_getElem? (i := 8) rfl)
theorem xk_m465 : Cond.code yzM_barrier czM_barrier 5 (some .int) ∈ xk_WS := xk_in19 _ (List.mem_of_getElem? (i := 9) rfl)
theorem xk_m466 : Cond.instanceMethod yzM_current ∈ xk_WS := xk_in19 _ (List.mem_of_getElem? (i := 10) rfl)
theorem xk_m467 : Cond.selects RzM yzM_current yzM_current ∈ xk_WS := xk_in19 _ (List.mem_of_getElem? (i := 11) rfl)
theorem xk_m468 : Cond.code yzM_current czM_current 4 (some .boolean) ∈ xk_WS := xk_in19 _ (List.mem_of_getElem? (i := 12) rfl)
theorem xk_m469 : Cond.instanceMethod yzM_night ∈ xk_WS := xk_in19 _ (List.mem_of_getElem? (i := 13) rfl)
theorem xk_m470 : Cond.selects RzM yzM_night yzM_night ∈ xk_WS := xk_in19 _ (List.mem_of_getElem? (i := 14) rfl)
theorem xk_m471 : Cond.code yzM_night czM_night 3 (some .boolean) ∈ xk_WS := xk_in19 _ (List.mem_of_getElem? (i := 15) rfl)
theorem xk_m472 : Cond.instanceMethod yzM_order ∈ xk_WS := xk_in19 _ (List.mem_of_getElem? (i := 16) rfl)
theorem xk_m473 : Cond.selects RzM yzM_order yzM_order ∈ xk_WS := xk_in19 _ (List.mem_of_getElem? (i := 17) rfl)
theorem xk_m474 : Cond.code yzM_order czM_order 3 (some .int) ∈ xk_WS := xk_in19 _ (List.mem_of_getElem? (i := 18) rfl)
theorem xk_m475 : Cond.methodLink RzM 126 yzM_anyDisturbed ∈ xk_WS := xk_in19 _ (List.mem_of_getElem? (i := 19) rfl)
theorem xk_m476 : Cond.instanceMethod yzM_anyDisturbed ∈ xk_WS := xk_in19 _ (List.mem_of_getElem? (i := 20) rfl)
theorem xk_m477 : Cond.code yzM_anyDisturbed czM_anyDisturbed 2 (some .boolean) ∈ xk_WS := xk_in19 _ (List.mem_of_getElem? (i := 21) rfl)
theorem xk_m478 : Cond.methodLink RzM 129 yzM_isFree ∈ xk_WS := xk_in19 _ (List.mem_of_getElem? (i := 22) rfl)
theorem xk_m479 : Cond.instanceMethod yzM_isFree ∈ xk_WS := xk_in19 _ (List.mem_of_getElem? (i := 23) rfl)
theorem xk_m480 : Cond.code yzM_isFree czM_isFree 2 (some .boolean) ∈ xk_WS := xk_in20 _ (List.mem_of_getElem? (i := 0) rfl)
theorem xk_m481 : Cond.instanceMethod yzM_cancel ∈ xk_WS := xk_in20 _ (List.mem_of_getElem? (i := 1) rfl)
theorem xk_m482 : Cond.selects RzM yzM_cancel yzM_cancel ∈ xk_WS := xk_in20 _ (List.mem_of_getElem? (i := 2) rfl)
theorem xk_m483 : Cond.code yzM_cancel czM_cancel 3 (some .boolean) ∈ xk_WS := xk_in20 _ (List.mem_of_getElem? (i := 3) rfl)
theorem xk_m484 : Cond.instanceMethod yzM_ask ∈ xk_WS := xk_in20 _ (List.mem_of_getElem? (i := 4) rfl)
theorem xk_m485 : Cond.selects RzM yzM_ask yzM_ask ∈ xk_WS := xk_in20 _ (List.mem_of_getElem? (i := 5) rfl)
theorem xk_m486 : Cond.code yzM_ask czM_ask 6 none ∈ xk_WS := xk_in20 _ (List.mem_of_getElem? (i := 6) rfl)
theorem xk_m487 : Cond.methodLink RzM 132 yzM_isSection ∈ xk_WS := xk_in20 _ (List.mem_of_getElem? (i := 7) rfl)
theorem xk_m488 : Cond.static yzM_isSection ∈ xk_WS := xk_in20 _ (List.mem_of_getElem? (i := 8) rfl)
theorem xk_m489 : Cond.code yzM_isSection czM_isSection 2 (some .boolean) ∈ xk_WS := xk_in20 _ (List.mem_of_getElem? (i := 9) rfl)
theorem xk_m490 : Cond.instanceMethod yzM_confirm ∈ xk_WS := xk_in20 _ (List.mem_of_getElem? (i := 10) rfl)
theorem xk_m491 : Cond.selects RzM yzM_confirm yzM_confirm ∈ xk_WS := xk_in20 _ (List.mem_of_getElem? (i := 11) rfl)
theorem xk_m492 : Cond.code yzM_confirm czM_confirm 7 (some .boolean) ∈ xk_WS := xk_in20 _ (List.mem_of_getElem? (i := 12) rfl)
theorem xk_m493 : Cond.methodLink RzM 135 yzM_swept ∈ xk_WS := xk_in20 _ (List.mem_of_getElem? (i := 13) rfl)
theorem xk_m494 : Cond.instanceMethod yzM_swept ∈ xk_WS := xk_in20 _ (List.mem_of_getElem? (i := 14) rfl)
theorem xk_m495 : Cond.code yzM_swept czM_swept 4 (some .boolean) ∈ xk_WS := xk_in20 _ (List.mem_of_getElem? (i := 15) rfl)
theorem xk_m496 : Cond.instanceMethod yzM_tick ∈ xk_WS := xk_in20 _ (List.mem_of_getElem? (i := 16) rfl)
theorem xk_m497 : Cond.selects RzM yzM_tick yzM_tick ∈ xk_WS := xk_in20 _ (List.mem_of_getElem? (i := 17) rfl)
theorem xk_m498 : Cond.code yzM_tick czM_tick 1 (some .int) ∈ xk_WS := xk_in20 _ (List.mem_of_getElem? (i := 18) rfl)
theorem xk_m499 : Cond.methodLink RzM 188 yzM_oneTick ∈ xk_WS := xk_in20 _ (List.mem_of_getElem? (i := 19) rfl)
theorem xk_m500 : Cond.instanceMethod yzM_oneTick ∈ xk_WS := xk_in20 _ (List.mem_of_getElem? (i := 20) rfl)
theorem xk_m501 : Cond.code yzM_oneTick czM_oneTick 1 none ∈ xk_WS := xk_in20 _ (List.mem_of_getElem? (i := 21) rfl)
theorem xk_m502 : Cond.methodLink RzM 164 yzM_allPulses ∈ xk_WS := xk_in20 _ (List.mem_of_getElem? (i := 22) rfl)
theorem xk_m503 : Cond.instanceMethod yzM_allPulses ∈ xk_WS := xk_in20 _ (List.mem_of_getElem? (i := 23) rfl)
theorem xk_m504 : Cond.code yzM_allPulses czM_allPulses 3 none ∈ xk_WS := xk_in21 _ (List.mem_of_getElem? (i := 0) rfl)
theorem xk_m505 : Cond.methodLink RzM 141 yzM_counts ∈ xk_WS := xk_in21 _ (List.mem_of_getElem? (i := 1) rfl)
theorem xk_m506 : Cond.instanceMethod yzM_counts ∈ xk_WS := xk_in21 _ (List.mem_of_getElem? (i := 2) rfl)
theorem xk_m507 : Cond.code yzM_counts czM_counts 6 none ∈ xk_WS := xk_in21 _ (List.mem_of_getElem? (i := 3) rfl)
theorem xk_m508 : Cond.methodLink RzM 138 yzM_change ∈ xk_WS := xk_in21 _ (List.mem_of_getElem? (i := 4) rfl)
theorem xk_m509 : Cond.instanceMethod yzM_change ∈ xk_WS := xk_in21 _ (List.mem_of_getElem? (i := 5) rfl)
theorem xk_m510 : Cond.code yzM_change czM_change 3 none ∈ xk_WS := xk_in21 _ (List.mem_of_getElem? (i := 6) rfl)
theorem xk_m511 : Cond.methodLink RzM 167 yzM_allComings ∈ xk_WS := xk_in21 _ (List.mem_of_getElem? (i := 7) rfl)
theorem xk_m512 : Cond.instanceMethod yzM_allComings ∈ xk_WS := xk_in21 _ (List.mem_of_getElem? (i := 8) rfl)
theorem xk_m513 : Cond.code yzM_allComings czM_allComings 3 none ∈ xk_WS := xk_in21 _ (List.mem_of_getElem? (i := 9) rfl)
theorem xk_m514 : Cond.methodLink RzM 170 yzM_useOrders ∈ xk_WS := xk_in21 _ (List.mem_of_getElem? (i := 10) rfl)
theorem xk_m515 : Cond.instanceMethod yzM_useOrders ∈ xk_WS := xk_in21 _ (List.mem_of_getElem? (i := 11) rfl)
theorem xk_m516 : Cond.code yzM_useOrders czM_useOrders 2 none ∈ xk_WS := xk_in21 _ (List.mem_of_getElem? (i := 12) rfl)
theorem xk_m517 : Cond.methodLink RzM 173 yzM_watchLamps ∈ xk_WS := xk_in21 _ (List.mem_of_getElem? (i := 13) rfl)
theorem xk_m518 : Cond.instanceMethod yzM_watchLamps ∈ xk_WS := xk_in21 _ (List.mem_of_getElem? (i := 14) rfl)
theorem xk_m519 : Cond.code yzM_watchLamps czM_watchLamps 2 none ∈ xk_WS := xk_in21 _ (List.mem_of_getElem? (i := 15) rfl)
theorem xk_m520 : Cond.methodLink RzM 176 yzM_watchBarriers ∈ xk_WS := xk_in21 _ (List.mem_of_getElem? (i := 16) rfl)
theorem xk_m521 : Cond.instanceMethod yzM_watchBarriers ∈ xk_WS := xk_in21 _ (List.mem_of_getElem? (i := 17) rfl)
theorem xk_m522 : Cond.code yzM_watchBarriers czM_watchBarriers 3 none ∈ xk_WS := xk_in21 _ (List.mem_of_getElem? (i := 18) rfl)
theorem xk_m523 : Cond.methodLink RzM 179 yzM_goOn ∈ xk_WS := xk_in21 _ (List.mem_of_getElem? (i := 19) rfl)
theorem xk_m524 : Cond.instanceMethod yzM_goOn ∈ xk_WS := xk_in21 _ (List.mem_of_getElem? (i := 20) rfl)
theorem xk_m525 : Cond.code yzM_goOn czM_goOn 3 none ∈ xk_WS := xk_in21 _ (List.mem_of_getElem? (i := 21) rfl)
theorem xk_m526 : Cond.methodLink RzM 145 yzM_demand ∈ xk_WS := xk_in21 _ (List.mem_of_getElem? (i := 22) rfl)
theorem xk_m527 : Cond.instanceMethod yzM_demand ∈ xk_WS := xk_in21 _ (List.mem_of_getElem? (i := 23) rfl)
theorem xk_m528 : Cond.code yzM_demand czM_demand 3 (some .boolean) ∈ xk_WS := xk_in22 _ (List.mem_of_getElem? (i := 0) rfl)
theorem xk_m529 : Cond.methodLink RzM 158 yzM_isProved ∈ xk_WS := xk_in22 _ (List.mem_of_getElem? (i := 1) rfl)
theorem xk_m530 : Cond.instanceMethod yzM_isProved ∈ xk_WS := xk_in22 _ (List.mem_of_getElem? (i := 2) rfl)
theorem xk_m531 : Cond.code yzM_isProved czM_isProved 1 (some .boolean) ∈ xk_WS := xk_in22 _ (List.mem_of_getElem? (i := 3) rfl)
theorem xk_m532 : Cond.methodLink RzM 182 yzM_drive ∈ xk_WS := xk_in22 _ (List.mem_of_getElem? (i := 4) rfl)
theorem xk_m533 : Cond.instanceMethod yzM_drive ∈ xk_WS := xk_in22 _ (List.mem_of_getElem? (i := 5) rfl)
theorem xk_m534 : Cond.code yzM_drive czM_drive 4 none ∈ xk_WS := xk_in22 _ (List.mem_of_getElem? (i := 6) rfl)
theorem xk_m535 : Cond.methodLink RzM 185 yzM_signal ∈ xk_WS := xk_in22 _ (List.mem_of_getElem? (i := 7) rfl)
theorem xk_m536 : Cond.instanceMethod yzM_signal ∈ xk_WS := xk_in22 _ (List.mem_of_getElem? (i := 8) rfl)
theorem xk_m537 : Cond.code yzM_signal czM_signal 3 none ∈ xk_WS := xk_in22 _ (List.mem_of_getElem? (i := 9) rfl)
theorem xk_m538 : Cond.methodLink RzM 191 yzM_output ∈ xk_WS := xk_in22 _ (List.mem_of_getElem? (i := 10) rfl)
theorem xk_m539 : Cond.instanceMethod yzM_output ∈ xk_WS := xk_in22 _ (List.mem_of_getElem? (i := 11) rfl)
theorem xk_m540 : Cond.code yzM_output czM_output 3 (some .int) ∈ xk_WS := xk_in22 _ (List.mem_of_getElem? (i := 12) rfl)
theorem xk_m541 : Cond.instanceMethod yzM_ticks ∈ xk_WS := xk_in22 _ (List.mem_of_getElem? (i := 13) rfl)
theorem xk_m542 : Cond.selects RzM yzM_ticks yzM_ticks ∈ xk_WS := xk_in22 _ (List.mem_of_getElem? (i := 14) rfl)
theorem xk_m543 : Cond.code yzM_ticks czM_ticks 3 (some .int) ∈ xk_WS := xk_in22 _ (List.mem_of_getElem? (i := 15) rfl)
theorem xk_m544 : Cond.instanceMethod yzM_section ∈ xk_WS := xk_in22 _ (List.mem_of_getElem? (i := 16) rfl)
theorem xk_m545 : Cond.selects RzM yzM_section yzM_section ∈ xk_WS := xk_in22 _ (List.mem_of_getElem? (i := 17) rfl)
theorem xk_m546 : Cond.code yzM_section czM_section 5 (some .int) ∈ xk_WS := xk_in22 _ (List.mem_of_getElem? (i := 18) rfl)
theorem xk_m547 : Cond.instanceMethod yzM_earliest ∈ xk_WS := xk_in22 _ (List.mem_of_getElem? (i := 19) rfl)
theorem xk_m548 : Cond.selects RzM yzM_earliest yzM_earliest ∈ xk_WS := xk_in22 _ (List.mem_of_getElem? (i := 20) rfl)
theorem xk_m549 : Cond.code yzM_earliest czM_earliest 4 (some .int) ∈ xk_WS := xk_in22 _ (List.mem_of_getElem? (i := 21) rfl)
theorem xk_m550 : Cond.instanceMethod yzM_about ∈ xk_WS := xk_in22 _ (List.mem_of_getElem? (i := 22) rfl)
theorem xk_m551 : Cond.selects RzM yzM_about yzM_about ∈ xk_WS := xk_in22 _ (List.mem_of_getElem? (i := 23) rfl)
theorem xk_m552 : Cond.code yzM_about czM_about 2 (some .int) ∈ xk_WS := xk_in23 _ (List.mem_of_getElem? (i := 0) rfl)
theorem xk_m553 : Cond.instanceMethod yzM_event ∈ xk_WS := xk_in23 _ (List.mem_of_getElem? (i := 1) rfl)
theorem xk_m554 : Cond.selects RzM yzM_event yzM_event ∈ xk_WS := xk_in23 _ (List.mem_of_getElem? (i := 2) rfl)
theorem xk_m555 : Cond.code yzM_event czM_event 3 (some .int) ∈ xk_WS := xk_in23 _ (List.mem_of_getElem? (i := 3) rfl)
theorem xk_m556 : Cond.arrayClass .long ∈ xk_WS := xk_in23 _ (List.mem_of_getElem? (i := 4) rfl)
theorem xk_m557 : Cond.initialized RzL ∈ xk_WS := xk_in23 _ (List.mem_of_getElem? (i := 5) rfl)
theorem xk_m558 : Cond.classLink RzL 8 RzU ∈ xk_WS := xk_in23 _ (List.mem_of_getElem? (i := 6) rfl)
theorem xk_m559 : Cond.methodLink RzL 62 yzU_init ∈ xk_WS := xk_in23 _ (List.mem_of_getElem? (i := 7) rfl)
theorem xk_m560 : Cond.methodLink RzL 80 yzU_tick ∈ xk_WS := xk_in23 _ (List.mem_of_getElem? (i := 8) rfl)
theorem xk_m561 : Cond.methodLink RzL 96 yzU_night ∈ xk_WS := xk_in23 _ (List.mem_of_getElem? (i := 9) rfl)
theorem xk_m562 : Cond.methodLink RzL 66 yzL_pulse ∈ xk_WS := xk_in23 _ (List.mem_of_getElem? (i := 10) rfl)
theorem xk_m563 : Cond.static yzL_pulse ∈ xk_WS := xk_in23 _ (List.mem_of_getElem? (i := 11) rfl)
theorem xk_m564 : Cond.codeWith yzL_pulse czL_pulse 5 (some .int) [(0, 7, 10, 13), (0, 7, 14, 15), (0, 7, 18, 17)] ∈ xk_WS := xk_in23 _ (List.mem_of_getElem? (i := 12) rfl)
theorem xk_m565 : Cond.classLink RzL 13 "java/util/NoSuchElementException" ∈ xk_WS := xk_in23 _ (List.mem_of_getElem? (i := 13) rfl)
theorem xk_m566 : Cond.classLink RzL 15 "java/lang/IllegalArgumentException" ∈ xk_WS := xk_in23 _ (List.mem_of_getElem? (i := 14) rfl)
theorem xk_m567 : Cond.classLink RzL 17 "java/lang/IllegalStateException" ∈ xk_WS := xk_in23 _ (List.mem_of_getElem? (i := 15) rfl)
theorem xk_m568 : Cond.methodLink RzL 7 yzU_pulse ∈ xk_WS := xk_in23 _ (List.mem_of_getElem? (i := 16) rfl)
theorem xk_m569 : Cond.methodLink RzL 76 yzL_health ∈ xk_WS := xk_in23 _ (List.mem_of_getElem? (i := 17) rfl)
theorem xk_m570 : Cond.static yzL_health ∈ xk_WS := xk_in23 _ (List.mem_of_getElem? (i := 18) rfl)
theorem xk_m571 : Cond.codeWith yzL_health czL_health 6 (some .int) [(0, 19, 22, 13)] ∈ xk_WS := xk_in23 _ (List.mem_of_getElem? (i := 19) rfl)
theorem xk_m572 : Cond.methodLink RzL 19 yzU_health ∈ xk_WS := xk_in23 _ (List.mem_of_getElem? (i := 20) rfl)
theorem xk_m573 : Cond.methodLink RzL 84 yzL_ticks ∈ xk_WS := xk_in23 _ (List.mem_of_getElem? (i := 21) rfl)
theorem xk_m574 : Cond.static yzL_ticks ∈ xk_WS := xk_in23 _ (List.mem_of_getElem? (i := 22) rfl)
theorem xk_m575 : Cond.codeWith yzL_ticks czL_ticks 4 (some .int) [(0, 9, 12, 15)] ∈ xk_WS := xk_in23 _ (List.mem_of_getElem? (i := 23) rfl)
theorem xk_m576 : Cond.methodLink RzL 23 yzU_ticks ∈ xk_WS := xk_in24 _ (List.mem_of_getElem? (i := 0) rfl)
theorem xk_m577 : Cond.methodLink RzL 88 yzL_barrier ∈ xk_WS := xk_in24 _ (List.mem_of_getElem? (i := 1) rfl)
theorem xk_m578 : Cond.static yzL_barrier ∈ xk_WS := xk_in24 _ (List.mem_of_getElem? (i := 2) rfl)
theorem xk_m579 : Cond.codeWith yzL_barrier czL_barrier 5 (some .int) [(0, 10, 13, 13), (0, 10, 17, 15)] ∈ xk_WS := xk_in24 _ (List.mem_of_getElem? (i := 3) rfl)
theorem xk_m580 : Cond.methodLink RzL 27 yzU_barrier ∈ xk_WS := xk_in24 _ (List.mem_of_getElem? (i := 4) rfl)
theorem xk_m581 : Cond.methodLink RzL 92 yzL_current ∈ xk_WS := xk_in24 _ (List.mem_of_getElem? (i := 5) rfl)
theorem xk_m582 : Cond.static yzL_current ∈ xk_WS := xk_in24 _ (List.mem_of_getElem? (i := 6) rfl)
theorem xk_m583 : Cond.codeWith yzL_current czL_current 5 (some .int) [(0, 17, 20, 13)] ∈ xk_WS := xk_in24 _ (List.mem_of_getElem? (i := 7) rfl)
theorem xk_m584 : Cond.methodLink RzL 31 yzU_current ∈ xk_WS := xk_in24 _ (List.mem_of_getElem? (i := 8) rfl)
theorem xk_m585 : Cond.methodLink RzL 101 yzL_order ∈ xk_WS := xk_in24 _ (List.mem_of_getElem? (i := 9) rfl)
theorem xk_m586 : Cond.static yzL_order ∈ xk_WS := xk_in24 _ (List.mem_of_getElem? (i := 10) rfl)
theorem xk_m587 : Cond.codeWith yzL_order czL_order 4 (some .int) [(0, 9, 12, 13)] ∈ xk_WS := xk_in24 _ (List.mem_of_getElem? (i := 11) rfl)
theorem xk_m588 : Cond.methodLink RzL 35 yzU_order ∈ xk_WS := xk_in24 _ (List.mem_of_getElem? (i := 12) rfl)
theorem xk_m589 : Cond.methodLink RzL 104 yzL_cancel ∈ xk_WS := xk_in24 _ (List.mem_of_getElem? (i := 13) rfl)
theorem xk_m590 : Cond.static yzL_cancel ∈ xk_WS := xk_in24 _ (List.mem_of_getElem? (i := 14) rfl)
theorem xk_m591 : Cond.codeWith yzL_cancel czL_cancel 4 (some .int) [(0, 16, 19, 13)] ∈ xk_WS := xk_in24 _ (List.mem_of_getElem? (i := 15) rfl)
theorem xk_m592 : Cond.methodLink RzL 38 yzU_cancel ∈ xk_WS := xk_in24 _ (List.mem_of_getElem? (i := 16) rfl)
theorem xk_m593 : Cond.methodLink RzL 107 yzL_ask ∈ xk_WS := xk_in24 _ (List.mem_of_getElem? (i := 17) rfl)
theorem xk_m594 : Cond.static yzL_ask ∈ xk_WS := xk_in24 _ (List.mem_of_getElem? (i := 18) rfl)
theorem xk_m595 : Cond.codeWith yzL_ask czL_ask 5 (some .int) [(0, 7, 10, 13), (0, 7, 14, 17)] ∈ xk_WS := xk_in24 _ (List.mem_of_getElem? (i := 19) rfl)
theorem xk_m596 : Cond.methodLink RzL 42 yzU_ask ∈ xk_WS := xk_in24 _ (List.mem_of_getElem? (i := 20) rfl)
theorem xk_m597 : Cond.methodLink RzL 110 yzL_confirm ∈ xk_WS := xk_in24 _ (List.mem_of_getElem? (i := 21) rfl)
theorem xk_m598 : Cond.static yzL_confirm ∈ xk_WS := xk_in24 _ (List.mem_of_getElem? (i := 22) rfl)
theorem xk_m599 : Cond.codeWith yzL_confirm czL_confirm 6 (some .int) [(0, 19, 22, 13), (0, 19, 26, 17)] ∈ xk_WS := xk_in24 _ (List.mem_of_getElem? (i := 23) rfl)
theorem xk_m600 : Cond.methodLink RzL 45 yzU_confirm ∈ xk_WS := xk_in25 _ (List.mem_of_getElem? (i := 0) rfl)
theorem xk_m601 : Cond.methodLink RzL 114 yzL_section ∈ xk_WS := xk_in25 _ (List.mem_of_getElem? (i := 1) rfl)
theorem xk_m602 : Cond.static yzL_section ∈ xk_WS := xk_in25 _ (List.mem_of_getElem? (i := 2) rfl)
theorem xk_m603 : Cond.codeWith yzL_section czL_section 6 (some .int) [(0, 12, 15, 13), (0, 12, 19, 15)] ∈ xk_WS := xk_in25 _ (List.mem_of_getElem? (i := 3) rfl)
theorem xk_m604 : Cond.methodLink RzL 49 yzU_section ∈ xk_WS := xk_in25 _ (List.mem_of_getElem? (i := 4) rfl)
theorem xk_m605 : Cond.methodLink RzL 117 yzL_earliest ∈ xk_WS := xk_in25 _ (List.mem_of_getElem? (i := 5) rfl)
theorem xk_m606 : Cond.static yzL_earliest ∈ xk_WS := xk_in25 _ (List.mem_of_getElem? (i := 6) rfl)
theorem xk_m607 : Cond.codeWith yzL_earliest czL_earliest 4 (some .int) [(0, 9, 12, 13)] ∈ xk_WS := xk_in25 _ (List.mem_of_getElem? (i := 7) rfl)
theorem xk_m608 : Cond.methodLink RzL 53 yzU_earliest ∈ xk_WS := xk_in25 _ (List.mem_of_getElem? (i := 8) rfl)
theorem xk_m609 : Cond.methodLink RzL 120 yzL_about ∈ xk_WS := xk_in25 _ (List.mem_of_getElem? (i := 9) rfl)
theorem xk_m610 : Cond.static yzL_about ∈ xk_WS := xk_in25 _ (List.mem_of_getElem? (i := 10) rfl)
theorem xk_m611 : Cond.codeWith yzL_about czL_about 4 (some .int) [(0, 9, 12, 15)] ∈ xk_WS := xk_in25 _ (List.mem_of_getElem? (i := 11) rfl)
theorem xk_m612 : Cond.methodLink RzL 56 yzU_about ∈ xk_WS := xk_in25 _ (List.mem_of_getElem? (i := 12) rfl)
theorem xk_m613 : Cond.methodLink RzL 123 yzL_event ∈ xk_WS := xk_in25 _ (List.mem_of_getElem? (i := 13) rfl)
theorem xk_m614 : Cond.static yzL_event ∈ xk_WS := xk_in25 _ (List.mem_of_getElem? (i := 14) rfl)
theorem xk_m615 : Cond.codeWith yzL_event czL_event 5 (some .int) [(0, 10, 13, 13), (0, 10, 17, 15)] ∈ xk_WS := xk_in25 _ (List.mem_of_getElem? (i := 15) rfl)
theorem xk_m616 : Cond.methodLink RzL 59 yzU_event ∈ xk_WS := xk_in25 _ (List.mem_of_getElem? (i := 16) rfl)
theorem xk_m617 : Cond.classLink RzL 63 RzM ∈ xk_WS := xk_in25 _ (List.mem_of_getElem? (i := 17) rfl)
theorem xk_m618 : Cond.methodLink RzL 65 yzM_init ∈ xk_WS := xk_in25 _ (List.mem_of_getElem? (i := 18) rfl)
theorem xk_m619 : Cond.methodLink RzL 72 yzM_thrown ∈ xk_WS := xk_in25 _ (List.mem_of_getElem? (i := 19) rfl)
theorem xk_m620 : Cond.methodLink RzL 71 yzM_pulse ∈ xk_WS := xk_in25 _ (List.mem_of_getElem? (i := 20) rfl)
theorem xk_m621 : Cond.methodLink RzL 79 yzM_health ∈ xk_WS := xk_in25 _ (List.mem_of_getElem? (i := 21) rfl)
theorem xk_m622 : Cond.methodLink RzL 91 yzM_barrier ∈ xk_WS := xk_in25 _ (List.mem_of_getElem? (i := 22) rfl)
theorem xk_m623 : Cond.methodLink RzL 95 yzM_current ∈ xk_WS := xk_in25 _ (List.mem_of_getElem? (i := 23) rfl)
theorem xk_m624 : Cond.methodLink RzL 100 yzM_night ∈ xk_WS := xk_in26 _ (List.mem_of_getElem? (i := 0) rfl)
theorem xk_m625 : Cond.methodLink RzL 103 yzM_order ∈ xk_WS := xk_in26 _ (List.mem_of_getElem? (i := 1) rfl)
theorem xk_m626 : Cond.methodLink RzL 106 yzM_cancel ∈ xk_WS := xk_in26 _ (List.mem_of_getElem? (i := 2) rfl)
theorem xk_m627 : Cond.methodLink RzL 109 yzM_ask ∈ xk_WS := xk_in26 _ (List.mem_of_getElem? (i := 3) rfl)
theorem xk_m628 : Cond.methodLink RzL 113 yzM_confirm ∈ xk_WS := xk_in26 _ (List.mem_of_getElem? (i := 4) rfl)
theorem xk_m629 : Cond.methodLink RzL 83 yzM_tick ∈ xk_WS := xk_in26 _ (List.mem_of_getElem? (i := 5) rfl)
theorem xk_m630 : Cond.methodLink RzL 87 yzM_ticks ∈ xk_WS := xk_in26 _ (List.mem_of_getElem? (i := 6) rfl)
theorem xk_m631 : Cond.methodLink RzL 116 yzM_section ∈ xk_WS := xk_in26 _ (List.mem_of_getElem? (i := 7) rfl)
theorem xk_m632 : Cond.methodLink RzL 119 yzM_earliest ∈ xk_WS := xk_in26 _ (List.mem_of_getElem? (i := 8) rfl)
theorem xk_m633 : Cond.methodLink RzL 122 yzM_about ∈ xk_WS := xk_in26 _ (List.mem_of_getElem? (i := 9) rfl)
theorem xk_m634 : Cond.methodLink RzL 125 yzM_event ∈ xk_WS := xk_in26 _ (List.mem_of_getElem? (i := 10) rfl)
theorem ffzR_9 : xk_FF xk_WS xk_cls RzR 9 6 0 := ⟨RzR, TzR, 3, rfl, by decide, iwzR, xk_m75⟩
theorem pfzR_9 : xk_PF xk_WS xk_cls RzR 9 6 0 .int := ⟨RzR, TzR, 3, tyzR, rfl, by decide, iwzR, xk_m75, tyzR_ok, nmzR, rfl, rfl⟩
theorem ffzU_227 : xk_FF xk_WS xk_cls RzU 227 6 0 := ⟨RzR, TzR, 3, rfl, by decide, iwzR, xk_m76⟩
theorem pfzU_227 : xk_PF xk_WS xk_cls RzU 227 6 0 .int := ⟨RzR, TzR, 3, tyzR, rfl, by decide, iwzR, xk_m76, tyzR_ok, nmzR, rfl, rfl⟩
theorem ffzR_15 : xk_FF xk_WS xk_cls RzR 15 6 1 := ⟨RzR, TzR, 3, rfl, by decide, iwzR, xk_m77⟩
theorem pfzR_15 : xk_PF xk_WS xk_cls RzR 15 6 1 .int := ⟨RzR, TzR, 3, tyzR, rfl, by decide, iwzR, xk_m77, tyzR_ok, nmzR, rfl, rfl⟩
theorem ffzU_230 : xk_FF xk_WS xk_cls RzU 230 6 1 := ⟨RzR, TzR, 3, rfl, by decide, iwzR, xk_m78⟩
theorem pfzU_230 : xk_PF xk_WS xk_cls RzU 230 6 1 .int := ⟨RzR, TzR, 3, tyzR, rfl, by decide, iwzR, xk_m78, tyzR_ok, nmzR, rfl, rfl⟩
theorem ffzR_18 : xk_FF xk_WS xk_cls RzR 18 6 2 := ⟨RzR, TzR, 3, rfl, by decide, iwzR, xk_m79⟩
theorem pfzR_18 : xk_PF xk_WS xk_cls RzR 18 6 2 .int := ⟨RzR, TzR, 3, tyzR, rfl, by decide, iwzR, xk_m79, tyzR_ok, nmzR, rfl, rfl⟩
theorem ffzU_233 : xk_FF xk_WS xk_cls RzU 233 6 2 := ⟨RzR, TzR, 3, rfl, by decide, iwzR, xk_m80⟩
theorem pfzU_233 : xk_PF xk_WS xk_cls RzU 233 6 2 .int := ⟨RzR, TzR, 3, tyzR, rfl, by decide, iwzR, xk_m80, tyzR_ok, nmzR, rfl, rfl⟩
theorem ffzJ_9 : xk_FF xk_WS xk_cls RzJ 9 7 0 := ⟨RzJ, TzJ, 4, rfl, by decide, iwzJ, xk_m86⟩
theorem ffzU_255 : xk_FF xk_WS xk_cls RzU 255 7 0 := ⟨RzJ, TzJ, 4, rfl, by decide, iwzJ, xk_m87⟩
theorem ffzJ_13 : xk_FF xk_WS xk_cls RzJ 13 7 1 := ⟨RzJ, TzJ, 4, rfl, by decide, iwzJ, xk_m88⟩
theorem ffzU_258 : xk_FF xk_WS xk_cls RzU 258 7 1 := ⟨RzJ, TzJ, 4, rfl, by decide, iwzJ, xk_m89⟩
theorem ffzJ_16 : xk_FF xk_WS xk_cls RzJ 16 7 2 := ⟨RzJ, TzJ, 4, rfl, by decide, iwzJ, xk_m90⟩
theorem ffzU_261 : xk_FF xk_WS xk_cls RzU 261 7 2 := ⟨RzJ, TzJ, 4, rfl, by decide, iwzJ, xk_m91⟩
theorem ffzJ_19 : xk_FF xk_WS xk_cls RzJ 19 7 3 := ⟨RzJ, TzJ, 4, rfl, by decide, iwzJ, xk_m92⟩
theorem pfzJ_19 : xk_PF xk_WS xk_cls RzJ 19 7 3 .int := ⟨RzJ, TzJ, 4, tyzJ, rfl, by decide, iwzJ, xk_m92, tyzJ_ok, nmzJ, rfl, rfl⟩
theorem ffzU_245 : xk_FF xk_WS xk_cls RzU 245 7 3 := ⟨RzJ, TzJ, 4, rfl, by decide, iwzJ, xk_m93⟩
theorem pfzU_245 : xk_PF xk_WS xk_cls RzU 245 7 3 .int := ⟨RzJ, TzJ, 4, tyzJ, rfl, by decide, iwzJ, xk_m93, tyzJ_ok, nmzJ, rfl, rfl⟩
theorem ffzS_37 : xk_FF xk_WS xk_cls RzS 37 1 0 := ⟨RzS, TzS, 9, rfl, by decide, iwzS, xk_m107⟩
theorem ffzU_204 : xk_FF xk_WS xk_cls RzU 204 1 0 := ⟨RzS, TzS, 9, rfl, by decide, iwzS, xk_m108⟩
theorem ffzS_9 : xk_FF xk_WS xk_cls RzS 9 1 1 := ⟨RzS, TzS, 9, rfl, by decide, iwzS, xk_m109⟩
theorem pfzS_9 : xk_PF xk_WS xk_cls RzS 9 1 1 .int := ⟨RzS, TzS, 9, tyzS, rfl, by decide, iwzS, xk_m109, tyzS_ok, nmzS, rfl, rfl⟩
theorem ffzE_28 : xk_FF xk_WS xk_cls RzE 28 1 1 := ⟨RzS, TzS, 9, rfl, by decide, iwzS, xk_m110⟩
theorem pfzE_28 : xk_PF xk_WS xk_cls RzE 28 1 1 .int := ⟨RzS, TzS, 9, tyzS, rfl, by decide, iwzS, xk_m110, tyzS_ok, nmzS, rfl, rfl⟩
theorem ffzU_207 : xk_FF xk_WS xk_cls RzU 207 1 1 := ⟨RzS, TzS, 9, rfl, by decide, iwzS, xk_m111⟩
theorem pfzU_207 : xk_PF xk_WS xk_cls RzU 207 1 1 .int := ⟨RzS, TzS, 9, tyzS, rfl, by decide, iwzS, xk_m111, tyzS_ok, nmzS, rfl, rfl⟩
theorem ffzS_15 : xk_FF xk_WS xk_cls RzS 15 1 2 := ⟨RzS, TzS, 9, rfl, by decide, iwzS, xk_m112⟩
theorem pfzS_15 : xk_PF xk_WS xk_cls RzS 15 1 2 .int := ⟨RzS, TzS, 9, tyzS, rfl, by decide, iwzS, xk_m112, tyzS_ok, nmzS, rfl, rfl⟩
theorem ffzE_23 : xk_FF xk_WS xk_cls RzE 23 1 2 := ⟨RzS, TzS, 9, rfl, by decide, iwzS, xk_m113⟩
theorem pfzE_23 : xk_PF xk_WS xk_cls RzE 23 1 2 .int := ⟨RzS, TzS, 9, tyzS, rfl, by decide, iwzS, xk_m113, tyzS_ok, nmzS, rfl, rfl⟩
theorem ffzU_304 : xk_FF xk_WS xk_cls RzU 304 1 2 := ⟨RzS, TzS, 9, rfl, by decide, iwzS, xk_m114⟩
theorem pfzU_304 : xk_PF xk_WS xk_cls RzU 304 1 2 .int := ⟨RzS, TzS, 9, tyzS, rfl, by decide, iwzS, xk_m114, tyzS_ok, nmzS, rfl, rfl⟩
theorem ffzS_18 : xk_FF xk_WS xk_cls RzS 18 1 3 := ⟨RzS, TzS, 9, rfl, by decide, iwzS, xk_m115⟩
theorem pfzS_18 : xk_PF xk_WS xk_cls RzS 18 1 3 .boolean := ⟨RzS, TzS, 9, tyzS, rfl, by decide, iwzS, xk_m115, tyzS_ok, nmzS, rfl, rfl⟩
theorem ffzK_44 : xk_FF xk_WS xk_cls RzK 44 1 3 := ⟨RzS, TzS, 9, rfl, by decide, iwzS, xk_m116⟩
theorem pfzK_44 : xk_PF xk_WS xk_cls RzK 44 1 3 .boolean := ⟨RzS, TzS, 9, tyzS, rfl, by decide, iwzS, xk_m116, tyzS_ok, nmzS, rfl, rfl⟩
theorem ffzU_181 : xk_FF xk_WS xk_cls RzU 181 1 3 := ⟨RzS, TzS, 9, rfl, by decide, iwzS, xk_m117⟩
theorem pfzU_181 : xk_PF xk_WS xk_cls RzU 181 1 3 .boolean := ⟨RzS, TzS, 9, tyzS, rfl, by decide, iwzS, xk_m117, tyzS_ok, nmzS, rfl, rfl⟩
theorem ffzS_22 : xk_FF xk_WS xk_cls RzS 22 1 4 := ⟨RzS, TzS, 9, rfl, by decide, iwzS, xk_m118⟩
theorem pfzS_22 : xk_PF xk_WS xk_cls RzS 22 1 4 .int := ⟨RzS, TzS, 9, tyzS, rfl, by decide, iwzS, xk_m118, tyzS_ok, nmzS, rfl, rfl⟩
theorem ffzU_189 : xk_FF xk_WS xk_cls RzU 189 1 4 := ⟨RzS, TzS, 9, rfl, by decide, iwzS, xk_m119⟩
theorem pfzU_189 : xk_PF xk_WS xk_cls RzU 189 1 4 .int := ⟨RzS, TzS, 9, tyzS, rfl, by decide, iwzS, xk_m119, tyzS_ok, nmzS, rfl, rfl⟩
theorem ffzS_25 : xk_FF xk_WS xk_cls RzS 25 1 5 := ⟨RzS, TzS, 9, rfl, by decide, iwzS, xk_m120⟩
theorem pfzS_25 : xk_PF xk_WS xk_cls RzS 25 1 5 .int := ⟨RzS, TzS, 9, tyzS, rfl, by decide, iwzS, xk_m120, tyzS_ok, nmzS, rfl, rfl⟩
theorem ffzS_28 : xk_FF xk_WS xk_cls RzS 28 1 6 := ⟨RzS, TzS, 9, rfl, by decide, iwzS, xk_m121⟩
theorem pfzS_28 : xk_PF xk_WS xk_cls RzS 28 1 6 .int := ⟨RzS, TzS, 9, tyzS, rfl, by decide, iwzS, xk_m121, tyzS_ok, nmzS, rfl, rfl⟩
theorem ffzS_31 : xk_FF xk_WS xk_cls RzS 31 1 7 := ⟨RzS, TzS, 9, rfl, by decide, iwzS, xk_m122⟩
theorem pfzS_31 : xk_PF xk_WS xk_cls RzS 31 1 7 .int := ⟨RzS, TzS, 9, tyzS, rfl, by decide, iwzS, xk_m122, tyzS_ok, nmzS, rfl, rfl⟩
theorem ffzS_34 : xk_FF xk_WS xk_cls RzS 34 1 8 := ⟨RzS, TzS, 9, rfl, by decide, iwzS, xk_m123⟩
theorem pfzS_34 : xk_PF xk_WS xk_cls RzS 34 1 8 .int := ⟨RzS, TzS, 9, tyzS, rfl, by decide, iwzS, xk_m123, tyzS_ok, nmzS, rfl, rfl⟩
theorem ffzE_19 : xk_FF xk_WS xk_cls RzE 19 2 0 := ⟨RzE, TzE, 3, rfl, by decide, iwzE, xk_m130⟩
theorem ffzE_9 : xk_FF xk_WS xk_cls RzE 9 2 1 := ⟨RzE, TzE, 3, rfl, by decide, iwzE, xk_m131⟩
theorem pfzE_9 : xk_PF xk_WS xk_cls RzE 9 2 1 .int := ⟨RzE, TzE, 3, tyzE, rfl, by decide, iwzE, xk_m131, tyzE_ok, nmzE, rfl, rfl⟩
theorem ffzU_216 : xk_FF xk_WS xk_cls RzU 216 2 1 := ⟨RzE, TzE, 3, rfl, by decide, iwzE, xk_m132⟩
theorem pfzU_216 : xk_PF xk_WS xk_cls RzU 216 2 1 .int := ⟨RzE, TzE, 3, tyzE, rfl, by decide, iwzE, xk_m132, tyzE_ok, nmzE, rfl, rfl⟩
theorem ffzE_15 : xk_FF xk_WS xk_cls RzE 15 2 2 := ⟨RzE, TzE, 3, rfl, by decide, iwzE, xk_m133⟩
theorem pfzE_15 : xk_PF xk_WS xk_cls RzE 15 2 2 .boolean := ⟨RzE, TzE, 3, tyzE, rfl, by decide, iwzE, xk_m133, tyzE_ok, nmzE, rfl, rfl⟩
theorem ffzU_295 : xk_FF xk_WS xk_cls RzU 295 2 2 := ⟨RzE, TzE, 3, rfl, by decide, iwzE, xk_m134⟩
theorem pfzU_295 : xk_PF xk_WS xk_cls RzU 295 2 2 .boolean := ⟨RzE, TzE, 3, tyzE, rfl, by decide, iwzE, xk_m134, tyzE_ok, nmzE, rfl, rfl⟩
theorem ffzK_11 : xk_FF xk_WS xk_cls RzK 11 3 0 := ⟨RzK, TzK, 6, rfl, by decide, iwzK, xk_m135⟩
theorem ffzU_158 : xk_FF xk_WS xk_cls RzU 158 3 0 := ⟨RzK, TzK, 6, rfl, by decide, iwzK, xk_m136⟩
theorem ffzK_19 : xk_FF xk_WS xk_cls RzK 19 3 1 := ⟨RzK, TzK, 6, rfl, by decide, iwzK, xk_m137⟩
theorem ffzU_212 : xk_FF xk_WS xk_cls RzU 212 3 1 := ⟨RzK, TzK, 6, rfl, by decide, iwzK, xk_m138⟩
theorem ffzK_23 : xk_FF xk_WS xk_cls RzK 23 3 2 := ⟨RzK, TzK, 6, rfl, by decide, iwzK, xk_m139⟩
theorem ffzU_77 : xk_FF xk_WS xk_cls RzU 77 3 2 := ⟨RzK, TzK, 6, rfl, by decide, iwzK, xk_m140⟩
theorem ffzK_27 : xk_FF xk_WS xk_cls RzK 27 3 3 := ⟨RzK, TzK, 6, rfl, by decide, iwzK, xk_m141⟩
theorem ffzU_86 : xk_FF xk_WS xk_cls RzU 86 3 3 := ⟨RzK, TzK, 6, rfl, by decide, iwzK, xk_m142⟩
theorem ffzK_31 : xk_FF xk_WS xk_cls RzK 31 3 4 := ⟨RzK, TzK, 6, rfl, by decide, iwzK, xk_m143⟩
theorem pfzK_31 : xk_PF xk_WS xk_cls RzK 31 3 4 .boolean := ⟨RzK, TzK, 6, tyzK, rfl, by decide, iwzK, xk_m143, tyzK_ok, nmzK, rfl, rfl⟩
theorem ffzU_152 : xk_FF xk_WS xk_cls RzU 152 3 4 := ⟨RzK, TzK, 6, rfl, by decide, iwzK, xk_m144⟩
theorem pfzU_152 : xk_PF xk_WS xk_cls RzU 152 3 4 .boolean := ⟨RzK, TzK, 6, tyzK, rfl, by decide, iwzK, xk_m144, tyzK_ok, nmzK, rfl, rfl⟩
theorem ffzK_35 : xk_FF xk_WS xk_cls RzK 35 3 5 := ⟨RzK, TzK, 6, rfl, by decide, iwzK, xk_m145⟩
theorem pfzK_35 : xk_PF xk_WS xk_cls RzK 35 3 5 .boolean := ⟨RzK, TzK, 6, tyzK, rfl, by decide, iwzK, xk_m145, tyzK_ok, nmzK, rfl, rfl⟩
theorem ffzU_345 : xk_FF xk_WS xk_cls RzU 345 3 5 := ⟨RzK, TzK, 6, rfl, by decide, iwzK, xk_m146⟩
theorem pfzU_345 : xk_PF xk_WS xk_cls RzU 345 3 5 .boolean := ⟨RzK, TzK, 6, tyzK, rfl, by decide, iwzK, xk_m146, tyzK_ok, nmzK, rfl, rfl⟩
theorem ffzB_9 : xk_FF xk_WS xk_cls RzB 9 4 0 := ⟨RzB, TzB, 6, rfl, by decide, iwzB, xk_m151⟩
theorem pfzB_9 : xk_PF xk_WS xk_cls RzB 9 4 0 .int := ⟨RzB, TzB, 6, tyzB, rfl, by decide, iwzB, xk_m151, tyzB_ok, nmzB, rfl, rfl⟩
theorem ffzU_144 : xk_FF xk_WS xk_cls RzU 144 4 0 := ⟨RzB, TzB, 6, rfl, by decide, iwzB, xk_m152⟩
theorem pfzU_144 : xk_PF xk_WS xk_cls RzU 144 4 0 .int := ⟨RzB, TzB, 6, tyzB, rfl, by decide, iwzB, xk_m152, tyzB_ok, nmzB, rfl, rfl⟩
theorem ffzB_15 : xk_FF xk_WS xk_cls RzB 15 4 1 := ⟨RzB, TzB, 6, rfl, by decide, iwzB, xk_m153⟩
theorem pfzB_15 : xk_PF xk_WS xk_cls RzB 15 4 1 .int := ⟨RzB, TzB, 6, tyzB, rfl, by decide, iwzB, xk_m153, tyzB_ok, nmzB, rfl, rfl⟩
theorem ffzB_18 : xk_FF xk_WS xk_cls RzB 18 4 2 := ⟨RzB, TzB, 6, rfl, by decide, iwzB, xk_m154⟩
theorem pfzB_18 : xk_PF xk_WS xk_cls RzB 18 4 2 .int := ⟨RzB, TzB, 6, tyzB, rfl, by decide, iwzB, xk_m154, tyzB_ok, nmzB, rfl, rfl⟩
theorem ffzU_351 : xk_FF xk_WS xk_cls RzU 351 4 2 := ⟨RzB, TzB, 6, rfl, by decide, iwzB, xk_m155⟩
theorem pfzU_351 : xk_PF xk_WS xk_cls RzU 351 4 2 .int := ⟨RzB, TzB, 6, tyzB, rfl, by decide, iwzB, xk_m155, tyzB_ok, nmzB, rfl, rfl⟩
theorem ffzB_21 : xk_FF xk_WS xk_cls RzB 21 4 3 := ⟨RzB, TzB, 6, rfl, by decide, iwzB, xk_m156⟩
theorem pfzB_21 : xk_PF xk_WS xk_cls RzB 21 4 3 .int := ⟨RzB, TzB, 6, tyzB, rfl, by decide, iwzB, xk_m156, tyzB_ok, nmzB, rfl, rfl⟩
theorem ffzU_313 : xk_FF xk_WS xk_cls RzU 313 4 3 := ⟨RzB, TzB, 6, rfl, by decide, iwzB, xk_m157⟩
theorem pfzU_313 : xk_PF xk_WS xk_cls RzU 313 4 3 .int := ⟨RzB, TzB, 6, tyzB, rfl, by decide, iwzB, xk_m157, tyzB_ok, nmzB, rfl, rfl⟩
theorem ffzB_24 : xk_FF xk_WS xk_cls RzB 24 4 4 := ⟨RzB, TzB, 6, rfl, by decide, iwzB, xk_m158⟩
theorem pfzB_24 : xk_PF xk_WS xk_cls RzB 24 4 4 .int := ⟨RzB, TzB, 6, tyzB, rfl, by decide, iwzB, xk_m158, tyzB_ok, nmzB, rfl, rfl⟩
theorem ffzU_236 : xk_FF xk_WS xk_cls RzU 236 4 4 := ⟨RzB, TzB, 6, rfl, by decide, iwzB, xk_m159⟩
theorem pfzU_236 : xk_PF xk_WS xk_cls RzU 236 4 4 .int := ⟨RzB, TzB, 6, tyzB, rfl, by decide, iwzB, xk_m159, tyzB_ok, nmzB, rfl, rfl⟩
theorem ffzB_27 : xk_FF xk_WS xk_cls RzB 27 4 5 := ⟨RzB, TzB, 6, rfl, by decide, iwzB, xk_m160⟩
theorem pfzB_27 : xk_PF xk_WS xk_cls RzB 27 4 5 .boolean := ⟨RzB, TzB, 6, tyzB, rfl, by decide, iwzB, xk_m160, tyzB_ok, nmzB, rfl, rfl⟩
theorem ffzU_329 : xk_FF xk_WS xk_cls RzU 329 4 5 := ⟨RzB, TzB, 6, rfl, by decide, iwzB, xk_m161⟩
theorem pfzU_329 : xk_PF xk_WS xk_cls RzU 329 4 5 .boolean := ⟨RzB, TzB, 6, tyzB, rfl, by decide, iwzB, xk_m161, tyzB_ok, nmzB, rfl, rfl⟩
theorem ffzP_9 : xk_FF xk_WS xk_cls RzP 9 5 0 := ⟨RzP, TzP, 4, rfl, by decide, iwzP, xk_m166⟩
theorem pfzP_9 : xk_PF xk_WS xk_cls RzP 9 5 0 .boolean := ⟨RzP, TzP, 4, tyzP, rfl, by decide, iwzP, xk_m166, tyzP_ok, nmzP, rfl, rfl⟩
theorem ffzU_149 : xk_FF xk_WS xk_cls RzU 149 5 0 := ⟨RzP, TzP, 4, rfl, by decide, iwzP, xk_m167⟩
theorem pfzU_149 : xk_PF xk_WS xk_cls RzU 149 5 0 .boolean := ⟨RzP, TzP, 4, tyzP, rfl, by decide, iwzP, xk_m167, tyzP_ok, nmzP, rfl, rfl⟩
theorem ffzP_15 : xk_FF xk_WS xk_cls RzP 15 5 1 := ⟨RzP, TzP, 4, rfl, by decide, iwzP, xk_m168⟩
theorem pfzP_15 : xk_PF xk_WS xk_cls RzP 15 5 1 .boolean := ⟨RzP, TzP, 4, tyzP, rfl, by decide, iwzP, xk_m168, tyzP_ok, nmzP, rfl, rfl⟩
theorem ffzU_338 : xk_FF xk_WS xk_cls RzU 338 5 1 := ⟨RzP, TzP, 4, rfl, by decide, iwzP, xk_m169⟩
theorem pfzU_338 : xk_PF xk_WS xk_cls RzU 338 5 1 .boolean := ⟨RzP, TzP, 4, tyzP, rfl, by decide, iwzP, xk_m169, tyzP_ok, nmzP, rfl, rfl⟩
theorem ffzP_18 : xk_FF xk_WS xk_cls RzP 18 5 2 := ⟨RzP, TzP, 4, rfl, by decide, iwzP, xk_m170⟩
theorem pfzP_18 : xk_PF xk_WS xk_cls RzP 18 5 2 .boolean := ⟨RzP, TzP, 4, tyzP, rfl, by decide, iwzP, xk_m170, tyzP_ok, nmzP, rfl, rfl⟩
theorem ffzU_348 : xk_FF xk_WS xk_cls RzU 348 5 2 := ⟨RzP, TzP, 4, rfl, by decide, iwzP, xk_m171⟩
theorem pfzU_348 : xk_PF xk_WS xk_cls RzU 348 5 2 .boolean := ⟨RzP, TzP, 4, tyzP, rfl, by decide, iwzP, xk_m171, tyzP_ok, nmzP, rfl, rfl⟩
theorem ffzP_21 : xk_FF xk_WS xk_cls RzP 21 5 3 := ⟨RzP, TzP, 4, rfl, by decide, iwzP, xk_m172⟩
theorem pfzP_21 : xk_PF xk_WS xk_cls RzP 21 5 3 .int := ⟨RzP, TzP, 4, tyzP, rfl, by decide, iwzP, xk_m172, tyzP_ok, nmzP, rfl, rfl⟩
theorem ffzU_11 : xk_FF xk_WS xk_cls RzU 11 0 0 := ⟨RzU, TzU, 10, rfl, by decide, iwzU, xk_m173⟩
theorem ffzU_17 : xk_FF xk_WS xk_cls RzU 17 0 1 := ⟨RzU, TzU, 10, rfl, by decide, iwzU, xk_m174⟩
theorem ffzU_23 : xk_FF xk_WS xk_cls RzU 23 0 2 := ⟨RzU, TzU, 10, rfl, by decide, iwzU, xk_m175⟩
theorem ffzU_30 : xk_FF xk_WS xk_cls RzU 30 0 3 := ⟨RzU, TzU, 10, rfl, by decide, iwzU, xk_m176⟩
theorem ffzU_37 : xk_FF xk_WS xk_cls RzU 37 0 4 := ⟨RzU, TzU, 10, rfl, by decide, iwzU, xk_m177⟩
theorem ffzU_41 : xk_FF xk_WS xk_cls RzU 41 0 5 := ⟨RzU, TzU, 10, rfl, by decide, iwzU, xk_m178⟩
theorem pfzU_41 : xk_PF xk_WS xk_cls RzU 41 0 5 .int := ⟨RzU, TzU, 10, tyzU, rfl, by decide, iwzU, xk_m178, tyzU_ok, nmzU, rfl, rfl⟩
theorem ffzU_45 : xk_FF xk_WS xk_cls RzU 45 0 6 := ⟨RzU, TzU, 10, rfl, by decide, iwzU, xk_m179⟩
theorem pfzU_45 : xk_PF xk_WS xk_cls RzU 45 0 6 .int := ⟨RzU, TzU, 10, tyzU, rfl, by decide, iwzU, xk_m179, tyzU_ok, nmzU, rfl, rfl⟩
theorem ffzU_48 : xk_FF xk_WS xk_cls RzU 48 0 7 := ⟨RzU, TzU, 10, rfl, by decide, iwzU, xk_m180⟩
theorem pfzU_48 : xk_PF xk_WS xk_cls RzU 48 0 7 .boolean := ⟨RzU, TzU, 10, tyzU, rfl, by decide, iwzU, xk_m180, tyzU_ok, nmzU, rfl, rfl⟩
theorem ffzU_52 : xk_FF xk_WS xk_cls RzU 52 0 8 := ⟨RzU, TzU, 10, rfl, by decide, iwzU, xk_m181⟩
theorem pfzU_52 : xk_PF xk_WS xk_cls RzU 52 0 8 .boolean := ⟨RzU, TzU, 10, tyzU, rfl, by decide, iwzU, xk_m181, tyzU_ok, nmzU, rfl, rfl⟩
theorem ffzU_55 : xk_FF xk_WS xk_cls RzU 55 0 9 := ⟨RzU, TzU, 10, rfl, by decide, iwzU, xk_m182⟩
theorem pfzU_55 : xk_PF xk_WS xk_cls RzU 55 0 9 .boolean := ⟨RzU, TzU, 10, tyzU, rfl, by decide, iwzU, xk_m182, tyzU_ok, nmzU, rfl, rfl⟩
theorem vfzU_94 : xk_VF xk_WS RzU 94 yzU_rememberBalances czU_rememberBalances 3 none 0 := ⟨xk_goodV gWS xk_m186 xk_m187 xk_m0 xk_m45 xk_m188, ⟨by decide, by decide⟩, by decide +kernel⟩
theorem vfzU_278 : xk_VF xk_WS RzU 278 yzS_rememberBalance czS_rememberBalance 1 none 0 := ⟨xk_goodV gWS xk_m189 xk_m190 xk_m191 xk_m49 xk_m192, ⟨by decide, by decide⟩, by decide +kernel⟩
theorem vfzU_97 : xk_VF xk_WS RzU 97 yzU_countPulses czU_countPulses 4 none 0 := ⟨xk_goodV gWS xk_m193 xk_m194 xk_m1 xk_m45 xk_m195, ⟨by decide, by decide⟩, by decide +kernel⟩
theorem vfzU_281 : xk_VF xk_WS RzU 281 yzK_takePulse czK_takePulse 3 (some .int) 1 := ⟨xk_goodV gWS xk_m196 xk_m197 xk_m198 xk_m48 xk_m199, ⟨by decide, by decide⟩, by decide +kernel⟩
theorem vfzU_285 : xk_VF xk_WS RzU 285 yzU_countAxle czU_countAxle 6 none 3 := ⟨xk_goodV gWS xk_m200 xk_m201 xk_m2 xk_m45 xk_m202, ⟨by decide, by decide⟩, by decide +kernel⟩
theorem vfzU_289 : xk_VF xk_WS RzU 289 yzS_countOut czS_countOut 2 none 1 := ⟨xk_goodV gWS xk_m203 xk_m204 xk_m205 xk_m49 xk_m206, ⟨by decide, by decide⟩, by decide +kernel⟩
theorem vfzU_292 : xk_VF xk_WS RzU 292 yzU_disturbIfMiscounted czU_disturbIfMiscounted 2 none 1 := ⟨xk_goodV gWS xk_m207 xk_m208 xk_m3 xk_m45 xk_m209, ⟨by decide, by decide⟩, by decide +kernel⟩
theorem vfzU_274 : xk_VF xk_WS RzU 274 yzU_disturb czU_disturb 2 none 1 := ⟨xk_goodV gWS xk_m210 xk_m211 xk_m4 xk_m45 xk_m212, ⟨by decide, by decide⟩, by decide +kernel⟩
theorem vfzU_170 : xk_VF xk_WS RzU 170 yzJ_add czJ_add 5 none 3 := ⟨xk_goodV gWS xk_m213 xk_m214 xk_m215 xk_m47 xk_m216, ⟨by decide, by decide⟩, by decide +kernel⟩
theorem vfzU_298 : xk_VF xk_WS RzU 298 yzS_countIn czS_countIn 2 none 1 := ⟨xk_goodV gWS xk_m217 xk_m218 xk_m219 xk_m49 xk_m220, ⟨by decide, by decide⟩, by decide +kernel⟩
theorem vfzU_100 : xk_VF xk_WS RzU 100 yzU_followComings czU_followComings 3 none 0 := ⟨xk_goodV gWS xk_m221 xk_m222 xk_m5 xk_m45 xk_m223, ⟨by decide, by decide⟩, by decide +kernel⟩
theorem vfzU_301 : xk_VF xk_WS RzU 301 yzE_follow czE_follow 1 none 0 := ⟨xk_goodV gWS xk_m224 xk_m225 xk_m226 xk_m50 xk_m227, ⟨by decide, by decide⟩, by decide +kernel⟩
theorem vfzU_103 : xk_VF xk_WS RzU 103 yzU_useUpOrders czU_useUpOrders 3 none 0 := ⟨xk_goodV gWS xk_m231 xk_m232 xk_m6 xk_m45 xk_m233, ⟨by decide, by decide⟩, by decide +kernel⟩
theorem vfzU_106 : xk_VF xk_WS RzU 106 yzU_watchLamps czU_watchLamps 2 none 0 := ⟨xk_goodV gWS xk_m234 xk_m235 xk_m7 xk_m45 xk_m236, ⟨by decide, by decide⟩, by decide +kernel⟩
theorem vfzU_307 : xk_VF xk_WS RzU 307 yzP_dies czP_dies 1 (some .boolean) 0 := ⟨xk_goodV gWS xk_m237 xk_m238 xk_m239 xk_m52 xk_m240, ⟨by decide, by decide⟩, by decide +kernel⟩
theorem vfzU_109 : xk_VF xk_WS RzU 109 yzU_watchBarriers czU_watchBarriers 2 none 0 := ⟨xk_goodV gWS xk_m241 xk_m242 xk_m8 xk_m45 xk_m243, ⟨by decide, by decide⟩, by decide +kernel⟩
theorem vfzU_310 : xk_VF xk_WS RzU 310 yzB_startsAlarm czB_startsAlarm 2 (some .boolean) 0 := ⟨xk_goodV gWS xk_m244 xk_m245 xk_m246 xk_m51 xk_m247, ⟨by decide, by decide⟩, by decide +kernel⟩
theorem vfzU_112 : xk_VF xk_WS RzU 112 yzU_moveRoad czU_moveRoad 1 none 0 := ⟨xk_goodV gWS xk_m248 xk_m249 xk_m9 xk_m45 xk_m250, ⟨by decide, by decide⟩, by decide +kernel⟩
theorem vfzU_316 : xk_VF xk_WS RzU 316 yzU_isDemanded czU_isDemanded 2 (some .boolean) 0 := ⟨xk_goodV gWS xk_m251 xk_m252 xk_m10 xk_m45 xk_m253, ⟨by decide, by decide⟩, by decide +kernel⟩
theorem vfzU_326 : xk_VF xk_WS RzU 326 yzK_isFree czK_isFree 2 (some .boolean) 0 := ⟨xk_goodV gWS xk_m254 xk_m255 xk_m256 xk_m48 xk_m257, ⟨by decide, by decide⟩, by decide +kernel⟩
theorem vfzK_47 : xk_VF xk_WS RzK 47 yzS_state czS_state 1 (some .int) 0 := ⟨xk_goodV gWS xk_m258 xk_m259 xk_m260 xk_m49 xk_m261, ⟨by decide, by decide⟩, by decide +kernel⟩
theorem vfzU_319 : xk_VF xk_WS RzU 319 yzU_isUp czU_isUp 1 (some .boolean) 0 := ⟨xk_goodV gWS xk_m262 xk_m263 xk_m11 xk_m45 xk_m264, ⟨by decide, by decide⟩, by decide +kernel⟩
theorem vfzU_322 : xk_VF xk_WS RzU 322 yzR_moves czR_moves 5 (some .boolean) 3 := ⟨xk_goodV gWS xk_m265 xk_m266 xk_m267 xk_m46 xk_m268, ⟨by decide, by decide⟩, by decide +kernel⟩
theorem vfzR_21 : xk_VF xk_WS RzR 21 yzR_stepToCome czR_stepToCome 4 (some .int) 3 := ⟨xk_goodV gWS xk_m269 xk_m270 xk_m12 xk_m46 xk_m271, ⟨by decide, by decide⟩, by decide +kernel⟩
theorem vfzU_115 : xk_VF xk_WS RzU 115 yzU_driveMotors czU_driveMotors 2 none 0 := ⟨xk_goodV gWS xk_m272 xk_m273 xk_m13 xk_m45 xk_m274, ⟨by decide, by decide⟩, by decide +kernel⟩
theorem vfzU_332 : xk_VF xk_WS RzU 332 yzB_drive czB_drive 2 none 1 := ⟨xk_goodV gWS xk_m275 xk_m276 xk_m277 xk_m51 xk_m278, ⟨by decide, by decide⟩, by decide +kernel⟩
theorem vfzU_118 : xk_VF xk_WS RzU 118 yzU_lightLamps czU_lightLamps 3 none 0 := ⟨xk_goodV gWS xk_m279 xk_m280 xk_m14 xk_m45 xk_m281, ⟨by decide, by decide⟩, by decide +kernel⟩
theorem sfzU_335 : xk_SF xk_WS RzU 335 yzU_isEven czU_isEven 1 (some .boolean) 1 := ⟨xk_goodS gWS xk_m282 xk_m283 xk_m45 xk_m284, rfl, ⟨by decide, by decide⟩, by decide +kernel⟩
theorem vfzU_121 : xk_VF xk_WS RzU 121 yzU_bellIsDue czU_bellIsDue 2 (some .boolean) 0 := ⟨xk_goodV gWS xk_m285 xk_m286 xk_m15 xk_m45 xk_m287, ⟨by decide, by decide⟩, by decide +kernel⟩
theorem vfzU_125 : xk_VF xk_WS RzU 125 yzU_setSignals czU_setSignals 3 none 0 := ⟨xk_goodV gWS xk_m288 xk_m289 xk_m16 xk_m45 xk_m290, ⟨by decide, by decide⟩, by decide +kernel⟩
theorem vfzU_341 : xk_VF xk_WS RzU 341 yzU_signalIsDue czU_signalIsDue 2 (some .boolean) 1 := ⟨xk_goodV gWS xk_m291 xk_m292 xk_m17 xk_m45 xk_m293, ⟨by decide, by decide⟩, by decide +kernel⟩
theorem vfzU_155 : xk_VF xk_WS RzU 155 yzK_isDisturbed czK_isDisturbed 2 (some .boolean) 0 := ⟨xk_goodV gWS xk_m294 xk_m295 xk_m296 xk_m48 xk_m297, ⟨by decide, by decide⟩, by decide +kernel⟩
theorem vfzU_162 : xk_VF xk_WS RzU 162 yzS_state czS_state 1 (some .int) 0 := ⟨xk_goodV gWS xk_m298 xk_m259 xk_m260 xk_m49 xk_m261, ⟨by decide, by decide⟩, by decide +kernel⟩
theorem vfzU_128 : xk_VF xk_WS RzU 128 yzU_gatherOutput czU_gatherOutput 3 (some .int) 0 := ⟨xk_goodV gWS xk_m299 xk_m300 xk_m18 xk_m45 xk_m301, ⟨by decide, by decide⟩, by decide +kernel⟩
theorem vfzU_63 : xk_VF xk_WS RzU 63 yzU_findTrack czU_findTrack 2 (some (.object "CrossingUnit$Track")) 1 := ⟨xk_goodV gWS xk_m308 xk_m309 xk_m19 xk_m45 xk_m310, ⟨by decide, by decide⟩, by decide +kernel⟩
theorem sfzU_67 : xk_SF xk_WS RzU 67 yzU_checkHead czU_checkHead 1 none 1 := ⟨xk_goodS gWS xk_m314 xk_m315 xk_m45 xk_m316, rfl, ⟨by decide, by decide⟩, by decide +kernel⟩
theorem vfzU_90 : xk_VF xk_WS RzU 90 yzU_disturbIfThere czU_disturbIfThere 3 none 2 := ⟨xk_goodV gWS xk_m322 xk_m323 xk_m20 xk_m45 xk_m324, ⟨by decide, by decide⟩, by decide +kernel⟩
theorem vfzU_134 : xk_VF xk_WS RzU 134 yzU_tick czU_tick 1 (some .int) 0 := ⟨xk_goodV gWS xk_m328 xk_m183 xk_m184 xk_m45 xk_m185, ⟨by decide, by decide⟩, by decide +kernel⟩
theorem vfzU_167 : xk_VF xk_WS RzU 167 yzU_isAlarmed czU_isAlarmed 1 (some .boolean) 0 := ⟨xk_goodV gWS xk_m338 xk_m339 xk_m21 xk_m45 xk_m340, ⟨by decide, by decide⟩, by decide +kernel⟩
theorem vfzU_174 : xk_VF xk_WS RzU 174 yzU_findSection czU_findSection 4 (some (.object "CrossingUnit$Section")) 2 := ⟨xk_goodV gWS xk_m347 xk_m348 xk_m22 xk_m45 xk_m349, ⟨by decide, by decide⟩, by decide +kernel⟩
theorem sfzU_178 : xk_SF xk_WS RzU 178 yzU_checkPerson czU_checkPerson 1 none 1 := ⟨xk_goodS gWS xk_m350 xk_m351 xk_m45 xk_m352, rfl, ⟨by decide, by decide⟩, by decide +kernel⟩
theorem vfzU_186 : xk_VF xk_WS RzU 186 yzS_startSweep czS_startSweep 2 none 1 := ⟨xk_goodV gWS xk_m353 xk_m354 xk_m355 xk_m49 xk_m356, ⟨by decide, by decide⟩, by decide +kernel⟩
theorem vfzU_194 : xk_VF xk_WS RzU 194 yzS_isSwept czS_isSwept 1 (some .boolean) 0 := ⟨xk_goodV gWS xk_m360 xk_m361 xk_m362 xk_m49 xk_m363, ⟨by decide, by decide⟩, by decide +kernel⟩
theorem sfzS_40 : xk_SF xk_WS RzS 40 yzS_isSweep czS_isSweep 4 (some .boolean) 4 := ⟨xk_goodS gWS xk_m364 xk_m365 xk_m49 xk_m366, rfl, ⟨by decide, by decide⟩, by decide +kernel⟩
theorem vfzU_197 : xk_VF xk_WS RzU 197 yzK_hasHealthyHeads czK_hasHealthyHeads 2 (some .boolean) 1 := ⟨xk_goodV gWS xk_m367 xk_m368 xk_m369 xk_m48 xk_m370, ⟨by decide, by decide⟩, by decide +kernel⟩
theorem vfzU_201 : xk_VF xk_WS RzU 201 yzS_reset czS_reset 1 none 0 := ⟨xk_goodV gWS xk_m371 xk_m372 xk_m373 xk_m49 xk_m374, ⟨by decide, by decide⟩, by decide +kernel⟩
theorem vfzU_239 : xk_VF xk_WS RzU 239 yzU_deadLamps czU_deadLamps 3 (some .int) 0 := ⟨xk_goodV gWS xk_m387 xk_m388 xk_m23 xk_m45 xk_m389, ⟨by decide, by decide⟩, by decide +kernel⟩
theorem vfzU_242 : xk_VF xk_WS RzU 242 yzU_standingOrders czU_standingOrders 3 (some .int) 0 := ⟨xk_goodV gWS xk_m390 xk_m391 xk_m24 xk_m45 xk_m392, ⟨by decide, by decide⟩, by decide +kernel⟩
theorem vfzU_250 : xk_VF xk_WS RzU 250 yzJ_keeps czJ_keeps 2 (some .boolean) 1 := ⟨xk_goodV gWS xk_m396 xk_m397 xk_m398 xk_m47 xk_m399, ⟨by decide, by decide⟩, by decide +kernel⟩
theorem ffzM_92 : xk_FF xk_WS xk_cls RzM 92 8 0 := ⟨RzM, TzM, 35, rfl, by decide, iwzM, xk_m404⟩
theorem pfzM_92 : xk_PF xk_WS xk_cls RzM 92 8 0 .int := ⟨RzM, TzM, 35, tyzM, rfl, by decide, iwzM, xk_m404, tyzM_ok, nmzM, rfl, rfl⟩
theorem ffzM_7 : xk_FF xk_WS xk_cls RzM 7 8 1 := ⟨RzM, TzM, 35, rfl, by decide, iwzM, xk_m405⟩
theorem ffzM_13 : xk_FF xk_WS xk_cls RzM 13 8 2 := ⟨RzM, TzM, 35, rfl, by decide, iwzM, xk_m406⟩
theorem ffzM_17 : xk_FF xk_WS xk_cls RzM 17 8 3 := ⟨RzM, TzM, 35, rfl, by decide, iwzM, xk_m407⟩
theorem ffzM_20 : xk_FF xk_WS xk_cls RzM 20 8 4 := ⟨RzM, TzM, 35, rfl, by decide, iwzM, xk_m408⟩
theorem ffzM_23 : xk_FF xk_WS xk_cls RzM 23 8 5 := ⟨RzM, TzM, 35, rfl, by decide, iwzM, xk_m409⟩
theorem ffzM_26 : xk_FF xk_WS xk_cls RzM 26 8 6 := ⟨RzM, TzM, 35, rfl, by decide, iwzM, xk_m410⟩
theorem ffzM_29 : xk_FF xk_WS xk_cls RzM 29 8 7 := ⟨RzM, TzM, 35, rfl, by decide, iwzM, xk_m411⟩
theorem ffzM_32 : xk_FF xk_WS xk_cls RzM 32 8 8 := ⟨RzM, TzM, 35, rfl, by decide, iwzM, xk_m412⟩
theorem ffzM_35 : xk_FF xk_WS xk_cls RzM 35 8 9 := ⟨RzM, TzM, 35, rfl, by decide, iwzM, xk_m413⟩
theorem ffzM_38 : xk_FF xk_WS xk_cls RzM 38 8 10 := ⟨RzM, TzM, 35, rfl, by decide, iwzM, xk_m414⟩
theorem ffzM_41 : xk_FF xk_WS xk_cls RzM 41 8 11 := ⟨RzM, TzM, 35, rfl, by decide, iwzM, xk_m415⟩
theorem ffzM_44 : xk_FF xk_WS xk_cls RzM 44 8 12 := ⟨RzM, TzM, 35, rfl, by decide, iwzM, xk_m416⟩
theorem ffzM_47 : xk_FF xk_WS xk_cls RzM 47 8 13 := ⟨RzM, TzM, 35, rfl, by decide, iwzM, xk_m417⟩
theorem ffzM_50 : xk_FF xk_WS xk_cls RzM 50 8 14 := ⟨RzM, TzM, 35, rfl, by decide, iwzM, xk_m418⟩
theorem ffzM_53 : xk_FF xk_WS xk_cls RzM 53 8 15 := ⟨RzM, TzM, 35, rfl, by decide, iwzM, xk_m419⟩
theorem ffzM_56 : xk_FF xk_WS xk_cls RzM 56 8 16 := ⟨RzM, TzM, 35, rfl, by decide, iwzM, xk_m420⟩
theorem ffzM_59 : xk_FF xk_WS xk_cls RzM 59 8 17 := ⟨RzM, TzM, 35, rfl, by decide, iwzM, xk_m421⟩
theorem ffzM_62 : xk_FF xk_WS xk_cls RzM 62 8 18 := ⟨RzM, TzM, 35, rfl, by decide, iwzM, xk_m422⟩
theorem ffzM_65 : xk_FF xk_WS xk_cls RzM 65 8 19 := ⟨RzM, TzM, 35, rfl, by decide, iwzM, xk_m423⟩
theorem ffzM_68 : xk_FF xk_WS xk_cls RzM 68 8 20 := ⟨RzM, TzM, 35, rfl, by decide, iwzM, xk_m424⟩
theorem ffzM_71 : xk_FF xk_WS xk_cls RzM 71 8 21 := ⟨RzM, TzM, 35, rfl, by decide, iwzM, xk_m425⟩
theorem ffzM_74 : xk_FF xk_WS xk_cls RzM 74 8 22 := ⟨RzM, TzM, 35, rfl, by decide, iwzM, xk_m426⟩
theorem ffzM_77 : xk_FF xk_WS xk_cls RzM 77 8 23 := ⟨RzM, TzM, 35, rfl, by decide, iwzM, xk_m427⟩
theorem ffzM_122 : xk_FF xk_WS xk_cls RzM 122 8 24 := ⟨RzM, TzM, 35, rfl, by decide, iwzM, xk_m428⟩
theorem pfzM_122 : xk_PF xk_WS xk_cls RzM 122 8 24 .boolean := ⟨RzM, TzM, 35, tyzM, rfl, by decide, iwzM, xk_m428, tyzM_ok, nmzM, rfl, rfl⟩
theorem ffzM_161 : xk_FF xk_WS xk_cls RzM 161 8 25 := ⟨RzM, TzM, 35, rfl, by decide, iwzM, xk_m429⟩
theorem pfzM_161 : xk_PF xk_WS xk_cls RzM 161 8 25 .boolean := ⟨RzM, TzM, 35, tyzM, rfl, by decide, iwzM, xk_m429, tyzM_ok, nmzM, rfl, rfl⟩
theorem ffzM_80 : xk_FF xk_WS xk_cls RzM 80 8 26 := ⟨RzM, TzM, 35, rfl, by decide, iwzM, xk_m430⟩
theorem ffzM_103 : xk_FF xk_WS xk_cls RzM 103 8 27 := ⟨RzM, TzM, 35, rfl, by decide, iwzM, xk_m431⟩
theorem pfzM_103 : xk_PF xk_WS xk_cls RzM 103 8 27 .int := ⟨RzM, TzM, 35, tyzM, rfl, by decide, iwzM, xk_m431, tyzM_ok, nmzM, rfl, rfl⟩
theorem ffzM_152 : xk_FF xk_WS xk_cls RzM 152 8 28 := ⟨RzM, TzM, 35, rfl, by decide, iwzM, xk_m432⟩
theorem pfzM_152 : xk_PF xk_WS xk_cls RzM 152 8 28 .int := ⟨RzM, TzM, 35, tyzM, rfl, by decide, iwzM, xk_m432, tyzM_ok, nmzM, rfl, rfl⟩
theorem ffzM_149 : xk_FF xk_WS xk_cls RzM 149 8 29 := ⟨RzM, TzM, 35, rfl, by decide, iwzM, xk_m433⟩
theorem pfzM_149 : xk_PF xk_WS xk_cls RzM 149 8 29 .int := ⟨RzM, TzM, 35, tyzM, rfl, by decide, iwzM, xk_m433, tyzM_ok, nmzM, rfl, rfl⟩
theorem ffzM_155 : xk_FF xk_WS xk_cls RzM 155 8 30 := ⟨RzM, TzM, 35, rfl, by decide, iwzM, xk_m434⟩
theorem pfzM_155 : xk_PF xk_WS xk_cls RzM 155 8 30 .int := ⟨RzM, TzM, 35, tyzM, rfl, by decide, iwzM, xk_m434, tyzM_ok, nmzM, rfl, rfl⟩
theorem ffzM_100 : xk_FF xk_WS xk_cls RzM 100 8 31 := ⟨RzM, TzM, 35, rfl, by decide, iwzM, xk_m435⟩
theorem pfzM_100 : xk_PF xk_WS xk_cls RzM 100 8 31 .int := ⟨RzM, TzM, 35, tyzM, rfl, by decide, iwzM, xk_m435, tyzM_ok, nmzM, rfl, rfl⟩
theorem ffzM_83 : xk_FF xk_WS xk_cls RzM 83 8 32 := ⟨RzM, TzM, 35, rfl, by decide, iwzM, xk_m436⟩
theorem ffzM_86 : xk_FF xk_WS xk_cls RzM 86 8 33 := ⟨RzM, TzM, 35, rfl, by decide, iwzM, xk_m437⟩
theorem ffzM_89 : xk_FF xk_WS xk_cls RzM 89 8 34 := ⟨RzM, TzM, 35, rfl, by decide, iwzM, xk_m438⟩
theorem sfzM_110 : xk_SF xk_WS RzM 110 yzM_isHead czM_isHead 2 (some .boolean) 2 := ⟨xk_goodS gWS xk_m445 xk_m446 xk_m53 xk_m447, rfl, ⟨by decide, by decide⟩, by decide +kernel⟩
theorem sfzM_96 : xk_SF xk_WS RzM 96 yzM_isTrack czM_isTrack 1 (some .boolean) 1 := ⟨xk_goodS gWS xk_m448 xk_m449 xk_m53 xk_m450, rfl, ⟨by decide, by decide⟩, by decide +kernel⟩
theorem vfzM_114 : xk_VF xk_WS RzM 114 yzM_goes czM_goes 4 (some .boolean) 3 := ⟨xk_goodV gWS xk_m451 xk_m452 xk_m25 xk_m53 xk_m453, ⟨by decide, by decide⟩, by decide +kernel⟩
theorem vfzM_118 : xk_VF xk_WS RzM 118 yzM_disturb czM_disturb 2 none 1 := ⟨xk_goodV gWS xk_m457 xk_m458 xk_m26 xk_m53 xk_m459, ⟨by decide, by decide⟩, by decide +kernel⟩
theorem vfzM_106 : xk_VF xk_WS RzM 106 yzM_note czM_note 3 none 2 := ⟨xk_goodV gWS xk_m460 xk_m461 xk_m27 xk_m53 xk_m462, ⟨by decide, by decide⟩, by decide +kernel⟩
theorem vfzM_126 : xk_VF xk_WS RzM 126 yzM_anyDisturbed czM_anyDisturbed 2 (some .boolean) 1 := ⟨xk_goodV gWS xk_m475 xk_m476 xk_m28 xk_m53 xk_m477, ⟨by decide, by decide⟩, by decide +kernel⟩
theorem vfzM_129 : xk_VF xk_WS RzM 129 yzM_isFree czM_isFree 2 (some .boolean) 1 := ⟨xk_goodV gWS xk_m478 xk_m479 xk_m29 xk_m53 xk_m480, ⟨by decide, by decide⟩, by decide +kernel⟩
theorem sfzM_132 : xk_SF xk_WS RzM 132 yzM_isSection czM_isSection 2 (some .boolean) 2 := ⟨xk_goodS gWS xk_m487 xk_m488 xk_m53 xk_m489, rfl, ⟨by decide, by decide⟩, by decide +kernel⟩
theorem vfzM_135 : xk_VF xk_WS RzM 135 yzM_swept czM_swept 4 (some .boolean) 1 := ⟨xk_goodV gWS xk_m493 xk_m494 xk_m30 xk_m53 xk_m495, ⟨by decide, by decide⟩, by decide +kernel⟩
theorem vfzM_188 : xk_VF xk_WS RzM 188 yzM_oneTick czM_oneTick 1 none 0 := ⟨xk_goodV gWS xk_m499 xk_m500 xk_m31 xk_m53 xk_m501, ⟨by decide, by decide⟩, by decide +kernel⟩
theorem vfzM_164 : xk_VF xk_WS RzM 164 yzM_allPulses czM_allPulses 3 none 0 := ⟨xk_goodV gWS xk_m502 xk_m503 xk_m32 xk_m53 xk_m504, ⟨by decide, by decide⟩, by decide +kernel⟩
theorem vfzM_141 : xk_VF xk_WS RzM 141 yzM_counts czM_counts 6 none 3 := ⟨xk_goodV gWS xk_m505 xk_m506 xk_m33 xk_m53 xk_m507, ⟨by decide, by decide⟩, by decide +kernel⟩
theorem vfzM_138 : xk_VF xk_WS RzM 138 yzM_change czM_change 3 none 2 := ⟨xk_goodV gWS xk_m508 xk_m509 xk_m34 xk_m53 xk_m510, ⟨by decide, by decide⟩, by decide +kernel⟩
theorem vfzM_167 : xk_VF xk_WS RzM 167 yzM_allComings czM_allComings 3 none 0 := ⟨xk_goodV gWS xk_m511 xk_m512 xk_m35 xk_m53 xk_m513, ⟨by decide, by decide⟩, by decide +kernel⟩
theorem vfzM_170 : xk_VF xk_WS RzM 170 yzM_useOrders czM_useOrders 2 none 0 := ⟨xk_goodV gWS xk_m514 xk_m515 xk_m36 xk_m53 xk_m516, ⟨by decide, by decide⟩, by decide +kernel⟩
theorem vfzM_173 : xk_VF xk_WS RzM 173 yzM_watchLamps czM_watchLamps 2 none 0 := ⟨xk_goodV gWS xk_m517 xk_m518 xk_m37 xk_m53 xk_m519, ⟨by decide, by decide⟩, by decide +kernel⟩
theorem vfzM_176 : xk_VF xk_WS RzM 176 yzM_watchBarriers czM_watchBarriers 3 none 0 := ⟨xk_goodV gWS xk_m520 xk_m521 xk_m38 xk_m53 xk_m522, ⟨by decide, by decide⟩, by decide +kernel⟩
theorem vfzM_179 : xk_VF xk_WS RzM 179 yzM_goOn czM_goOn 3 none 0 := ⟨xk_goodV gWS xk_m523 xk_m524 xk_m39 xk_m53 xk_m525, ⟨by decide, by decide⟩, by decide +kernel⟩
theorem vfzM_145 : xk_VF xk_WS RzM 145 yzM_demand czM_demand 3 (some .boolean) 0 := ⟨xk_goodV gWS xk_m526 xk_m527 xk_m40 xk_m53 xk_m528, ⟨by decide, by decide⟩, by decide +kernel⟩
theorem vfzM_158 : xk_VF xk_WS RzM 158 yzM_isProved czM_isProved 1 (some .boolean) 0 := ⟨xk_goodV gWS xk_m529 xk_m530 xk_m41 xk_m53 xk_m531, ⟨by decide, by decide⟩, by decide +kernel⟩
theorem vfzM_182 : xk_VF xk_WS RzM 182 yzM_drive czM_drive 4 none 0 := ⟨xk_goodV gWS xk_m532 xk_m533 xk_m42 xk_m53 xk_m534, ⟨by decide, by decide⟩, by decide +kernel⟩
theorem vfzM_185 : xk_VF xk_WS RzM 185 yzM_signal czM_signal 3 none 0 := ⟨xk_goodV gWS xk_m535 xk_m536 xk_m43 xk_m53 xk_m537, ⟨by decide, by decide⟩, by decide +kernel⟩
theorem vfzM_191 : xk_VF xk_WS RzM 191 yzM_output czM_output 3 (some .int) 0 := ⟨xk_goodV gWS xk_m538 xk_m539 xk_m44 xk_m53 xk_m540, ⟨by decide, by decide⟩, by decide +kernel⟩
theorem vfzL_80 : xk_VF xk_WS RzL 80 yzU_tick czU_tick 1 (some .int) 0 := ⟨xk_goodV gWS xk_m560 xk_m183 xk_m184 xk_m45 xk_m185, ⟨by decide, by decide⟩, by decide +kernel⟩
theorem vfzL_96 : xk_VF xk_WS RzL 96 yzU_night czU_night 3 (some .boolean) 1 := ⟨xk_goodV gWS xk_m561 xk_m302 xk_m303 xk_m45 xk_m304, ⟨by decide, by decide⟩, by decide +kernel⟩
theorem vfzL_7 : xk_VF xk_WS RzL 7 yzU_pulse czU_pulse 5 none 3 := ⟨xk_goodV gWS xk_m568 xk_m305 xk_m306 xk_m45 xk_m307, ⟨by decide, by decide⟩, by decide +kernel⟩
theorem vfzL_19 : xk_VF xk_WS RzL 19 yzU_health czU_health 6 (some .boolean) 3 := ⟨xk_goodV gWS xk_m572 xk_m319 xk_m320 xk_m45 xk_m321, ⟨by decide, by decide⟩, by decide +kernel⟩
theorem vfzL_23 : xk_VF xk_WS RzL 23 yzU_ticks czU_ticks 3 (some .int) 1 := ⟨xk_goodV gWS xk_m576 xk_m325 xk_m326 xk_m45 xk_m327, ⟨by decide, by decide⟩, by decide +kernel⟩
theorem vfzL_27 : xk_VF xk_WS RzL 27 yzU_barrier czU_barrier 4 (some .int) 2 := ⟨xk_goodV gWS xk_m580 xk_m329 xk_m330 xk_m45 xk_m331, ⟨by decide, by decide⟩, by decide +kernel⟩
theorem vfzL_31 : xk_VF xk_WS RzL 31 yzU_current czU_current 4 (some .boolean) 2 := ⟨xk_goodV gWS xk_m584 xk_m332 xk_m333 xk_m45 xk_m334, ⟨by decide, by decide⟩, by decide +kernel⟩
theorem vfzL_35 : xk_VF xk_WS RzL 35 yzU_order czU_order 3 (some .int) 1 := ⟨xk_goodV gWS xk_m588 xk_m335 xk_m336 xk_m45 xk_m337, ⟨by decide, by decide⟩, by decide +kernel⟩
theorem vfzL_38 : xk_VF xk_WS RzL 38 yzU_cancel czU_cancel 4 (some .boolean) 1 := ⟨xk_goodV gWS xk_m592 xk_m341 xk_m342 xk_m45 xk_m343, ⟨by decide, by decide⟩, by decide +kernel⟩
theorem vfzL_42 : xk_VF xk_WS RzL 42 yzU_ask czU_ask 5 none 3 := ⟨xk_goodV gWS xk_m596 xk_m344 xk_m345 xk_m45 xk_m346, ⟨by decide, by decide⟩, by decide +kernel⟩
theorem vfzL_45 : xk_VF xk_WS RzL 45 yzU_confirm czU_confirm 5 (some .boolean) 3 := ⟨xk_goodV gWS xk_m600 xk_m357 xk_m358 xk_m45 xk_m359, ⟨by decide, by decide⟩, by decide +kernel⟩
theorem vfzL_49 : xk_VF xk_WS RzL 49 yzU_section czU_section 5 (some .int) 3 := ⟨xk_goodV gWS xk_m604 xk_m375 xk_m376 xk_m45 xk_m377, ⟨by decide, by decide⟩, by decide +kernel⟩
theorem vfzL_53 : xk_VF xk_WS RzL 53 yzU_earliest czU_earliest 5 (some .int) 1 := ⟨xk_goodV gWS xk_m608 xk_m378 xk_m379 xk_m45 xk_m380, ⟨by decide, by decide⟩, by decide +kernel⟩
theorem vfzL_56 : xk_VF xk_WS RzL 56 yzU_about czU_about 2 (some .int) 1 := ⟨xk_goodV gWS xk_m612 xk_m384 xk_m385 xk_m45 xk_m386, ⟨by decide, by decide⟩, by decide +kernel⟩
theorem vfzL_59 : xk_VF xk_WS RzL 59 yzU_event czU_event 4 (some .int) 2 := ⟨xk_goodV gWS xk_m616 xk_m393 xk_m394 xk_m45 xk_m395, ⟨by decide, by decide⟩, by decide +kernel⟩
theorem vfzL_72 : xk_VF xk_WS RzL 72 yzM_thrown czM_thrown 1 (some .int) 0 := ⟨xk_goodV gWS xk_m619 xk_m439 xk_m440 xk_m53 xk_m441, ⟨by decide, by decide⟩, by decide +kernel⟩
theorem vfzL_71 : xk_VF xk_WS RzL 71 yzM_pulse czM_pulse 5 none 3 := ⟨xk_goodV gWS xk_m620 xk_m442 xk_m443 xk_m53 xk_m444, ⟨by decide, by decide⟩, by decide +kernel⟩
theorem vfzL_79 : xk_VF xk_WS RzL 79 yzM_health czM_health 7 (some .boolean) 3 := ⟨xk_goodV gWS xk_m621 xk_m454 xk_m455 xk_m53 xk_m456, ⟨by decide, by decide⟩, by decide +kernel⟩
theorem vfzL_91 : xk_VF xk_WS RzL 91 yzM_barrier czM_barrier 5 (some .int) 2 := ⟨xk_goodV gWS xk_m622 xk_m463 xk_m464 xk_m53 xk_m465, ⟨by decide, by decide⟩, by decide +kernel⟩
theorem vfzL_95 : xk_VF xk_WS RzL 95 yzM_current czM_current 4 (some .boolean) 2 := ⟨xk_goodV gWS xk_m623 xk_m466 xk_m467 xk_m53 xk_m468, ⟨by decide, by decide⟩, by decide +kernel⟩
theorem vfzL_100 : xk_VF xk_WS RzL 100 yzM_night czM_night 3 (some .boolean) 1 := ⟨xk_goodV gWS xk_m624 xk_m469 xk_m470 xk_m53 xk_m471, ⟨by decide, by decide⟩, by decide +kernel⟩
theorem vfzL_103 : xk_VF xk_WS RzL 103 yzM_order czM_order 3 (some .int) 1 := ⟨xk_goodV gWS xk_m625 xk_m472 xk_m473 xk_m53 xk_m474, ⟨by decide, by decide⟩, by decide +kernel⟩
theorem vfzL_106 : xk_VF xk_WS RzL 106 yzM_cancel czM_cancel 3 (some .boolean) 1 := ⟨xk_goodV gWS xk_m626 xk_m481 xk_m482 xk_m53 xk_m483, ⟨by decide, by decide⟩, by decide +kernel⟩
theorem vfzL_109 : xk_VF xk_WS RzL 109 yzM_ask czM_ask 6 none 3 := ⟨xk_goodV gWS xk_m627 xk_m484 xk_m485 xk_m53 xk_m486, ⟨by decide, by decide⟩, by decide +kernel⟩
theorem vfzL_113 : xk_VF xk_WS RzL 113 yzM_confirm czM_confirm 7 (some .boolean) 3 := ⟨xk_goodV gWS xk_m628 xk_m490 xk_m491 xk_m53 xk_m492, ⟨by decide, by decide⟩, by decide +kernel⟩
theorem vfzL_83 : xk_VF xk_WS RzL 83 yzM_tick czM_tick 1 (some .int) 0 := ⟨xk_goodV gWS xk_m629 xk_m496 xk_m497 xk_m53 xk_m498, ⟨by decide, by decide⟩, by decide +kernel⟩
theorem vfzL_87 : xk_VF xk_WS RzL 87 yzM_ticks czM_ticks 3 (some .int) 1 := ⟨xk_goodV gWS xk_m630 xk_m541 xk_m542 xk_m53 xk_m543, ⟨by decide, by decide⟩, by decide +kernel⟩
theorem vfzL_116 : xk_VF xk_WS RzL 116 yzM_section czM_section 5 (some .int) 3 := ⟨xk_goodV gWS xk_m631 xk_m544 xk_m545 xk_m53 xk_m546, ⟨by decide, by decide⟩, by decide +kernel⟩
theorem vfzL_119 : xk_VF xk_WS RzL 119 yzM_earliest czM_earliest 4 (some .int) 1 := ⟨xk_goodV gWS xk_m632 xk_m547 xk_m548 xk_m53 xk_m549, ⟨by decide, by decide⟩, by decide +kernel⟩
theorem vfzL_122 : xk_VF xk_WS RzL 122 yzM_about czM_about 2 (some .int) 1 := ⟨xk_goodV gWS xk_m633 xk_m550 xk_m551 xk_m53 xk_m552, ⟨by decide, by decide⟩, by decide +kernel⟩
theorem vfzL_125 : xk_VF xk_WS RzL 125 yzM_event czM_event 3 (some .int) 2 := ⟨xk_goodV gWS xk_m634 xk_m553 xk_m554 xk_m53 xk_m555, ⟨by decide, by decide⟩, by decide +kernel⟩
