-- ===== PART A: goes FIRST, ahead of the names: the tables' words, and 'selects' of the private methods out of them =====
/-- a private method of a class that the tables say can be made, by its rows of tables_1 -/
def lw_okq (q : MethodName × Nat) : Prop := (q.1.cls ≠ "java/lang/invoke/MethodHandle" ∧ q.1.cls ≠ "java/lang/invoke/VarHandle") ∧ Cond.instantiable q.1.cls q.2 ∈ tables_1 ∧ Cond.privateMethod q.1 ∈ tables_1 ∧ Cond.instanceMethod q.1 ∈ tables_1
theorem lw_p0 : lw_okq (⟨"RoomFills$Table", "passOver", "(I)V"⟩, 6) := ⟨⟨by decide +kernel, by decide +kernel⟩, List.mem_of_getElem? (i := 133) (by decide +kernel), List.mem_of_getElem? (i := 304) (by decide +kernel), List.mem_of_getElem? (i := 305) (by decide +kernel)⟩
theorem lw_p1 : lw_okq (⟨"RoomFills$Table", "fillStep", "(II)V"⟩, 6) := ⟨⟨by decide +kernel, by decide +kernel⟩, List.mem_of_getElem? (i := 133) (by decide +kernel), List.mem_of_getElem? (i := 312) (by decide +kernel), List.mem_of_getElem? (i := 313) (by decide +kernel)⟩
theorem lw_p2 : lw_okq (⟨"RoomFills$Table", "itemsThatFit", "(II)I"⟩, 6) := ⟨⟨by decide +kernel, by decide +kernel⟩, List.mem_of_getElem? (i := 133) (by decide +kernel), List.mem_of_getElem? (i := 320) (by decide +kernel), List.mem_of_getElem? (i := 321) (by decide +kernel)⟩
theorem lw_p3 : lw_okq (⟨"RoomFills$Table", "fillCell", "(II)V"⟩, 6) := ⟨⟨by decide +kernel, by decide +kernel⟩, List.mem_of_getElem? (i := 133) (by decide +kernel), List.mem_of_getElem? (i := 333) (by decide +kernel), List.mem_of_getElem? (i := 334) (by decide +kernel)⟩
theorem lw_p4 : lw_okq (⟨"RoomFills$Table", "bestWithFiller", "(II)J"⟩, 6) := ⟨⟨by decide +kernel, by decide +kernel⟩, List.mem_of_getElem? (i := 133) (by decide +kernel), List.mem_of_getElem? (i := 337) (by decide +kernel), List.mem_of_getElem? (i := 338) (by decide +kernel)⟩
theorem lw_p5 : lw_okq (⟨"RoomFills$Table", "offerItem", "(IIJ)V"⟩, 6) := ⟨⟨by decide +kernel, by decide +kernel⟩, List.mem_of_getElem? (i := 133) (by decide +kernel), List.mem_of_getElem? (i := 344) (by decide +kernel), List.mem_of_getElem? (i := 345) (by decide +kernel)⟩
theorem lw_p6 : lw_okq (⟨"RoomFills", "tellPlan", "(I)I"⟩, 7) := ⟨⟨by decide +kernel, by decide +kernel⟩, List.mem_of_getElem? (i := 20) (by decide +kernel), List.mem_of_getElem? (i := 348) (by decide +kernel), List.mem_of_getElem? (i := 349) (by decide +kernel)⟩
theorem lw_p7 : lw_okq (⟨"RoomFills$Planner", "offerSet", "(I)V"⟩, 10) := ⟨⟨by decide +kernel, by decide +kernel⟩, List.mem_of_getElem? (i := 127) (by decide +kernel), List.mem_of_getElem? (i := 365) (by decide +kernel), List.mem_of_getElem? (i := 366) (by decide +kernel)⟩
theorem lw_p8 : lw_okq (⟨"RoomFills$Planner", "takeItem", "()Z"⟩, 10) := ⟨⟨by decide +kernel, by decide +kernel⟩, List.mem_of_getElem? (i := 127) (by decide +kernel), List.mem_of_getElem? (i := 388) (by decide +kernel), List.mem_of_getElem? (i := 389) (by decide +kernel)⟩
theorem lw_p9 : lw_okq (⟨"RoomFills$Planner", "keepSets", "(II)Z"⟩, 10) := ⟨⟨by decide +kernel, by decide +kernel⟩, List.mem_of_getElem? (i := 127) (by decide +kernel), List.mem_of_getElem? (i := 392) (by decide +kernel), List.mem_of_getElem? (i := 393) (by decide +kernel)⟩
theorem lw_p10 : lw_okq (⟨"RoomFills$Planner", "takePiece", "(II)V"⟩, 10) := ⟨⟨by decide +kernel, by decide +kernel⟩, List.mem_of_getElem? (i := 127) (by decide +kernel), List.mem_of_getElem? (i := 412) (by decide +kernel), List.mem_of_getElem? (i := 413) (by decide +kernel)⟩
theorem lw_p11 : lw_okq (⟨"RoomFills$Plan", "addToTops", "(II)V"⟩, 11) := ⟨⟨by decide +kernel, by decide +kernel⟩, List.mem_of_getElem? (i := 160) (by decide +kernel), List.mem_of_getElem? (i := 420) (by decide +kernel), List.mem_of_getElem? (i := 421) (by decide +kernel)⟩
theorem lw_p12 : lw_okq (⟨"RoomFills$Planner", "takeFiller", "()Z"⟩, 10) := ⟨⟨by decide +kernel, by decide +kernel⟩, List.mem_of_getElem? (i := 127) (by decide +kernel), List.mem_of_getElem? (i := 424) (by decide +kernel), List.mem_of_getElem? (i := 425) (by decide +kernel)⟩
theorem lw_p13 : lw_okq (⟨"RoomFills$Row", "someIsOffTheWall", "()Z"⟩, 4) := ⟨⟨by decide +kernel, by decide +kernel⟩, List.mem_of_getElem? (i := 245) (by decide +kernel), List.mem_of_getElem? (i := 436) (by decide +kernel), List.mem_of_getElem? (i := 437) (by decide +kernel)⟩
theorem lw_p14 : lw_okq (⟨"RoomFills$Row", "isPut", "(I)Z"⟩, 4) := ⟨⟨by decide +kernel, by decide +kernel⟩, List.mem_of_getElem? (i := 245) (by decide +kernel), List.mem_of_getElem? (i := 440) (by decide +kernel), List.mem_of_getElem? (i := 441) (by decide +kernel)⟩
theorem lw_p15 : lw_okq (⟨"RoomFills$Row", "someShareAStep", "()Z"⟩, 4) := ⟨⟨by decide +kernel, by decide +kernel⟩, List.mem_of_getElem? (i := 245) (by decide +kernel), List.mem_of_getElem? (i := 448) (by decide +kernel), List.mem_of_getElem? (i := 449) (by decide +kernel)⟩
def lw_privs_1 : List (MethodName × Nat) := [(⟨"RoomFills$Table", "passOver", "(I)V"⟩, 6), (⟨"RoomFills$Table", "fillStep", "(II)V"⟩, 6), (⟨"RoomFills$Table", "itemsThatFit", "(II)I"⟩, 6), (⟨"RoomFills$Table", "fillCell", "(II)V"⟩, 6), (⟨"RoomFills$Table", "bestWithFiller", "(II)J"⟩, 6), (⟨"RoomFills$Table", "offerItem", "(IIJ)V"⟩, 6), (⟨"RoomFills", "tellPlan", "(I)I"⟩, 7), (⟨"RoomFills$Planner", "offerSet", "(I)V"⟩, 10), (⟨"RoomFills$Planner", "takeItem", "()Z"⟩, 10), (⟨"RoomFills$Planner", "keepSets", "(II)Z"⟩, 10), (⟨"RoomFills$Planner", "takePiece", "(II)V"⟩, 10), (⟨"RoomFills$Plan", "addToTops", "(II)V"⟩, 11), (⟨"RoomFills$Planner", "takeFiller", "()Z"⟩, 10), (⟨"RoomFills$Row", "someIsOffTheWall", "()Z"⟩, 4), (⟨"RoomFills$Row", "isPut", "(I)Z"⟩, 4), (⟨"RoomFills$Row", "someShareAStep", "()Z"⟩, 4)]
theorem lw_r1 : ∀ q ∈ lw_privs_1, lw_okq q := List.forall_mem_cons.mpr ⟨lw_p0, List.forall_mem_cons.mpr ⟨lw_p1, List.forall_mem_cons.mpr ⟨lw_p2, List.forall_mem_cons.mpr ⟨lw_p3, List.forall_mem_cons.mpr ⟨lw_p4, List.forall_mem_cons.mpr ⟨lw_p5, List.forall_mem_cons.mpr ⟨lw_p6, List.forall_mem_cons.mpr ⟨lw_p7, List.forall_mem_cons.mpr ⟨lw_p8, List.forall_mem_cons.mpr ⟨lw_p9, List.forall_mem_cons.mpr ⟨lw_p10, List.forall_mem_cons.mpr ⟨lw_p11, List.forall_mem_cons.mpr ⟨lw_p12, List.forall_mem_cons.mpr ⟨lw_p13, List.forall_mem_cons.mpr ⟨lw_p14, List.forall_mem_cons.mpr ⟨lw_p15, fun _ h => absurd h List.not_mem_nil⟩⟩⟩⟩⟩⟩⟩⟩⟩⟩⟩⟩⟩⟩⟩⟩
theorem lw_p16 : lw_okq (⟨"RoomFills$Row", "doShare", "(II)Z"⟩, 4) := ⟨⟨by decide +kernel, by decide +kernel⟩, List.mem_of_getElem? (i := 245) (by decide +kernel), List.mem_of_getElem? (i := 452) (by decide +kernel), List.mem_of_getElem? (i := 453) (by decide +kernel)⟩
theorem lw_p17 : lw_okq (⟨"RoomFills$Row", "endOf", "(I)I"⟩, 4) := ⟨⟨by decide +kernel, by decide +kernel⟩, List.mem_of_getElem? (i := 245) (by decide +kernel), List.mem_of_getElem? (i := 456) (by decide +kernel), List.mem_of_getElem? (i := 457) (by decide +kernel)⟩
theorem lw_p18 : lw_okq (⟨"RoomFills$Row", "someIsOnAFreeStep", "()Z"⟩, 4) := ⟨⟨by decide +kernel, by decide +kernel⟩, List.mem_of_getElem? (i := 245) (by decide +kernel), List.mem_of_getElem? (i := 460) (by decide +kernel), List.mem_of_getElem? (i := 461) (by decide +kernel)⟩
theorem lw_p19 : lw_okq (⟨"RoomFills$Row", "isCovered", "(I)Z"⟩, 4) := ⟨⟨by decide +kernel, by decide +kernel⟩, List.mem_of_getElem? (i := 245) (by decide +kernel), List.mem_of_getElem? (i := 464) (by decide +kernel), List.mem_of_getElem? (i := 465) (by decide +kernel)⟩
theorem lw_p20 : lw_okq (⟨"RoomFills$Row", "covers", "(II)Z"⟩, 4) := ⟨⟨by decide +kernel, by decide +kernel⟩, List.mem_of_getElem? (i := 245) (by decide +kernel), List.mem_of_getElem? (i := 468) (by decide +kernel), List.mem_of_getElem? (i := 469) (by decide +kernel)⟩
theorem lw_p21 : lw_okq (⟨"RoomFills$Row", "putSet", "()I"⟩, 4) := ⟨⟨by decide +kernel, by decide +kernel⟩, List.mem_of_getElem? (i := 245) (by decide +kernel), List.mem_of_getElem? (i := 472) (by decide +kernel), List.mem_of_getElem? (i := 473) (by decide +kernel)⟩
theorem lw_p22 : lw_okq (⟨"RoomFills$Row", "someNeedIsNotMet", "()Z"⟩, 4) := ⟨⟨by decide +kernel, by decide +kernel⟩, List.mem_of_getElem? (i := 245) (by decide +kernel), List.mem_of_getElem? (i := 476) (by decide +kernel), List.mem_of_getElem? (i := 477) (by decide +kernel)⟩
theorem lw_p23 : lw_okq (⟨"RoomFills$Row", "someBarredTouch", "()Z"⟩, 4) := ⟨⟨by decide +kernel, by decide +kernel⟩, List.mem_of_getElem? (i := 245) (by decide +kernel), List.mem_of_getElem? (i := 481) (by decide +kernel), List.mem_of_getElem? (i := 482) (by decide +kernel)⟩
theorem lw_p24 : lw_okq (⟨"RoomFills$Row", "doTouch", "(II)Z"⟩, 4) := ⟨⟨by decide +kernel, by decide +kernel⟩, List.mem_of_getElem? (i := 245) (by decide +kernel), List.mem_of_getElem? (i := 486) (by decide +kernel), List.mem_of_getElem? (i := 487) (by decide +kernel)⟩
theorem lw_p25 : lw_okq (⟨"RoomFills$Row", "someGapIsNoFiller", "()Z"⟩, 4) := ⟨⟨by decide +kernel, by decide +kernel⟩, List.mem_of_getElem? (i := 245) (by decide +kernel), List.mem_of_getElem? (i := 490) (by decide +kernel), List.mem_of_getElem? (i := 491) (by decide +kernel)⟩
theorem lw_p26 : lw_okq (⟨"java/lang/Throwable", "fillInStackTrace", "(I)Ljava/lang/Throwable;"⟩, 6) := ⟨⟨by decide +kernel, by decide +kernel⟩, List.mem_of_getElem? (i := 557) (by decide +kernel), List.mem_of_getElem? (i := 555) (by decide +kernel), List.mem_of_getElem? (i := 556) (by decide +kernel)⟩
theorem lw_p27 : lw_okq (⟨"RoomFills", "news", "(Z)Z"⟩, 7) := ⟨⟨by decide +kernel, by decide +kernel⟩, List.mem_of_getElem? (i := 20) (by decide +kernel), List.mem_of_getElem? (i := 591) (by decide +kernel), List.mem_of_getElem? (i := 592) (by decide +kernel)⟩
theorem lw_p28 : lw_okq (⟨"RoomFills", "demandItem", "(I)V"⟩, 7) := ⟨⟨by decide +kernel, by decide +kernel⟩, List.mem_of_getElem? (i := 20) (by decide +kernel), List.mem_of_getElem? (i := 649) (by decide +kernel), List.mem_of_getElem? (i := 650) (by decide +kernel)⟩
theorem lw_p29 : lw_okq (⟨"RoomFills", "demandPair", "(II)V"⟩, 7) := ⟨⟨by decide +kernel, by decide +kernel⟩, List.mem_of_getElem? (i := 20) (by decide +kernel), List.mem_of_getElem? (i := 681) (by decide +kernel), List.mem_of_getElem? (i := 682) (by decide +kernel)⟩
theorem lw_p30 : lw_okq (⟨"RoomFills", "demandPlan", "()V"⟩, 7) := ⟨⟨by decide +kernel, by decide +kernel⟩, List.mem_of_getElem? (i := 20) (by decide +kernel), List.mem_of_getElem? (i := 734) (by decide +kernel), List.mem_of_getElem? (i := 735) (by decide +kernel)⟩
theorem lw_p31 : lw_okq (⟨"RoomFillsModel", "change", "()V"⟩, 30) := ⟨⟨by decide +kernel, by decide +kernel⟩, List.mem_of_getElem? (i := 785) (by decide +kernel), List.mem_of_getElem? (i := 890) (by decide +kernel), List.mem_of_getElem? (i := 891) (by decide +kernel)⟩
def lw_privs_2 : List (MethodName × Nat) := [(⟨"RoomFills$Row", "doShare", "(II)Z"⟩, 4), (⟨"RoomFills$Row", "endOf", "(I)I"⟩, 4), (⟨"RoomFills$Row", "someIsOnAFreeStep", "()Z"⟩, 4), (⟨"RoomFills$Row", "isCovered", "(I)Z"⟩, 4), (⟨"RoomFills$Row", "covers", "(II)Z"⟩, 4), (⟨"RoomFills$Row", "putSet", "()I"⟩, 4), (⟨"RoomFills$Row", "someNeedIsNotMet", "()Z"⟩, 4), (⟨"RoomFills$Row", "someBarredTouch", "()Z"⟩, 4), (⟨"RoomFills$Row", "doTouch", "(II)Z"⟩, 4), (⟨"RoomFills$Row", "someGapIsNoFiller", "()Z"⟩, 4), (⟨"java/lang/Throwable", "fillInStackTrace", "(I)Ljava/lang/Throwable;"⟩, 6), (⟨"RoomFills", "news", "(Z)Z"⟩, 7), (⟨"RoomFills", "demandItem", "(I)V"⟩, 7), (⟨"RoomFills", "demandPair", "(II)V"⟩, 7), (⟨"RoomFills", "demandPlan", "()V"⟩, 7), (⟨"RoomFillsModel", "change", "()V"⟩, 30)]
theorem lw_r2 : ∀ q ∈ lw_privs_2, lw_okq q := List.forall_mem_cons.mpr ⟨lw_p16, List.forall_mem_cons.mpr ⟨lw_p17, List.forall_mem_cons.mpr ⟨lw_p18, List.forall_mem_cons.mpr ⟨lw_p19, List.forall_mem_cons.mpr ⟨lw_p20, List.forall_mem_cons.mpr ⟨lw_p21, List.forall_mem_cons.mpr ⟨lw_p22, List.forall_mem_cons.mpr ⟨lw_p23, List.forall_mem_cons.mpr ⟨lw_p24, List.forall_mem_cons.mpr ⟨lw_p25, List.forall_mem_cons.mpr ⟨lw_p26, List.forall_mem_cons.mpr ⟨lw_p27, List.forall_mem_cons.mpr ⟨lw_p28, List.forall_mem_cons.mpr ⟨lw_p29, List.forall_mem_cons.mpr ⟨lw_p30, List.forall_mem_cons.mpr ⟨lw_p31, fun _ h => absurd h List.not_mem_nil⟩⟩⟩⟩⟩⟩⟩⟩⟩⟩⟩⟩⟩⟩⟩⟩
theorem lw_p32 : lw_okq (⟨"RoomFillsModel", "isItem", "(I)Z"⟩, 30) := ⟨⟨by decide +kernel, by decide +kernel⟩, List.mem_of_getElem? (i := 785) (by decide +kernel), List.mem_of_getElem? (i := 911) (by decide +kernel), List.mem_of_getElem? (i := 912) (by decide +kernel)⟩
theorem lw_p33 : lw_okq (⟨"RoomFillsModel", "pairCode", "(II)I"⟩, 30) := ⟨⟨by decide +kernel, by decide +kernel⟩, List.mem_of_getElem? (i := 785) (by decide +kernel), List.mem_of_getElem? (i := 921) (by decide +kernel), List.mem_of_getElem? (i := 922) (by decide +kernel)⟩
theorem lw_p34 : lw_okq (⟨"RoomFillsModel", "find", "(I)Z"⟩, 30) := ⟨⟨by decide +kernel, by decide +kernel⟩, List.mem_of_getElem? (i := 785) (by decide +kernel), List.mem_of_getElem? (i := 941) (by decide +kernel), List.mem_of_getElem? (i := 942) (by decide +kernel)⟩
theorem lw_p35 : lw_okq (⟨"RoomFillsModel", "fill", "()V"⟩, 30) := ⟨⟨by decide +kernel, by decide +kernel⟩, List.mem_of_getElem? (i := 785) (by decide +kernel), List.mem_of_getElem? (i := 948) (by decide +kernel), List.mem_of_getElem? (i := 949) (by decide +kernel)⟩
theorem lw_p36 : lw_okq (⟨"RoomFillsModel", "look", "()V"⟩, 30) := ⟨⟨by decide +kernel, by decide +kernel⟩, List.mem_of_getElem? (i := 785) (by decide +kernel), List.mem_of_getElem? (i := 952) (by decide +kernel), List.mem_of_getElem? (i := 953) (by decide +kernel)⟩
theorem lw_p37 : lw_okq (⟨"RoomFillsModel", "isNeeded", "(II)Z"⟩, 30) := ⟨⟨by decide +kernel, by decide +kernel⟩, List.mem_of_getElem? (i := 785) (by decide +kernel), List.mem_of_getElem? (i := 956) (by decide +kernel), List.mem_of_getElem? (i := 957) (by decide +kernel)⟩
theorem lw_p38 : lw_okq (⟨"RoomFillsModel", "fillAt", "(III)V"⟩, 30) := ⟨⟨by decide +kernel, by decide +kernel⟩, List.mem_of_getElem? (i := 785) (by decide +kernel), List.mem_of_getElem? (i := 960) (by decide +kernel), List.mem_of_getElem? (i := 961) (by decide +kernel)⟩
theorem lw_p39 : lw_okq (⟨"RoomFillsModel", "behindFree", "(I)I"⟩, 30) := ⟨⟨by decide +kernel, by decide +kernel⟩, List.mem_of_getElem? (i := 785) (by decide +kernel), List.mem_of_getElem? (i := 967) (by decide +kernel), List.mem_of_getElem? (i := 968) (by decide +kernel)⟩
theorem lw_p40 : lw_okq (⟨"RoomFillsModel", "choose", "(IIJJ)V"⟩, 30) := ⟨⟨by decide +kernel, by decide +kernel⟩, List.mem_of_getElem? (i := 785) (by decide +kernel), List.mem_of_getElem? (i := 971) (by decide +kernel), List.mem_of_getElem? (i := 972) (by decide +kernel)⟩
theorem lw_p41 : lw_okq (⟨"RoomFillsModel", "mayStand", "(IIII)Z"⟩, 30) := ⟨⟨by decide +kernel, by decide +kernel⟩, List.mem_of_getElem? (i := 785) (by decide +kernel), List.mem_of_getElem? (i := 975) (by decide +kernel), List.mem_of_getElem? (i := 976) (by decide +kernel)⟩
theorem lw_p42 : lw_okq (⟨"RoomFillsModel", "isClear", "(II)Z"⟩, 30) := ⟨⟨by decide +kernel, by decide +kernel⟩, List.mem_of_getElem? (i := 785) (by decide +kernel), List.mem_of_getElem? (i := 979) (by decide +kernel), List.mem_of_getElem? (i := 980) (by decide +kernel)⟩
theorem lw_p43 : lw_okq (⟨"RoomFillsModel", "worthBehind", "(II)J"⟩, 30) := ⟨⟨by decide +kernel, by decide +kernel⟩, List.mem_of_getElem? (i := 785) (by decide +kernel), List.mem_of_getElem? (i := 983) (by decide +kernel), List.mem_of_getElem? (i := 984) (by decide +kernel)⟩
theorem lw_p44 : lw_okq (⟨"RoomFillsModel", "walk", "()I"⟩, 30) := ⟨⟨by decide +kernel, by decide +kernel⟩, List.mem_of_getElem? (i := 785) (by decide +kernel), List.mem_of_getElem? (i := 987) (by decide +kernel), List.mem_of_getElem? (i := 988) (by decide +kernel)⟩
theorem lw_p45 : lw_okq (⟨"RoomFillsModel", "goesOn", "(IIJJ)Z"⟩, 30) := ⟨⟨by decide +kernel, by decide +kernel⟩, List.mem_of_getElem? (i := 785) (by decide +kernel), List.mem_of_getElem? (i := 991) (by decide +kernel), List.mem_of_getElem? (i := 992) (by decide +kernel)⟩
theorem lw_p46 : lw_okq (⟨"RoomFillsModel", "add", "(III)V"⟩, 30) := ⟨⟨by decide +kernel, by decide +kernel⟩, List.mem_of_getElem? (i := 785) (by decide +kernel), List.mem_of_getElem? (i := 995) (by decide +kernel), List.mem_of_getElem? (i := 996) (by decide +kernel)⟩
theorem lw_p47 : lw_okq (⟨"RoomFillsModel", "none", "()Z"⟩, 30) := ⟨⟨by decide +kernel, by decide +kernel⟩, List.mem_of_getElem? (i := 785) (by decide +kernel), List.mem_of_getElem? (i := 1008) (by decide +kernel), List.mem_of_getElem? (i := 1009) (by decide +kernel)⟩
def lw_privs_3 : List (MethodName × Nat) := [(⟨"RoomFillsModel", "isItem", "(I)Z"⟩, 30), (⟨"RoomFillsModel", "pairCode", "(II)I"⟩, 30), (⟨"RoomFillsModel", "find", "(I)Z"⟩, 30), (⟨"RoomFillsModel", "fill", "()V"⟩, 30), (⟨"RoomFillsModel", "look", "()V"⟩, 30), (⟨"RoomFillsModel", "isNeeded", "(II)Z"⟩, 30), (⟨"RoomFillsModel", "fillAt", "(III)V"⟩, 30), (⟨"RoomFillsModel", "behindFree", "(I)I"⟩, 30), (⟨"RoomFillsModel", "choose", "(IIJJ)V"⟩, 30), (⟨"RoomFillsModel", "mayStand", "(IIII)Z"⟩, 30), (⟨"RoomFillsModel", "isClear", "(II)Z"⟩, 30), (⟨"RoomFillsModel", "worthBehind", "(II)J"⟩, 30), (⟨"RoomFillsModel", "walk", "()I"⟩, 30), (⟨"RoomFillsModel", "goesOn", "(IIJJ)Z"⟩, 30), (⟨"RoomFillsModel", "add", "(III)V"⟩, 30), (⟨"RoomFillsModel", "none", "()Z"⟩, 30)]
theorem lw_r3 : ∀ q ∈ lw_privs_3, lw_okq q := List.forall_mem_cons.mpr ⟨lw_p32, List.forall_mem_cons.mpr ⟨lw_p33, List.forall_mem_cons.mpr ⟨lw_p34, List.forall_mem_cons.mpr ⟨lw_p35, List.forall_mem_cons.mpr ⟨lw_p36, List.forall_mem_cons.mpr ⟨lw_p37, List.forall_mem_cons.mpr ⟨lw_p38, List.forall_mem_cons.mpr ⟨lw_p39, List.forall_mem_cons.mpr ⟨lw_p40, List.forall_mem_cons.mpr ⟨lw_p41, List.forall_mem_cons.mpr ⟨lw_p42, List.forall_mem_cons.mpr ⟨lw_p43, List.forall_mem_cons.mpr ⟨lw_p44, List.forall_mem_cons.mpr ⟨lw_p45, List.forall_mem_cons.mpr ⟨lw_p46, List.forall_mem_cons.mpr ⟨lw_p47, fun _ h => absurd h List.not_mem_nil⟩⟩⟩⟩⟩⟩⟩⟩⟩⟩⟩⟩⟩⟩⟩⟩
theorem lw_p48 : lw_okq (⟨"RoomFillsModel", "beginsTop", "(I)Z"⟩, 30) := ⟨⟨by decide +kernel, by decide +kernel⟩, List.mem_of_getElem? (i := 785) (by decide +kernel), List.mem_of_getElem? (i := 1025) (by decide +kernel), List.mem_of_getElem? (i := 1026) (by decide +kernel)⟩
theorem lw_p49 : lw_okq (⟨"RoomFillsModel", "hasGap", "()Z"⟩, 30) := ⟨⟨by decide +kernel, by decide +kernel⟩, List.mem_of_getElem? (i := 785) (by decide +kernel), List.mem_of_getElem? (i := 1039) (by decide +kernel), List.mem_of_getElem? (i := 1040) (by decide +kernel)⟩
theorem lw_p50 : lw_okq (⟨"RoomFillsModel", "covers", "(II)Z"⟩, 30) := ⟨⟨by decide +kernel, by decide +kernel⟩, List.mem_of_getElem? (i := 785) (by decide +kernel), List.mem_of_getElem? (i := 1043) (by decide +kernel), List.mem_of_getElem? (i := 1044) (by decide +kernel)⟩
theorem lw_p51 : lw_okq (⟨"RoomFillsModel", "isPut", "(I)Z"⟩, 30) := ⟨⟨by decide +kernel, by decide +kernel⟩, List.mem_of_getElem? (i := 785) (by decide +kernel), List.mem_of_getElem? (i := 1047) (by decide +kernel), List.mem_of_getElem? (i := 1048) (by decide +kernel)⟩
theorem lw_p52 : lw_okq (⟨"RoomFillsModel", "touch", "(II)Z"⟩, 30) := ⟨⟨by decide +kernel, by decide +kernel⟩, List.mem_of_getElem? (i := 785) (by decide +kernel), List.mem_of_getElem? (i := 1051) (by decide +kernel), List.mem_of_getElem? (i := 1052) (by decide +kernel)⟩
def lw_privs_4 : List (MethodName × Nat) := [(⟨"RoomFillsModel", "beginsTop", "(I)Z"⟩, 30), (⟨"RoomFillsModel", "hasGap", "()Z"⟩, 30), (⟨"RoomFillsModel", "covers", "(II)Z"⟩, 30), (⟨"RoomFillsModel", "isPut", "(I)Z"⟩, 30), (⟨"RoomFillsModel", "touch", "(II)Z"⟩, 30)]
theorem lw_r4 : ∀ q ∈ lw_privs_4, lw_okq q := List.forall_mem_cons.mpr ⟨lw_p48, List.forall_mem_cons.mpr ⟨lw_p49, List.forall_mem_cons.mpr ⟨lw_p50, List.forall_mem_cons.mpr ⟨lw_p51, List.forall_mem_cons.mpr ⟨lw_p52, fun _ h => absurd h List.not_mem_nil⟩⟩⟩⟩⟩
def lw_privs : List (MethodName × Nat) := lw_privs_1 ++ (lw_privs_2 ++ (lw_privs_3 ++ (lw_privs_4)))
def lw_tbl : List Cond := k2_sels lw_privs ++ tables_1
theorem lw_privs_ok : ∀ q ∈ lw_privs, lw_okq q := by
  show ∀ q ∈ lw_privs_1 ++ (lw_privs_2 ++ (lw_privs_3 ++ (lw_privs_4))), lw_okq q
  exact List.forall_mem_append.mpr ⟨lw_r1, List.forall_mem_append.mpr ⟨lw_r2, List.forall_mem_append.mpr ⟨lw_r3, lw_r4⟩⟩⟩
def R_RoomFills : String := "RoomFills"
def R_Fillers : String := "RoomFills$Fillers"
def R_Items : String := "RoomFills$Items"
def R_Plan : String := "RoomFills$Plan"
def R_Planner : String := "RoomFills$Planner"
def R_Row : String := "RoomFills$Row"
def R_Table : String := "RoomFills$Table"
def R_Wall : String := "RoomFills$Wall"
def R_Law : String := "RoomFillsLaw"
def R_Model : String := "RoomFillsModel"
def R_Integer : String := "java/lang/Integer"
def R_Arrays : String := "java/util/Arrays"
def F_RoomFills : u_T := fun k => match k with
  | 0 => ("RoomFills", "wall", "LRoomFills$Wall;", true)
  | 1 => ("RoomFills", "items", "LRoomFills$Items;", true)
  | 2 => ("RoomFills", "fillers", "LRoomFills$Fillers;", true)
  | 3 => ("RoomFills", "planner", "LRoomFills$Planner;", true)
  | 4 => ("RoomFills", "placed", "LRoomFills$Row;", true)
  | 5 => ("RoomFills", "toldSets", "[I", true)
  | _ => ("RoomFills", "toldCount", "I", false)
def t_RoomFills : Nat → FieldType := fun k => match k with
  | 0 => .object "RoomFills$Wall"
  | 1 => .object "RoomFills$Items"
  | 2 => .object "RoomFills$Fillers"
  | 3 => .object "RoomFills$Planner"
  | 4 => .object "RoomFills$Row"
  | 5 => .array .int
  | _ => .int
theorem n_RoomFills : ∀ a, a < 7 → ∀ b, b < 7 → a ≠ b → (F_RoomFills a).2.1 ≠ (F_RoomFills b).2.1 := by decide +kernel
theorem t_RoomFills_ok : ∀ k, k < 7 → parseFieldDescriptor (F_RoomFills k).2.2.1 = some (t_RoomFills k) := by decide +kernel
def F_Wall : u_T := fun k => match k with
  | 0 => ("RoomFills$Wall", "steps", "I", true)
  | 1 => ("RoomFills$Wall", "free", "[Z", true)
  | 2 => ("RoomFills$Wall", "pipes", "[I", true)
  | _ => ("RoomFills$Wall", "pipeCount", "I", false)
def t_Wall : Nat → FieldType := fun k => match k with
  | 0 => .int
  | 1 => .array .boolean
  | 2 => .array .int
  | _ => .int
theorem n_Wall : ∀ a, a < 4 → ∀ b, b < 4 → a ≠ b → (F_Wall a).2.1 ≠ (F_Wall b).2.1 := by decide +kernel
theorem t_Wall_ok : ∀ k, k < 4 → parseFieldDescriptor (F_Wall k).2.2.1 = some (t_Wall k) := by decide +kernel
def F_Items : u_T := fun k => match k with
  | 0 => ("RoomFills$Items", "width", "[I", true)
  | 1 => ("RoomFills$Items", "needMost", "[I", true)
  | 2 => ("RoomFills$Items", "barredSet", "[I", true)
  | 3 => ("RoomFills$Items", "nearWorth", "[J", true)
  | 4 => ("RoomFills$Items", "setWidth", "[I", true)
  | 5 => ("RoomFills$Items", "setWorth", "[J", true)
  | 6 => ("RoomFills$Items", "setCents", "[J", true)
  | 7 => ("RoomFills$Items", "mustSet", "I", false)
  | _ => ("RoomFills$Items", "count", "I", false)
def t_Items : Nat → FieldType := fun k => match k with
  | 0 => .array .int
  | 1 => .array .int
  | 2 => .array .int
  | 3 => .array .long
  | 4 => .array .int
  | 5 => .array .long
  | 6 => .array .long
  | 7 => .int
  | _ => .int
theorem n_Items : ∀ a, a < 9 → ∀ b, b < 9 → a ≠ b → (F_Items a).2.1 ≠ (F_Items b).2.1 := by decide +kernel
theorem t_Items_ok : ∀ k, k < 9 → parseFieldDescriptor (F_Items k).2.2.1 = some (t_Items k) := by decide +kernel
def F_Fillers : u_T := fun k => match k with
  | 0 => ("RoomFills$Fillers", "least", "I", false)
  | _ => ("RoomFills$Fillers", "most", "I", false)
def t_Fillers : Nat → FieldType := fun k => match k with
  | 0 => .int
  | _ => .int
theorem n_Fillers : ∀ a, a < 2 → ∀ b, b < 2 → a ≠ b → (F_Fillers a).2.1 ≠ (F_Fillers b).2.1 := by decide +kernel
theorem t_Fillers_ok : ∀ k, k < 2 → parseFieldDescriptor (F_Fillers k).2.2.1 = some (t_Fillers k) := by decide +kernel
def F_Table : u_T := fun k => match k with
  | 0 => ("RoomFills$Table", "wall", "LRoomFills$Wall;", true)
  | 1 => ("RoomFills$Table", "items", "LRoomFills$Items;", true)
  | 2 => ("RoomFills$Table", "fillers", "LRoomFills$Fillers;", true)
  | 3 => ("RoomFills$Table", "values", "[J", true)
  | 4 => ("RoomFills$Table", "fittingSet", "[I", true)
  | _ => ("RoomFills$Table", "longestFiller", "[I", true)
def t_Table : Nat → FieldType := fun k => match k with
  | 0 => .object "RoomFills$Wall"
  | 1 => .object "RoomFills$Items"
  | 2 => .object "RoomFills$Fillers"
  | 3 => .array .long
  | 4 => .array .int
  | _ => .array .int
theorem n_Table : ∀ a, a < 6 → ∀ b, b < 6 → a ≠ b → (F_Table a).2.1 ≠ (F_Table b).2.1 := by decide +kernel
theorem t_Table_ok : ∀ k, k < 6 → parseFieldDescriptor (F_Table k).2.2.1 = some (t_Table k) := by decide +kernel
def F_Plan : u_T := fun k => match k with
  | 0 => ("RoomFills$Plan", "pieceItem", "[I", true)
  | 1 => ("RoomFills$Plan", "pieceBegin", "[I", true)
  | 2 => ("RoomFills$Plan", "pieceSteps", "[I", true)
  | 3 => ("RoomFills$Plan", "topBegin", "[I", true)
  | 4 => ("RoomFills$Plan", "topSteps", "[I", true)
  | 5 => ("RoomFills$Plan", "beginOf", "[I", true)
  | 6 => ("RoomFills$Plan", "count", "I", false)
  | 7 => ("RoomFills$Plan", "topCount", "I", false)
  | 8 => ("RoomFills$Plan", "itemSet", "I", false)
  | 9 => ("RoomFills$Plan", "wholeWorth", "J", false)
  | _ => ("RoomFills$Plan", "wholeCents", "J", false)
def t_Plan : Nat → FieldType := fun k => match k with
  | 0 => .array .int
  | 1 => .array .int
  | 2 => .array .int
  | 3 => .array .int
  | 4 => .array .int
  | 5 => .array .int
  | 6 => .int
  | 7 => .int
  | 8 => .int
  | 9 => .long
  | _ => .long
theorem n_Plan : ∀ a, a < 11 → ∀ b, b < 11 → a ≠ b → (F_Plan a).2.1 ≠ (F_Plan b).2.1 := by decide +kernel
theorem t_Plan_ok : ∀ k, k < 11 → parseFieldDescriptor (F_Plan k).2.2.1 = some (t_Plan k) := by decide +kernel
def F_Planner : u_T := fun k => match k with
  | 0 => ("RoomFills$Planner", "wall", "LRoomFills$Wall;", true)
  | 1 => ("RoomFills$Planner", "items", "LRoomFills$Items;", true)
  | 2 => ("RoomFills$Planner", "table", "LRoomFills$Table;", true)
  | 3 => ("RoomFills$Planner", "latest", "LRoomFills$Plan;", true)
  | 4 => ("RoomFills$Planner", "tiedSets", "[I", true)
  | 5 => ("RoomFills$Planner", "tiedCount", "I", false)
  | 6 => ("RoomFills$Planner", "bestWorth", "J", false)
  | 7 => ("RoomFills$Planner", "bestCents", "J", false)
  | 8 => ("RoomFills$Planner", "at", "I", false)
  | _ => ("RoomFills$Planner", "before", "I", false)
def t_Planner : Nat → FieldType := fun k => match k with
  | 0 => .object "RoomFills$Wall"
  | 1 => .object "RoomFills$Items"
  | 2 => .object "RoomFills$Table"
  | 3 => .object "RoomFills$Plan"
  | 4 => .array .int
  | 5 => .int
  | 6 => .long
  | 7 => .long
  | 8 => .int
  | _ => .int
theorem n_Planner : ∀ a, a < 10 → ∀ b, b < 10 → a ≠ b → (F_Planner a).2.1 ≠ (F_Planner b).2.1 := by decide +kernel
theorem t_Planner_ok : ∀ k, k < 10 → parseFieldDescriptor (F_Planner k).2.2.1 = some (t_Planner k) := by decide +kernel
def F_Row : u_T := fun k => match k with
  | 0 => ("RoomFills$Row", "wall", "LRoomFills$Wall;", true)
  | 1 => ("RoomFills$Row", "items", "LRoomFills$Items;", true)
  | 2 => ("RoomFills$Row", "fillers", "LRoomFills$Fillers;", true)
  | _ => ("RoomFills$Row", "begin", "[I", true)
def t_Row : Nat → FieldType := fun k => match k with
  | 0 => .object "RoomFills$Wall"
  | 1 => .object "RoomFills$Items"
  | 2 => .object "RoomFills$Fillers"
  | _ => .array .int
theorem n_Row : ∀ a, a < 4 → ∀ b, b < 4 → a ≠ b → (F_Row a).2.1 ≠ (F_Row b).2.1 := by decide +kernel
theorem t_Row_ok : ∀ k, k < 4 → parseFieldDescriptor (F_Row k).2.2.1 = some (t_Row k) := by decide +kernel
def F_Model : u_T := fun k => match k with
  | 0 => ("RoomFillsModel", "code", "I", false)
  | 1 => ("RoomFillsModel", "steps", "I", true)
  | 2 => ("RoomFillsModel", "free", "[Z", true)
  | 3 => ("RoomFillsModel", "pipes", "I", false)
  | 4 => ("RoomFillsModel", "pipeAt", "[I", true)
  | 5 => ("RoomFillsModel", "items", "I", false)
  | 6 => ("RoomFillsModel", "widths", "[I", true)
  | 7 => ("RoomFillsModel", "worths", "[J", true)
  | 8 => ("RoomFillsModel", "cents", "[J", true)
  | 9 => ("RoomFillsModel", "needs", "[I", true)
  | 10 => ("RoomFillsModel", "musts", "[Z", true)
  | 11 => ("RoomFillsModel", "nears", "[J", true)
  | 12 => ("RoomFillsModel", "bars", "[Z", true)
  | 13 => ("RoomFillsModel", "least", "I", false)
  | 14 => ("RoomFillsModel", "most", "I", false)
  | 15 => ("RoomFillsModel", "put", "[I", true)
  | 16 => ("RoomFillsModel", "bestWorth", "[J", true)
  | 17 => ("RoomFillsModel", "bestCents", "[J", true)
  | 18 => ("RoomFillsModel", "mayEnd", "[Z", true)
  | 19 => ("RoomFillsModel", "clearFrom", "[I", true)
  | 20 => ("RoomFillsModel", "met", "[Z", true)
  | 21 => ("RoomFillsModel", "hasPlan", "Z", false)
  | 22 => ("RoomFillsModel", "told", "I", false)
  | 23 => ("RoomFillsModel", "toldSets", "[I", true)
  | 24 => ("RoomFillsModel", "pieces", "I", false)
  | 25 => ("RoomFillsModel", "pieceItem", "[I", true)
  | 26 => ("RoomFillsModel", "pieceAt", "[I", true)
  | 27 => ("RoomFillsModel", "pieceSize", "[I", true)
  | 28 => ("RoomFillsModel", "planWorth", "J", false)
  | _ => ("RoomFillsModel", "planCents", "J", false)
def t_Model : Nat → FieldType := fun k => match k with
  | 0 => .int
  | 1 => .int
  | 2 => .array .boolean
  | 3 => .int
  | 4 => .array .int
  | 5 => .int
  | 6 => .array .int
  | 7 => .array .long
  | 8 => .array .long
  | 9 => .array .int
  | 10 => .array .boolean
  | 11 => .array .long
  | 12 => .array .boolean
  | 13 => .int
  | 14 => .int
  | 15 => .array .int
  | 16 => .array .long
  | 17 => .array .long
  | 18 => .array .boolean
  | 19 => .array .int
  | 20 => .array .boolean
  | 21 => .boolean
  | 22 => .int
  | 23 => .array .int
  | 24 => .int
  | 25 => .array .int
  | 26 => .array .int
  | 27 => .array .int
  | 28 => .long
  | _ => .long
theorem n_Model : ∀ a, a < 30 → ∀ b, b < 30 → a ≠ b → (F_Model a).2.1 ≠ (F_Model b).2.1 := by decide +kernel
theorem t_Model_ok : ∀ k, k < 30 → parseFieldDescriptor (F_Model k).2.2.1 = some (t_Model k) := by decide +kernel
abbrev vwCl : List vw_C := [(R_RoomFills, F_RoomFills, 7), (R_Wall, F_Wall, 4), (R_Items, F_Items, 9), (R_Fillers, F_Fillers, 2), (R_Table, F_Table, 6), (R_Plan, F_Plan, 11), (R_Planner, F_Planner, 10), (R_Row, F_Row, 4), (R_Model, F_Model, 30)]
abbrev b_RoomFills_init : ByteArray := prog_1_method_1_code
def y_RoomFills_init : MethodName := ⟨R_RoomFills, "<init>", "(I)V"⟩
abbrev b_RoomFills_door : ByteArray := prog_1_method_2_code
def y_RoomFills_door : MethodName := ⟨R_RoomFills, "door", "(II)Z"⟩
abbrev b_RoomFills_pipe : ByteArray := prog_1_method_3_code
def y_RoomFills_pipe : MethodName := ⟨R_RoomFills, "pipe", "(I)Z"⟩
abbrev b_RoomFills_item : ByteArray := prog_1_method_4_code
def y_RoomFills_item : MethodName := ⟨R_RoomFills, "item", "(IJJ)I"⟩
abbrev b_RoomFills_need : ByteArray := prog_1_method_5_code
def y_RoomFills_need : MethodName := ⟨R_RoomFills, "need", "(II)Z"⟩
abbrev b_RoomFills_near : ByteArray := prog_1_method_6_code
def y_RoomFills_near : MethodName := ⟨R_RoomFills, "near", "(IIJ)Z"⟩
abbrev b_RoomFills_bar : ByteArray := prog_1_method_7_code
def y_RoomFills_bar : MethodName := ⟨R_RoomFills, "bar", "(II)Z"⟩
abbrev b_RoomFills_must : ByteArray := prog_1_method_8_code
def y_RoomFills_must : MethodName := ⟨R_RoomFills, "must", "(IZ)Z"⟩
abbrev b_RoomFills_filler : ByteArray := prog_1_method_9_code
def y_RoomFills_filler : MethodName := ⟨R_RoomFills, "filler", "(II)Z"⟩
abbrev b_RoomFills_run : ByteArray := prog_1_method_10_code
def y_RoomFills_run : MethodName := ⟨R_RoomFills, "run", "()I"⟩
abbrev b_RoomFills_variant : ByteArray := prog_1_method_11_code
def y_RoomFills_variant : MethodName := ⟨R_RoomFills, "variant", "(I)I"⟩
abbrev b_RoomFills_at : ByteArray := prog_1_method_12_code
def y_RoomFills_at : MethodName := ⟨R_RoomFills, "at", "(I)I"⟩
abbrev b_RoomFills_plan : ByteArray := prog_1_method_13_code
def y_RoomFills_plan : MethodName := ⟨R_RoomFills, "plan", "(II)I"⟩
abbrev b_RoomFills_worth : ByteArray := prog_1_method_14_code
def y_RoomFills_worth : MethodName := ⟨R_RoomFills, "worth", "(I)J"⟩
abbrev b_RoomFills_top : ByteArray := prog_1_method_15_code
def y_RoomFills_top : MethodName := ⟨R_RoomFills, "top", "(II)I"⟩
abbrev b_RoomFills_place : ByteArray := prog_1_method_16_code
def y_RoomFills_place : MethodName := ⟨R_RoomFills, "place", "(II)Z"⟩
abbrev b_RoomFills_check : ByteArray := prog_1_method_17_code
def y_RoomFills_check : MethodName := ⟨R_RoomFills, "check", "()I"⟩
abbrev b_RoomFills_row : ByteArray := prog_1_method_18_code
def y_RoomFills_row : MethodName := ⟨R_RoomFills, "row", "()J"⟩
abbrev b_RoomFills_news : ByteArray := prog_1_method_19_code
def y_RoomFills_news : MethodName := ⟨R_RoomFills, "news", "(Z)Z"⟩
abbrev b_RoomFills_tellPlan : ByteArray := prog_1_method_20_code
def y_RoomFills_tellPlan : MethodName := ⟨R_RoomFills, "tellPlan", "(I)I"⟩
abbrev b_RoomFills_demandPlan : ByteArray := prog_1_method_21_code
def y_RoomFills_demandPlan : MethodName := ⟨R_RoomFills, "demandPlan", "()V"⟩
abbrev b_RoomFills_demandItem : ByteArray := prog_1_method_22_code
def y_RoomFills_demandItem : MethodName := ⟨R_RoomFills, "demandItem", "(I)V"⟩
abbrev b_RoomFills_demandPair : ByteArray := prog_1_method_23_code
def y_RoomFills_demandPair : MethodName := ⟨R_RoomFills, "demandPair", "(II)V"⟩
abbrev b_RoomFills_isMoney : ByteArray := prog_1_method_24_code
def y_RoomFills_isMoney : MethodName := ⟨R_RoomFills, "isMoney", "(J)Z"⟩
abbrev b_RoomFills_hasItem : ByteArray := prog_1_method_25_code
def y_RoomFills_hasItem : MethodName := ⟨R_RoomFills, "hasItem", "(II)Z"⟩
abbrev b_Fillers_init : ByteArray := prog_2_method_1_code
def y_Fillers_init : MethodName := ⟨R_Fillers, "<init>", "()V"⟩
abbrev b_Fillers_setRange : ByteArray := prog_2_method_2_code
def y_Fillers_setRange : MethodName := ⟨R_Fillers, "setRange", "(II)Z"⟩
abbrev b_Fillers_isWidth : ByteArray := prog_2_method_3_code
def y_Fillers_isWidth : MethodName := ⟨R_Fillers, "isWidth", "(I)Z"⟩
abbrev b_Items_init : ByteArray := prog_3_method_1_code
def y_Items_init : MethodName := ⟨R_Items, "<init>", "()V"⟩
abbrev b_Items_add : ByteArray := prog_3_method_2_code
def y_Items_add : MethodName := ⟨R_Items, "add", "(IJJ)I"⟩
abbrev b_Items_setNeed : ByteArray := prog_3_method_3_code
def y_Items_setNeed : MethodName := ⟨R_Items, "setNeed", "(II)Z"⟩
abbrev b_Items_setNear : ByteArray := prog_3_method_4_code
def y_Items_setNear : MethodName := ⟨R_Items, "setNear", "(IIJ)Z"⟩
abbrev b_Items_setBarred : ByteArray := prog_3_method_5_code
def y_Items_setBarred : MethodName := ⟨R_Items, "setBarred", "(II)Z"⟩
abbrev b_Items_setMust : ByteArray := prog_3_method_6_code
def y_Items_setMust : MethodName := ⟨R_Items, "setMust", "(IZ)Z"⟩
abbrev b_Items_nearWorthOf : ByteArray := prog_3_method_7_code
def y_Items_nearWorthOf : MethodName := ⟨R_Items, "nearWorthOf", "(II)J"⟩
abbrev b_Items_isBarred : ByteArray := prog_3_method_8_code
def y_Items_isBarred : MethodName := ⟨R_Items, "isBarred", "(II)Z"⟩
abbrev b_Items_isNeedMet : ByteArray := prog_3_method_9_code
def y_Items_isNeedMet : MethodName := ⟨R_Items, "isNeedMet", "(IILRoomFills$Wall;)Z"⟩
abbrev b_Plan_init : ByteArray := prog_4_method_1_code
def y_Plan_init : MethodName := ⟨R_Plan, "<init>", "()V"⟩
abbrev b_Plan_clear : ByteArray := prog_4_method_2_code
def y_Plan_clear : MethodName := ⟨R_Plan, "clear", "(JJ)V"⟩
abbrev b_Plan_add : ByteArray := prog_4_method_3_code
def y_Plan_add : MethodName := ⟨R_Plan, "add", "(III)V"⟩
abbrev b_Plan_addToTops : ByteArray := prog_4_method_4_code
def y_Plan_addToTops : MethodName := ⟨R_Plan, "addToTops", "(II)V"⟩
abbrev b_Planner_init : ByteArray := prog_5_method_1_code
def y_Planner_init : MethodName := ⟨R_Planner, "<init>", "(LRoomFills$Wall;LRoomFills$Items;LRoomFills$Fillers;)V"⟩
abbrev b_Planner_chooseSets : ByteArray := prog_5_method_2_code
def y_Planner_chooseSets : MethodName := ⟨R_Planner, "chooseSets", "([III)Z"⟩
abbrev b_Planner_isUnlike : ByteArray := prog_5_method_3_code
def y_Planner_isUnlike : MethodName := ⟨R_Planner, "isUnlike", "(I[III)Z"⟩
abbrev b_Planner_offerSet : ByteArray := prog_5_method_4_code
def y_Planner_offerSet : MethodName := ⟨R_Planner, "offerSet", "(I)V"⟩
abbrev b_Planner_layOut : ByteArray := prog_5_method_5_code
def y_Planner_layOut : MethodName := ⟨R_Planner, "layOut", "()V"⟩
abbrev b_Planner_takeItem : ByteArray := prog_5_method_6_code
def y_Planner_takeItem : MethodName := ⟨R_Planner, "takeItem", "()Z"⟩
abbrev b_Planner_takeFiller : ByteArray := prog_5_method_7_code
def y_Planner_takeFiller : MethodName := ⟨R_Planner, "takeFiller", "()Z"⟩
abbrev b_Planner_takePiece : ByteArray := prog_5_method_8_code
def y_Planner_takePiece : MethodName := ⟨R_Planner, "takePiece", "(II)V"⟩
abbrev b_Planner_keepSets : ByteArray := prog_5_method_9_code
def y_Planner_keepSets : MethodName := ⟨R_Planner, "keepSets", "(II)Z"⟩
abbrev b_Row_init : ByteArray := prog_6_method_1_code
def y_Row_init : MethodName := ⟨R_Row, "<init>", "(LRoomFills$Wall;LRoomFills$Items;LRoomFills$Fillers;)V"⟩
abbrev b_Row_put : ByteArray := prog_6_method_2_code
def y_Row_put : MethodName := ⟨R_Row, "put", "(II)Z"⟩
abbrev b_Row_firstBrokenRule : ByteArray := prog_6_method_3_code
def y_Row_firstBrokenRule : MethodName := ⟨R_Row, "firstBrokenRule", "()I"⟩
abbrev b_Row_wholeWorth : ByteArray := prog_6_method_4_code
def y_Row_wholeWorth : MethodName := ⟨R_Row, "wholeWorth", "()J"⟩
abbrev b_Row_isPut : ByteArray := prog_6_method_5_code
def y_Row_isPut : MethodName := ⟨R_Row, "isPut", "(I)Z"⟩
abbrev b_Row_putSet : ByteArray := prog_6_method_6_code
def y_Row_putSet : MethodName := ⟨R_Row, "putSet", "()I"⟩
abbrev b_Row_endOf : ByteArray := prog_6_method_7_code
def y_Row_endOf : MethodName := ⟨R_Row, "endOf", "(I)I"⟩
abbrev b_Row_doTouch : ByteArray := prog_6_method_8_code
def y_Row_doTouch : MethodName := ⟨R_Row, "doTouch", "(II)Z"⟩
abbrev b_Row_doShare : ByteArray := prog_6_method_9_code
def y_Row_doShare : MethodName := ⟨R_Row, "doShare", "(II)Z"⟩
abbrev b_Row_covers : ByteArray := prog_6_method_10_code
def y_Row_covers : MethodName := ⟨R_Row, "covers", "(II)Z"⟩
abbrev b_Row_isCovered : ByteArray := prog_6_method_11_code
def y_Row_isCovered : MethodName := ⟨R_Row, "isCovered", "(I)Z"⟩
abbrev b_Row_someIsOffTheWall : ByteArray := prog_6_method_12_code
def y_Row_someIsOffTheWall : MethodName := ⟨R_Row, "someIsOffTheWall", "()Z"⟩
abbrev b_Row_someShareAStep : ByteArray := prog_6_method_13_code
def y_Row_someShareAStep : MethodName := ⟨R_Row, "someShareAStep", "()Z"⟩
abbrev b_Row_someIsOnAFreeStep : ByteArray := prog_6_method_14_code
def y_Row_someIsOnAFreeStep : MethodName := ⟨R_Row, "someIsOnAFreeStep", "()Z"⟩
abbrev b_Row_someNeedIsNotMet : ByteArray := prog_6_method_15_code
def y_Row_someNeedIsNotMet : MethodName := ⟨R_Row, "someNeedIsNotMet", "()Z"⟩
abbrev b_Row_someBarredTouch : ByteArray := prog_6_method_16_code
def y_Row_someBarredTouch : MethodName := ⟨R_Row, "someBarredTouch", "()Z"⟩
abbrev b_Row_someGapIsNoFiller : ByteArray := prog_6_method_17_code
def y_Row_someGapIsNoFiller : MethodName := ⟨R_Row, "someGapIsNoFiller", "()Z"⟩
abbrev b_Table_init : ByteArray := prog_7_method_1_code
def y_Table_init : MethodName := ⟨R_Table, "<init>", "(LRoomFills$Wall;LRoomFills$Items;LRoomFills$Fillers;)V"⟩
abbrev b_Table_fill : ByteArray := prog_7_method_2_code
def y_Table_fill : MethodName := ⟨R_Table, "fill", "()V"⟩
abbrev b_Table_passOver : ByteArray := prog_7_method_3_code
def y_Table_passOver : MethodName := ⟨R_Table, "passOver", "(I)V"⟩
abbrev b_Table_fillStep : ByteArray := prog_7_method_4_code
def y_Table_fillStep : MethodName := ⟨R_Table, "fillStep", "(II)V"⟩
abbrev b_Table_itemsThatFit : ByteArray := prog_7_method_5_code
def y_Table_itemsThatFit : MethodName := ⟨R_Table, "itemsThatFit", "(II)I"⟩
abbrev b_Table_fillCell : ByteArray := prog_7_method_6_code
def y_Table_fillCell : MethodName := ⟨R_Table, "fillCell", "(II)V"⟩
abbrev b_Table_bestWithFiller : ByteArray := prog_7_method_7_code
def y_Table_bestWithFiller : MethodName := ⟨R_Table, "bestWithFiller", "(II)J"⟩
abbrev b_Table_offerItem : ByteArray := prog_7_method_8_code
def y_Table_offerItem : MethodName := ⟨R_Table, "offerItem", "(IIJ)V"⟩
abbrev b_Table_isItemBest : ByteArray := prog_7_method_9_code
def y_Table_isItemBest : MethodName := ⟨R_Table, "isItemBest", "(IIII)Z"⟩
abbrev b_Table_isFillerBest : ByteArray := prog_7_method_10_code
def y_Table_isFillerBest : MethodName := ⟨R_Table, "isFillerBest", "(IIII)Z"⟩
abbrev b_Table_valueOf : ByteArray := prog_7_method_11_code
def y_Table_valueOf : MethodName := ⟨R_Table, "valueOf", "(III)J"⟩
abbrev b_Table_cell : ByteArray := prog_7_method_12_code
def y_Table_cell : MethodName := ⟨R_Table, "cell", "(II)I"⟩
abbrev b_Wall_init : ByteArray := prog_8_method_1_code
def y_Wall_init : MethodName := ⟨R_Wall, "<init>", "(I)V"⟩
abbrev b_Wall_isStep : ByteArray := prog_8_method_2_code
def y_Wall_isStep : MethodName := ⟨R_Wall, "isStep", "(I)Z"⟩
abbrev b_Wall_isFree : ByteArray := prog_8_method_3_code
def y_Wall_isFree : MethodName := ⟨R_Wall, "isFree", "(I)Z"⟩
abbrev b_Wall_makeFree : ByteArray := prog_8_method_4_code
def y_Wall_makeFree : MethodName := ⟨R_Wall, "makeFree", "(II)Z"⟩
abbrev b_Wall_addPipe : ByteArray := prog_8_method_5_code
def y_Wall_addPipe : MethodName := ⟨R_Wall, "addPipe", "(I)Z"⟩
abbrev b_Wall_hasPipeWithin : ByteArray := prog_8_method_6_code
def y_Wall_hasPipeWithin : MethodName := ⟨R_Wall, "hasPipeWithin", "(III)Z"⟩
abbrev b_Wall_holds : ByteArray := prog_8_method_7_code
def y_Wall_holds : MethodName := ⟨R_Wall, "holds", "(II)Z"⟩
abbrev b_Wall_stepsBeforeFree : ByteArray := prog_8_method_8_code
def y_Wall_stepsBeforeFree : MethodName := ⟨R_Wall, "stepsBeforeFree", "(I)I"⟩
abbrev b_Law_cell : ByteArray := method_2_code
def y_Law_cell : MethodName := ⟨R_Law, "cell", "([II)I"⟩
abbrev b_Law_door : ByteArray := method_3_code
def y_Law_door : MethodName := ⟨R_Law, "door", "(LRoomFills;II[J)I"⟩
abbrev b_Law_pipe : ByteArray := method_4_code
def y_Law_pipe : MethodName := ⟨R_Law, "pipe", "(LRoomFills;I[J)I"⟩
abbrev b_Law_item : ByteArray := method_5_code
def y_Law_item : MethodName := ⟨R_Law, "item", "(LRoomFills;IJJ[J)I"⟩
abbrev b_Law_need : ByteArray := method_6_code
def y_Law_need : MethodName := ⟨R_Law, "need", "(LRoomFills;II[J)I"⟩
abbrev b_Law_near : ByteArray := method_7_code
def y_Law_near : MethodName := ⟨R_Law, "near", "(LRoomFills;IIJ[J)I"⟩
abbrev b_Law_bar : ByteArray := method_8_code
def y_Law_bar : MethodName := ⟨R_Law, "bar", "(LRoomFills;II[J)I"⟩
abbrev b_Law_must : ByteArray := method_9_code
def y_Law_must : MethodName := ⟨R_Law, "must", "(LRoomFills;IZ[J)I"⟩
abbrev b_Law_filler : ByteArray := method_10_code
def y_Law_filler : MethodName := ⟨R_Law, "filler", "(LRoomFills;II[J)I"⟩
abbrev b_Law_variant : ByteArray := method_11_code
def y_Law_variant : MethodName := ⟨R_Law, "variant", "(LRoomFills;I[J)I"⟩
abbrev b_Law_at : ByteArray := method_12_code
def y_Law_at : MethodName := ⟨R_Law, "at", "(LRoomFills;I[J)I"⟩
abbrev b_Law_plan : ByteArray := method_13_code
def y_Law_plan : MethodName := ⟨R_Law, "plan", "(LRoomFills;II[J)I"⟩
abbrev b_Law_worth : ByteArray := method_14_code
def y_Law_worth : MethodName := ⟨R_Law, "worth", "(LRoomFills;I[J)I"⟩
abbrev b_Law_top : ByteArray := method_15_code
def y_Law_top : MethodName := ⟨R_Law, "top", "(LRoomFills;II[J)I"⟩
abbrev b_Law_place : ByteArray := method_16_code
def y_Law_place : MethodName := ⟨R_Law, "place", "(LRoomFills;II[J)I"⟩
abbrev b_Model_init : ByteArray := prog_10_method_1_code
def y_Model_init : MethodName := ⟨R_Model, "<init>", "(I)V"⟩
abbrev b_Model_thrown : ByteArray := prog_10_method_2_code
def y_Model_thrown : MethodName := ⟨R_Model, "thrown", "()I"⟩
abbrev b_Model_isIn : ByteArray := prog_10_method_3_code
def y_Model_isIn : MethodName := ⟨R_Model, "isIn", "(JJJ)Z"⟩
abbrev b_Model_change : ByteArray := prog_10_method_4_code
def y_Model_change : MethodName := ⟨R_Model, "change", "()V"⟩
abbrev b_Model_door : ByteArray := prog_10_method_5_code
def y_Model_door : MethodName := ⟨R_Model, "door", "(II)Z"⟩
abbrev b_Model_pipe : ByteArray := prog_10_method_6_code
def y_Model_pipe : MethodName := ⟨R_Model, "pipe", "(I)Z"⟩
abbrev b_Model_item : ByteArray := prog_10_method_7_code
def y_Model_item : MethodName := ⟨R_Model, "item", "(IJJ)I"⟩
abbrev b_Model_isItem : ByteArray := prog_10_method_8_code
def y_Model_isItem : MethodName := ⟨R_Model, "isItem", "(I)Z"⟩
abbrev b_Model_need : ByteArray := prog_10_method_9_code
def y_Model_need : MethodName := ⟨R_Model, "need", "(II)Z"⟩
abbrev b_Model_pairCode : ByteArray := prog_10_method_10_code
def y_Model_pairCode : MethodName := ⟨R_Model, "pairCode", "(II)I"⟩
abbrev b_Model_near : ByteArray := prog_10_method_11_code
def y_Model_near : MethodName := ⟨R_Model, "near", "(IIJ)Z"⟩
abbrev b_Model_bar : ByteArray := prog_10_method_12_code
def y_Model_bar : MethodName := ⟨R_Model, "bar", "(II)Z"⟩
abbrev b_Model_must : ByteArray := prog_10_method_13_code
def y_Model_must : MethodName := ⟨R_Model, "must", "(IZ)Z"⟩
abbrev b_Model_filler : ByteArray := prog_10_method_14_code
def y_Model_filler : MethodName := ⟨R_Model, "filler", "(II)Z"⟩
abbrev b_Model_isNeeded : ByteArray := prog_10_method_15_code
def y_Model_isNeeded : MethodName := ⟨R_Model, "isNeeded", "(II)Z"⟩
abbrev b_Model_isClear : ByteArray := prog_10_method_16_code
def y_Model_isClear : MethodName := ⟨R_Model, "isClear", "(II)Z"⟩
abbrev b_Model_look : ByteArray := prog_10_method_17_code
def y_Model_look : MethodName := ⟨R_Model, "look", "()V"⟩
abbrev b_Model_mayStand : ByteArray := prog_10_method_18_code
def y_Model_mayStand : MethodName := ⟨R_Model, "mayStand", "(IIII)Z"⟩
abbrev b_Model_index : ByteArray := prog_10_method_19_code
def y_Model_index : MethodName := ⟨R_Model, "index", "(III)I"⟩
abbrev b_Model_choose : ByteArray := prog_10_method_20_code
def y_Model_choose : MethodName := ⟨R_Model, "choose", "(IIJJ)V"⟩
abbrev b_Model_worthBehind : ByteArray := prog_10_method_21_code
def y_Model_worthBehind : MethodName := ⟨R_Model, "worthBehind", "(II)J"⟩
abbrev b_Model_behindFree : ByteArray := prog_10_method_22_code
def y_Model_behindFree : MethodName := ⟨R_Model, "behindFree", "(I)I"⟩
abbrev b_Model_fillAt : ByteArray := prog_10_method_23_code
def y_Model_fillAt : MethodName := ⟨R_Model, "fillAt", "(III)V"⟩
abbrev b_Model_fill : ByteArray := prog_10_method_24_code
def y_Model_fill : MethodName := ⟨R_Model, "fill", "()V"⟩
abbrev b_Model_goesOn : ByteArray := prog_10_method_25_code
def y_Model_goesOn : MethodName := ⟨R_Model, "goesOn", "(IIJJ)Z"⟩
abbrev b_Model_add : ByteArray := prog_10_method_26_code
def y_Model_add : MethodName := ⟨R_Model, "add", "(III)V"⟩
abbrev b_Model_walk : ByteArray := prog_10_method_27_code
def y_Model_walk : MethodName := ⟨R_Model, "walk", "()I"⟩
abbrev b_Model_size : ByteArray := prog_10_method_28_code
def y_Model_size : MethodName := ⟨R_Model, "size", "(I)I"⟩
abbrev b_Model_find : ByteArray := prog_10_method_29_code
def y_Model_find : MethodName := ⟨R_Model, "find", "(I)Z"⟩
abbrev b_Model_run : ByteArray := prog_10_method_30_code
def y_Model_run : MethodName := ⟨R_Model, "run", "()I"⟩
abbrev b_Model_variant : ByteArray := prog_10_method_31_code
def y_Model_variant : MethodName := ⟨R_Model, "variant", "(I)I"⟩
abbrev b_Model_none : ByteArray := prog_10_method_32_code
def y_Model_none : MethodName := ⟨R_Model, "none", "()Z"⟩
abbrev b_Model_at : ByteArray := prog_10_method_33_code
def y_Model_at : MethodName := ⟨R_Model, "at", "(I)I"⟩
abbrev b_Model_plan : ByteArray := prog_10_method_34_code
def y_Model_plan : MethodName := ⟨R_Model, "plan", "(II)I"⟩
abbrev b_Model_worth : ByteArray := prog_10_method_35_code
def y_Model_worth : MethodName := ⟨R_Model, "worth", "(I)J"⟩
abbrev b_Model_beginsTop : ByteArray := prog_10_method_36_code
def y_Model_beginsTop : MethodName := ⟨R_Model, "beginsTop", "(I)Z"⟩
abbrev b_Model_top : ByteArray := prog_10_method_37_code
def y_Model_top : MethodName := ⟨R_Model, "top", "(II)I"⟩
abbrev b_Model_place : ByteArray := prog_10_method_38_code
def y_Model_place : MethodName := ⟨R_Model, "place", "(II)Z"⟩
abbrev b_Model_isPut : ByteArray := prog_10_method_39_code
def y_Model_isPut : MethodName := ⟨R_Model, "isPut", "(I)Z"⟩
abbrev b_Model_touch : ByteArray := prog_10_method_40_code
def y_Model_touch : MethodName := ⟨R_Model, "touch", "(II)Z"⟩
abbrev b_Model_covers : ByteArray := prog_10_method_41_code
def y_Model_covers : MethodName := ⟨R_Model, "covers", "(II)Z"⟩
abbrev b_Model_hasGap : ByteArray := prog_10_method_42_code
def y_Model_hasGap : MethodName := ⟨R_Model, "hasGap", "()Z"⟩
abbrev b_Model_check : ByteArray := prog_10_method_43_code
def y_Model_check : MethodName := ⟨R_Model, "check", "()I"⟩
abbrev b_Model_row : ByteArray := prog_10_method_44_code
def y_Model_row : MethodName := ⟨R_Model, "row", "()J"⟩
abbrev b_Integer_bitCount : ByteArray := prog_15_method_49_code
def y_Integer_bitCount : MethodName := ⟨R_Integer, "bitCount", "(I)I"⟩
abbrev b_Arrays_fill_IIV : ByteArray := prog_20_method_103_code
def y_Arrays_fill_IIV : MethodName := ⟨R_Arrays, "fill", "([II)V"⟩
abbrev b_Arrays_fill_JJV : ByteArray := prog_20_method_101_code
def y_Arrays_fill_JJV : MethodName := ⟨R_Arrays, "fill", "([JJ)V"⟩
/-! words of the tables that are no good words, the texts, the classes apart: what a method needs of them beside its words -/
def q_NW : List Cond := [.methodLinkNest R_Table 107 y_RoomFills_hasItem R_RoomFills, .castable "java/lang/IllegalArgumentException" "java/lang/IllegalArgumentException", .declares ⟨"java/lang/RuntimeException", "<init>", "(Ljava/lang/String;)V"⟩, .declares ⟨"java/lang/Exception", "<init>", "(Ljava/lang/String;)V"⟩, .declares ⟨"java/lang/Throwable", "<init>", "(Ljava/lang/String;)V"⟩, .castable "java/lang/IllegalStateException" "java/lang/IllegalStateException", .castable "java/lang/IndexOutOfBoundsException" "java/lang/IndexOutOfBoundsException"]
def q_TX : List (Nat × String) := [(74, "no such span"), (87, "no such step"), (97, "no room for another item"), (104, "width, worth or cents out of range"), (230, "no such item"), (113, "most out of range"), (232, "both are one item"), (122, "worth out of range"), (135, "least or most out of range"), (228, "no plan"), (156, "no room for another told plan"), (158, "unlike out of range"), (172, "no such piece"), (175, "what is not 0, 1 or 2"), (186, "what is not 0 or 1"), (198, "no such top"), (206, "at out of range")]
def q_NC : List (String × String) := [("java/lang/IllegalStateException", "java/lang/IllegalArgumentException"), ("java/lang/IllegalStateException", "java/lang/IndexOutOfBoundsException"), ("java/lang/IllegalArgumentException", "java/lang/IllegalStateException"), ("java/lang/IllegalArgumentException", "java/lang/IndexOutOfBoundsException"), ("java/lang/IndexOutOfBoundsException", "java/lang/IllegalStateException"), ("java/lang/IndexOutOfBoundsException", "java/lang/IllegalArgumentException")]
def q_E (U : State) : Prop := (∀ w ∈ q_NW, va_Nw w U) ∧ (∀ q ∈ q_TX, ∃ a, vk_R R_RoomFills q.1 q.2 a U) ∧ ∀ q ∈ q_NC, va_Nc q.1 q.2 U
theorem q_E.same {u U : State} (h : u.vm = U.vm) (hE : q_E u) : q_E U := by
  refine ⟨fun w hw => va_Nw.same ?_ h (hE.1 w hw), fun q hq => ?_, fun q hq => ?_⟩
  · revert w
    decide
  · obtain ⟨a, ha⟩ := hE.2.1 q hq
    exact ⟨a, vk_R.same h.symm ha⟩
  · exact va_Nc.moved (by rw [h]; exact Vm.Alike.refl U.vm) (hE.2.2 q hq)
theorem q_E.warm {s U : State} (hW : s.WarmedH U.vm) (hE : q_E s) : q_E U := by
  refine ⟨fun w hw => ?_, fun q hq => ?_, fun q hq => ?_⟩
  · have hz := hE.1 w hw
    simp only [q_NW, List.mem_cons, List.not_mem_nil, or_false] at hw
    rcases hw with rfl | rfl | rfl | rfl | rfl | rfl | rfl
    · exact va_Nw.warmM hW hz
    · exact va_Nw.warmC hW hz
    · exact va_Nw.warmD hW hz
    · exact va_Nw.warmD hW hz
    · exact va_Nw.warmD hW hz
    · exact va_Nw.warmC hW hz
    · exact va_Nw.warmC hW hz
  · obtain ⟨a, ha⟩ := hE.2.1 q hq
    exact ⟨a, vk_R.warm hW ha⟩
  · exact va_Nc.moved hW.alike (hE.2.2 q hq)
