section
-- ===== PART A: goes FIRST, ahead of the names: the tables' words, and 'selects' of the private methods out of them =====
/-- a private method of a class that the tables say can be made, by its rows of tables_1 -/
def lw_okq (q : MethodName × Nat) : Prop := (q.1.cls ≠ "java/lang/invoke/MethodHandle" ∧ q.1.cls ≠ "java/lang/invoke/VarHandle") ∧ Cond.instantiable q.1.cls q.2 ∈ tables_1 ∧ Cond.privateMethod q.1 ∈ tables_1 ∧ Cond.instanceMethod q.1 ∈ tables_1
theorem lw_p0 : lw_okq (⟨"FlowGate$Form", "isWellFormed", "(III)Z"⟩, 2) := ⟨⟨by decide +kernel, by decide +kernel⟩, List.mem_of_getElem? (i := 116) (by decide +kernel), List.mem_of_getElem? (i := 306) (by decide +kernel), List.mem_of_getElem? (i := 307) (by decide +kernel)⟩
theorem lw_p1 : lw_okq (⟨"FlowGate$Form", "isHandlerWellFormed", "(I)Z"⟩, 2) := ⟨⟨by decide +kernel, by decide +kernel⟩, List.mem_of_getElem? (i := 116) (by decide +kernel), List.mem_of_getElem? (i := 325) (by decide +kernel), List.mem_of_getElem? (i := 326) (by decide +kernel)⟩
theorem lw_p2 : lw_okq (⟨"FlowGate$Form", "haveArgumentsRoom", "()Z"⟩, 2) := ⟨⟨by decide +kernel, by decide +kernel⟩, List.mem_of_getElem? (i := 116) (by decide +kernel), List.mem_of_getElem? (i := 333) (by decide +kernel), List.mem_of_getElem? (i := 334) (by decide +kernel)⟩
theorem lw_p3 : lw_okq (⟨"FlowGate$Flow", "meet", "(IILFlowGate$Frame;)I"⟩, 12) := ⟨⟨by decide +kernel, by decide +kernel⟩, List.mem_of_getElem? (i := 129) (by decide +kernel), List.mem_of_getElem? (i := 352) (by decide +kernel), List.mem_of_getElem? (i := 353) (by decide +kernel)⟩
theorem lw_p4 : lw_okq (⟨"FlowGate$Flow", "reach", "(ILFlowGate$Frame;)V"⟩, 12) := ⟨⟨by decide +kernel, by decide +kernel⟩, List.mem_of_getElem? (i := 129) (by decide +kernel), List.mem_of_getElem? (i := 367) (by decide +kernel), List.mem_of_getElem? (i := 368) (by decide +kernel)⟩
theorem lw_p5 : lw_okq (⟨"FlowGate$Frame", "absorbSubs", "(LFlowGate$Frame;)Z"⟩, 5) := ⟨⟨by decide +kernel, by decide +kernel⟩, List.mem_of_getElem? (i := 136) (by decide +kernel), List.mem_of_getElem? (i := 382) (by decide +kernel), List.mem_of_getElem? (i := 383) (by decide +kernel)⟩
theorem lw_p6 : lw_okq (⟨"FlowGate$Types", "joinedClasses", "(II)I"⟩, 3) := ⟨⟨by decide +kernel, by decide +kernel⟩, List.mem_of_getElem? (i := 20) (by decide +kernel), List.mem_of_getElem? (i := 394) (by decide +kernel), List.mem_of_getElem? (i := 395) (by decide +kernel)⟩
theorem lw_p7 : lw_okq (⟨"FlowGate$Flow", "look", "(I)I"⟩, 12) := ⟨⟨by decide +kernel, by decide +kernel⟩, List.mem_of_getElem? (i := 129) (by decide +kernel), List.mem_of_getElem? (i := 398) (by decide +kernel), List.mem_of_getElem? (i := 399) (by decide +kernel)⟩
theorem lw_p8 : lw_okq (⟨"FlowGate$Flow", "meetHandlers", "(I)I"⟩, 12) := ⟨⟨by decide +kernel, by decide +kernel⟩, List.mem_of_getElem? (i := 129) (by decide +kernel), List.mem_of_getElem? (i := 402) (by decide +kernel), List.mem_of_getElem? (i := 403) (by decide +kernel)⟩
theorem lw_p9 : lw_okq (⟨"FlowGate$Flow", "perform", "(I)I"⟩, 12) := ⟨⟨by decide +kernel, by decide +kernel⟩, List.mem_of_getElem? (i := 129) (by decide +kernel), List.mem_of_getElem? (i := 416) (by decide +kernel), List.mem_of_getElem? (i := 417) (by decide +kernel)⟩
theorem lw_p10 : lw_okq (⟨"FlowGate$Flow", "load", "(I)I"⟩, 12) := ⟨⟨by decide +kernel, by decide +kernel⟩, List.mem_of_getElem? (i := 129) (by decide +kernel), List.mem_of_getElem? (i := 420) (by decide +kernel), List.mem_of_getElem? (i := 421) (by decide +kernel)⟩
theorem lw_p11 : lw_okq (⟨"FlowGate$Flow", "fitsLocal", "(II)Z"⟩, 12) := ⟨⟨by decide +kernel, by decide +kernel⟩, List.mem_of_getElem? (i := 129) (by decide +kernel), List.mem_of_getElem? (i := 427) (by decide +kernel), List.mem_of_getElem? (i := 428) (by decide +kernel)⟩
theorem lw_p12 : lw_okq (⟨"FlowGate$Frame", "touchAll", "(I)V"⟩, 5) := ⟨⟨by decide +kernel, by decide +kernel⟩, List.mem_of_getElem? (i := 136) (by decide +kernel), List.mem_of_getElem? (i := 439) (by decide +kernel), List.mem_of_getElem? (i := 440) (by decide +kernel)⟩
theorem lw_p13 : lw_okq (⟨"FlowGate$Flow", "store", "(I)I"⟩, 12) := ⟨⟨by decide +kernel, by decide +kernel⟩, List.mem_of_getElem? (i := 129) (by decide +kernel), List.mem_of_getElem? (i := 447) (by decide +kernel), List.mem_of_getElem? (i := 448) (by decide +kernel)⟩
theorem lw_p14 : lw_okq (⟨"FlowGate$Flow", "increase", "(I)I"⟩, 12) := ⟨⟨by decide +kernel, by decide +kernel⟩, List.mem_of_getElem? (i := 129) (by decide +kernel), List.mem_of_getElem? (i := 463) (by decide +kernel), List.mem_of_getElem? (i := 464) (by decide +kernel)⟩
theorem lw_p15 : lw_okq (⟨"FlowGate$Flow", "prepareReturn", "(II)I"⟩, 12) := ⟨⟨by decide +kernel, by decide +kernel⟩, List.mem_of_getElem? (i := 129) (by decide +kernel), List.mem_of_getElem? (i := 467) (by decide +kernel), List.mem_of_getElem? (i := 468) (by decide +kernel)⟩
def lw_privs_1 : List (MethodName × Nat) := [(⟨"FlowGate$Form", "isWellFormed", "(III)Z"⟩, 2), (⟨"FlowGate$Form", "isHandlerWellFormed", "(I)Z"⟩, 2), (⟨"FlowGate$Form", "haveArgumentsRoom", "()Z"⟩, 2), (⟨"FlowGate$Flow", "meet", "(IILFlowGate$Frame;)I"⟩, 12), (⟨"FlowGate$Flow", "reach", "(ILFlowGate$Frame;)V"⟩, 12), (⟨"FlowGate$Frame", "absorbSubs", "(LFlowGate$Frame;)Z"⟩, 5), (⟨"FlowGate$Types", "joinedClasses", "(II)I"⟩, 3), (⟨"FlowGate$Flow", "look", "(I)I"⟩, 12), (⟨"FlowGate$Flow", "meetHandlers", "(I)I"⟩, 12), (⟨"FlowGate$Flow", "perform", "(I)I"⟩, 12), (⟨"FlowGate$Flow", "load", "(I)I"⟩, 12), (⟨"FlowGate$Flow", "fitsLocal", "(II)Z"⟩, 12), (⟨"FlowGate$Frame", "touchAll", "(I)V"⟩, 5), (⟨"FlowGate$Flow", "store", "(I)I"⟩, 12), (⟨"FlowGate$Flow", "increase", "(I)I"⟩, 12), (⟨"FlowGate$Flow", "prepareReturn", "(II)I"⟩, 12)]
theorem lw_r1 : ∀ q ∈ lw_privs_1, lw_okq q := List.forall_mem_cons.mpr ⟨lw_p0, List.forall_mem_cons.mpr ⟨lw_p1, List.forall_mem_cons.mpr ⟨lw_p2, List.forall_mem_cons.mpr ⟨lw_p3, List.forall_mem_cons.mpr ⟨lw_p4, List.forall_mem_cons.mpr ⟨lw_p5, List.forall_mem_cons.mpr ⟨lw_p6, List.forall_mem_cons.mpr ⟨lw_p7, List.forall_mem_cons.mpr ⟨lw_p8, List.forall_mem_cons.mpr ⟨lw_p9, List.forall_mem_cons.mpr ⟨lw_p10, List.forall_mem_cons.mpr ⟨lw_p11, List.forall_mem_cons.mpr ⟨lw_p12, List.forall_mem_cons.mpr ⟨lw_p13, List.forall_mem_cons.mpr ⟨lw_p14, List.forall_mem_cons.mpr ⟨lw_p15, fun _ h => absurd h List.not_mem_nil⟩⟩⟩⟩⟩⟩⟩⟩⟩⟩⟩⟩⟩⟩⟩⟩
theorem lw_p16 : lw_okq (⟨"FlowGate$Flow", "shuffle", "(I)I"⟩, 12) := ⟨⟨by decide +kernel, by decide +kernel⟩, List.mem_of_getElem? (i := 129) (by decide +kernel), List.mem_of_getElem? (i := 472) (by decide +kernel), List.mem_of_getElem? (i := 473) (by decide +kernel)⟩
theorem lw_p17 : lw_okq (⟨"FlowGate$Flow", "takeIf", "(ZI)I"⟩, 12) := ⟨⟨by decide +kernel, by decide +kernel⟩, List.mem_of_getElem? (i := 129) (by decide +kernel), List.mem_of_getElem? (i := 481) (by decide +kernel), List.mem_of_getElem? (i := 482) (by decide +kernel)⟩
theorem lw_p18 : lw_okq (⟨"FlowGate$Flow", "pushBoth", "(II)I"⟩, 12) := ⟨⟨by decide +kernel, by decide +kernel⟩, List.mem_of_getElem? (i := 129) (by decide +kernel), List.mem_of_getElem? (i := 485) (by decide +kernel), List.mem_of_getElem? (i := 486) (by decide +kernel)⟩
theorem lw_p19 : lw_okq (⟨"FlowGate$Flow", "calculate", "(III)I"⟩, 12) := ⟨⟨by decide +kernel, by decide +kernel⟩, List.mem_of_getElem? (i := 129) (by decide +kernel), List.mem_of_getElem? (i := 489) (by decide +kernel), List.mem_of_getElem? (i := 490) (by decide +kernel)⟩
theorem lw_p20 : lw_okq (⟨"FlowGate$Flow", "exchangeIf", "(ZII)I"⟩, 12) := ⟨⟨by decide +kernel, by decide +kernel⟩, List.mem_of_getElem? (i := 129) (by decide +kernel), List.mem_of_getElem? (i := 493) (by decide +kernel), List.mem_of_getElem? (i := 494) (by decide +kernel)⟩
theorem lw_p21 : lw_okq (⟨"FlowGate$Flow", "decide", "(I)I"⟩, 12) := ⟨⟨by decide +kernel, by decide +kernel⟩, List.mem_of_getElem? (i := 129) (by decide +kernel), List.mem_of_getElem? (i := 497) (by decide +kernel), List.mem_of_getElem? (i := 498) (by decide +kernel)⟩
theorem lw_p22 : lw_okq (⟨"FlowGate$Flow", "enterSub", "(I)I"⟩, 12) := ⟨⟨by decide +kernel, by decide +kernel⟩, List.mem_of_getElem? (i := 129) (by decide +kernel), List.mem_of_getElem? (i := 511) (by decide +kernel), List.mem_of_getElem? (i := 512) (by decide +kernel)⟩
theorem lw_p23 : lw_okq (⟨"FlowGate$Flow", "create", "(I)I"⟩, 12) := ⟨⟨by decide +kernel, by decide +kernel⟩, List.mem_of_getElem? (i := 129) (by decide +kernel), List.mem_of_getElem? (i := 519) (by decide +kernel), List.mem_of_getElem? (i := 520) (by decide +kernel)⟩
theorem lw_p24 : lw_okq (⟨"FlowGate$Flow", "build", "(I)I"⟩, 12) := ⟨⟨by decide +kernel, by decide +kernel⟩, List.mem_of_getElem? (i := 129) (by decide +kernel), List.mem_of_getElem? (i := 531) (by decide +kernel), List.mem_of_getElem? (i := 532) (by decide +kernel)⟩
theorem lw_p25 : lw_okq (⟨"FlowGate$Flow", "useObject", "(III)I"⟩, 12) := ⟨⟨by decide +kernel, by decide +kernel⟩, List.mem_of_getElem? (i := 129) (by decide +kernel), List.mem_of_getElem? (i := 536) (by decide +kernel), List.mem_of_getElem? (i := 537) (by decide +kernel)⟩
theorem lw_p26 : lw_okq (⟨"FlowGate$Flow", "useRow", "(II)I"⟩, 12) := ⟨⟨by decide +kernel, by decide +kernel⟩, List.mem_of_getElem? (i := 129) (by decide +kernel), List.mem_of_getElem? (i := 540) (by decide +kernel), List.mem_of_getElem? (i := 541) (by decide +kernel)⟩
theorem lw_p27 : lw_okq (⟨"FlowGate$Flow", "comeBack", "(I)I"⟩, 12) := ⟨⟨by decide +kernel, by decide +kernel⟩, List.mem_of_getElem? (i := 129) (by decide +kernel), List.mem_of_getElem? (i := 551) (by decide +kernel), List.mem_of_getElem? (i := 552) (by decide +kernel)⟩
theorem lw_p28 : lw_okq (⟨"FlowGate$Flow", "leave", "(I)I"⟩, 12) := ⟨⟨by decide +kernel, by decide +kernel⟩, List.mem_of_getElem? (i := 129) (by decide +kernel), List.mem_of_getElem? (i := 560) (by decide +kernel), List.mem_of_getElem? (i := 561) (by decide +kernel)⟩
theorem lw_p29 : lw_okq (⟨"FlowGate$Flow", "wakeReturns", "(I)V"⟩, 12) := ⟨⟨by decide +kernel, by decide +kernel⟩, List.mem_of_getElem? (i := 129) (by decide +kernel), List.mem_of_getElem? (i := 564) (by decide +kernel), List.mem_of_getElem? (i := 565) (by decide +kernel)⟩
theorem lw_p30 : lw_okq (⟨"FlowGate$Flow", "findChanged", "()I"⟩, 12) := ⟨⟨by decide +kernel, by decide +kernel⟩, List.mem_of_getElem? (i := 129) (by decide +kernel), List.mem_of_getElem? (i := 568) (by decide +kernel), List.mem_of_getElem? (i := 569) (by decide +kernel)⟩
theorem lw_p31 : lw_okq (⟨"FlowGate$Frame", "findSub", "(I)I"⟩, 5) := ⟨⟨by decide +kernel, by decide +kernel⟩, List.mem_of_getElem? (i := 136) (by decide +kernel), List.mem_of_getElem? (i := 590) (by decide +kernel), List.mem_of_getElem? (i := 591) (by decide +kernel)⟩
def lw_privs_2 : List (MethodName × Nat) := [(⟨"FlowGate$Flow", "shuffle", "(I)I"⟩, 12), (⟨"FlowGate$Flow", "takeIf", "(ZI)I"⟩, 12), (⟨"FlowGate$Flow", "pushBoth", "(II)I"⟩, 12), (⟨"FlowGate$Flow", "calculate", "(III)I"⟩, 12), (⟨"FlowGate$Flow", "exchangeIf", "(ZII)I"⟩, 12), (⟨"FlowGate$Flow", "decide", "(I)I"⟩, 12), (⟨"FlowGate$Flow", "enterSub", "(I)I"⟩, 12), (⟨"FlowGate$Flow", "create", "(I)I"⟩, 12), (⟨"FlowGate$Flow", "build", "(I)I"⟩, 12), (⟨"FlowGate$Flow", "useObject", "(III)I"⟩, 12), (⟨"FlowGate$Flow", "useRow", "(II)I"⟩, 12), (⟨"FlowGate$Flow", "comeBack", "(I)I"⟩, 12), (⟨"FlowGate$Flow", "leave", "(I)I"⟩, 12), (⟨"FlowGate$Flow", "wakeReturns", "(I)V"⟩, 12), (⟨"FlowGate$Flow", "findChanged", "()I"⟩, 12), (⟨"FlowGate$Frame", "findSub", "(I)I"⟩, 5)]
theorem lw_r2 : ∀ q ∈ lw_privs_2, lw_okq q := List.forall_mem_cons.mpr ⟨lw_p16, List.forall_mem_cons.mpr ⟨lw_p17, List.forall_mem_cons.mpr ⟨lw_p18, List.forall_mem_cons.mpr ⟨lw_p19, List.forall_mem_cons.mpr ⟨lw_p20, List.forall_mem_cons.mpr ⟨lw_p21, List.forall_mem_cons.mpr ⟨lw_p22, List.forall_mem_cons.mpr ⟨lw_p23, List.forall_mem_cons.mpr ⟨lw_p24, List.forall_mem_cons.mpr ⟨lw_p25, List.forall_mem_cons.mpr ⟨lw_p26, List.forall_mem_cons.mpr ⟨lw_p27, List.forall_mem_cons.mpr ⟨lw_p28, List.forall_mem_cons.mpr ⟨lw_p29, List.forall_mem_cons.mpr ⟨lw_p30, List.forall_mem_cons.mpr ⟨lw_p31, fun _ h => absurd h List.not_mem_nil⟩⟩⟩⟩⟩⟩⟩⟩⟩⟩⟩⟩⟩⟩⟩⟩
theorem lw_p32 : lw_okq (⟨"FlowGateModel", "isPlain", "(I)Z"⟩, 42) := ⟨⟨by decide +kernel, by decide +kernel⟩, List.mem_of_getElem? (i := 613) (by decide +kernel), List.mem_of_getElem? (i := 757) (by decide +kernel), List.mem_of_getElem? (i := 758) (by decide +kernel)⟩
theorem lw_p33 : lw_okq (⟨"FlowGateModel", "isRef", "(I)Z"⟩, 42) := ⟨⟨by decide +kernel, by decide +kernel⟩, List.mem_of_getElem? (i := 613) (by decide +kernel), List.mem_of_getElem? (i := 761) (by decide +kernel), List.mem_of_getElem? (i := 762) (by decide +kernel)⟩
theorem lw_p34 : lw_okq (⟨"FlowGateModel", "isClass", "(I)Z"⟩, 42) := ⟨⟨by decide +kernel, by decide +kernel⟩, List.mem_of_getElem? (i := 613) (by decide +kernel), List.mem_of_getElem? (i := 765) (by decide +kernel), List.mem_of_getElem? (i := 766) (by decide +kernel)⟩
theorem lw_p35 : lw_okq (⟨"FlowGateModel", "form", "()V"⟩, 42) := ⟨⟨by decide +kernel, by decide +kernel⟩, List.mem_of_getElem? (i := 613) (by decide +kernel), List.mem_of_getElem? (i := 789) (by decide +kernel), List.mem_of_getElem? (i := 790) (by decide +kernel)⟩
theorem lw_p36 : lw_okq (⟨"FlowGateModel", "fail", "(II)V"⟩, 42) := ⟨⟨by decide +kernel, by decide +kernel⟩, List.mem_of_getElem? (i := 613) (by decide +kernel), List.mem_of_getElem? (i := 793) (by decide +kernel), List.mem_of_getElem? (i := 794) (by decide +kernel)⟩
theorem lw_p37 : lw_okq (⟨"FlowGateModel", "isFormed", "(III)Z"⟩, 42) := ⟨⟨by decide +kernel, by decide +kernel⟩, List.mem_of_getElem? (i := 613) (by decide +kernel), List.mem_of_getElem? (i := 797) (by decide +kernel), List.mem_of_getElem? (i := 798) (by decide +kernel)⟩
theorem lw_p38 : lw_okq (⟨"FlowGateModel", "isGoal", "(I)Z"⟩, 42) := ⟨⟨by decide +kernel, by decide +kernel⟩, List.mem_of_getElem? (i := 613) (by decide +kernel), List.mem_of_getElem? (i := 801) (by decide +kernel), List.mem_of_getElem? (i := 802) (by decide +kernel)⟩
theorem lw_p39 : lw_okq (⟨"FlowGateModel", "isBelow", "(II)Z"⟩, 42) := ⟨⟨by decide +kernel, by decide +kernel⟩, List.mem_of_getElem? (i := 613) (by decide +kernel), List.mem_of_getElem? (i := 805) (by decide +kernel), List.mem_of_getElem? (i := 806) (by decide +kernel)⟩
theorem lw_p40 : lw_okq (⟨"FlowGateModel", "begins", "()V"⟩, 42) := ⟨⟨by decide +kernel, by decide +kernel⟩, List.mem_of_getElem? (i := 613) (by decide +kernel), List.mem_of_getElem? (i := 812) (by decide +kernel), List.mem_of_getElem? (i := 813) (by decide +kernel)⟩
theorem lw_p41 : lw_okq (⟨"FlowGateModel", "meet", "(I)V"⟩, 42) := ⟨⟨by decide +kernel, by decide +kernel⟩, List.mem_of_getElem? (i := 613) (by decide +kernel), List.mem_of_getElem? (i := 816) (by decide +kernel), List.mem_of_getElem? (i := 817) (by decide +kernel)⟩
theorem lw_p42 : lw_okq (⟨"FlowGateModel", "joined", "(II)I"⟩, 42) := ⟨⟨by decide +kernel, by decide +kernel⟩, List.mem_of_getElem? (i := 613) (by decide +kernel), List.mem_of_getElem? (i := 820) (by decide +kernel), List.mem_of_getElem? (i := 821) (by decide +kernel)⟩
theorem lw_p43 : lw_okq (⟨"FlowGateModel", "lookAt", "(I)V"⟩, 42) := ⟨⟨by decide +kernel, by decide +kernel⟩, List.mem_of_getElem? (i := 613) (by decide +kernel), List.mem_of_getElem? (i := 824) (by decide +kernel), List.mem_of_getElem? (i := 825) (by decide +kernel)⟩
theorem lw_p44 : lw_okq (⟨"FlowGateModel", "copyOut", "()V"⟩, 42) := ⟨⟨by decide +kernel, by decide +kernel⟩, List.mem_of_getElem? (i := 613) (by decide +kernel), List.mem_of_getElem? (i := 828) (by decide +kernel), List.mem_of_getElem? (i := 829) (by decide +kernel)⟩
theorem lw_p45 : lw_okq (⟨"FlowGateModel", "hasRaw", "(Z)Z"⟩, 42) := ⟨⟨by decide +kernel, by decide +kernel⟩, List.mem_of_getElem? (i := 613) (by decide +kernel), List.mem_of_getElem? (i := 832) (by decide +kernel), List.mem_of_getElem? (i := 833) (by decide +kernel)⟩
theorem lw_p46 : lw_okq (⟨"FlowGateModel", "back", "(II)V"⟩, 42) := ⟨⟨by decide +kernel, by decide +kernel⟩, List.mem_of_getElem? (i := 613) (by decide +kernel), List.mem_of_getElem? (i := 836) (by decide +kernel), List.mem_of_getElem? (i := 837) (by decide +kernel)⟩
theorem lw_p47 : lw_okq (⟨"FlowGateModel", "touches", "(II)V"⟩, 42) := ⟨⟨by decide +kernel, by decide +kernel⟩, List.mem_of_getElem? (i := 613) (by decide +kernel), List.mem_of_getElem? (i := 840) (by decide +kernel), List.mem_of_getElem? (i := 841) (by decide +kernel)⟩
def lw_privs_3 : List (MethodName × Nat) := [(⟨"FlowGateModel", "isPlain", "(I)Z"⟩, 42), (⟨"FlowGateModel", "isRef", "(I)Z"⟩, 42), (⟨"FlowGateModel", "isClass", "(I)Z"⟩, 42), (⟨"FlowGateModel", "form", "()V"⟩, 42), (⟨"FlowGateModel", "fail", "(II)V"⟩, 42), (⟨"FlowGateModel", "isFormed", "(III)Z"⟩, 42), (⟨"FlowGateModel", "isGoal", "(I)Z"⟩, 42), (⟨"FlowGateModel", "isBelow", "(II)Z"⟩, 42), (⟨"FlowGateModel", "begins", "()V"⟩, 42), (⟨"FlowGateModel", "meet", "(I)V"⟩, 42), (⟨"FlowGateModel", "joined", "(II)I"⟩, 42), (⟨"FlowGateModel", "lookAt", "(I)V"⟩, 42), (⟨"FlowGateModel", "copyOut", "()V"⟩, 42), (⟨"FlowGateModel", "hasRaw", "(Z)Z"⟩, 42), (⟨"FlowGateModel", "back", "(II)V"⟩, 42), (⟨"FlowGateModel", "touches", "(II)V"⟩, 42)]
theorem lw_r3 : ∀ q ∈ lw_privs_3, lw_okq q := List.forall_mem_cons.mpr ⟨lw_p32, List.forall_mem_cons.mpr ⟨lw_p33, List.forall_mem_cons.mpr ⟨lw_p34, List.forall_mem_cons.mpr ⟨lw_p35, List.forall_mem_cons.mpr ⟨lw_p36, List.forall_mem_cons.mpr ⟨lw_p37, List.forall_mem_cons.mpr ⟨lw_p38, List.forall_mem_cons.mpr ⟨lw_p39, List.forall_mem_cons.mpr ⟨lw_p40, List.forall_mem_cons.mpr ⟨lw_p41, List.forall_mem_cons.mpr ⟨lw_p42, List.forall_mem_cons.mpr ⟨lw_p43, List.forall_mem_cons.mpr ⟨lw_p44, List.forall_mem_cons.mpr ⟨lw_p45, List.forall_mem_cons.mpr ⟨lw_p46, List.forall_mem_cons.mpr ⟨lw_p47, fun _ h => absurd h List.not_mem_nil⟩⟩⟩⟩⟩⟩⟩⟩⟩⟩⟩⟩⟩⟩⟩⟩
theorem lw_p48 : lw_okq (⟨"FlowGateModel", "go", "(II)V"⟩, 42) := ⟨⟨by decide +kernel, by decide +kernel⟩, List.mem_of_getElem? (i := 613) (by decide +kernel), List.mem_of_getElem? (i := 844) (by decide +kernel), List.mem_of_getElem? (i := 845) (by decide +kernel)⟩
theorem lw_p49 : lw_okq (⟨"FlowGateModel", "moves", "(II)Z"⟩, 42) := ⟨⟨by decide +kernel, by decide +kernel⟩, List.mem_of_getElem? (i := 613) (by decide +kernel), List.mem_of_getElem? (i := 848) (by decide +kernel), List.mem_of_getElem? (i := 849) (by decide +kernel)⟩
theorem lw_p50 : lw_okq (⟨"FlowGateModel", "put", "(I)Z"⟩, 42) := ⟨⟨by decide +kernel, by decide +kernel⟩, List.mem_of_getElem? (i := 613) (by decide +kernel), List.mem_of_getElem? (i := 852) (by decide +kernel), List.mem_of_getElem? (i := 853) (by decide +kernel)⟩
theorem lw_p51 : lw_okq (⟨"FlowGateModel", "top", "(I)I"⟩, 42) := ⟨⟨by decide +kernel, by decide +kernel⟩, List.mem_of_getElem? (i := 613) (by decide +kernel), List.mem_of_getElem? (i := 856) (by decide +kernel), List.mem_of_getElem? (i := 857) (by decide +kernel)⟩
theorem lw_p52 : lw_okq (⟨"FlowGateModel", "drop", "()V"⟩, 42) := ⟨⟨by decide +kernel, by decide +kernel⟩, List.mem_of_getElem? (i := 613) (by decide +kernel), List.mem_of_getElem? (i := 860) (by decide +kernel), List.mem_of_getElem? (i := 861) (by decide +kernel)⟩
theorem lw_p53 : lw_okq (⟨"FlowGateModel", "single", "(I)Z"⟩, 42) := ⟨⟨by decide +kernel, by decide +kernel⟩, List.mem_of_getElem? (i := 613) (by decide +kernel), List.mem_of_getElem? (i := 864) (by decide +kernel), List.mem_of_getElem? (i := 865) (by decide +kernel)⟩
theorem lw_p54 : lw_okq (⟨"FlowGateModel", "flows", "(III)Z"⟩, 42) := ⟨⟨by decide +kernel, by decide +kernel⟩, List.mem_of_getElem? (i := 613) (by decide +kernel), List.mem_of_getElem? (i := 868) (by decide +kernel), List.mem_of_getElem? (i := 869) (by decide +kernel)⟩
theorem lw_p55 : lw_okq (⟨"FlowGateModel", "takes", "(I)Z"⟩, 42) := ⟨⟨by decide +kernel, by decide +kernel⟩, List.mem_of_getElem? (i := 613) (by decide +kernel), List.mem_of_getElem? (i := 872) (by decide +kernel), List.mem_of_getElem? (i := 873) (by decide +kernel)⟩
theorem lw_p56 : lw_okq (⟨"FlowGateModel", "takesRef", "()Z"⟩, 42) := ⟨⟨by decide +kernel, by decide +kernel⟩, List.mem_of_getElem? (i := 613) (by decide +kernel), List.mem_of_getElem? (i := 876) (by decide +kernel), List.mem_of_getElem? (i := 877) (by decide +kernel)⟩
theorem lw_p57 : lw_okq (⟨"FlowGateModel", "takesFor", "(I)Z"⟩, 42) := ⟨⟨by decide +kernel, by decide +kernel⟩, List.mem_of_getElem? (i := 613) (by decide +kernel), List.mem_of_getElem? (i := 880) (by decide +kernel), List.mem_of_getElem? (i := 881) (by decide +kernel)⟩
theorem lw_p58 : lw_okq (⟨"FlowGateModel", "goesFor", "(II)Z"⟩, 42) := ⟨⟨by decide +kernel, by decide +kernel⟩, List.mem_of_getElem? (i := 613) (by decide +kernel), List.mem_of_getElem? (i := 884) (by decide +kernel), List.mem_of_getElem? (i := 885) (by decide +kernel)⟩
theorem lw_p59 : lw_okq (⟨"FlowGateModel", "objects", "(IIII)Z"⟩, 42) := ⟨⟨by decide +kernel, by decide +kernel⟩, List.mem_of_getElem? (i := 613) (by decide +kernel), List.mem_of_getElem? (i := 888) (by decide +kernel), List.mem_of_getElem? (i := 889) (by decide +kernel)⟩
theorem lw_p60 : lw_okq (⟨"FlowGateModel", "takesRow", "(I)Z"⟩, 42) := ⟨⟨by decide +kernel, by decide +kernel⟩, List.mem_of_getElem? (i := 613) (by decide +kernel), List.mem_of_getElem? (i := 892) (by decide +kernel), List.mem_of_getElem? (i := 893) (by decide +kernel)⟩
theorem lw_p61 : lw_okq (⟨"FlowGateModel", "enters", "(II)V"⟩, 42) := ⟨⟨by decide +kernel, by decide +kernel⟩, List.mem_of_getElem? (i := 613) (by decide +kernel), List.mem_of_getElem? (i := 896) (by decide +kernel), List.mem_of_getElem? (i := 897) (by decide +kernel)⟩
def lw_privs_4 : List (MethodName × Nat) := [(⟨"FlowGateModel", "go", "(II)V"⟩, 42), (⟨"FlowGateModel", "moves", "(II)Z"⟩, 42), (⟨"FlowGateModel", "put", "(I)Z"⟩, 42), (⟨"FlowGateModel", "top", "(I)I"⟩, 42), (⟨"FlowGateModel", "drop", "()V"⟩, 42), (⟨"FlowGateModel", "single", "(I)Z"⟩, 42), (⟨"FlowGateModel", "flows", "(III)Z"⟩, 42), (⟨"FlowGateModel", "takes", "(I)Z"⟩, 42), (⟨"FlowGateModel", "takesRef", "()Z"⟩, 42), (⟨"FlowGateModel", "takesFor", "(I)Z"⟩, 42), (⟨"FlowGateModel", "goesFor", "(II)Z"⟩, 42), (⟨"FlowGateModel", "objects", "(IIII)Z"⟩, 42), (⟨"FlowGateModel", "takesRow", "(I)Z"⟩, 42), (⟨"FlowGateModel", "enters", "(II)V"⟩, 42)]
theorem lw_r4 : ∀ q ∈ lw_privs_4, lw_okq q := List.forall_mem_cons.mpr ⟨lw_p48, List.forall_mem_cons.mpr ⟨lw_p49, List.forall_mem_cons.mpr ⟨lw_p50, List.forall_mem_cons.mpr ⟨lw_p51, List.forall_mem_cons.mpr ⟨lw_p52, List.forall_mem_cons.mpr ⟨lw_p53, List.forall_mem_cons.mpr ⟨lw_p54, List.forall_mem_cons.mpr ⟨lw_p55, List.forall_mem_cons.mpr ⟨lw_p56, List.forall_mem_cons.mpr ⟨lw_p57, List.forall_mem_cons.mpr ⟨lw_p58, List.forall_mem_cons.mpr ⟨lw_p59, List.forall_mem_cons.mpr ⟨lw_p60, List.forall_mem_cons.mpr ⟨lw_p61, fun _ h => absurd h List.not_mem_nil⟩⟩⟩⟩⟩⟩⟩⟩⟩⟩⟩⟩⟩⟩
def lw_privs : List (MethodName × Nat) := lw_privs_1 ++ (lw_privs_2 ++ (lw_privs_3 ++ (lw_privs_4)))
def lw_tbl : List Cond := k2_sels lw_privs ++ tables_1
theorem lw_privs_ok : ∀ q ∈ lw_privs, lw_okq q := by
  show ∀ q ∈ lw_privs_1 ++ (lw_privs_2 ++ (lw_privs_3 ++ (lw_privs_4))), lw_okq q
  exact List.forall_mem_append.mpr ⟨lw_r1, List.forall_mem_append.mpr ⟨lw_r2, List.forall_mem_append.mpr ⟨lw_r3, lw_r4⟩⟩⟩
end
section
def AW : List Cond := lw_tbl.filter goodWord
theorem mem_AW {w : Cond} {i : Nat} (h : lw_tbl[i]? = some w) (g : goodWord w = true) : w ∈ AW := List.mem_filter.mpr ⟨List.mem_of_getElem? h, g⟩
theorem AW_tbl {w : Cond} (h : w ∈ AW) : w ∈ lw_tbl := (List.mem_filter.mp h).1
theorem AW_good {w : Cond} (h : w ∈ AW) : (w.onTables && w.keeps) = true ∨ ∃ ty, w = .arrayClass ty := good_of_word (List.mem_filter.mp h).2
theorem mc {w c : Cond} (h : w ∈ AW) : w ∈ c :: AW := List.mem_cons_of_mem _ h
theorem g_C {c c' : Cond} (h : c' ∈ AW) : GoodIn (c :: AW) (c' :: AW) := fun w hw => (List.mem_cons.mp hw).elim (fun e => e ▸ ⟨mc h, AW_good h⟩) (fun q => ⟨mc q, AW_good q⟩)
theorem g_V {c c' : Cond} {own C : String} {idx : Nat} {y : MethodName} (h1 : Cond.methodLink own idx y ∈ AW) (h2 : Cond.instanceMethod y ∈ AW) (h3 : Cond.selects C y y ∈ AW) (h4 : Cond.initialized C ∈ AW) (h : c' ∈ AW) : GoodIn (c :: AW) (wsV own idx C y (c' :: AW)) := by
  intro w hw
  rcases List.mem_append.mp hw with q | q
  · simp only [List.mem_cons, List.not_mem_nil, or_false] at q
    rcases q with rfl | rfl | rfl | rfl
    · exact ⟨mc h1, AW_good h1⟩
    · exact ⟨mc h2, AW_good h2⟩
    · exact ⟨mc h3, AW_good h3⟩
    · exact ⟨mc h4, AW_good h4⟩
  · exact g_C h w q
theorem g_S {c c' : Cond} {own : String} {idx : Nat} {y : MethodName} (h1 : Cond.methodLink own idx y ∈ AW) (h2 : Cond.static y ∈ AW) (h4 : Cond.initialized own ∈ AW) (h : c' ∈ AW) : GoodIn (c :: AW) (wsS own idx y (c' :: AW)) := by
  intro w hw
  rcases List.mem_append.mp hw with q | q
  · simp only [List.mem_cons, List.not_mem_nil, or_false] at q
    rcases q with rfl | rfl | rfl
    · exact ⟨mc h1, AW_good h1⟩
    · exact ⟨mc h2, AW_good h2⟩
    · exact ⟨mc h4, AW_good h4⟩
  · exact g_C h w q
def R_G : String := "FlowGate"
def T_G : u_T := fun k => match k with
  | 0 => ("FlowGate", "types", "LFlowGate$Types;", true)
  | 1 => ("FlowGate", "method", "LFlowGate$Method;", true)
  | 2 => ("FlowGate", "form", "LFlowGate$Form;", true)
  | 3 => ("FlowGate", "flow", "LFlowGate$Flow;", true)
  | 4 => ("FlowGate", "place", "I", false)
  | _ => ("FlowGate", "passed", "I", false)
def ty_G : Nat → FieldType := fun k => match k with
  | 0 => .object "FlowGate$Types"
  | 1 => .object "FlowGate$Method"
  | 2 => .object "FlowGate$Form"
  | 3 => .object "FlowGate$Flow"
  | 4 => .int
  | _ => .int
theorem nm_G : ∀ a, a < 6 → ∀ b, b < 6 → a ≠ b → (T_G a).2.1 ≠ (T_G b).2.1 := by decide +kernel
theorem ty_G_ok : ∀ k, k < 6 → parseFieldDescriptor (T_G k).2.2.1 = some (ty_G k) := by decide +kernel
theorem in_G : ∀ w ∈ u_ws "FlowGate" T_G 6, w ∈ AW := by
  intro w hw
  have h : u_ws "FlowGate" T_G 6 = ([271, 273, 275, 277, 279, 281] : List Nat).filterMap (fun i => lw_tbl[i]?) := by decide +kernel
  have hg : (u_ws "FlowGate" T_G 6).all goodWord = true := by decide +kernel
  have g := List.all_eq_true.mp hg w hw
  rw [h] at hw
  obtain ⟨i, -, hi⟩ := List.mem_filterMap.mp hw
  exact mem_AW hi g
def R_T : String := "FlowGate$Types"
def T_T : u_T := fun k => match k with
  | 0 => ("FlowGate$Types", "upward", "[I", true)
  | 1 => ("FlowGate$Types", "isInterface", "[Z", true)
  | _ => ("FlowGate$Types", "size", "I", false)
def ty_T : Nat → FieldType := fun k => match k with
  | 0 => .array (.int)
  | 1 => .array (.boolean)
  | _ => .int
theorem nm_T : ∀ a, a < 3 → ∀ b, b < 3 → a ≠ b → (T_T a).2.1 ≠ (T_T b).2.1 := by decide +kernel
theorem ty_T_ok : ∀ k, k < 3 → parseFieldDescriptor (T_T k).2.2.1 = some (ty_T k) := by decide +kernel
theorem in_T : ∀ w ∈ u_ws "FlowGate$Types" T_T 3, w ∈ AW := by
  intro w hw
  have h : u_ws "FlowGate$Types" T_T 3 = ([91, 93, 95] : List Nat).filterMap (fun i => lw_tbl[i]?) := by decide +kernel
  have hg : (u_ws "FlowGate$Types" T_T 3).all goodWord = true := by decide +kernel
  have g := List.all_eq_true.mp hg w hw
  rw [h] at hw
  obtain ⟨i, -, hi⟩ := List.mem_filterMap.mp hw
  exact mem_AW hi g
def R_M : String := "FlowGate$Method"
def T_M : u_T := fun k => match k with
  | 0 => ("FlowGate$Method", "op", "[I", true)
  | 1 => ("FlowGate$Method", "a", "[I", true)
  | 2 => ("FlowGate$Method", "b", "[I", true)
  | 3 => ("FlowGate$Method", "size", "I", false)
  | 4 => ("FlowGate$Method", "from", "[I", true)
  | 5 => ("FlowGate$Method", "to", "[I", true)
  | 6 => ("FlowGate$Method", "at", "[I", true)
  | 7 => ("FlowGate$Method", "caught", "[I", true)
  | 8 => ("FlowGate$Method", "handlerCount", "I", false)
  | 9 => ("FlowGate$Method", "arguments", "[I", true)
  | 10 => ("FlowGate$Method", "argumentCount", "I", false)
  | 11 => ("FlowGate$Method", "result", "I", false)
  | 12 => ("FlowGate$Method", "locals", "I", false)
  | _ => ("FlowGate$Method", "stack", "I", false)
def ty_M : Nat → FieldType := fun k => match k with
  | 0 => .array (.int)
  | 1 => .array (.int)
  | 2 => .array (.int)
  | 3 => .int
  | 4 => .array (.int)
  | 5 => .array (.int)
  | 6 => .array (.int)
  | 7 => .array (.int)
  | 8 => .int
  | 9 => .array (.int)
  | 10 => .int
  | 11 => .int
  | 12 => .int
  | _ => .int
theorem nm_M : ∀ a, a < 14 → ∀ b, b < 14 → a ≠ b → (T_M a).2.1 ≠ (T_M b).2.1 := by decide +kernel
theorem ty_M_ok : ∀ k, k < 14 → parseFieldDescriptor (T_M k).2.2.1 = some (ty_M k) := by decide +kernel
theorem in_M : ∀ w ∈ u_ws "FlowGate$Method" T_M 14, w ∈ AW := by
  intro w hw
  have h : u_ws "FlowGate$Method" T_M 14 = ([148, 150, 152, 154, 156, 158, 160, 162, 164, 166, 168, 170, 172, 174] : List Nat).filterMap (fun i => lw_tbl[i]?) := by decide +kernel
  have hg : (u_ws "FlowGate$Method" T_M 14).all goodWord = true := by decide +kernel
  have g := List.all_eq_true.mp hg w hw
  rw [h] at hw
  obtain ⟨i, -, hi⟩ := List.mem_filterMap.mp hw
  exact mem_AW hi g
def R_O : String := "FlowGate$Form"
def T_O : u_T := fun k => match k with
  | 0 => ("FlowGate$Form", "types", "LFlowGate$Types;", true)
  | _ => ("FlowGate$Form", "method", "LFlowGate$Method;", true)
def ty_O : Nat → FieldType := fun k => match k with
  | 0 => .object "FlowGate$Types"
  | _ => .object "FlowGate$Method"
theorem nm_O : ∀ a, a < 2 → ∀ b, b < 2 → a ≠ b → (T_O a).2.1 ≠ (T_O b).2.1 := by decide +kernel
theorem ty_O_ok : ∀ k, k < 2 → parseFieldDescriptor (T_O k).2.2.1 = some (ty_O k) := by decide +kernel
theorem in_O : ∀ w ∈ u_ws "FlowGate$Form" T_O 2, w ∈ AW := by
  intro w hw
  have h : u_ws "FlowGate$Form" T_O 2 = ([185, 187] : List Nat).filterMap (fun i => lw_tbl[i]?) := by decide +kernel
  have hg : (u_ws "FlowGate$Form" T_O 2).all goodWord = true := by decide +kernel
  have g := List.all_eq_true.mp hg w hw
  rw [h] at hw
  obtain ⟨i, -, hi⟩ := List.mem_filterMap.mp hw
  exact mem_AW hi g
def R_W : String := "FlowGate$Flow"
def T_W : u_T := fun k => match k with
  | 0 => ("FlowGate$Flow", "types", "LFlowGate$Types;", true)
  | 1 => ("FlowGate$Flow", "method", "LFlowGate$Method;", true)
  | 2 => ("FlowGate$Flow", "frames", "[LFlowGate$Frame;", true)
  | 3 => ("FlowGate$Flow", "reached", "[Z", true)
  | 4 => ("FlowGate$Flow", "changed", "[Z", true)
  | 5 => ("FlowGate$Flow", "doneFor", "[J", true)
  | 6 => ("FlowGate$Flow", "out", "LFlowGate$Frame;", true)
  | 7 => ("FlowGate$Flow", "coming", "LFlowGate$Frame;", true)
  | 8 => ("FlowGate$Flow", "looks", "I", false)
  | 9 => ("FlowGate$Flow", "place", "I", false)
  | 10 => ("FlowGate$Flow", "reachedCount", "I", false)
  | _ => ("FlowGate$Flow", "begunSubs", "J", false)
def ty_W : Nat → FieldType := fun k => match k with
  | 0 => .object "FlowGate$Types"
  | 1 => .object "FlowGate$Method"
  | 2 => .array (.object "FlowGate$Frame")
  | 3 => .array (.boolean)
  | 4 => .array (.boolean)
  | 5 => .array (.long)
  | 6 => .object "FlowGate$Frame"
  | 7 => .object "FlowGate$Frame"
  | 8 => .int
  | 9 => .int
  | 10 => .int
  | _ => .long
theorem nm_W : ∀ a, a < 12 → ∀ b, b < 12 → a ≠ b → (T_W a).2.1 ≠ (T_W b).2.1 := by decide +kernel
theorem ty_W_ok : ∀ k, k < 12 → parseFieldDescriptor (T_W k).2.2.1 = some (ty_W k) := by decide +kernel
theorem in_W : ∀ w ∈ u_ws "FlowGate$Flow" T_W 12, w ∈ AW := by
  intro w hw
  have h : u_ws "FlowGate$Flow" T_W 12 = ([240, 242, 244, 246, 248, 250, 252, 254, 256, 258, 260, 262] : List Nat).filterMap (fun i => lw_tbl[i]?) := by decide +kernel
  have hg : (u_ws "FlowGate$Flow" T_W 12).all goodWord = true := by decide +kernel
  have g := List.all_eq_true.mp hg w hw
  rw [h] at hw
  obtain ⟨i, -, hi⟩ := List.mem_filterMap.mp hw
  exact mem_AW hi g
def R_R : String := "FlowGate$Frame"
def T_R : u_T := fun k => match k with
  | 0 => ("FlowGate$Frame", "locals", "[I", true)
  | 1 => ("FlowGate$Frame", "stack", "[I", true)
  | 2 => ("FlowGate$Frame", "depth", "I", false)
  | 3 => ("FlowGate$Frame", "subs", "J", false)
  | _ => ("FlowGate$Frame", "touched", "[I", true)
def ty_R : Nat → FieldType := fun k => match k with
  | 0 => .array (.int)
  | 1 => .array (.int)
  | 2 => .int
  | 3 => .long
  | _ => .array (.int)
theorem nm_R : ∀ a, a < 5 → ∀ b, b < 5 → a ≠ b → (T_R a).2.1 ≠ (T_R b).2.1 := by decide +kernel
theorem ty_R_ok : ∀ k, k < 5 → parseFieldDescriptor (T_R k).2.2.1 = some (ty_R k) := by decide +kernel
theorem in_R : ∀ w ∈ u_ws "FlowGate$Frame" T_R 5, w ∈ AW := by
  intro w hw
  have h : u_ws "FlowGate$Frame" T_R 5 = ([210, 212, 214, 216, 218] : List Nat).filterMap (fun i => lw_tbl[i]?) := by decide +kernel
  have hg : (u_ws "FlowGate$Frame" T_R 5).all goodWord = true := by decide +kernel
  have g := List.all_eq_true.mp hg w hw
  rw [h] at hw
  obtain ⟨i, -, hi⟩ := List.mem_filterMap.mp hw
  exact mem_AW hi g
def R_D : String := "FlowGateModel"
def T_D : u_T := fun k => match k with
  | 0 => ("FlowGateModel", "above", "[I", true)
  | 1 => ("FlowGateModel", "face", "[Z", true)
  | 2 => ("FlowGateModel", "classes", "I", false)
  | 3 => ("FlowGateModel", "ops", "[I", true)
  | 4 => ("FlowGateModel", "as", "[I", true)
  | 5 => ("FlowGateModel", "bs", "[I", true)
  | 6 => ("FlowGateModel", "from", "[I", true)
  | 7 => ("FlowGateModel", "to", "[I", true)
  | 8 => ("FlowGateModel", "at", "[I", true)
  | 9 => ("FlowGateModel", "caught", "[I", true)
  | 10 => ("FlowGateModel", "arguments", "[I", true)
  | 11 => ("FlowGateModel", "many", "I", false)
  | 12 => ("FlowGateModel", "handlers", "I", false)
  | 13 => ("FlowGateModel", "given", "I", false)
  | 14 => ("FlowGateModel", "result", "I", false)
  | 15 => ("FlowGateModel", "locals", "I", false)
  | 16 => ("FlowGateModel", "room", "I", false)
  | 17 => ("FlowGateModel", "has", "[Z", true)
  | 18 => ("FlowGateModel", "changed", "[Z", true)
  | 19 => ("FlowGateModel", "local", "[I", true)
  | 20 => ("FlowGateModel", "stack", "[I", true)
  | 21 => ("FlowGateModel", "depth", "[I", true)
  | 22 => ("FlowGateModel", "touched", "[I", true)
  | 23 => ("FlowGateModel", "subs", "[J", true)
  | 24 => ("FlowGateModel", "done", "[J", true)
  | 25 => ("FlowGateModel", "here", "[I", true)
  | 26 => ("FlowGateModel", "pile", "[I", true)
  | 27 => ("FlowGateModel", "touch", "[I", true)
  | 28 => ("FlowGateModel", "there", "[I", true)
  | 29 => ("FlowGateModel", "pileThere", "[I", true)
  | 30 => ("FlowGateModel", "touchThere", "[I", true)
  | 31 => ("FlowGateModel", "high", "I", false)
  | 32 => ("FlowGateModel", "size", "I", false)
  | 33 => ("FlowGateModel", "highThere", "I", false)
  | 34 => ("FlowGateModel", "fault", "I", false)
  | 35 => ("FlowGateModel", "place", "I", false)
  | 36 => ("FlowGateModel", "looked", "I", false)
  | 37 => ("FlowGateModel", "good", "I", false)
  | 38 => ("FlowGateModel", "withState", "I", false)
  | 39 => ("FlowGateModel", "in1", "J", false)
  | 40 => ("FlowGateModel", "subsThere", "J", false)
  | _ => ("FlowGateModel", "begun", "J", false)
def ty_D : Nat → FieldType := fun k => match k with
  | 0 => .array (.int)
  | 1 => .array (.boolean)
  | 2 => .int
  | 3 => .array (.int)
  | 4 => .array (.int)
  | 5 => .array (.int)
  | 6 => .array (.int)
  | 7 => .array (.int)
  | 8 => .array (.int)
  | 9 => .array (.int)
  | 10 => .array (.int)
  | 11 => .int
  | 12 => .int
  | 13 => .int
  | 14 => .int
  | 15 => .int
  | 16 => .int
  | 17 => .array (.boolean)
  | 18 => .array (.boolean)
  | 19 => .array (.int)
  | 20 => .array (.int)
  | 21 => .array (.int)
  | 22 => .array (.int)
  | 23 => .array (.long)
  | 24 => .array (.long)
  | 25 => .array (.int)
  | 26 => .array (.int)
  | 27 => .array (.int)
  | 28 => .array (.int)
  | 29 => .array (.int)
  | 30 => .array (.int)
  | 31 => .int
  | 32 => .int
  | 33 => .int
  | 34 => .int
  | 35 => .int
  | 36 => .int
  | 37 => .int
  | 38 => .int
  | 39 => .long
  | 40 => .long
  | _ => .long
theorem nm_D : ∀ a, a < 42 → ∀ b, b < 42 → a ≠ b → (T_D a).2.1 ≠ (T_D b).2.1 := by decide +kernel
theorem ty_D_ok : ∀ k, k < 42 → parseFieldDescriptor (T_D k).2.2.1 = some (ty_D k) := by decide +kernel
theorem in_D : ∀ w ∈ u_ws "FlowGateModel" T_D 42, w ∈ AW := by
  intro w hw
  have h : u_ws "FlowGateModel" T_D 42 = ([722, 724, 726, 728, 730, 732, 734, 736, 738, 740, 742, 744, 746, 748, 750, 752, 754, 756, 758, 760, 762, 764, 766, 768, 770, 772, 774, 776, 778, 780, 782, 784, 786, 788, 790, 792, 794, 796, 798, 800, 802, 804] : List Nat).filterMap (fun i => lw_tbl[i]?) := by decide +kernel
  have hg : (u_ws "FlowGateModel" T_D 42).all goodWord = true := by decide +kernel
  have g := List.all_eq_true.mp hg w hw
  rw [h] at hw
  obtain ⟨i, -, hi⟩ := List.mem_filterMap.mp hw
  exact mem_AW hi g
abbrev vwCl : List vw_C := [("FlowGate", T_G, 6), ("FlowGate$Types", T_T, 3), ("FlowGate$Method", T_M, 14), ("FlowGate$Form", T_O, 2), ("FlowGate$Flow", T_W, 12), ("FlowGate$Frame", T_R, 5), ("FlowGateModel", T_D, 42)]
def y_G_init : MethodName := ⟨"FlowGate", "<init>", "()V"⟩
abbrev c_G_init : ByteArray := prog_1_method_1_code
abbrev ws_G_init : List Cond := .code y_G_init c_G_init 1 none :: AW
def y_T_init : MethodName := ⟨"FlowGate$Types", "<init>", "()V"⟩
abbrev c_T_init : ByteArray := prog_6_method_1_code
abbrev ws_T_init : List Cond := .code y_T_init c_T_init 1 none :: AW
def y_M_init : MethodName := ⟨"FlowGate$Method", "<init>", "()V"⟩
abbrev c_M_init : ByteArray := prog_5_method_1_code
abbrev ws_M_init : List Cond := .code y_M_init c_M_init 1 none :: AW
def y_O_init : MethodName := ⟨"FlowGate$Form", "<init>", "(LFlowGate$Types;LFlowGate$Method;)V"⟩
abbrev c_O_init : ByteArray := prog_3_method_1_code
abbrev ws_O_init : List Cond := .code y_O_init c_O_init 3 none :: AW
def y_W_init : MethodName := ⟨"FlowGate$Flow", "<init>", "(LFlowGate$Types;LFlowGate$Method;)V"⟩
abbrev c_W_init : ByteArray := prog_2_method_1_code
abbrev ws_W_init : List Cond := .code y_W_init c_W_init 4 none :: AW
def y_R_init : MethodName := ⟨"FlowGate$Frame", "<init>", "()V"⟩
abbrev c_R_init : ByteArray := prog_4_method_1_code
abbrev ws_R_init : List Cond := .code y_R_init c_R_init 1 none :: AW
def y_G_cls : MethodName := ⟨"FlowGate", "cls", "(IZ)I"⟩
abbrev c_G_cls : ByteArray := prog_1_method_2_code
abbrev ws_G_cls : List Cond := .code y_G_cls c_G_cls 3 (some .int) :: AW
def y_T_hasClass : MethodName := ⟨"FlowGate$Types", "hasClass", "(I)Z"⟩
abbrev c_T_hasClass : ByteArray := prog_6_method_3_code
abbrev ws_T_hasClass : List Cond := .code y_T_hasClass c_T_hasClass 2 (some .boolean) :: AW
def y_T_append : MethodName := ⟨"FlowGate$Types", "append", "(IZ)I"⟩
abbrev c_T_append : ByteArray := prog_6_method_2_code
abbrev ws_T_append : List Cond := .code y_T_append c_T_append 3 (some .int) :: AW
def y_G_begin : MethodName := ⟨"FlowGate", "begin", "(III)I"⟩
abbrev c_G_begin : ByteArray := prog_1_method_3_code
abbrev ws_G_begin : List Cond := .code y_G_begin c_G_begin 4 (some .int) :: AW
def y_T_isValue : MethodName := ⟨"FlowGate$Types", "isValue", "(I)Z"⟩
abbrev c_T_isValue : ByteArray := prog_6_method_8_code
abbrev ws_T_isValue : List Cond := .code y_T_isValue c_T_isValue 2 (some .boolean) :: AW
def y_T_isRef : MethodName := ⟨"FlowGate$Types", "isRef", "(I)Z"⟩
abbrev c_T_isRef : ByteArray := prog_6_method_5_code
abbrev ws_T_isRef : List Cond := .code y_T_isRef c_T_isRef 4 (some .boolean) :: AW
def y_M_restart : MethodName := ⟨"FlowGate$Method", "restart", "(III)V"⟩
abbrev c_M_restart : ByteArray := prog_5_method_2_code
abbrev ws_M_restart : List Cond := .code y_M_restart c_M_restart 4 none :: AW
def y_G_argument : MethodName := ⟨"FlowGate", "argument", "(I)I"⟩
abbrev c_G_argument : ByteArray := prog_1_method_4_code
abbrev ws_G_argument : List Cond := .code y_G_argument c_G_argument 2 (some .int) :: AW
def y_M_appendArgument : MethodName := ⟨"FlowGate$Method", "appendArgument", "(I)I"⟩
abbrev c_M_appendArgument : ByteArray := prog_5_method_5_code
abbrev ws_M_appendArgument : List Cond := .code y_M_appendArgument c_M_appendArgument 2 (some .int) :: AW
def y_G_add : MethodName := ⟨"FlowGate", "add", "(III)I"⟩
abbrev c_G_add : ByteArray := prog_1_method_5_code
abbrev ws_G_add : List Cond := .code y_G_add c_G_add 4 (some .int) :: AW
def y_G_isOp : MethodName := ⟨"FlowGate", "isOp", "(I)Z"⟩
abbrev c_G_isOp : ByteArray := prog_1_method_14_code
abbrev ws_G_isOp : List Cond := .code y_G_isOp c_G_isOp 1 (some .boolean) :: AW
def y_M_append : MethodName := ⟨"FlowGate$Method", "append", "(III)I"⟩
abbrev c_M_append : ByteArray := prog_5_method_3_code
abbrev ws_M_append : List Cond := .code y_M_append c_M_append 4 (some .int) :: AW
def y_M_write : MethodName := ⟨"FlowGate$Method", "write", "(IIII)V"⟩
abbrev c_M_write : ByteArray := prog_5_method_4_code
abbrev ws_M_write : List Cond := .code y_M_write c_M_write 5 none :: AW
def y_G_change : MethodName := ⟨"FlowGate", "change", "(IIII)I"⟩
abbrev c_G_change : ByteArray := prog_1_method_6_code
abbrev ws_G_change : List Cond := .code y_G_change c_G_change 6 (some .int) :: AW
def y_M_hasInstruction : MethodName := ⟨"FlowGate$Method", "hasInstruction", "(I)Z"⟩
abbrev c_M_hasInstruction : ByteArray := prog_5_method_7_code
abbrev ws_M_hasInstruction : List Cond := .code y_M_hasInstruction c_M_hasInstruction 2 (some .boolean) :: AW
def y_G_handler : MethodName := ⟨"FlowGate", "handler", "(IIII)I"⟩
abbrev c_G_handler : ByteArray := prog_1_method_7_code
abbrev ws_G_handler : List Cond := .code y_G_handler c_G_handler 5 (some .int) :: AW
def y_M_appendHandler : MethodName := ⟨"FlowGate$Method", "appendHandler", "(IIII)I"⟩
abbrev c_M_appendHandler : ByteArray := prog_5_method_6_code
abbrev ws_M_appendHandler : List Cond := .code y_M_appendHandler c_M_appendHandler 5 (some .int) :: AW
def y_G_verify : MethodName := ⟨"FlowGate", "verify", "()I"⟩
abbrev c_G_verify : ByteArray := prog_1_method_8_code
abbrev ws_G_verify : List Cond := .code y_G_verify c_G_verify 2 (some .int) :: AW
def y_W_forget : MethodName := ⟨"FlowGate$Flow", "forget", "()V"⟩
abbrev c_W_forget : ByteArray := prog_2_method_2_code
abbrev ws_W_forget : List Cond := .code y_W_forget c_W_forget 2 none :: AW
def y_JA_fillJ : MethodName := ⟨"java/util/Arrays", "fill", "([JJ)V"⟩
abbrev c_JA_fillJ : ByteArray := prog_11_method_101_code
abbrev ws_JA_fillJ : List Cond := .code y_JA_fillJ c_JA_fillJ 5 none :: AW
def y_O_findFault : MethodName := ⟨"FlowGate$Form", "findFault", "()I"⟩
abbrev c_O_findFault : ByteArray := prog_3_method_2_code
abbrev ws_O_findFault : List Cond := .code y_O_findFault c_O_findFault 2 (some .int) :: AW
def y_O_isWellFormed : MethodName := ⟨"FlowGate$Form", "isWellFormed", "(III)Z"⟩
abbrev c_O_isWellFormed : ByteArray := prog_3_method_3_code
abbrev ws_O_isWellFormed : List Cond := .code y_O_isWellFormed c_O_isWellFormed 4 (some .boolean) :: AW
def y_M_hasLocal : MethodName := ⟨"FlowGate$Method", "hasLocal", "(I)Z"⟩
abbrev c_M_hasLocal : ByteArray := prog_5_method_8_code
abbrev ws_M_hasLocal : List Cond := .code y_M_hasLocal c_M_hasLocal 2 (some .boolean) :: AW
def y_O_isNumber : MethodName := ⟨"FlowGate$Form", "isNumber", "(I)Z"⟩
abbrev c_O_isNumber : ByteArray := prog_3_method_4_code
abbrev ws_O_isNumber : List Cond := .code y_O_isNumber c_O_isNumber 1 (some .boolean) :: AW
def y_T_isRow : MethodName := ⟨"FlowGate$Types", "isRow", "(I)Z"⟩
abbrev c_T_isRow : ByteArray := prog_6_method_6_code
abbrev ws_T_isRow : List Cond := .code y_T_isRow c_T_isRow 2 (some .boolean) :: AW
def y_O_isHandlerWellFormed : MethodName := ⟨"FlowGate$Form", "isHandlerWellFormed", "(I)Z"⟩
abbrev c_O_isHandlerWellFormed : ByteArray := prog_3_method_5_code
abbrev ws_O_isHandlerWellFormed : List Cond := .code y_O_isHandlerWellFormed c_O_isHandlerWellFormed 4 (some .boolean) :: AW
def y_T_isBelow : MethodName := ⟨"FlowGate$Types", "isBelow", "(II)Z"⟩
abbrev c_T_isBelow : ByteArray := prog_6_method_4_code
abbrev ws_T_isBelow : List Cond := .code y_T_isBelow c_T_isBelow 3 (some .boolean) :: AW
def y_O_haveArgumentsRoom : MethodName := ⟨"FlowGate$Form", "haveArgumentsRoom", "()Z"⟩
abbrev c_O_haveArgumentsRoom : ByteArray := prog_3_method_6_code
abbrev ws_O_haveArgumentsRoom : List Cond := .code y_O_haveArgumentsRoom c_O_haveArgumentsRoom 3 (some .boolean) :: AW
def y_G_widthOf : MethodName := ⟨"FlowGate", "widthOf", "(I)I"⟩
abbrev c_G_widthOf : ByteArray := prog_1_method_16_code
abbrev ws_G_widthOf : List Cond := .code y_G_widthOf c_G_widthOf 1 (some .int) :: AW
def y_W_run : MethodName := ⟨"FlowGate$Flow", "run", "()I"⟩
abbrev c_W_run : ByteArray := prog_2_method_3_code
abbrev ws_W_run : List Cond := .code y_W_run c_W_run 3 (some .int) :: AW
def y_R_start : MethodName := ⟨"FlowGate$Frame", "start", "(LFlowGate$Method;)V"⟩
abbrev c_R_start : ByteArray := prog_4_method_3_code
abbrev ws_R_start : List Cond := .code y_R_start c_R_start 4 none :: AW
def y_JA_fillI : MethodName := ⟨"java/util/Arrays", "fill", "([II)V"⟩
abbrev c_JA_fillI : ByteArray := prog_11_method_103_code
abbrev ws_JA_fillI : List Cond := .code y_JA_fillI c_JA_fillI 4 none :: AW
def y_W_meet : MethodName := ⟨"FlowGate$Flow", "meet", "(IILFlowGate$Frame;)I"⟩
abbrev c_W_meet : ByteArray := prog_2_method_7_code
abbrev ws_W_meet : List Cond := .code y_W_meet c_W_meet 4 (some .int) :: AW
def y_R_hasRaw : MethodName := ⟨"FlowGate$Frame", "hasRaw", "()Z"⟩
abbrev c_R_hasRaw : ByteArray := prog_4_method_18_code
abbrev ws_R_hasRaw : List Cond := .code y_R_hasRaw c_R_hasRaw 2 (some .boolean) :: AW
def y_G_isRaw : MethodName := ⟨"FlowGate", "isRaw", "(I)Z"⟩
abbrev c_G_isRaw : ByteArray := prog_1_method_17_code
abbrev ws_G_isRaw : List Cond := .code y_G_isRaw c_G_isRaw 1 (some .boolean) :: AW
def y_R_hasRawLocal : MethodName := ⟨"FlowGate$Frame", "hasRawLocal", "()Z"⟩
abbrev c_R_hasRawLocal : ByteArray := prog_4_method_17_code
abbrev ws_R_hasRawLocal : List Cond := .code y_R_hasRawLocal c_R_hasRawLocal 2 (some .boolean) :: AW
def y_W_reach : MethodName := ⟨"FlowGate$Flow", "reach", "(ILFlowGate$Frame;)V"⟩
abbrev c_W_reach : ByteArray := prog_2_method_8_code
abbrev ws_W_reach : List Cond := .code y_W_reach c_W_reach 3 none :: AW
def y_R_copy : MethodName := ⟨"FlowGate$Frame", "copy", "(LFlowGate$Frame;)V"⟩
abbrev c_R_copy : ByteArray := prog_4_method_2_code
abbrev ws_R_copy : List Cond := .code y_R_copy c_R_copy 2 none :: AW
def y_R_absorb : MethodName := ⟨"FlowGate$Frame", "absorb", "(LFlowGate$Frame;LFlowGate$Types;)Z"⟩
abbrev c_R_absorb : ByteArray := prog_4_method_19_code
abbrev ws_R_absorb : List Cond := .code y_R_absorb c_R_absorb 6 (some .boolean) :: AW
def y_R_absorbSubs : MethodName := ⟨"FlowGate$Frame", "absorbSubs", "(LFlowGate$Frame;)Z"⟩
abbrev c_R_absorbSubs : ByteArray := prog_4_method_20_code
abbrev ws_R_absorbSubs : List Cond := .code y_R_absorbSubs c_R_absorbSubs 7 (some .boolean) :: AW
def y_R_isIn : MethodName := ⟨"FlowGate$Frame", "isIn", "(I)Z"⟩
abbrev c_R_isIn : ByteArray := prog_4_method_13_code
abbrev ws_R_isIn : List Cond := .code y_R_isIn c_R_isIn 2 (some .boolean) :: AW
def y_T_joined : MethodName := ⟨"FlowGate$Types", "joined", "(II)I"⟩
abbrev c_T_joined : ByteArray := prog_6_method_11_code
abbrev ws_T_joined : List Cond := .code y_T_joined c_T_joined 8 (some .int) :: AW
def y_T_joinedClasses : MethodName := ⟨"FlowGate$Types", "joinedClasses", "(II)I"⟩
abbrev c_T_joinedClasses : ByteArray := prog_6_method_12_code
abbrev ws_T_joinedClasses : List Cond := .code y_T_joinedClasses c_T_joinedClasses 5 (some .int) :: AW
def y_W_look : MethodName := ⟨"FlowGate$Flow", "look", "(I)I"⟩
abbrev c_W_look : ByteArray := prog_2_method_5_code
abbrev ws_W_look : List Cond := .code y_W_look c_W_look 3 (some .int) :: AW
def y_W_meetHandlers : MethodName := ⟨"FlowGate$Flow", "meetHandlers", "(I)I"⟩
abbrev c_W_meetHandlers : ByteArray := prog_2_method_6_code
abbrev ws_W_meetHandlers : List Cond := .code y_W_meetHandlers c_W_meetHandlers 4 (some .int) :: AW
def y_M_covers : MethodName := ⟨"FlowGate$Method", "covers", "(II)Z"⟩
abbrev c_M_covers : ByteArray := prog_5_method_9_code
abbrev ws_M_covers : List Cond := .code y_M_covers c_M_covers 3 (some .boolean) :: AW
def y_R_catchIn : MethodName := ⟨"FlowGate$Frame", "catchIn", "(LFlowGate$Frame;I)V"⟩
abbrev c_R_catchIn : ByteArray := prog_4_method_4_code
abbrev ws_R_catchIn : List Cond := .code y_R_catchIn c_R_catchIn 3 none :: AW
def y_W_perform : MethodName := ⟨"FlowGate$Flow", "perform", "(I)I"⟩
abbrev c_W_perform : ByteArray := prog_2_method_12_code
abbrev ws_W_perform : List Cond := .code y_W_perform c_W_perform 5 (some .int) :: AW
def y_W_load : MethodName := ⟨"FlowGate$Flow", "load", "(I)I"⟩
abbrev c_W_load : ByteArray := prog_2_method_16_code
abbrev ws_W_load : List Cond := .code y_W_load c_W_load 3 (some .int) :: AW
def y_G_isReturn : MethodName := ⟨"FlowGate", "isReturn", "(I)Z"⟩
abbrev c_G_isReturn : ByteArray := prog_1_method_18_code
abbrev ws_G_isReturn : List Cond := .code y_G_isReturn c_G_isReturn 1 (some .boolean) :: AW
def y_W_fitsLocal : MethodName := ⟨"FlowGate$Flow", "fitsLocal", "(II)Z"⟩
abbrev c_W_fitsLocal : ByteArray := prog_2_method_15_code
abbrev ws_W_fitsLocal : List Cond := .code y_W_fitsLocal c_W_fitsLocal 3 (some .boolean) :: AW
def y_R_touch : MethodName := ⟨"FlowGate$Frame", "touch", "(II)V"⟩
abbrev c_R_touch : ByteArray := prog_4_method_11_code
abbrev ws_R_touch : List Cond := .code y_R_touch c_R_touch 3 none :: AW
def y_G_isWide : MethodName := ⟨"FlowGate", "isWide", "(I)Z"⟩
abbrev c_G_isWide : ByteArray := prog_1_method_15_code
abbrev ws_G_isWide : List Cond := .code y_G_isWide c_G_isWide 1 (some .boolean) :: AW
def y_R_touchAll : MethodName := ⟨"FlowGate$Frame", "touchAll", "(I)V"⟩
abbrev c_R_touchAll : ByteArray := prog_4_method_12_code
abbrev ws_R_touchAll : List Cond := .code y_R_touchAll c_R_touchAll 3 none :: AW
def y_R_push : MethodName := ⟨"FlowGate$Frame", "push", "(II)I"⟩
abbrev c_R_push : ByteArray := prog_4_method_9_code
abbrev ws_R_push : List Cond := .code y_R_push c_R_push 5 (some .int) :: AW
def y_W_store : MethodName := ⟨"FlowGate$Flow", "store", "(I)I"⟩
abbrev c_W_store : ByteArray := prog_2_method_17_code
abbrev ws_W_store : List Cond := .code y_W_store c_W_store 3 (some .int) :: AW
def y_R_top : MethodName := ⟨"FlowGate$Frame", "top", "(I)I"⟩
abbrev c_R_top : ByteArray := prog_4_method_6_code
abbrev ws_R_top : List Cond := .code y_R_top c_R_top 2 (some .int) :: AW
def y_R_drop : MethodName := ⟨"FlowGate$Frame", "drop", "(I)V"⟩
abbrev c_R_drop : ByteArray := prog_4_method_8_code
abbrev ws_R_drop : List Cond := .code y_R_drop c_R_drop 2 none :: AW
def y_R_store : MethodName := ⟨"FlowGate$Frame", "store", "(II)V"⟩
abbrev c_R_store : ByteArray := prog_4_method_10_code
abbrev ws_R_store : List Cond := .code y_R_store c_R_store 3 none :: AW
def y_W_increase : MethodName := ⟨"FlowGate$Flow", "increase", "(I)I"⟩
abbrev c_W_increase : ByteArray := prog_2_method_18_code
abbrev ws_W_increase : List Cond := .code y_W_increase c_W_increase 2 (some .int) :: AW
def y_W_prepareReturn : MethodName := ⟨"FlowGate$Flow", "prepareReturn", "(II)I"⟩
abbrev c_W_prepareReturn : ByteArray := prog_2_method_19_code
abbrev ws_W_prepareReturn : List Cond := .code y_W_prepareReturn c_W_prepareReturn 5 (some .int) :: AW
def y_W_shuffle : MethodName := ⟨"FlowGate$Flow", "shuffle", "(I)I"⟩
abbrev c_W_shuffle : ByteArray := prog_2_method_21_code
abbrev ws_W_shuffle : List Cond := .code y_W_shuffle c_W_shuffle 5 (some .int) :: AW
def y_R_hasNarrow : MethodName := ⟨"FlowGate$Frame", "hasNarrow", "(I)Z"⟩
abbrev c_R_hasNarrow : ByteArray := prog_4_method_7_code
abbrev ws_R_hasNarrow : List Cond := .code y_R_hasNarrow c_R_hasNarrow 2 (some .boolean) :: AW
def y_W_takeIf : MethodName := ⟨"FlowGate$Flow", "takeIf", "(ZI)I"⟩
abbrev c_W_takeIf : ByteArray := prog_2_method_13_code
abbrev ws_W_takeIf : List Cond := .code y_W_takeIf c_W_takeIf 3 (some .int) :: AW
def y_W_pushBoth : MethodName := ⟨"FlowGate$Flow", "pushBoth", "(II)I"⟩
abbrev c_W_pushBoth : ByteArray := prog_2_method_22_code
abbrev ws_W_pushBoth : List Cond := .code y_W_pushBoth c_W_pushBoth 4 (some .int) :: AW
def y_W_calculate : MethodName := ⟨"FlowGate$Flow", "calculate", "(III)I"⟩
abbrev c_W_calculate : ByteArray := prog_2_method_23_code
abbrev ws_W_calculate : List Cond := .code y_W_calculate c_W_calculate 5 (some .int) :: AW
def y_W_exchangeIf : MethodName := ⟨"FlowGate$Flow", "exchangeIf", "(ZII)I"⟩
abbrev c_W_exchangeIf : ByteArray := prog_2_method_14_code
abbrev ws_W_exchangeIf : List Cond := .code y_W_exchangeIf c_W_exchangeIf 4 (some .int) :: AW
def y_W_decide : MethodName := ⟨"FlowGate$Flow", "decide", "(I)I"⟩
abbrev c_W_decide : ByteArray := prog_2_method_24_code
abbrev ws_W_decide : List Cond := .code y_W_decide c_W_decide 3 (some .int) :: AW
def y_T_isRefOrNull : MethodName := ⟨"FlowGate$Types", "isRefOrNull", "(I)Z"⟩
abbrev c_T_isRefOrNull : ByteArray := prog_6_method_7_code
abbrev ws_T_isRefOrNull : List Cond := .code y_T_isRefOrNull c_T_isRefOrNull 2 (some .boolean) :: AW
def y_T_goesFor : MethodName := ⟨"FlowGate$Types", "goesFor", "(II)Z"⟩
abbrev c_T_goesFor : ByteArray := prog_6_method_10_code
abbrev ws_T_goesFor : List Cond := .code y_T_goesFor c_T_goesFor 6 (some .boolean) :: AW
def y_W_enterSub : MethodName := ⟨"FlowGate$Flow", "enterSub", "(I)I"⟩
abbrev c_W_enterSub : ByteArray := prog_2_method_20_code
abbrev ws_W_enterSub : List Cond := .code y_W_enterSub c_W_enterSub 2 (some .int) :: AW
def y_R_enter : MethodName := ⟨"FlowGate$Frame", "enter", "(I)V"⟩
abbrev c_R_enter : ByteArray := prog_4_method_14_code
abbrev ws_R_enter : List Cond := .code y_R_enter c_R_enter 2 none :: AW
def y_W_create : MethodName := ⟨"FlowGate$Flow", "create", "(I)I"⟩
abbrev c_W_create : ByteArray := prog_2_method_25_code
abbrev ws_W_create : List Cond := .code y_W_create c_W_create 2 (some .int) :: AW
def y_R_isOnStack : MethodName := ⟨"FlowGate$Frame", "isOnStack", "(I)Z"⟩
abbrev c_R_isOnStack : ByteArray := prog_4_method_16_code
abbrev ws_R_isOnStack : List Cond := .code y_R_isOnStack c_R_isOnStack 3 (some .boolean) :: AW
def y_R_replace : MethodName := ⟨"FlowGate$Frame", "replace", "(II)V"⟩
abbrev c_R_replace : ByteArray := prog_4_method_15_code
abbrev ws_R_replace : List Cond := .code y_R_replace c_R_replace 4 none :: AW
def y_W_build : MethodName := ⟨"FlowGate$Flow", "build", "(I)I"⟩
abbrev c_W_build : ByteArray := prog_2_method_26_code
abbrev ws_W_build : List Cond := .code y_W_build c_W_build 3 (some .int) :: AW
def y_W_useObject : MethodName := ⟨"FlowGate$Flow", "useObject", "(III)I"⟩
abbrev c_W_useObject : ByteArray := prog_2_method_27_code
abbrev ws_W_useObject : List Cond := .code y_W_useObject c_W_useObject 5 (some .int) :: AW
def y_W_useRow : MethodName := ⟨"FlowGate$Flow", "useRow", "(II)I"⟩
abbrev c_W_useRow : ByteArray := prog_2_method_28_code
abbrev ws_W_useRow : List Cond := .code y_W_useRow c_W_useRow 4 (some .int) :: AW
def y_W_isRowOf : MethodName := ⟨"FlowGate$Flow", "isRowOf", "(II)Z"⟩
abbrev c_W_isRowOf : ByteArray := prog_2_method_29_code
abbrev ws_W_isRowOf : List Cond := .code y_W_isRowOf c_W_isRowOf 2 (some .boolean) :: AW
def y_W_elementOf : MethodName := ⟨"FlowGate$Flow", "elementOf", "(I)I"⟩
abbrev c_W_elementOf : ByteArray := prog_2_method_30_code
abbrev ws_W_elementOf : List Cond := .code y_W_elementOf c_W_elementOf 1 (some .int) :: AW
def y_W_comeBack : MethodName := ⟨"FlowGate$Flow", "comeBack", "(I)I"⟩
abbrev c_W_comeBack : ByteArray := prog_2_method_11_code
abbrev ws_W_comeBack : List Cond := .code y_W_comeBack c_W_comeBack 5 (some .int) :: AW
def y_R_comeBack : MethodName := ⟨"FlowGate$Frame", "comeBack", "(LFlowGate$Frame;LFlowGate$Frame;I)V"⟩
abbrev c_R_comeBack : ByteArray := prog_4_method_5_code
abbrev ws_R_comeBack : List Cond := .code y_R_comeBack c_R_comeBack 6 none :: AW
def y_W_leave : MethodName := ⟨"FlowGate$Flow", "leave", "(I)I"⟩
abbrev c_W_leave : ByteArray := prog_2_method_9_code
abbrev ws_W_leave : List Cond := .code y_W_leave c_W_leave 4 (some .int) :: AW
def y_W_wakeReturns : MethodName := ⟨"FlowGate$Flow", "wakeReturns", "(I)V"⟩
abbrev c_W_wakeReturns : ByteArray := prog_2_method_10_code
abbrev ws_W_wakeReturns : List Cond := .code y_W_wakeReturns c_W_wakeReturns 3 none :: AW
def y_W_findChanged : MethodName := ⟨"FlowGate$Flow", "findChanged", "()I"⟩
abbrev c_W_findChanged : ByteArray := prog_2_method_4_code
abbrev ws_W_findChanged : List Cond := .code y_W_findChanged c_W_findChanged 2 (some .int) :: AW
def y_G_place : MethodName := ⟨"FlowGate", "place", "()I"⟩
abbrev c_G_place : ByteArray := prog_1_method_9_code
abbrev ws_G_place : List Cond := .code y_G_place c_G_place 1 (some .int) :: AW
def y_G_state : MethodName := ⟨"FlowGate", "state", "(II)I"⟩
abbrev c_G_state : ByteArray := prog_1_method_10_code
abbrev ws_G_state : List Cond := .code y_G_state c_G_state 3 (some .int) :: AW
def y_R_read : MethodName := ⟨"FlowGate$Frame", "read", "(I)I"⟩
abbrev c_R_read : ByteArray := prog_4_method_21_code
abbrev ws_R_read : List Cond := .code y_R_read c_R_read 3 (some .int) :: AW
def y_JL_bitCount : MethodName := ⟨"java/lang/Long", "bitCount", "(J)I"⟩
abbrev c_JL_bitCount : ByteArray := prog_9_method_50_code
abbrev ws_JL_bitCount : List Cond := .code y_JL_bitCount c_JL_bitCount 2 (some .int) :: AW
def y_R_findSub : MethodName := ⟨"FlowGate$Frame", "findSub", "(I)I"⟩
abbrev c_R_findSub : ByteArray := prog_4_method_22_code
abbrev ws_R_findSub : List Cond := .code y_R_findSub c_R_findSub 4 (some .int) :: AW
def y_G_join : MethodName := ⟨"FlowGate", "join", "(II)I"⟩
abbrev c_G_join : ByteArray := prog_1_method_11_code
abbrev ws_G_join : List Cond := .code y_G_join c_G_join 3 (some .int) :: AW
def y_T_isPlain : MethodName := ⟨"FlowGate$Types", "isPlain", "(I)Z"⟩
abbrev c_T_isPlain : ByteArray := prog_6_method_9_code
abbrev ws_T_isPlain : List Cond := .code y_T_isPlain c_T_isPlain 2 (some .boolean) :: AW
def y_G_goes : MethodName := ⟨"FlowGate", "goes", "(II)I"⟩
abbrev c_G_goes : ByteArray := prog_1_method_12_code
abbrev ws_G_goes : List Cond := .code y_G_goes c_G_goes 3 (some .int) :: AW
def y_G_count : MethodName := ⟨"FlowGate", "count", "(I)I"⟩
abbrev c_G_count : ByteArray := prog_1_method_13_code
abbrev ws_G_count : List Cond := .code y_G_count c_G_count 2 (some .int) :: AW
def y_D_init : MethodName := ⟨"FlowGateModel", "<init>", "()V"⟩
abbrev c_D_init : ByteArray := prog_8_method_1_code
abbrev ws_D_init : List Cond := .code y_D_init c_D_init 1 none :: AW
def y_D_cls : MethodName := ⟨"FlowGateModel", "cls", "(IZ)I"⟩
abbrev c_D_cls : ByteArray := prog_8_method_9_code
abbrev ws_D_cls : List Cond := .code y_D_cls c_D_cls 3 (some .int) :: AW
def y_D_in : MethodName := ⟨"FlowGateModel", "in", "(III)Z"⟩
abbrev c_D_in : ByteArray := prog_8_method_2_code
abbrev ws_D_in : List Cond := .code y_D_in c_D_in 3 (some .boolean) :: AW
def y_D_begin : MethodName := ⟨"FlowGateModel", "begin", "(III)I"⟩
abbrev c_D_begin : ByteArray := prog_8_method_11_code
abbrev ws_D_begin : List Cond := .code y_D_begin c_D_begin 4 (some .int) :: AW
def y_D_isPlain : MethodName := ⟨"FlowGateModel", "isPlain", "(I)Z"⟩
abbrev c_D_isPlain : ByteArray := prog_8_method_10_code
abbrev ws_D_isPlain : List Cond := .code y_D_isPlain c_D_isPlain 2 (some .boolean) :: AW
def y_D_isRef : MethodName := ⟨"FlowGateModel", "isRef", "(I)Z"⟩
abbrev c_D_isRef : ByteArray := prog_8_method_4_code
abbrev ws_D_isRef : List Cond := .code y_D_isRef c_D_isRef 2 (some .boolean) :: AW
def y_D_isClass : MethodName := ⟨"FlowGateModel", "isClass", "(I)Z"⟩
abbrev c_D_isClass : ByteArray := prog_8_method_3_code
abbrev ws_D_isClass : List Cond := .code y_D_isClass c_D_isClass 2 (some .boolean) :: AW
def y_D_argument : MethodName := ⟨"FlowGateModel", "argument", "(I)I"⟩
abbrev c_D_argument : ByteArray := prog_8_method_12_code
abbrev ws_D_argument : List Cond := .code y_D_argument c_D_argument 2 (some .int) :: AW
def y_D_add : MethodName := ⟨"FlowGateModel", "add", "(III)I"⟩
abbrev c_D_add : ByteArray := prog_8_method_13_code
abbrev ws_D_add : List Cond := .code y_D_add c_D_add 4 (some .int) :: AW
def y_D_change : MethodName := ⟨"FlowGateModel", "change", "(IIII)I"⟩
abbrev c_D_change : ByteArray := prog_8_method_14_code
abbrev ws_D_change : List Cond := .code y_D_change c_D_change 6 (some .int) :: AW
def y_D_handler : MethodName := ⟨"FlowGateModel", "handler", "(IIII)I"⟩
abbrev c_D_handler : ByteArray := prog_8_method_15_code
abbrev ws_D_handler : List Cond := .code y_D_handler c_D_handler 5 (some .int) :: AW
def y_D_verify : MethodName := ⟨"FlowGateModel", "verify", "()I"⟩
abbrev c_D_verify : ByteArray := prog_8_method_20_code
abbrev ws_D_verify : List Cond := .code y_D_verify c_D_verify 2 (some .int) :: AW
def y_D_form : MethodName := ⟨"FlowGateModel", "form", "()V"⟩
abbrev c_D_form : ByteArray := prog_8_method_19_code
abbrev ws_D_form : List Cond := .code y_D_form c_D_form 3 none :: AW
def y_D_fail : MethodName := ⟨"FlowGateModel", "fail", "(II)V"⟩
abbrev c_D_fail : ByteArray := prog_8_method_18_code
abbrev ws_D_fail : List Cond := .code y_D_fail c_D_fail 3 none :: AW
def y_D_isFormed : MethodName := ⟨"FlowGateModel", "isFormed", "(III)Z"⟩
abbrev c_D_isFormed : ByteArray := prog_8_method_17_code
abbrev ws_D_isFormed : List Cond := .code y_D_isFormed c_D_isFormed 4 (some .boolean) :: AW
def y_D_isGoal : MethodName := ⟨"FlowGateModel", "isGoal", "(I)Z"⟩
abbrev c_D_isGoal : ByteArray := prog_8_method_16_code
abbrev ws_D_isGoal : List Cond := .code y_D_isGoal c_D_isGoal 2 (some .boolean) :: AW
def y_D_isBelow : MethodName := ⟨"FlowGateModel", "isBelow", "(II)Z"⟩
abbrev c_D_isBelow : ByteArray := prog_8_method_6_code
abbrev ws_D_isBelow : List Cond := .code y_D_isBelow c_D_isBelow 4 (some .boolean) :: AW
def y_D_isWide : MethodName := ⟨"FlowGateModel", "isWide", "(I)Z"⟩
abbrev c_D_isWide : ByteArray := prog_8_method_5_code
abbrev ws_D_isWide : List Cond := .code y_D_isWide c_D_isWide 1 (some .boolean) :: AW
def y_D_begins : MethodName := ⟨"FlowGateModel", "begins", "()V"⟩
abbrev c_D_begins : ByteArray := prog_8_method_21_code
abbrev ws_D_begins : List Cond := .code y_D_begins c_D_begins 3 none :: AW
def y_D_meet : MethodName := ⟨"FlowGateModel", "meet", "(I)V"⟩
abbrev c_D_meet : ByteArray := prog_8_method_22_code
abbrev ws_D_meet : List Cond := .code y_D_meet c_D_meet 5 none :: AW
def y_D_joined : MethodName := ⟨"FlowGateModel", "joined", "(II)I"⟩
abbrev c_D_joined : ByteArray := prog_8_method_8_code
abbrev ws_D_joined : List Cond := .code y_D_joined c_D_joined 9 (some .int) :: AW
def y_D_lookAt : MethodName := ⟨"FlowGateModel", "lookAt", "(I)V"⟩
abbrev c_D_lookAt : ByteArray := prog_8_method_26_code
abbrev ws_D_lookAt : List Cond := .code y_D_lookAt c_D_lookAt 6 none :: AW
def y_D_copyOut : MethodName := ⟨"FlowGateModel", "copyOut", "()V"⟩
abbrev c_D_copyOut : ByteArray := prog_8_method_25_code
abbrev ws_D_copyOut : List Cond := .code y_D_copyOut c_D_copyOut 2 none :: AW
def y_D_hasRaw : MethodName := ⟨"FlowGateModel", "hasRaw", "(Z)Z"⟩
abbrev c_D_hasRaw : ByteArray := prog_8_method_23_code
abbrev ws_D_hasRaw : List Cond := .code y_D_hasRaw c_D_hasRaw 3 (some .boolean) :: AW
def y_D_back : MethodName := ⟨"FlowGateModel", "back", "(II)V"⟩
abbrev c_D_back : ByteArray := prog_8_method_40_code
abbrev ws_D_back : List Cond := .code y_D_back c_D_back 6 none :: AW
def y_D_touches : MethodName := ⟨"FlowGateModel", "touches", "(II)V"⟩
abbrev c_D_touches : ByteArray := prog_8_method_35_code
abbrev ws_D_touches : List Cond := .code y_D_touches c_D_touches 4 none :: AW
def y_D_go : MethodName := ⟨"FlowGateModel", "go", "(II)V"⟩
abbrev c_D_go : ByteArray := prog_8_method_24_code
abbrev ws_D_go : List Cond := .code y_D_go c_D_go 3 none :: AW
def y_D_moves : MethodName := ⟨"FlowGateModel", "moves", "(II)Z"⟩
abbrev c_D_moves : ByteArray := prog_8_method_36_code
abbrev ws_D_moves : List Cond := .code y_D_moves c_D_moves 5 (some .boolean) :: AW
def y_D_put : MethodName := ⟨"FlowGateModel", "put", "(I)Z"⟩
abbrev c_D_put : ByteArray := prog_8_method_29_code
abbrev ws_D_put : List Cond := .code y_D_put c_D_put 2 (some .boolean) :: AW
def y_D_top : MethodName := ⟨"FlowGateModel", "top", "(I)I"⟩
abbrev c_D_top : ByteArray := prog_8_method_27_code
abbrev ws_D_top : List Cond := .code y_D_top c_D_top 2 (some .int) :: AW
def y_D_drop : MethodName := ⟨"FlowGateModel", "drop", "()V"⟩
abbrev c_D_drop : ByteArray := prog_8_method_28_code
abbrev ws_D_drop : List Cond := .code y_D_drop c_D_drop 1 none :: AW
def y_D_single : MethodName := ⟨"FlowGateModel", "single", "(I)Z"⟩
abbrev c_D_single : ByteArray := prog_8_method_34_code
abbrev ws_D_single : List Cond := .code y_D_single c_D_single 2 (some .boolean) :: AW
def y_D_flows : MethodName := ⟨"FlowGateModel", "flows", "(III)Z"⟩
abbrev c_D_flows : ByteArray := prog_8_method_37_code
abbrev ws_D_flows : List Cond := .code y_D_flows c_D_flows 4 (some .boolean) :: AW
def y_D_takes : MethodName := ⟨"FlowGateModel", "takes", "(I)Z"⟩
abbrev c_D_takes : ByteArray := prog_8_method_30_code
abbrev ws_D_takes : List Cond := .code y_D_takes c_D_takes 2 (some .boolean) :: AW
def y_D_takesRef : MethodName := ⟨"FlowGateModel", "takesRef", "()Z"⟩
abbrev c_D_takesRef : ByteArray := prog_8_method_32_code
abbrev ws_D_takesRef : List Cond := .code y_D_takesRef c_D_takesRef 1 (some .boolean) :: AW
def y_D_takesFor : MethodName := ⟨"FlowGateModel", "takesFor", "(I)Z"⟩
abbrev c_D_takesFor : ByteArray := prog_8_method_31_code
abbrev ws_D_takesFor : List Cond := .code y_D_takesFor c_D_takesFor 2 (some .boolean) :: AW
def y_D_goesFor : MethodName := ⟨"FlowGateModel", "goesFor", "(II)Z"⟩
abbrev c_D_goesFor : ByteArray := prog_8_method_7_code
abbrev ws_D_goesFor : List Cond := .code y_D_goesFor c_D_goesFor 5 (some .boolean) :: AW
def y_D_objects : MethodName := ⟨"FlowGateModel", "objects", "(IIII)Z"⟩
abbrev c_D_objects : ByteArray := prog_8_method_38_code
abbrev ws_D_objects : List Cond := .code y_D_objects c_D_objects 7 (some .boolean) :: AW
def y_D_takesRow : MethodName := ⟨"FlowGateModel", "takesRow", "(I)Z"⟩
abbrev c_D_takesRow : ByteArray := prog_8_method_33_code
abbrev ws_D_takesRow : List Cond := .code y_D_takesRow c_D_takesRow 2 (some .boolean) :: AW
def y_D_enters : MethodName := ⟨"FlowGateModel", "enters", "(II)V"⟩
abbrev c_D_enters : ByteArray := prog_8_method_39_code
abbrev ws_D_enters : List Cond := .code y_D_enters c_D_enters 4 none :: AW
def y_D_place : MethodName := ⟨"FlowGateModel", "place", "()I"⟩
abbrev c_D_place : ByteArray := prog_8_method_41_code
abbrev ws_D_place : List Cond := .code y_D_place c_D_place 1 (some .int) :: AW
def y_D_state : MethodName := ⟨"FlowGateModel", "state", "(II)I"⟩
abbrev c_D_state : ByteArray := prog_8_method_42_code
abbrev ws_D_state : List Cond := .code y_D_state c_D_state 5 (some .int) :: AW
def y_D_join : MethodName := ⟨"FlowGateModel", "join", "(II)I"⟩
abbrev c_D_join : ByteArray := prog_8_method_43_code
abbrev ws_D_join : List Cond := .code y_D_join c_D_join 3 (some .int) :: AW
def y_D_goes : MethodName := ⟨"FlowGateModel", "goes", "(II)I"⟩
abbrev c_D_goes : ByteArray := prog_8_method_44_code
abbrev ws_D_goes : List Cond := .code y_D_goes c_D_goes 3 (some .int) :: AW
def y_D_count : MethodName := ⟨"FlowGateModel", "count", "(I)I"⟩
abbrev c_D_count : ByteArray := prog_8_method_45_code
abbrev ws_D_count : List Cond := .code y_D_count c_D_count 4 (some .int) :: AW
end
section
def ztys (c : Nat → ClassId) : List (ClassId × FieldType) := [(c 0, .int), (c 1, .boolean), (c 2, .long), (c 3, .object "FlowGate$Frame")]
def nsM : List (String × Nat × MethodName × String) := [("FlowGate", 18, y_M_init, "FlowGate"), ("FlowGate$Flow", 28, y_R_init, "FlowGate"), ("FlowGate$Flow", 203, y_G_widthOf, "FlowGate"), ("FlowGate$Flow", 208, y_G_isReturn, "FlowGate"), ("FlowGate$Flow", 230, y_G_isWide, "FlowGate"), ("FlowGate$Flow", 264, y_G_isRaw, "FlowGate"), ("FlowGate$Form", 95, y_G_widthOf, "FlowGate"), ("FlowGate$Frame", 49, y_G_widthOf, "FlowGate"), ("FlowGate$Frame", 65, y_G_isWide, "FlowGate"), ("FlowGate$Frame", 72, y_G_isRaw, "FlowGate")]
def ck (t : Nat) : Nat := ([0, 0, 1, 2, 0, 1, 1, 1, 1, 1, 1, 1, 1, 0, 0, 4, 2, 2, 3, 0, 1, 1, 1, 9, 9, 9, 9, 9, 9, 9, 0, 1, 2, 1, 1, 1, 1, 1, 1, 1, 1, 2, 2, 1, 1, 1, 1, 3, 3, 1, 1, 1, 1, 1, 1] : List Nat).getD t 9
def cn (t : Nat) : Nat := ([0, 1, 0, 0, 2, 0, 0, 0, 0, 0, 0, 0, 0, 3, 4, 3, 0, 0, 0, 5, 0, 0, 0, 0, 0, 0, 0, 0, 0, 0, 6, 0, 0, 0, 0, 0, 0, 0, 0, 0, 0, 0, 0, 0, 0, 0, 0, 0, 0, 0, 0, 0, 0, 0, 0] : List Nat).getD t 0
def nf (t : Nat) : Nat := ([6, 3, 10, 10, 14, 48, 48, 48, 3, 3, 3, 3, 6, 2, 12, 48, 48, 48, 48, 5, 12, 12, 48, 0, 0, 0, 0, 0, 0, 0, 42, 10, 10, 48, 48, 48, 3, 3, 3, 3, 6, 48, 48, 576, 576, 48, 2304, 48, 48, 14, 20, 48, 12, 20, 48] : List Nat).getD t 0
def fk (t k : Nat) : Nat := (([[2, 2, 2, 2, 0, 0], [2, 2, 0], [], [], [2, 2, 2, 0, 2, 2, 2, 2, 0, 2, 0, 0, 0, 0], [], [], [], [], [], [], [], [], [2, 2], [2, 2, 2, 2, 2, 2, 2, 2, 0, 0, 0, 1], [], [], [], [], [2, 2, 0, 1, 2], [], [], [], [], [], [], [], [], [], [], [2, 2, 0, 2, 2, 2, 2, 2, 2, 2, 2, 0, 0, 0, 0, 0, 0, 2, 2, 2, 2, 2, 2, 2, 2, 2, 2, 2, 2, 2, 2, 0, 0, 0, 0, 0, 0, 0, 0, 1, 1, 1], [], [], [], [], [], [], [], [], [], [], [], [], [], [], [], [], [], [], [], [], [], [], [], []] : List (List Nat)).getD t []).getD k 0
def rt (t k : Nat) : Nat := (([[1, 4, 13, 14, 0, 0], [2, 3, 0], [], [], [5, 6, 7, 0, 8, 9, 10, 11, 0, 12, 0, 0, 0, 0], [], [], [], [], [], [], [], [], [1, 4], [1, 4, 15, 16, 17, 18, 19, 19, 0, 0, 0, 0], [], [], [], [], [20, 21, 0, 0, 22], [], [], [], [], [], [], [], [], [], [], [31, 32, 0, 33, 34, 35, 36, 37, 38, 39, 40, 0, 0, 0, 0, 0, 0, 41, 42, 43, 44, 45, 46, 47, 48, 49, 50, 51, 52, 53, 54, 0, 0, 0, 0, 0, 0, 0, 0, 0, 0, 0], [], [], [], [], [], [], [], [], [], [], [], [], [], [], [], [], [], [], [], [], [], [], [], []] : List (List Nat)).getD t []).getD k 0
def ri (t k i : Nat) : Nat := match (([[1, 1, 1, 1, 0, 0], [1, 1, 0], [], [], [1, 1, 1, 0, 1, 1, 1, 1, 0, 1, 0, 0, 0, 0], [], [], [], [], [], [], [], [], [1, 1], [1, 1, 1, 1, 1, 1, 1, 2, 0, 0, 0, 0], [], [], [], [], [0, 0, 0, 0, 0], [], [], [], [], [], [], [], [], [], [], [1, 1, 0, 1, 1, 1, 1, 1, 1, 1, 1, 0, 0, 0, 0, 0, 0, 1, 1, 1, 1, 1, 1, 1, 1, 1, 1, 1, 1, 1, 1, 0, 0, 0, 0, 0, 0, 0, 0, 0, 0, 0], [], [], [], [], [], [], [], [], [], [], [], [], [], [], [], [], [], [], [], [], [], [], [], []] : List (List Nat)).getD t []).getD k 0 with
  | 0 => i
  | n + 1 => n
def et (t : Nat) : Nat := ([0, 0, 0, 0, 0, 0, 0, 0, 0, 0, 0, 0, 0, 0, 0, 19, 0, 0, 0, 0, 0, 0, 0, 0, 0, 0, 0, 0, 0, 0, 0, 0, 0, 0, 0, 0, 0, 0, 0, 0, 0, 0, 0, 0, 0, 0, 0, 0, 0, 0, 0, 0, 0, 0, 0] : List Nat).getD t 0
def ei (t j : Nat) : Nat := j + ([0, 0, 0, 0, 0, 0, 0, 0, 0, 0, 0, 0, 0, 0, 0, 2, 0, 0, 0, 0, 0, 0, 0, 0, 0, 0, 0, 0, 0, 0, 0, 0, 0, 0, 0, 0, 0, 0, 0, 0, 0, 0, 0, 0, 0, 0, 0, 0, 0, 0, 0, 0, 0, 0, 0] : List Nat).getD t 0
def cnt (t : Nat) : Nat := ([1, 1, 1, 1, 1, 1, 1, 1, 1, 1, 1, 1, 1, 1, 1, 1, 1, 1, 1, 50, 50, 50, 50, 0, 0, 0, 0, 0, 0, 0, 1, 1, 1, 1, 1, 1, 1, 1, 1, 1, 1, 1, 1, 1, 1, 1, 1, 1, 1, 1, 1, 1, 1, 1, 1] : List Nat).getD t 0
def sC (t : Nat) : Bool := Nat.blt t 30
def sD (t : Nat) : Bool := Nat.ble 30 t && Nat.blt t 55
def pos (t i : Nat) : Nat := if t < 19 then t else if t < 30 then 19 + 4 * i + (t - 19) else 219 + (t - 30)
end
section
/-! The judgement G: the machine W over a world that is a function of a memory; a row an instruction. -/
abbrev Mm : Type := (Nat → Nat → Nat → Int32) × (Nat → Nat → Nat → Int64)
def sI (M : Mm) (t i k : Nat) (v : Int32) : Mm := (fun a b c => if a = t ∧ b = i ∧ c = k then v else M.1 a b c, M.2)
def sL (M : Mm) (t i k : Nat) (v : Int64) : Mm := (M.1, fun a b c => if a = t ∧ b = i ∧ c = k then v else M.2 a b c)
def sA (M : Mm) (t i : Nat) (f : Nat → Int32) : Mm := (fun a b c => if a = t ∧ b = i then f c else M.1 a b c, M.2)
def sB (M : Mm) (t i : Nat) (f : Nat → Int64) : Mm := (M.1, fun a b c => if a = t ∧ b = i then f c else M.2 a b c)
/-- the links to private methods of nest mates stand -/
def Nst (U : State) : Prop := (∀ q ∈ nsM, va_Nw (.methodLinkNest q.1 q.2.1 q.2.2.1 q.2.2.2) U) ∧ va_AO "FlowGate$Frame" U
/-- what stays over a whole proof: launch, tables, world, addresses, array classes -/
abbrev ZT : Type := Launch × va_G × (Mm → va_W) × (Nat → Nat → Nat) × (Nat → ClassId)
abbrev zl (Z : ZT) : Launch := Z.1
abbrev zD (Z : ZT) : va_G := Z.2.1
abbrev zw (Z : ZT) : Mm → va_W := Z.2.2.1
abbrev za (Z : ZT) : Nat → Nat → Nat := Z.2.2.2.1
abbrev zc (Z : ZT) : Nat → ClassId := Z.2.2.2.2
/-- one walk: program, env, room, start, method id, arguments, below, method, code, end, own cells -/
abbrev XT : Type := Program × Env × Room × State × MethodId × Array Value × List Frame × Method × Code × (State → Prop) × (Nat → Prop) × Nat × Nat
abbrev xp (X : XT) : Program := X.1
abbrev xe (X : XT) : Env := X.2.1
abbrev xR (X : XT) : Room := X.2.2.1
abbrev xs (X : XT) : State := X.2.2.2.1
abbrev xm (X : XT) : MethodId := X.2.2.2.2.1
abbrev xa (X : XT) : Array Value := X.2.2.2.2.2.1
abbrev xb (X : XT) : List Frame := X.2.2.2.2.2.2.1
abbrev xt (X : XT) : Method := X.2.2.2.2.2.2.2.1
abbrev xc (X : XT) : Code := X.2.2.2.2.2.2.2.2.1
abbrev xQ (X : XT) : State → Prop := X.2.2.2.2.2.2.2.2.2.1
abbrev xA (X : XT) : Nat → Prop := X.2.2.2.2.2.2.2.2.2.2.1
abbrev xk1 (X : XT) : Nat := X.2.2.2.2.2.2.2.2.2.2.2.1
abbrev xk2 (X : XT) : Nat := X.2.2.2.2.2.2.2.2.2.2.2.2
abbrev WX (Z : ZT) (X : XT) (H : Heap) (locs : List Loc) (g : JFrame) : Prop := W (xp X) (zl Z) (xe X) (xR X) (xs X) (xm X) (xa X) (xb X) (xt X) (xc X) H locs (xk1 X) (xk2 X) (xQ X) g
def G (Z : ZT) (X : XT) (M : Mm) (pc : Nat) (lv : List (Nat × Value)) (st : List Value) : Prop :=
  ∀ (H : Heap) (locs : List Loc) (ls : Array Slot), va_P (zD Z) vwCl (zw Z M) H → va_S (xA X) (xs X).heap H locs → lv_has ls (xc X).maxLocals lv → WX Z X H locs (F0 (xm X) pc ls st)
/-- what holds of a walk as a whole: the machine, the code, its locals, its class, its words, no lock, the tables, the world's cells apart, its room -/
def Ok (Z : ZT) (X : XT) (own : String) (cc : ByteArray) (ts : List Cond) (nL : Nat) (rm : Room) : Prop :=
  (xp X).tables.exec = Jvm.exec ∧ (xc X).code = cc ∧ (xc X).maxLocals = nL ∧ (xs X).vm.findClass own = some (xm X).cls ∧ (∀ w ∈ ts, w.before (xa X) (xs X) = true) ∧ (xt X).locks = false ∧ va_K (zD Z) vwCl (ztys (zc Z)) (xs X) ∧ (∀ M, va_D (xA X) (zw Z M)) ∧ (∀ q : Nat, (xs X).heap.size ≤ q → xA X q) ∧ (xR X = rm ∧ xk1 X ≤ rm.cells ∧ xk2 X ≤ rm.slots) ∧ Nst (xs X)
def lvg : List (Nat × Value) → Nat → Option Value
  | [], _ => none
  | q :: r, i => bif q.1 == i then some q.2 else lvg r i
theorem lvg_mem : ∀ {lv : List (Nat × Value)} {i : Nat} {v : Value}, lvg lv i = some v → (i, v) ∈ lv
  | [], _, _, h => by cases h
  | q :: r, i, v, h => by
    unfold lvg at h
    cases hq : q.1 == i with
    | true =>
      rw [hq] at h
      have e1 : q.1 = i := by simpa using hq
      have e2 : q.2 = v := by simpa using h
      rw [← e1, ← e2]
      exact List.mem_cons_self
    | false =>
      rw [hq] at h
      exact List.mem_cons_of_mem _ (lvg_mem h)
theorem lvg_at {ls : Array Slot} {n : Nat} {lv : List (Nat × Value)} {i : Nat} {v : Value} (hl : lv_has ls n lv) (h : lvg lv i = some v) : ls[i]? = some (.val v) := hl.2.2 (i, v) (lvg_mem h)
section GR
variable {Z : ZT} {X : XT} {M : Mm} {pc : Nat} {lv lv' : List (Nat × Value)} {st : List Value} {own : String} {cc : ByteArray} {ts : List Cond} {nL : Nat} {rm : Room}
theorem g_topi {x : Int32} (k : ∀ y : Int32, y = x → G Z X M pc lv (.int y :: st)) : G Z X M pc lv (.int x :: st) := k x rfl
theorem g_topl {x : Int64} (k : ∀ y : Int64, y = x → G Z X M pc lv (.long y :: st)) : G Z X M pc lv (.long x :: st) := k x rfl
theorem g_mem (k : ∀ M1 : Mm, M1 = M → G Z X M1 pc lv st) : G Z X M pc lv st := k M rfl
theorem g_sub (ks : List Nat) (hl : lv_pick lv ks = lv') (k : G Z X M pc lv' st) : G Z X M pc lv st := fun H locs ls hP hS h => k H locs ls hP hS (lv_sub h ks hl)
theorem g_iconst (h : Ok Z X own cc ts nL rm) {n : Int} {v : Int32} (hdg : decode cc pc = .ok (.iconst n, 1)) (hv : Int32.ofInt n = v) (k : G Z X M (pc + 1) lv (.int v :: st)) : G Z X M pc lv st := fun H locs ls hP hS hl => lv_iconst h.1 h.2.1 hdg hv (k H locs ls hP hS hl)
theorem g_bipush (h : Ok Z X own cc ts nL rm) {n : Int} {v : Int32} (hdg : decode cc pc = .ok (.bipush n, 2)) (hv : (Int8.ofInt n).toInt32 = v) (k : G Z X M (pc + 2) lv (.int v :: st)) : G Z X M pc lv st := fun H locs ls hP hS hl => lv_bipush h.1 h.2.1 hdg hv (k H locs ls hP hS hl)
theorem g_sipush (h : Ok Z X own cc ts nL rm) {n : Int} {v : Int32} (hdg : decode cc pc = .ok (.sipush n, 3)) (hv : (Int16.ofInt n).toInt32 = v) (k : G Z X M (pc + 3) lv (.int v :: st)) : G Z X M pc lv st := fun H locs ls hP hS hl => lv_sipush h.1 h.2.1 hdg hv (k H locs ls hP hS hl)
theorem g_lconst (h : Ok Z X own cc ts nL rm) {n : Fin 2} {v : Int64} (hdg : decode cc pc = .ok (.lconst n, 1)) (hv : Int64.ofNat (n : Nat) = v) (k : G Z X M (pc + 1) lv (.long v :: st)) : G Z X M pc lv st := fun H locs ls hP hS hl => lv_lconst h.1 h.2.1 hdg hv (k H locs ls hP hS hl)
theorem g_ldc (h : Ok Z X own cc ts nL rm) {index : Nat} {v : Int32} (hc : Jvm.Cond.constant own index v ∈ ts) (hdg : decode cc pc = .ok (.ldc index, 2)) (k : G Z X M (pc + 2) lv (.int v :: st)) : G Z X M pc lv st := fun H locs ls hP hS hl => lv_ldc h.1 h.2.1 h.2.2.2.1 (h.2.2.2.2.1 _ hc) hdg (k H locs ls hP hS hl)
theorem g_ldc2 (h : Ok Z X own cc ts nL rm) {index : Nat} {v : Int64} (hc : Jvm.Cond.constantLong own index v ∈ ts) (hdg : decode cc pc = .ok (.ldc2_w index, 3)) (k : G Z X M (pc + 3) lv (.long v :: st)) : G Z X M pc lv st := fun H locs ls hP hS hl => lv_ldc2 h.1 h.2.1 h.2.2.2.1 (h.2.2.2.2.1 _ hc) hdg (k H locs ls hP hS hl)
theorem g_iload_n (h : Ok Z X own cc ts nL rm) {k : Fin 4} {i : Nat} {x : Int32} (hdg : decode cc pc = .ok (.iload_n k, 1)) (hi : (k : Nat) = i) (hl : lvg lv i = some (.int x)) (kk : G Z X M (pc + 1) lv (.int x :: st)) : G Z X M pc lv st := fun H locs ls hP hS h2 => lv_iload_n h.1 h.2.1 hdg hi (lvg_at h2 hl) (kk H locs ls hP hS h2)
theorem g_iload (h : Ok Z X own cc ts nL rm) {i : Nat} {x : Int32} (hdg : decode cc pc = .ok (.iload i, 2)) (hl : lvg lv i = some (.int x)) (kk : G Z X M (pc + 2) lv (.int x :: st)) : G Z X M pc lv st := fun H locs ls hP hS h2 => lv_iload h.1 h.2.1 hdg (lvg_at h2 hl) (kk H locs ls hP hS h2)
theorem g_lload_n (h : Ok Z X own cc ts nL rm) {k : Fin 4} {i : Nat} {x : Int64} (hdg : decode cc pc = .ok (.lload_n k, 1)) (hi : (k : Nat) = i) (hl : lvg lv i = some (.long x)) (kk : G Z X M (pc + 1) lv (.long x :: st)) : G Z X M pc lv st := fun H locs ls hP hS h2 => lv_lload_n h.1 h.2.1 hdg hi (lvg_at h2 hl) (kk H locs ls hP hS h2)
theorem g_lload (h : Ok Z X own cc ts nL rm) {i : Nat} {x : Int64} (hdg : decode cc pc = .ok (.lload i, 2)) (hl : lvg lv i = some (.long x)) (kk : G Z X M (pc + 2) lv (.long x :: st)) : G Z X M pc lv st := fun H locs ls hP hS h2 => lv_lload h.1 h.2.1 hdg (lvg_at h2 hl) (kk H locs ls hP hS h2)
theorem g_aload_n (h : Ok Z X own cc ts nL rm) {k : Fin 4} {i : Nat} {x : Nat} (hdg : decode cc pc = .ok (.aload_n k, 1)) (hi : (k : Nat) = i) (hl : lvg lv i = some (.ref x)) (kk : G Z X M (pc + 1) lv (.ref x :: st)) : G Z X M pc lv st := fun H locs ls hP hS h2 => lv_aload_n h.1 h.2.1 hdg hi (lvg_at h2 hl) (kk H locs ls hP hS h2)
theorem g_aload (h : Ok Z X own cc ts nL rm) {i : Nat} {x : Nat} (hdg : decode cc pc = .ok (.aload i, 2)) (hl : lvg lv i = some (.ref x)) (kk : G Z X M (pc + 2) lv (.ref x :: st)) : G Z X M pc lv st := fun H locs ls hP hS h2 => lv_aload h.1 h.2.1 hdg (lvg_at h2 hl) (kk H locs ls hP hS h2)
abbrev lvs (lv : List (Nat × Value)) (i : Nat) (v : Value) : List (Nat × Value) := (i, v) :: lv.filter (fun q => !(q.1 == i) && !(q.1 + 1 == i && q.2.category == 2))
abbrev lvs2 (lv : List (Nat × Value)) (i : Nat) (v : Value) : List (Nat × Value) := (i, v) :: lv.filter (fun q => !(q.1 == i) && (!(q.1 == i + 1) && !(q.1 + 1 == i && q.2.category == 2)))
theorem g_istore_n (h : Ok Z X own cc ts nL rm) {k : Fin 4} {i : Nat} {x : Int32} (hdg : decode cc pc = .ok (.istore_n k, 1)) (hi : (k : Nat) = i) (hn : i < nL) (hl : lvs lv i (.int x) = lv') (kk : G Z X M (pc + 1) lv' st) : G Z X M pc lv (.int x :: st) := fun H locs ls hP hS h2 => lv_istore_n h.1 h.2.1 hdg hi h2 (h.2.2.1 ▸ hn) hl (fun ls' h3 => kk H locs ls' hP hS h3)
theorem g_istore (h : Ok Z X own cc ts nL rm) {i : Nat} {x : Int32} (hdg : decode cc pc = .ok (.istore i, 2)) (hn : i < nL) (hl : lvs lv i (.int x) = lv') (kk : G Z X M (pc + 2) lv' st) : G Z X M pc lv (.int x :: st) := fun H locs ls hP hS h2 => lv_istore h.1 h.2.1 hdg h2 (h.2.2.1 ▸ hn) hl (fun ls' h3 => kk H locs ls' hP hS h3)
theorem g_lstore_n (h : Ok Z X own cc ts nL rm) {k : Fin 4} {i : Nat} {x : Int64} (hdg : decode cc pc = .ok (.lstore_n k, 1)) (hi : (k : Nat) = i) (hn : i + 1 < nL) (hl : lvs2 lv i (.long x) = lv') (kk : G Z X M (pc + 1) lv' st) : G Z X M pc lv (.long x :: st) := fun H locs ls hP hS h2 => lv_lstore_n h.1 h.2.1 hdg hi h2 (h.2.2.1 ▸ hn) hl (fun ls' h3 => kk H locs ls' hP hS h3)
theorem g_lstore (h : Ok Z X own cc ts nL rm) {i : Nat} {x : Int64} (hdg : decode cc pc = .ok (.lstore i, 2)) (hn : i + 1 < nL) (hl : lvs2 lv i (.long x) = lv') (kk : G Z X M (pc + 2) lv' st) : G Z X M pc lv (.long x :: st) := fun H locs ls hP hS h2 => lv_lstore h.1 h.2.1 hdg h2 (h.2.2.1 ▸ hn) hl (fun ls' h3 => kk H locs ls' hP hS h3)
theorem g_astore_n (h : Ok Z X own cc ts nL rm) {k : Fin 4} {i : Nat} {x : Nat} (hdg : decode cc pc = .ok (.astore_n k, 1)) (hi : (k : Nat) = i) (hn : i < nL) (hl : lvs lv i (.ref x) = lv') (kk : G Z X M (pc + 1) lv' st) : G Z X M pc lv (.ref x :: st) := fun H locs ls hP hS h2 => lv_astore_n h.1 h.2.1 hdg hi h2 (h.2.2.1 ▸ hn) hl (fun ls' h3 => kk H locs ls' hP hS h3)
theorem g_astore (h : Ok Z X own cc ts nL rm) {i : Nat} {x : Nat} (hdg : decode cc pc = .ok (.astore i, 2)) (hn : i < nL) (hl : lvs lv i (.ref x) = lv') (kk : G Z X M (pc + 2) lv' st) : G Z X M pc lv (.ref x :: st) := fun H locs ls hP hS h2 => lv_astore h.1 h.2.1 hdg h2 (h.2.2.1 ▸ hn) hl (fun ls' h3 => kk H locs ls' hP hS h3)
theorem g_iinc (h : Ok Z X own cc ts nL rm) {i : Nat} {n : Int} {x n' : Int32} {lw : Int32 → List (Nat × Value)} (hdg : decode cc pc = .ok (.iinc i n, 3)) (hg : lvg lv i = some (.int x)) (hv : Int32.ofInt n = n') (hn : i < nL) (hl : ∀ y, lvs lv i (.int y) = lw y) (kk : ∀ y : Int32, y = x + n' → G Z X M (pc + 3) (lw y) st) : G Z X M pc lv st := fun H locs ls hP hS h2 => by
  subst hv
  obtain ⟨k, hk⟩ := List.getElem?_of_mem (lvg_mem hg)
  exact lv_iinc h.1 h.2.1 hdg h2 hk rfl (h.2.2.1 ▸ hn) (hl _) (fun ls' h3 => kk _ rfl H locs ls' hP hS h3)
theorem g_iadd (h : Ok Z X own cc ts nL rm) {x y : Int32} (hdg : decode cc pc = .ok (.iadd, 1))  (k : G Z X M (pc + 1) lv (.int (x + y) :: st)) : G Z X M pc lv (.int y :: .int x :: st) := fun H locs ls hP hS hl => lv_iadd h.1 h.2.1 hdg  (k H locs ls hP hS hl)
theorem g_isub (h : Ok Z X own cc ts nL rm) {x y : Int32} (hdg : decode cc pc = .ok (.isub, 1))  (k : G Z X M (pc + 1) lv (.int (x - y) :: st)) : G Z X M pc lv (.int y :: .int x :: st) := fun H locs ls hP hS hl => lv_isub h.1 h.2.1 hdg  (k H locs ls hP hS hl)
theorem g_imul (h : Ok Z X own cc ts nL rm) {x y : Int32} (hdg : decode cc pc = .ok (.imul, 1))  (k : G Z X M (pc + 1) lv (.int (x * y) :: st)) : G Z X M pc lv (.int y :: .int x :: st) := fun H locs ls hP hS hl => lv_imul h.1 h.2.1 hdg  (k H locs ls hP hS hl)
theorem g_iand (h : Ok Z X own cc ts nL rm) {x y : Int32} (hdg : decode cc pc = .ok (.iand, 1))  (k : G Z X M (pc + 1) lv (.int (x &&& y) :: st)) : G Z X M pc lv (.int y :: .int x :: st) := fun H locs ls hP hS hl => lv_iand h.1 h.2.1 hdg  (k H locs ls hP hS hl)
theorem g_ior (h : Ok Z X own cc ts nL rm) {x y : Int32} (hdg : decode cc pc = .ok (.ior, 1))  (k : G Z X M (pc + 1) lv (.int (x ||| y) :: st)) : G Z X M pc lv (.int y :: .int x :: st) := fun H locs ls hP hS hl => lv_ior h.1 h.2.1 hdg  (k H locs ls hP hS hl)
theorem g_ixor (h : Ok Z X own cc ts nL rm) {x y : Int32} (hdg : decode cc pc = .ok (.ixor, 1))  (k : G Z X M (pc + 1) lv (.int (x ^^^ y) :: st)) : G Z X M pc lv (.int y :: .int x :: st) := fun H locs ls hP hS hl => lv_ixor h.1 h.2.1 hdg  (k H locs ls hP hS hl)
theorem g_ishl (h : Ok Z X own cc ts nL rm) {x y : Int32} (hdg : decode cc pc = .ok (.ishl, 1))  (k : G Z X M (pc + 1) lv (.int (x <<< (y &&& 31)) :: st)) : G Z X M pc lv (.int y :: .int x :: st) := fun H locs ls hP hS hl => lv_ishl h.1 h.2.1 hdg  (k H locs ls hP hS hl)
theorem g_ishr (h : Ok Z X own cc ts nL rm) {x y : Int32} (hdg : decode cc pc = .ok (.ishr, 1))  (k : G Z X M (pc + 1) lv (.int (x >>> (y &&& 31)) :: st)) : G Z X M pc lv (.int y :: .int x :: st) := fun H locs ls hP hS hl => lv_ishr h.1 h.2.1 hdg  (k H locs ls hP hS hl)
theorem g_ladd (h : Ok Z X own cc ts nL rm) {x y : Int64} (hdg : decode cc pc = .ok (.ladd, 1))  (k : G Z X M (pc + 1) lv (.long (x + y) :: st)) : G Z X M pc lv (.long y :: .long x :: st) := fun H locs ls hP hS hl => lv_ladd h.1 h.2.1 hdg  (k H locs ls hP hS hl)
theorem g_lsub (h : Ok Z X own cc ts nL rm) {x y : Int64} (hdg : decode cc pc = .ok (.lsub, 1))  (k : G Z X M (pc + 1) lv (.long (x - y) :: st)) : G Z X M pc lv (.long y :: .long x :: st) := fun H locs ls hP hS hl => lv_lsub h.1 h.2.1 hdg  (k H locs ls hP hS hl)
theorem g_lmul (h : Ok Z X own cc ts nL rm) {x y : Int64} (hdg : decode cc pc = .ok (.lmul, 1))  (k : G Z X M (pc + 1) lv (.long (x * y) :: st)) : G Z X M pc lv (.long y :: .long x :: st) := fun H locs ls hP hS hl => lv_lmul h.1 h.2.1 hdg  (k H locs ls hP hS hl)
theorem g_land (h : Ok Z X own cc ts nL rm) {x y : Int64} (hdg : decode cc pc = .ok (.land, 1))  (k : G Z X M (pc + 1) lv (.long (x &&& y) :: st)) : G Z X M pc lv (.long y :: .long x :: st) := fun H locs ls hP hS hl => lv_land h.1 h.2.1 hdg  (k H locs ls hP hS hl)
theorem g_lor (h : Ok Z X own cc ts nL rm) {x y : Int64} (hdg : decode cc pc = .ok (.lor, 1))  (k : G Z X M (pc + 1) lv (.long (x ||| y) :: st)) : G Z X M pc lv (.long y :: .long x :: st) := fun H locs ls hP hS hl => lv_lor h.1 h.2.1 hdg  (k H locs ls hP hS hl)
theorem g_lxor (h : Ok Z X own cc ts nL rm) {x y : Int64} (hdg : decode cc pc = .ok (.lxor, 1))  (k : G Z X M (pc + 1) lv (.long (x ^^^ y) :: st)) : G Z X M pc lv (.long y :: .long x :: st) := fun H locs ls hP hS hl => lv_lxor h.1 h.2.1 hdg  (k H locs ls hP hS hl)
theorem g_idiv (h : Ok Z X own cc ts nL rm) {x y : Int32} (hdg : decode cc pc = .ok (.idiv, 1)) (hne : ¬ y = 0) (k : G Z X M (pc + 1) lv (.int (x / y) :: st)) : G Z X M pc lv (.int y :: .int x :: st) := fun H locs ls hP hS hl => lv_idiv h.1 h.2.1 hdg hne (k H locs ls hP hS hl)
theorem g_irem (h : Ok Z X own cc ts nL rm) {x y : Int32} (hdg : decode cc pc = .ok (.irem, 1)) (hne : ¬ y = 0) (k : G Z X M (pc + 1) lv (.int (x - x / y * y) :: st)) : G Z X M pc lv (.int y :: .int x :: st) := fun H locs ls hP hS hl => lv_irem h.1 h.2.1 hdg hne (k H locs ls hP hS hl)
theorem g_ineg (h : Ok Z X own cc ts nL rm) {x : Int32} (hdg : decode cc pc = .ok (.ineg, 1))  (k : G Z X M (pc + 1) lv (.int (-x) :: st)) : G Z X M pc lv (.int x :: st) := fun H locs ls hP hS hl => lv_ineg h.1 h.2.1 hdg  (k H locs ls hP hS hl)
theorem g_i2l (h : Ok Z X own cc ts nL rm) {x : Int32} (hdg : decode cc pc = .ok (.i2l, 1))  (k : G Z X M (pc + 1) lv (.long x.toInt64 :: st)) : G Z X M pc lv (.int x :: st) := fun H locs ls hP hS hl => lv_i2l h.1 h.2.1 hdg rfl (k H locs ls hP hS hl)
theorem g_l2i (h : Ok Z X own cc ts nL rm) {x : Int64} (hdg : decode cc pc = .ok (.l2i, 1))  (k : G Z X M (pc + 1) lv (.int x.toInt32 :: st)) : G Z X M pc lv (.long x :: st) := fun H locs ls hP hS hl => lv_l2i h.1 h.2.1 hdg rfl (k H locs ls hP hS hl)
theorem g_iushr (h : Ok Z X own cc ts nL rm) {x y : Int32} (hdg : decode cc pc = .ok (.iushr, 1))  (k : G Z X M (pc + 1) lv (.int ((x.toUInt32 >>> (y.toUInt32 &&& Int32.toUInt32 31)).toInt32) :: st)) : G Z X M pc lv (.int y :: .int x :: st) := fun H locs ls hP hS hl => lv_iushr h.1 h.2.1 hdg rfl (k H locs ls hP hS hl)
theorem g_lushr (h : Ok Z X own cc ts nL rm) {x : Int64} {y : Int32} (hdg : decode cc pc = .ok (.lushr, 1))  (k : G Z X M (pc + 1) lv (.long ((x.toUInt64 >>> (y.toInt64.toUInt64 &&& Int64.toUInt64 63)).toInt64) :: st)) : G Z X M pc lv (.int y :: .long x :: st) := fun H locs ls hP hS hl => lv_lushr h.1 h.2.1 hdg rfl (k H locs ls hP hS hl)
theorem g_lshl (h : Ok Z X own cc ts nL rm) {x : Int64} {y : Int32} (hdg : decode cc pc = .ok (.lshl, 1))  (k : G Z X M (pc + 1) lv (.long (x <<< (y.toInt64 &&& 63)) :: st)) : G Z X M pc lv (.int y :: .long x :: st) := fun H locs ls hP hS hl => lv_lshl h.1 h.2.1 hdg rfl (k H locs ls hP hS hl)
theorem g_lshr (h : Ok Z X own cc ts nL rm) {x : Int64} {y : Int32} (hdg : decode cc pc = .ok (.lshr, 1))  (k : G Z X M (pc + 1) lv (.long (x >>> (y.toInt64 &&& 63)) :: st)) : G Z X M pc lv (.int y :: .long x :: st) := fun H locs ls hP hS hl => lv_lshr h.1 h.2.1 hdg rfl (k H locs ls hP hS hl)
theorem g_lcmp (h : Ok Z X own cc ts nL rm) {x y : Int64} (hdg : decode cc pc = .ok (.lcmp, 1))  (k : G Z X M (pc + 1) lv (.int (lg_cmp x y) :: st)) : G Z X M pc lv (.long y :: .long x :: st) := fun H locs ls hP hS hl => W.lcmp h.1 h.2.1 hdg  (k H locs ls hP hS hl)
theorem g_dup (h : Ok Z X own cc ts nL rm) {va : Value} (hdg : decode cc pc = .ok (.dup, 1)) (hva : va.category = 1) (k : G Z X M (pc + 1) lv (va :: va :: st)) : G Z X M pc lv (va :: st) := fun H locs ls hP hS hl => lv_dup h.1 h.2.1 hdg hva (k H locs ls hP hS hl)
theorem g_pop (h : Ok Z X own cc ts nL rm) {va : Value} (hdg : decode cc pc = .ok (.pop, 1)) (hva : va.category = 1) (k : G Z X M (pc + 1) lv (st)) : G Z X M pc lv (va :: st) := fun H locs ls hP hS hl => lv_pop h.1 h.2.1 hdg hva (k H locs ls hP hS hl)
theorem g_dup_x1 (h : Ok Z X own cc ts nL rm) {va vb : Value} (hdg : decode cc pc = .ok (.dup_x1, 1)) (hva : va.category = 1) (hvb : vb.category = 1) (k : G Z X M (pc + 1) lv (va :: vb :: va :: st)) : G Z X M pc lv (va :: vb :: st) := fun H locs ls hP hS hl => lv_dup_x1 h.1 h.2.1 hdg hva hvb (k H locs ls hP hS hl)
theorem g_dup2_11 (h : Ok Z X own cc ts nL rm) {va vb : Value} (hdg : decode cc pc = .ok (.dup2, 1)) (hva : va.category = 1) (hvb : vb.category = 1) (k : G Z X M (pc + 1) lv (va :: vb :: va :: vb :: st)) : G Z X M pc lv (va :: vb :: st) := fun H locs ls hP hS hl => lv_dup2_11 h.1 h.2.1 hdg hva hvb (k H locs ls hP hS hl)
theorem g_dup2_2 (h : Ok Z X own cc ts nL rm) {va : Value} (hdg : decode cc pc = .ok (.dup2, 1)) (hva : va.category = 2) (k : G Z X M (pc + 1) lv (va :: va :: st)) : G Z X M pc lv (va :: st) := fun H locs ls hP hS hl => lv_dup2_2 h.1 h.2.1 hdg hva (k H locs ls hP hS hl)
theorem g_dup2_x1_2 (h : Ok Z X own cc ts nL rm) {va vb : Value} (hdg : decode cc pc = .ok (.dup2_x1, 1)) (hva : va.category = 2) (hvb : vb.category = 1) (k : G Z X M (pc + 1) lv (va :: vb :: va :: st)) : G Z X M pc lv (va :: vb :: st) := fun H locs ls hP hS hl => lv_dup2_x1_2 h.1 h.2.1 hdg hva hvb (k H locs ls hP hS hl)
theorem g_if_eq (h : Ok Z X own cc ts nL rm) {x : Int32} {off : Int} {tgt : Nat} (hdg : decode cc pc = .ok (.ifCond .eq off, 3)) (ht : (pc : Int) + off = (tgt : Int)) (kt : x = 0 → G Z X M tgt lv st) (kf : ¬ x = 0 → G Z X M (pc + 3) lv st) : G Z X M pc lv (.int x :: st) := fun H locs ls hP hS hl => lv_if_eq h.1 h.2.1 hdg ht (fun c => kt c H locs ls hP hS hl) (fun c => kf c H locs ls hP hS hl)
theorem g_if_ne (h : Ok Z X own cc ts nL rm) {x : Int32} {off : Int} {tgt : Nat} (hdg : decode cc pc = .ok (.ifCond .ne off, 3)) (ht : (pc : Int) + off = (tgt : Int)) (kt : ¬ x = 0 → G Z X M tgt lv st) (kf : x = 0 → G Z X M (pc + 3) lv st) : G Z X M pc lv (.int x :: st) := fun H locs ls hP hS hl => lv_if_ne h.1 h.2.1 hdg ht (fun c => kt c H locs ls hP hS hl) (fun c => kf c H locs ls hP hS hl)
theorem g_if_lt (h : Ok Z X own cc ts nL rm) {x : Int32} {off : Int} {tgt : Nat} (hdg : decode cc pc = .ok (.ifCond .lt off, 3)) (ht : (pc : Int) + off = (tgt : Int)) (kt : x < 0 → G Z X M tgt lv st) (kf : ¬ x < 0 → G Z X M (pc + 3) lv st) : G Z X M pc lv (.int x :: st) := fun H locs ls hP hS hl => lv_if_lt h.1 h.2.1 hdg ht (fun c => kt c H locs ls hP hS hl) (fun c => kf c H locs ls hP hS hl)
theorem g_if_ge (h : Ok Z X own cc ts nL rm) {x : Int32} {off : Int} {tgt : Nat} (hdg : decode cc pc = .ok (.ifCond .ge off, 3)) (ht : (pc : Int) + off = (tgt : Int)) (kt : 0 ≤ x → G Z X M tgt lv st) (kf : ¬ 0 ≤ x → G Z X M (pc + 3) lv st) : G Z X M pc lv (.int x :: st) := fun H locs ls hP hS hl => lv_if_ge h.1 h.2.1 hdg ht (fun c => kt c H locs ls hP hS hl) (fun c => kf c H locs ls hP hS hl)
theorem g_if_gt (h : Ok Z X own cc ts nL rm) {x : Int32} {off : Int} {tgt : Nat} (hdg : decode cc pc = .ok (.ifCond .gt off, 3)) (ht : (pc : Int) + off = (tgt : Int)) (kt : 0 < x → G Z X M tgt lv st) (kf : ¬ 0 < x → G Z X M (pc + 3) lv st) : G Z X M pc lv (.int x :: st) := fun H locs ls hP hS hl => lv_if_gt h.1 h.2.1 hdg ht (fun c => kt c H locs ls hP hS hl) (fun c => kf c H locs ls hP hS hl)
theorem g_if_le (h : Ok Z X own cc ts nL rm) {x : Int32} {off : Int} {tgt : Nat} (hdg : decode cc pc = .ok (.ifCond .le off, 3)) (ht : (pc : Int) + off = (tgt : Int)) (kt : x ≤ 0 → G Z X M tgt lv st) (kf : ¬ x ≤ 0 → G Z X M (pc + 3) lv st) : G Z X M pc lv (.int x :: st) := fun H locs ls hP hS hl => lv_if_le h.1 h.2.1 hdg ht (fun c => kt c H locs ls hP hS hl) (fun c => kf c H locs ls hP hS hl)
theorem g_icmp_eq (h : Ok Z X own cc ts nL rm) {x y : Int32} {off : Int} {tgt : Nat} (hdg : decode cc pc = .ok (.if_icmp .eq off, 3)) (ht : (pc : Int) + off = (tgt : Int)) (kt : x = y → G Z X M tgt lv st) (kf : ¬ x = y → G Z X M (pc + 3) lv st) : G Z X M pc lv (.int y :: .int x :: st) := fun H locs ls hP hS hl => lv_icmp_eq h.1 h.2.1 hdg ht (fun c => kt c H locs ls hP hS hl) (fun c => kf c H locs ls hP hS hl)
theorem g_icmp_ne (h : Ok Z X own cc ts nL rm) {x y : Int32} {off : Int} {tgt : Nat} (hdg : decode cc pc = .ok (.if_icmp .ne off, 3)) (ht : (pc : Int) + off = (tgt : Int)) (kt : ¬ x = y → G Z X M tgt lv st) (kf : x = y → G Z X M (pc + 3) lv st) : G Z X M pc lv (.int y :: .int x :: st) := fun H locs ls hP hS hl => lv_icmp_ne h.1 h.2.1 hdg ht (fun c => kt c H locs ls hP hS hl) (fun c => kf c H locs ls hP hS hl)
theorem g_icmp_lt (h : Ok Z X own cc ts nL rm) {x y : Int32} {off : Int} {tgt : Nat} (hdg : decode cc pc = .ok (.if_icmp .lt off, 3)) (ht : (pc : Int) + off = (tgt : Int)) (kt : x < y → G Z X M tgt lv st) (kf : ¬ x < y → G Z X M (pc + 3) lv st) : G Z X M pc lv (.int y :: .int x :: st) := fun H locs ls hP hS hl => lv_icmp_lt h.1 h.2.1 hdg ht (fun c => kt c H locs ls hP hS hl) (fun c => kf c H locs ls hP hS hl)
theorem g_icmp_ge (h : Ok Z X own cc ts nL rm) {x y : Int32} {off : Int} {tgt : Nat} (hdg : decode cc pc = .ok (.if_icmp .ge off, 3)) (ht : (pc : Int) + off = (tgt : Int)) (kt : y ≤ x → G Z X M tgt lv st) (kf : ¬ y ≤ x → G Z X M (pc + 3) lv st) : G Z X M pc lv (.int y :: .int x :: st) := fun H locs ls hP hS hl => lv_icmp_ge h.1 h.2.1 hdg ht (fun c => kt c H locs ls hP hS hl) (fun c => kf c H locs ls hP hS hl)
theorem g_icmp_gt (h : Ok Z X own cc ts nL rm) {x y : Int32} {off : Int} {tgt : Nat} (hdg : decode cc pc = .ok (.if_icmp .gt off, 3)) (ht : (pc : Int) + off = (tgt : Int)) (kt : y < x → G Z X M tgt lv st) (kf : ¬ y < x → G Z X M (pc + 3) lv st) : G Z X M pc lv (.int y :: .int x :: st) := fun H locs ls hP hS hl => lv_icmp_gt h.1 h.2.1 hdg ht (fun c => kt c H locs ls hP hS hl) (fun c => kf c H locs ls hP hS hl)
theorem g_icmp_le (h : Ok Z X own cc ts nL rm) {x y : Int32} {off : Int} {tgt : Nat} (hdg : decode cc pc = .ok (.if_icmp .le off, 3)) (ht : (pc : Int) + off = (tgt : Int)) (kt : x ≤ y → G Z X M tgt lv st) (kf : ¬ x ≤ y → G Z X M (pc + 3) lv st) : G Z X M pc lv (.int y :: .int x :: st) := fun H locs ls hP hS hl => lv_icmp_le h.1 h.2.1 hdg ht (fun c => kt c H locs ls hP hS hl) (fun c => kf c H locs ls hP hS hl)
theorem g_goto (h : Ok Z X own cc ts nL rm) {off : Int} {tgt : Nat} (hdg : decode cc pc = .ok (.goto off, 3)) (ht : (pc : Int) + off = (tgt : Int)) (k : G Z X M tgt lv st) : G Z X M pc lv st := fun H locs ls hP hS hl => lv_goto h.1 h.2.1 hdg ht (k H locs ls hP hS hl)
theorem g_tabIn (h : Ok Z X own cc ts nL rm) {dflt lo hi : Int} {offs : Array Int} {len : Nat} {x : Int32} {off : Int} {tgt : Nat} (hdg : decode cc pc = .ok (.tableswitch dflt lo hi offs, len)) (h1 : ¬ x.toInt < lo) (h2 : ¬ hi < x.toInt) (ho : offs[(x.toInt - lo).toNat]? = some off) (ht : (pc : Int) + off = (tgt : Int)) (k : G Z X M tgt lv st) : G Z X M pc lv (.int x :: st) := fun H locs ls hP hS hl => lv_tableIn h.1 h.2.1 hdg h1 h2 ho ht (k H locs ls hP hS hl)
theorem g_tabOut (h : Ok Z X own cc ts nL rm) {dflt lo hi : Int} {offs : Array Int} {len : Nat} {x : Int32} {tgt : Nat} (hdg : decode cc pc = .ok (.tableswitch dflt lo hi offs, len)) (h1 : x.toInt < lo ∨ hi < x.toInt) (ht : (pc : Int) + dflt = (tgt : Int)) (k : G Z X M tgt lv st) : G Z X M pc lv (.int x :: st) := fun H locs ls hP hS hl => lv_tableOut h.1 h.2.1 hdg h1 ht (k H locs ls hP hS hl)
theorem g_look (h : Ok Z X own cc ts nL rm) {dflt : Int} {ps : Array (Int × Int)} {len : Nat} {x : Int32} {off : Int} {tgt : Nat} (hdg : decode cc pc = .ok (.lookupswitch dflt ps, len)) (hp : (ps.toList.zip (ps.toList.drop 1)).all (fun (a, next) => a.1 < next.1) = true) (ho : Op.lookupswitch.offset ps.toList dflt x.toInt = off) (ht : (pc : Int) + off = (tgt : Int)) (k : G Z X M tgt lv st) : G Z X M pc lv (.int x :: st) := fun H locs ls hP hS hl => lv_lookup h.1 h.2.1 hdg hp ho ht (k H locs ls hP hS hl)
end GR
end
section
/-! Memory: a cell is read off the memory by its tag and its number; rows for fields and arrays. -/
def fval (a : Nat → Nat → Nat) (t i : Nat) (M : Mm) (k : Nat) : Value := match fk t k with
  | 0 => .int (M.1 t i k)
  | 1 => .long (M.2 t i k)
  | _ => .ref (a (rt t k) (ri t k i))
def flds (a : Nat → Nat → Nat) (t i : Nat) (M : Mm) : List Value := (List.range (nf t)).map (fval a t i M)
def cellE (a : Nat → Nat → Nat) (c : Nat → ClassId) (t i : Nat) (M : Mm) : va_E := match ck t with
  | 0 => .inr (cn t, flds a t i M)
  | 1 => .inl (c 0, nf t, .inl (M.1 t i))
  | 2 => .inl (c 1, nf t, .inl (M.1 t i))
  | 3 => .inl (c 2, nf t, .inr (.inl (M.2 t i)))
  | _ => .inl (c (cn t), nf t, .inr (.inr (.inr (.inr (fun j => some (a (et t) (ei t j)))))))
/-- the world is laid out by tags and numbers -/
def Lay (Z : ZT) (S : Nat → Bool) : Prop :=
  (∀ (M : Mm) (t i : Nat), S t = true → i < cnt t → (zw Z M)[pos t i]? = some (za Z t i, cellE (za Z) (zc Z) t i M)) ∧
  (∀ (M M' : Mm) (t i : Nat), S t = true → i < cnt t → (∀ a b, ¬ (a = t ∧ b = i) → cellE (za Z) (zc Z) a b M = cellE (za Z) (zc Z) a b M') → (zw Z M).set (pos t i) (za Z t i, cellE (za Z) (zc Z) t i M') = zw Z M') ∧
  (∀ M M' : Mm, (zw Z M).map Prod.fst = (zw Z M').map Prod.fst)
theorem cellE_eq {z : Nat → Nat → Nat} {c : Nat → ClassId} {a b : Nat} {M M' : Mm} (h1 : M.1 a b = M'.1 a b) (h2 : M.2 a b = M'.2 a b) : cellE z c a b M = cellE z c a b M' := by
  have h3 : fval z a b M = fval z a b M' := by
    funext k
    unfold fval
    rw [h1, h2]
  unfold cellE flds
  rw [h1, h2, h3]
theorem sI_ne {M : Mm} {t i k a b : Nat} {v : Int32} (hne : ¬ (a = t ∧ b = i)) : (sI M t i k v).1 a b = M.1 a b := by
  funext c
  show (if a = t ∧ b = i ∧ c = k then v else M.1 a b c) = _
  rw [if_neg (fun q => hne ⟨q.1, q.2.1⟩)]
theorem sL_ne {M : Mm} {t i k a b : Nat} {v : Int64} (hne : ¬ (a = t ∧ b = i)) : (sL M t i k v).2 a b = M.2 a b := by
  funext c
  show (if a = t ∧ b = i ∧ c = k then v else M.2 a b c) = _
  rw [if_neg (fun q => hne ⟨q.1, q.2.1⟩)]
theorem sA_ne {M : Mm} {t i a b : Nat} {f : Nat → Int32} (hne : ¬ (a = t ∧ b = i)) : (sA M t i f).1 a b = M.1 a b := by
  funext c
  show (if a = t ∧ b = i then f c else M.1 a b c) = _
  rw [if_neg hne]
theorem sB_ne {M : Mm} {t i a b : Nat} {f : Nat → Int64} (hne : ¬ (a = t ∧ b = i)) : (sB M t i f).2 a b = M.2 a b := by
  funext c
  show (if a = t ∧ b = i then f c else M.2 a b c) = _
  rw [if_neg hne]
theorem sI_at {M : Mm} {t i k : Nat} {v : Int32} : (sI M t i k v).1 t i = upd (M.1 t i) k v := by
  funext c
  show (if t = t ∧ i = i ∧ c = k then v else M.1 t i c) = (if c = k then v else M.1 t i c)
  by_cases h : c = k
  · rw [if_pos ⟨rfl, rfl, h⟩, if_pos h]
  · rw [if_neg (fun q => h q.2.2), if_neg h]
theorem sL_at {M : Mm} {t i k : Nat} {v : Int64} : (sL M t i k v).2 t i = vp_updL (M.2 t i) k v := by
  funext c
  show (if t = t ∧ i = i ∧ c = k then v else M.2 t i c) = (if c = k then v else M.2 t i c)
  by_cases h : c = k
  · rw [if_pos ⟨rfl, rfl, h⟩, if_pos h]
  · rw [if_neg (fun q => h q.2.2), if_neg h]
theorem sA_at {M : Mm} {t i : Nat} {f : Nat → Int32} : (sA M t i f).1 t i = f := by
  funext c
  show (if t = t ∧ i = i then f c else M.1 t i c) = _
  rw [if_pos ⟨rfl, rfl⟩]
theorem sB_at {M : Mm} {t i : Nat} {f : Nat → Int64} : (sB M t i f).2 t i = f := by
  funext c
  show (if t = t ∧ i = i then f c else M.2 t i c) = _
  rw [if_pos ⟨rfl, rfl⟩]
theorem flds_get {z : Nat → Nat → Nat} {t i k : Nat} {M : Mm} (hk : k < nf t) : (flds z t i M)[k]? = some (fval z t i M k) := by
  unfold flds
  rw [List.getElem?_map, List.getElem?_range hk]
  rfl
theorem flds_len {z : Nat → Nat → Nat} {t i : Nat} {M : Mm} : (flds z t i M).length = nf t := by
  unfold flds
  rw [List.length_map, List.length_range]
theorem flds_ext {z : Nat → Nat → Nat} {t i k : Nat} {M M' : Mm} {v : Value} (hk : k < nf t) (h1 : fval z t i M' k = v) (h2 : ∀ j, j ≠ k → fval z t i M' j = fval z t i M j) : (flds z t i M).set k v = flds z t i M' := by
  apply List.ext_getElem?
  intro j
  by_cases hj : j = k
  · subst hj
    rw [List.getElem?_set_self (by rw [flds_len]; exact hk), flds_get hk, h1]
  · rw [List.getElem?_set_ne (fun q => hj q.symm)]
    by_cases hn : j < nf t
    · rw [flds_get hn, flds_get hn, h2 j hj]
    · rw [List.getElem?_eq_none (by rw [flds_len]; omega), List.getElem?_eq_none (by rw [flds_len]; omega)]
section GM
variable {Z : ZT} {X : XT} {M : Mm} {pc : Nat} {lv lv' : List (Nat × Value)} {st : List Value} {own : String} {cc : ByteArray} {ts : List Cond} {nL : Nat} {rm : Room} {S : Nat → Bool} {t i k : Nat}
/-- an object's cell of tag t: its class in the tables -/
def Ob (t : Nat) (C : String) (T : u_T) (N : Nat) : Prop := ck t = 0 ∧ vwCl[cn t]? = some (C, T, N) ∧ nf t = N
theorem Lay.ob (hL : Lay Z S) (hS : S t = true) (hi : i < cnt t) (hck : ck t = 0) : (zw Z M)[pos t i]? = some (za Z t i, .inr (cn t, flds (za Z) t i M)) := by
  rw [hL.1 M t i hS hi]
  simp only [cellE, hck]
theorem g_getv (h : Ok Z X own cc ts nL rm) (hL : Lay Z S) (hS : S t = true) (hi : i < cnt t) {C ref : String} {T : u_T} {N index : Nat} (ho : Ob t C T N) (hk : k < N) (hin : ∀ w ∈ u_ws C T N, w ∈ ts) (hlink : Cond.fieldLink own index ref (T k).2.1 (T k).2.2.1 ∈ ts) (hsame : (T k).1 = ref) {v : Value} (hv : fval (za Z) t i M k = v) (hdg : decode cc pc = .ok (.getfield index, 3))
    (kk : G Z X M (pc + 3) lv (v :: st)) : G Z X M pc lv (.ref (za Z t i) :: st) := fun H locs ls hP hS' hl => by
  obtain ⟨hck, hc, hN⟩ := ho
  refine va_get h.1 h.2.1 h.2.2.2.2.1 hin h.2.2.2.1 h.2.2.2.2.2.2.1 hP (pos t i) (hL.ob hS hi hck) hc k hk (h.2.2.2.2.1 _ hlink) (fun x hx => by rw [← hsame]; exact hx) (v := v) ?_ hdg (kk H locs ls hP hS' hl)
  rw [flds_get (by rw [hN]; exact hk), hv]
theorem g_getI (h : Ok Z X own cc ts nL rm) (hL : Lay Z S) (hS : S t = true) (hi : i < cnt t) {C ref : String} {T : u_T} {N index : Nat} (ho : Ob t C T N) (hk : k < N) (hfk : fk t k = 0) (hin : ∀ w ∈ u_ws C T N, w ∈ ts) (hlink : Cond.fieldLink own index ref (T k).2.1 (T k).2.2.1 ∈ ts) (hsame : (T k).1 = ref) (hdg : decode cc pc = .ok (.getfield index, 3))
    (kk : G Z X M (pc + 3) lv (.int (M.1 t i k) :: st)) : G Z X M pc lv (.ref (za Z t i) :: st) := g_getv h hL hS hi ho hk hin hlink hsame (by simp only [fval, hfk]) hdg kk
theorem g_getL (h : Ok Z X own cc ts nL rm) (hL : Lay Z S) (hS : S t = true) (hi : i < cnt t) {C ref : String} {T : u_T} {N index : Nat} (ho : Ob t C T N) (hk : k < N) (hfk : fk t k = 1) (hin : ∀ w ∈ u_ws C T N, w ∈ ts) (hlink : Cond.fieldLink own index ref (T k).2.1 (T k).2.2.1 ∈ ts) (hsame : (T k).1 = ref) (hdg : decode cc pc = .ok (.getfield index, 3))
    (kk : G Z X M (pc + 3) lv (.long (M.2 t i k) :: st)) : G Z X M pc lv (.ref (za Z t i) :: st) := g_getv h hL hS hi ho hk hin hlink hsame (by simp only [fval, hfk]) hdg kk
theorem g_getR (h : Ok Z X own cc ts nL rm) (hL : Lay Z S) (hS : S t = true) (hi : i < cnt t) {C ref : String} {T : u_T} {N index : Nat} (ho : Ob t C T N) (hk : k < N) (hfk : fk t k = 2) {t' i' : Nat} (ht' : rt t k = t') (hi' : ri t k i = i') (hin : ∀ w ∈ u_ws C T N, w ∈ ts) (hlink : Cond.fieldLink own index ref (T k).2.1 (T k).2.2.1 ∈ ts) (hsame : (T k).1 = ref) (hdg : decode cc pc = .ok (.getfield index, 3))
    (kk : G Z X M (pc + 3) lv (.ref (za Z t' i') :: st)) : G Z X M pc lv (.ref (za Z t i) :: st) := g_getv h hL hS hi ho hk hin hlink hsame (by subst ht'; subst hi'; simp only [fval, hfk]) hdg kk
theorem g_putv (h : Ok Z X own cc ts nL rm) (hL : Lay Z S) (hS : S t = true) (hi : i < cnt t) {C ref : String} {T : u_T} {N index : Nat} (ho : Ob t C T N) (hk : k < N) (hin : ∀ w ∈ u_ws C T N, w ∈ ts) (ty0 : Nat → FieldType) (hty : ∀ k, k < N → parseFieldDescriptor (T k).2.2.1 = some (ty0 k)) (hnm : ∀ a, a < N → ∀ b, b < N → a ≠ b → (T a).2.1 ≠ (T b).2.1) (hlink : Cond.fieldLink own index ref (T k).2.1 (T k).2.2.1 ∈ ts) (hsame : (T k).1 = ref) (hfin : (T k).2.2.2 = false) {v : Value} (hn : narrow (ty0 k) v = v) (hfit : fits (ty0 k) v = true) {M' : Mm} (hset : (flds (za Z) t i M).set k v = flds (za Z) t i M') (hoth : ∀ a b, ¬ (a = t ∧ b = i) → cellE (za Z) (zc Z) a b M = cellE (za Z) (zc Z) a b M') (hdg : decode cc pc = .ok (.putfield index, 3))
    (kk : G Z X M' (pc + 3) lv st) : G Z X M pc lv (v :: .ref (za Z t i) :: st) := fun H locs ls hP hS' hl => by
  obtain ⟨hck, hc, hN⟩ := ho
  refine va_put h.1 h.2.1 h.2.2.2.2.1 hin ty0 hty hnm h.2.2.2.1 h.2.2.2.2.2.2.1 hP (h.2.2.2.2.2.2.2.1 M) hS' (pos t i) (hL.ob hS hi hck) hc k hk (h.2.2.2.2.1 _ hlink) (fun x hx => by rw [← hsame]; exact hx) hfin (hty k hk) hn hfit (by rw [flds_len, hN]; exact hk) hdg (fun H1 locs1 hP1 hD1 hS1 => ?_)
  refine kk H1 locs1 ls ?_ hS1 hl
  have e := hL.2.1 M M' t i hS hi hoth
  have e2 : cellE (za Z) (zc Z) t i M' = .inr (cn t, flds (za Z) t i M') := by
    simp only [cellE, hck]
  rw [e2, ← hset] at e
  rw [← e]
  exact hP1
theorem g_putI (h : Ok Z X own cc ts nL rm) (hL : Lay Z S) (hS : S t = true) (hi : i < cnt t) {C ref : String} {T : u_T} {N index : Nat} (ho : Ob t C T N) (hk : k < N) (hfk : fk t k = 0) (hin : ∀ w ∈ u_ws C T N, w ∈ ts) (ty0 : Nat → FieldType) (hty : ∀ k, k < N → parseFieldDescriptor (T k).2.2.1 = some (ty0 k)) (hnm : ∀ a, a < N → ∀ b, b < N → a ≠ b → (T a).2.1 ≠ (T b).2.1) (hlink : Cond.fieldLink own index ref (T k).2.1 (T k).2.2.1 ∈ ts) (hsame : (T k).1 = ref) (hfin : (T k).2.2.2 = false) (hint : ty0 k = .int) {v : Int32} (hdg : decode cc pc = .ok (.putfield index, 3))
    (kk : G Z X (sI M t i k v) (pc + 3) lv st) : G Z X M pc lv (.int v :: .ref (za Z t i) :: st) := by
  refine g_putv (M' := sI M t i k v) h hL hS hi ho hk hin ty0 hty hnm hlink hsame hfin (by rw [hint]; rfl) (by rw [hint]; rfl) (flds_ext (by rw [ho.2.2]; exact hk) ?_ ?_) (fun a b hne => (cellE_eq (sI_ne hne) rfl).symm) hdg kk
  · simp [fval, hfk, sI_at, upd]
  · intro j hj
    unfold fval
    rw [sI_at]
    simp [upd, hj, sI]
theorem g_putL (h : Ok Z X own cc ts nL rm) (hL : Lay Z S) (hS : S t = true) (hi : i < cnt t) {C ref : String} {T : u_T} {N index : Nat} (ho : Ob t C T N) (hk : k < N) (hfk : fk t k = 1) (hin : ∀ w ∈ u_ws C T N, w ∈ ts) (ty0 : Nat → FieldType) (hty : ∀ k, k < N → parseFieldDescriptor (T k).2.2.1 = some (ty0 k)) (hnm : ∀ a, a < N → ∀ b, b < N → a ≠ b → (T a).2.1 ≠ (T b).2.1) (hlink : Cond.fieldLink own index ref (T k).2.1 (T k).2.2.1 ∈ ts) (hsame : (T k).1 = ref) (hfin : (T k).2.2.2 = false) (hint : ty0 k = .long) {v : Int64} (hdg : decode cc pc = .ok (.putfield index, 3))
    (kk : G Z X (sL M t i k v) (pc + 3) lv st) : G Z X M pc lv (.long v :: .ref (za Z t i) :: st) := by
  refine g_putv (M' := sL M t i k v) h hL hS hi ho hk hin ty0 hty hnm hlink hsame hfin (by rw [hint]; rfl) (by rw [hint]; rfl) (flds_ext (by rw [ho.2.2]; exact hk) ?_ ?_) (fun a b hne => (cellE_eq (M := sL M t i k v) (M' := M) rfl (sL_ne hne)).symm) hdg kk
  · simp [fval, hfk, sL_at, vp_updL]
  · intro j hj
    unfold fval
    rw [sL_at]
    simp [vp_updL, hj, sL]
theorem Lay.ai (hL : Lay Z S) (hS : S t = true) (hi : i < cnt t) (hck : ck t = 1) : (zw Z M)[pos t i]? = some (za Z t i, .inl (zc Z 0, nf t, .inl (M.1 t i))) := by
  rw [hL.1 M t i hS hi]
  simp only [cellE, hck]
theorem Lay.az (hL : Lay Z S) (hS : S t = true) (hi : i < cnt t) (hck : ck t = 2) : (zw Z M)[pos t i]? = some (za Z t i, .inl (zc Z 1, nf t, .inl (M.1 t i))) := by
  rw [hL.1 M t i hS hi]
  simp only [cellE, hck]
theorem Lay.al (hL : Lay Z S) (hS : S t = true) (hi : i < cnt t) (hck : ck t = 3) : (zw Z M)[pos t i]? = some (za Z t i, .inl (zc Z 2, nf t, .inr (.inl (M.2 t i)))) := by
  rw [hL.1 M t i hS hi]
  simp only [cellE, hck]
theorem Lay.aq (hL : Lay Z S) (hS : S t = true) (hi : i < cnt t) (hck : ck t = 4) : (zw Z M)[pos t i]? = some (za Z t i, .inl (zc Z (cn t), nf t, .inr (.inr (.inr (.inr (fun j => some (za Z (et t) (ei t j)))))))) := by
  rw [hL.1 M t i hS hi]
  simp only [cellE, hck]
theorem g_iald (h : Ok Z X own cc ts nL rm) (hL : Lay Z S) (hS : S t = true) (hi : i < cnt t) (hck : ck t = 1) {n : Nat} (hn : nf t = n) {x : Int32} (hv : vp_in x n) (hdg : decode cc pc = .ok (.iaload, 1))
    (kk : G Z X M (pc + 1) lv (.int (M.1 t i x.toNatClampNeg) :: st)) : G Z X M pc lv (.int x :: .ref (za Z t i) :: st) := fun H locs ls hP hS' hl => va_iald h.1 h.2.1 h.2.2.2.2.2.2.1 hP (pos t i) 0 (hL.ai hS hi hck) rfl (hn ▸ hv) hdg (kk H locs ls hP hS' hl)
theorem g_zald (h : Ok Z X own cc ts nL rm) (hL : Lay Z S) (hS : S t = true) (hi : i < cnt t) (hck : ck t = 2) {n : Nat} (hn : nf t = n) {x : Int32} (hv : vp_in x n) (hdg : decode cc pc = .ok (.baload, 1))
    (kk : G Z X M (pc + 1) lv (.int (M.1 t i x.toNatClampNeg) :: st)) : G Z X M pc lv (.int x :: .ref (za Z t i) :: st) := fun H locs ls hP hS' hl => va_zald h.1 h.2.1 h.2.2.2.2.2.2.1 hP (pos t i) 1 (hL.az hS hi hck) rfl (hn ▸ hv) hdg (kk H locs ls hP hS' hl)
theorem g_lald (h : Ok Z X own cc ts nL rm) (hL : Lay Z S) (hS : S t = true) (hi : i < cnt t) (hck : ck t = 3) {n : Nat} (hn : nf t = n) {x : Int32} (hv : vp_in x n) (hdg : decode cc pc = .ok (.laload, 1))
    (kk : G Z X M (pc + 1) lv (.long (M.2 t i x.toNatClampNeg) :: st)) : G Z X M pc lv (.int x :: .ref (za Z t i) :: st) := fun H locs ls hP hS' hl => va_lald h.1 h.2.1 h.2.2.2.2.2.2.1 hP (pos t i) 2 (hL.al hS hi hck) rfl (hn ▸ hv) hdg (kk H locs ls hP hS' hl)
theorem g_aald (h : Ok Z X own cc ts nL rm) (hL : Lay Z S) (hS : S t = true) (hi : i < cnt t) (hck : ck t = 4) {n t' i' : Nat} (hn : nf t = n) {x : Int32} (hv : vp_in x n) {C : String} (hty : (ztys (zc Z))[cn t]? = some (zc Z (cn t), .object C)) (ht' : et t = t') (hi' : ei t x.toNatClampNeg = i') (hdg : decode cc pc = .ok (.aaload, 1))
    (kk : G Z X M (pc + 1) lv (.ref (za Z t' i') :: st)) : G Z X M pc lv (.int x :: .ref (za Z t i) :: st) := fun H locs ls hP hS' hl => by
  subst ht'
  subst hi'
  exact va_aldq h.1 h.2.1 h.2.2.2.2.2.2.1 hP (pos t i) (cn t) (hL.aq hS hi hck) hty (hn ▸ hv) hdg (kk H locs ls hP hS' hl)
theorem g_iast (h : Ok Z X own cc ts nL rm) (hL : Lay Z S) (hS : S t = true) (hi : i < cnt t) (hck : ck t = 1) {n : Nat} (hn : nf t = n) {x v : Int32} (hv : vp_in x n) (hdg : decode cc pc = .ok (.iastore, 1))
    (kk : G Z X (sI M t i x.toNatClampNeg v) (pc + 1) lv st) : G Z X M pc lv (.int v :: .int x :: .ref (za Z t i) :: st) := fun H locs ls hP hS' hl => by
  refine va_iast h.1 h.2.1 h.2.2.2.2.2.2.1 hP (h.2.2.2.2.2.2.2.1 M) hS' (pos t i) 0 (hL.ai hS hi hck) rfl (hn ▸ hv) hdg (fun H1 locs1 hP1 hD1 hS1 => kk H1 locs1 ls ?_ hS1 hl)
  have e := hL.2.1 M (sI M t i x.toNatClampNeg v) t i hS hi (fun a b hne => (cellE_eq (sI_ne hne) rfl).symm)
  have e2 : cellE (za Z) (zc Z) t i (sI M t i x.toNatClampNeg v) = .inl (zc Z 0, nf t, .inl (upd (M.1 t i) x.toNatClampNeg v)) := by
    simp only [cellE, hck, sI_at]
  rw [e2] at e
  rw [← e]
  exact hP1
theorem g_zast (h : Ok Z X own cc ts nL rm) (hL : Lay Z S) (hS : S t = true) (hi : i < cnt t) (hck : ck t = 2) {n : Nat} (hn : nf t = n) {x v : Int32} (hv : vp_in x n) (hdg : decode cc pc = .ok (.bastore, 1))
    (kk : G Z X (sI M t i x.toNatClampNeg (vp_nar .boolean v)) (pc + 1) lv st) : G Z X M pc lv (.int v :: .int x :: .ref (za Z t i) :: st) := fun H locs ls hP hS' hl => by
  refine va_zast h.1 h.2.1 h.2.2.2.2.2.2.1 hP (h.2.2.2.2.2.2.2.1 M) hS' (pos t i) 1 (hL.az hS hi hck) rfl (hn ▸ hv) hdg (fun H1 locs1 hP1 hD1 hS1 => kk H1 locs1 ls ?_ hS1 hl)
  have e := hL.2.1 M (sI M t i x.toNatClampNeg (vp_nar .boolean v)) t i hS hi (fun a b hne => (cellE_eq (sI_ne hne) rfl).symm)
  have e2 : cellE (za Z) (zc Z) t i (sI M t i x.toNatClampNeg (vp_nar .boolean v)) = .inl (zc Z 1, nf t, .inl (upd (M.1 t i) x.toNatClampNeg (vp_nar .boolean v))) := by
    simp only [cellE, hck, sI_at]
  rw [e2] at e
  rw [← e]
  exact hP1
theorem g_last (h : Ok Z X own cc ts nL rm) (hL : Lay Z S) (hS : S t = true) (hi : i < cnt t) (hck : ck t = 3) {n : Nat} (hn : nf t = n) {x : Int32} {v : Int64} (hv : vp_in x n) (hdg : decode cc pc = .ok (.lastore, 1))
    (kk : G Z X (sL M t i x.toNatClampNeg v) (pc + 1) lv st) : G Z X M pc lv (.long v :: .int x :: .ref (za Z t i) :: st) := fun H locs ls hP hS' hl => by
  refine va_last h.1 h.2.1 h.2.2.2.2.2.2.1 hP (h.2.2.2.2.2.2.2.1 M) hS' (pos t i) 2 (hL.al hS hi hck) rfl (hn ▸ hv) hdg (fun H1 locs1 hP1 hD1 hS1 => kk H1 locs1 ls ?_ hS1 hl)
  have e := hL.2.1 M (sL M t i x.toNatClampNeg v) t i hS hi (fun a b hne => (cellE_eq (M := sL M t i x.toNatClampNeg v) (M' := M) rfl (sL_ne hne)).symm)
  have e2 : cellE (za Z) (zc Z) t i (sL M t i x.toNatClampNeg v) = .inl (zc Z 2, nf t, .inr (.inl (vp_updL (M.2 t i) x.toNatClampNeg v))) := by
    simp only [cellE, hck, sL_at]
  rw [e2] at e
  rw [← e]
  exact hP1
end GM
end
section
/-! Functions into Option, their peeling; ends, contracts, calls. -/
def fuel : Nat := 100000
def lt {α β : Type} (a : α) (f : α → β) : β := f a
def bnd {α : Type} (i : Int32) (n : Nat) (a : Option α) : Option α := if i < 0 ∨ n ≤ i.toNatClampNeg then none else a
def bnz {α : Type} (v : Int32) (a : Option α) : Option α := if v = 0 ∨ v = 1 then a else none
def bd {α β : Type} (o : Option (α × Mm)) (f : α → Mm → Option β) : Option β := match o with
  | some q => f q.1 q.2
  | none => none
def bv {β : Type} (o : Option Mm) (f : Mm → Option β) : Option β := match o with
  | some q => f q
  | none => none
theorem o_l {α β : Type} {a : α} {f : α → Option β} {r : β} (h : lt a f = some r) : ∀ x, x = a → f x = some r := by
  rintro x rfl
  exact h
theorem o_t {c : Prop} [inst : Decidable c] {β : Type} {a b : Option β} {r : β} (hc : c) (h : (if c then a else b) = some r) : a = some r := by rwa [if_pos hc] at h
theorem o_f {c : Prop} [inst : Decidable c] {β : Type} {a b : Option β} {r : β} (hc : ¬ c) (h : (if c then a else b) = some r) : b = some r := by rwa [if_neg hc] at h
theorem o_in {β : Type} {i : Int32} {n : Nat} {a : Option β} {r : β} (h : bnd i n a = some r) : vp_in i n ∧ a = some r := by
  unfold bnd at h
  by_cases hc : i < 0 ∨ n ≤ i.toNatClampNeg
  · rw [if_pos hc] at h
    cases h
  · rw [if_neg hc] at h
    exact ⟨hc, h⟩
theorem o_z {β : Type} {i : Int32} {a : Option β} {r : β} (h : (if i = 0 then none else a) = some r) : ¬ i = 0 ∧ a = some r := by
  by_cases hc : i = 0
  · rw [if_pos hc] at h
    cases h
  · rw [if_neg hc] at h
    exact ⟨hc, h⟩
theorem o_nz {β : Type} {v : Int32} {a : Option β} {r : β} (h : bnz v a = some r) : narrow .boolean (.int v) = .int v ∧ a = some r := by
  unfold bnz at h
  by_cases hc : v = 0 ∨ v = 1
  · rw [if_pos hc] at h
    refine ⟨?_, h⟩
    rcases hc with rfl | rfl <;> decide +kernel
  · rw [if_neg hc] at h
    cases h
theorem o_b {α β : Type} {o : Option (α × Mm)} {f : α → Mm → Option β} {r : β} (h : bd o f = some r) : ∃ x y, o = some (x, y) ∧ f x y = some r := by
  cases o with
  | none => cases h
  | some q => exact ⟨q.1, q.2, rfl, h⟩
theorem o_v {β : Type} {o : Option Mm} {f : Mm → Option β} {r : β} (h : bv o f = some r) : ∃ y, o = some y ∧ f y = some r := by
  cases o with
  | none => cases h
  | some q => exact ⟨q, rfl, h⟩
theorem sw_out {x : Int32} (lo n : Nat) {hi : Int} {lo' : Int} (h1 : lo' = lo) (h2 : hi = (lo : Int) + n - 1) (h : ∀ j, j < n → ¬ x = Int32.ofNat (lo + j)) (hb : lo + n < 2 ^ 31 := by decide) : x.toInt < lo' ∨ hi < x.toInt := by
  by_cases hc : x.toInt < lo' ∨ hi < x.toInt
  · exact hc
  · exfalso
    have e1 : lo' ≤ x.toInt ∧ x.toInt ≤ hi := by omega
    refine h (x.toInt - lo).toNat (by omega) ?_
    apply Int32.toInt_inj.mp
    have e2 : (Int32.ofNat (lo + (x.toInt - lo).toNat)).toInt = ((lo + (x.toInt - lo).toNat : Nat) : Int) := toInt_of rfl (by omega)
    rw [e2]
    omega
theorem addr_D {A : Nat → Prop} {w w' : va_W} (h : w.map Prod.fst = w'.map Prod.fst) (hD : va_D A w) : va_D A w' := by
  have at' : ∀ (k : Nat) (q : Nat × va_E), w'[k]? = some q → ∃ q', w[k]? = some q' ∧ q'.1 = q.1 := by
    intro k q hq
    have h1 : (w'.map Prod.fst)[k]? = some q.1 := by rw [List.getElem?_map, hq]; rfl
    rw [← h, List.getElem?_map] at h1
    cases hw : w[k]? with
    | none => rw [hw] at h1; cases h1
    | some q' => rw [hw] at h1; exact ⟨q', rfl, Option.some.inj h1⟩
  refine ⟨fun i j p q hp hq e => ?_, fun k q hq => ?_⟩
  · obtain ⟨p', h1, h2⟩ := at' i p hp
    obtain ⟨q', h3, h4⟩ := at' j q hq
    exact hD.1 i j p' q' h1 h3 (by rw [h2, h4, e])
  · obtain ⟨q', h1, h2⟩ := at' k q hq
    rw [← h2]
    exact hD.2 k q' h1
def PcZ (Z : ZT) (av : List Value) (M : Mm) (sz : Nat) : Array Value → State → Prop := va_Pc av (fun U => U.heap.size = sz ∧ va_P (zD Z) vwCl (zw Z M) U.heap ∧ va_K (zD Z) vwCl (ztys (zc Z)) U ∧ va_D (fun _ => True) (zw Z M) ∧ Nst U)
def FinI (Z : ZT) (X : XT) (ty : FieldType) (res : Int32 × Mm) : Prop := xQ X = MQ (xb X) (va_Qi (fun r u => (r, u) = res) (fun M' t => va_P (zD Z) vwCl (zw Z M') t.heap) (xA X)) (xa X) (xs X) 0 0 (xA X) ∧ (xt X).sig.returnType = some ty ∧ xk1 X = 0 ∧ xk2 X = 0
def FinL (Z : ZT) (X : XT) (res : Int64 × Mm) : Prop := xQ X = MQ (xb X) (va_Ql (fun r u => (r, u) = res) (fun M' t => va_P (zD Z) vwCl (zw Z M') t.heap) (xA X)) (xa X) (xs X) 0 0 (xA X) ∧ (xt X).sig.returnType = some .long ∧ xk1 X = 0 ∧ xk2 X = 0
def FinV (Z : ZT) (X : XT) (res : Mm) : Prop := xQ X = MQ (xb X) (va_Qv (fun u => u = res) (fun M' t => va_P (zD Z) vwCl (zw Z M') t.heap) (xA X)) (xa X) (xs X) 0 0 (xA X) ∧ (xt X).sig.returnType = none ∧ xk1 X = 0 ∧ xk2 X = 0
def CtI (Z : ZT) (y : MethodName) (ws : List Cond) (rm : Room) (av : List Value) (M : Mm) (res : Int32 × Mm) : Prop := ∀ sz, Met (zl Z) y ws rm (PcZ Z av M sz) (va_Qi (fun r u => (r, u) = res) (fun M' t => va_P (zD Z) vwCl (zw Z M') t.heap) (va_A (zw Z M) sz)) 0 0 (va_A (zw Z M) sz)
def CtL (Z : ZT) (y : MethodName) (ws : List Cond) (rm : Room) (av : List Value) (M : Mm) (res : Int64 × Mm) : Prop := ∀ sz, Met (zl Z) y ws rm (PcZ Z av M sz) (va_Ql (fun r u => (r, u) = res) (fun M' t => va_P (zD Z) vwCl (zw Z M') t.heap) (va_A (zw Z M) sz)) 0 0 (va_A (zw Z M) sz)
def CtV (Z : ZT) (y : MethodName) (ws : List Cond) (rm : Room) (av : List Value) (M : Mm) (res : Mm) : Prop := ∀ sz, Met (zl Z) y ws rm (PcZ Z av M sz) (va_Qv (fun u => u = res) (fun M' t => va_P (zD Z) vwCl (zw Z M') t.heap) (va_A (zw Z M) sz)) 0 0 (va_A (zw Z M) sz)
section GC
variable {Z : ZT} {X : XT} {M : Mm} {pc : Nat} {lv lv' : List (Nat × Value)} {st rest : List Value} {own : String} {cc : ByteArray} {ts : List Cond} {nL : Nat} {rm : Room} {S : Nat → Bool} {t i k : Nat}
theorem g_iret (h : Ok Z X own cc ts nL rm) {res : Int32 × Mm} (hQ : FinI Z X .int res) {v : Int32} (hdg : decode cc pc = .ok (.ireturn, 1)) (hw : some (v, M) = some res) : G Z X M pc lv [.int v] := fun H locs ls hP hS hl => by
  obtain ⟨p, e, R, s, m, args, below, meth, c, Q0, A, k1, k2⟩ := X
  obtain ⟨hq, hr, hk1, hk2⟩ := hQ
  change Q0 = MQ below (va_Qi (fun r u => (r, u) = res) (fun M' t => va_P (zD Z) vwCl (zw Z M') t.heap) A) args s 0 0 A at hq
  change meth.sig.returnType = _ at hr
  change k1 = 0 at hk1
  change k2 = 0 at hk2
  subst hq
  subst hk1
  subst hk2
  exact W.iret h.1 h.2.1 hr (fun t ht hW => ⟨⟨v, M, rfl, Option.some.inj hw, by show va_P (zD Z) vwCl (zw Z M) t.heap; rw [ht]; exact hP⟩, hS.F ht⟩) hS.2.2 hdg h.2.2.2.2.2.1
theorem g_zret (h : Ok Z X own cc ts nL rm) {res : Int32 × Mm} {ty : FieldType} (hQ : FinI Z X ty res) {v : Int32} (hdg : decode cc pc = .ok (.ireturn, 1)) (hn : narrow ty (.int v) = .int v) (hw : some (v, M) = some res) : G Z X M pc lv [.int v] := fun H locs ls hP hS hl => by
  obtain ⟨p, e, R, s, m, args, below, meth, c, Q0, A, k1, k2⟩ := X
  obtain ⟨hq, hr, hk1, hk2⟩ := hQ
  change Q0 = MQ below (va_Qi (fun r u => (r, u) = res) (fun M' t => va_P (zD Z) vwCl (zw Z M') t.heap) A) args s 0 0 A at hq
  change meth.sig.returnType = _ at hr
  change k1 = 0 at hk1
  change k2 = 0 at hk2
  subst hq
  subst hk1
  subst hk2
  exact W.zret h.1 h.2.1 hr hn (fun t ht hW => ⟨⟨v, M, rfl, Option.some.inj hw, by show va_P (zD Z) vwCl (zw Z M) t.heap; rw [ht]; exact hP⟩, hS.F ht⟩) hS.2.2 hdg h.2.2.2.2.2.1
theorem g_lret (h : Ok Z X own cc ts nL rm) {res : Int64 × Mm} (hQ : FinL Z X res) {v : Int64} (hdg : decode cc pc = .ok (.lreturn, 1)) (hw : some (v, M) = some res) : G Z X M pc lv [.long v] := fun H locs ls hP hS hl => by
  obtain ⟨p, e, R, s, m, args, below, meth, c, Q0, A, k1, k2⟩ := X
  obtain ⟨hq, hr, hk1, hk2⟩ := hQ
  change Q0 = MQ below (va_Ql (fun r u => (r, u) = res) (fun M' t => va_P (zD Z) vwCl (zw Z M') t.heap) A) args s 0 0 A at hq
  change meth.sig.returnType = _ at hr
  change k1 = 0 at hk1
  change k2 = 0 at hk2
  subst hq
  subst hk1
  subst hk2
  exact W.lret h.1 h.2.1 hr (fun t ht hW => ⟨⟨v, M, rfl, Option.some.inj hw, by show va_P (zD Z) vwCl (zw Z M) t.heap; rw [ht]; exact hP⟩, hS.F ht⟩) hS.2.2 hdg h.2.2.2.2.2.1
theorem g_vret (h : Ok Z X own cc ts nL rm) {res : Mm} (hQ : FinV Z X res) (hdg : decode cc pc = .ok (.return_, 1)) (hw : some M = some res) : G Z X M pc lv [] := fun H locs ls hP hS hl => by
  obtain ⟨p, e, R, s, m, args, below, meth, c, Q0, A, k1, k2⟩ := X
  obtain ⟨hq, hr, hk1, hk2⟩ := hQ
  change Q0 = MQ below (va_Qv (fun u => u = res) (fun M' t => va_P (zD Z) vwCl (zw Z M') t.heap) A) args s 0 0 A at hq
  change meth.sig.returnType = _ at hr
  change k1 = 0 at hk1
  change k2 = 0 at hk2
  subst hq
  subst hk1
  subst hk2
  exact W.vret h.1 h.2.1 hr (fun t ht hW => ⟨⟨M, rfl, Option.some.inj hw, by show va_P (zD Z) vwCl (zw Z M) t.heap; rw [ht]; exact hP⟩, hS.F ht⟩) hS.2.2 hdg h.2.2.2.2.2.1
theorem CtI.of (hL : Lay Z S) {y : MethodName} {ws ws' : List Cond} {av : List Value} {res : Int32 × Mm} {ty : FieldType} {maxL : Nat} (hy : plainName y.cls = true) (hw : ws = Cond.code y cc maxL (some ty) :: ws') (hlen : (lg_sl av).length ≤ maxL) (body : ∀ X : XT, Ok Z X y.cls cc ws maxL rm → FinI Z X ty res → G Z X M 0 (lv_args 0 av) []) : CtI Z y ws rm av M res := by
  intro sz
  refine Met.ofW (cc := cc) (maxL := maxL) (ret := some ty) hy hw ?_
  intro p e s m args below meth c s₁ B hml hv
  obtain ⟨rfl, hsz, hP, hK, hD0, hN⟩ := hv
  have hts := atoms_spec (ws := ws) B.pre
  have hown : s.vm.findClass y.cls = some m.cls := findClass_of_methodNamed B.named
  subst hsz
  have hl := lv_entry av (n := maxL) hlen
  rw [lg_entry_eq]
  generalize (lg_sl av ++ List.replicate (maxL - (lg_sl av).length) Slot.unset).toArray = ls at hl ⊢
  exact body (p, e, (headSpec ws rm).room, s, m, av.toArray, below, meth, c, MQ below (va_Qi (fun r u => (r, u) = res) (fun M' t => va_P (zD Z) vwCl (zw Z M') t.heap) (va_A (zw Z M) s.heap.size)) av.toArray s 0 0 (va_A (zw Z M) s.heap.size), va_A (zw Z M) s.heap.size, 0, 0) ⟨B.exec, B.bytes, hml, hown, hts, B.notSynchronized, hK, fun M' => addr_D (hL.2.2 M M') hD0.self, fun q h => Or.inr h, ⟨rfl, Nat.zero_le _, Nat.zero_le _⟩, hN⟩ ⟨rfl, B.returns, rfl, rfl⟩ s.heap [] ls hP va_S.rf (by rw [hml]; exact hl)
theorem CtL.of (hL : Lay Z S) {y : MethodName} {ws ws' : List Cond} {av : List Value} {res : Int64 × Mm} {maxL : Nat} (hy : plainName y.cls = true) (hw : ws = Cond.code y cc maxL (some .long) :: ws') (hlen : (lg_sl av).length ≤ maxL) (body : ∀ X : XT, Ok Z X y.cls cc ws maxL rm → FinL Z X res → G Z X M 0 (lv_args 0 av) []) : CtL Z y ws rm av M res := by
  intro sz
  refine Met.ofW (cc := cc) (maxL := maxL) (ret := some .long) hy hw ?_
  intro p e s m args below meth c s₁ B hml hv
  obtain ⟨rfl, hsz, hP, hK, hD0, hN⟩ := hv
  have hts := atoms_spec (ws := ws) B.pre
  have hown : s.vm.findClass y.cls = some m.cls := findClass_of_methodNamed B.named
  subst hsz
  have hl := lv_entry av (n := maxL) hlen
  rw [lg_entry_eq]
  generalize (lg_sl av ++ List.replicate (maxL - (lg_sl av).length) Slot.unset).toArray = ls at hl ⊢
  exact body (p, e, (headSpec ws rm).room, s, m, av.toArray, below, meth, c, MQ below (va_Ql (fun r u => (r, u) = res) (fun M' t => va_P (zD Z) vwCl (zw Z M') t.heap) (va_A (zw Z M) s.heap.size)) av.toArray s 0 0 (va_A (zw Z M) s.heap.size), va_A (zw Z M) s.heap.size, 0, 0) ⟨B.exec, B.bytes, hml, hown, hts, B.notSynchronized, hK, fun M' => addr_D (hL.2.2 M M') hD0.self, fun q h => Or.inr h, ⟨rfl, Nat.zero_le _, Nat.zero_le _⟩, hN⟩ ⟨rfl, B.returns, rfl, rfl⟩ s.heap [] ls hP va_S.rf (by rw [hml]; exact hl)
theorem CtV.of (hL : Lay Z S) {y : MethodName} {ws ws' : List Cond} {av : List Value} {res : Mm} {maxL : Nat} (hy : plainName y.cls = true) (hw : ws = Cond.code y cc maxL (none) :: ws') (hlen : (lg_sl av).length ≤ maxL) (body : ∀ X : XT, Ok Z X y.cls cc ws maxL rm → FinV Z X res → G Z X M 0 (lv_args 0 av) []) : CtV Z y ws rm av M res := by
  intro sz
  refine Met.ofW (cc := cc) (maxL := maxL) (ret := none) hy hw ?_
  intro p e s m args below meth c s₁ B hml hv
  obtain ⟨rfl, hsz, hP, hK, hD0, hN⟩ := hv
  have hts := atoms_spec (ws := ws) B.pre
  have hown : s.vm.findClass y.cls = some m.cls := findClass_of_methodNamed B.named
  subst hsz
  have hl := lv_entry av (n := maxL) hlen
  rw [lg_entry_eq]
  generalize (lg_sl av ++ List.replicate (maxL - (lg_sl av).length) Slot.unset).toArray = ls at hl ⊢
  exact body (p, e, (headSpec ws rm).room, s, m, av.toArray, below, meth, c, MQ below (va_Qv (fun u => u = res) (fun M' t => va_P (zD Z) vwCl (zw Z M') t.heap) (va_A (zw Z M) s.heap.size)) av.toArray s 0 0 (va_A (zw Z M) s.heap.size), va_A (zw Z M) s.heap.size, 0, 0) ⟨B.exec, B.bytes, hml, hown, hts, B.notSynchronized, hK, fun M' => addr_D (hL.2.2 M M') hD0.self, fun q h => Or.inr h, ⟨rfl, Nat.zero_le _, Nat.zero_le _⟩, hN⟩ ⟨rfl, B.returns, rfl, rfl⟩ s.heap [] ls hP va_S.rf (by rw [hml]; exact hl)
theorem PcZ.blind {av : List Value} {sz : Nat} : FrameBlind (PcZ Z av M sz) := fun a U g mk q => by
  obtain ⟨q0, q1, qP, qK, qD, qN⟩ := q
  exact ⟨q0, q1, qP, va_K.moved (u := U) (U := U.calling g mk a) (Vm.Alike.refl U.vm) qK, qD, fun w hw => va_Nw.same rfl rfl (qN.1 w hw), va_AO.moved (u := U) (U := U.calling g mk a) (Vm.Alike.refl U.vm) qN.2⟩
theorem Ok.pre (h : Ok Z X own cc ts nL rm) {H : Heap} (hP : va_P (zD Z) vwCl (zw Z M) H) {av : List Value} : ∀ U : State, U.heap = H → (xs X).WarmedH U.vm → PcZ Z av M H.size av.toArray U := fun U hU hW =>
  ⟨rfl, by rw [hU], by rw [hU]; exact hP, va_K.moved hW.alike h.2.2.2.2.2.2.1, (h.2.2.2.2.2.2.2.1 M).weaken (fun _ _ _ _ => trivial), fun q hq => va_Nw.warmM hW (h.2.2.2.2.2.2.2.2.2.2.1 q hq), va_AO.moved hW.alike h.2.2.2.2.2.2.2.2.2.2.2⟩
theorem Ok.free (h : Ok Z X own cc ts nL rm) {H : Heap} {locs : List Loc} (hS : va_S (xA X) (xs X).heap H locs) : ∀ q, va_A (zw Z M) H.size q → xA X q := by
  rintro q (⟨k, e, hk⟩ | hq)
  · exact (h.2.2.2.2.2.2.2.1 M).2 k (q, e) hk
  · exact h.2.2.2.2.2.2.2.2.1 q (Nat.le_trans hS.1 hq)
theorem Lay.recv (hL : Lay Z S) (h : Ok Z X own cc ts nL rm) (hS : S t = true) (hi : i < cnt t) {C : String} {T : u_T} {N : Nat} (ho : Ob t C T N) : ∀ H, va_P (zD Z) vwCl (zw Z M) H → ∃ cellB : Cell, H[za Z t i]? = some cellB ∧ cellB.vm.isStatics = false ∧ (xs X).vm.findClass C = some cellB.cls := fun H hP =>
  va_recv h.2.2.2.2.2.2.1 hP ho.2.1 (hL.ob hS hi ho.1)
abbrev RunX (Z : ZT) (X : XT) (M : Mm) (pc : Nat) (lv : List (Nat × Value)) (st rest : List Value) (Qa : Nat → State → Outcome → State → Prop) : Prop := ∀ (H : Heap) (locs : List Loc) (ls : Array Slot), va_P (zD Z) vwCl (zw Z M) H → lv_has ls (xc X).maxLocals lv →
  va_Run (xp X) (zl Z) (xe X) (xR X) (xs X) (xm X) (xa X) (xb X) (xt X) (xc X) H locs (xk1 X) (xk2 X) 0 0 (F0 (xm X) pc ls st) rest (Qa H.size) (va_A (zw Z M) H.size)
theorem g_calli (h : Ok Z X own cc ts nL rm) {a : Array Value} {r : Int32} {M' : Mm} (hr : RunX Z X M pc lv st rest (fun sz => va_Qi (fun r' u => (r', u) = (r, M')) (fun M' t => va_P (zD Z) vwCl (zw Z M') t.heap) (va_A (zw Z M) sz) a)) (kk : G Z X M' (pc + 3) lv (.int r :: rest)) : G Z X M pc lv st := fun H locs ls hP hS hl => by
  refine va_calli (hr H locs ls hP hl) hS (fun q _ hq => h.free hS q hq) (h.free hS) (fun r' u t H1 locs1 ht hvm hw hB hz hk hS1 => ?_)
  cases hw
  exact kk H1 locs1 ls (by rw [← ht]; exact hB) hS1 hl
theorem g_calll (h : Ok Z X own cc ts nL rm) {a : Array Value} {r : Int64} {M' : Mm} (hr : RunX Z X M pc lv st rest (fun sz => va_Ql (fun r' u => (r', u) = (r, M')) (fun M' t => va_P (zD Z) vwCl (zw Z M') t.heap) (va_A (zw Z M) sz) a)) (kk : G Z X M' (pc + 3) lv (.long r :: rest)) : G Z X M pc lv st := fun H locs ls hP hS hl => by
  refine va_calll (hr H locs ls hP hl) hS (fun q _ hq => h.free hS q hq) (h.free hS) (fun r' u t H1 locs1 ht hvm hw hB hz hk hS1 => ?_)
  cases hw
  exact kk H1 locs1 ls (by rw [← ht]; exact hB) hS1 hl
theorem g_callv (h : Ok Z X own cc ts nL rm) {a : Array Value} {M' : Mm} (hr : RunX Z X M pc lv st rest (fun sz => va_Qv (fun u => u = M') (fun M' t => va_P (zD Z) vwCl (zw Z M') t.heap) (va_A (zw Z M) sz) a)) (kk : G Z X M' (pc + 3) lv (rest)) : G Z X M pc lv st := fun H locs ls hP hS hl => by
  refine va_callv (hr H locs ls hP hl) hS (fun q _ hq => h.free hS q hq) (h.free hS) (fun u t H1 locs1 ht hvm hw hB hz hk hS1 => ?_)
  cases hw
  exact kk H1 locs1 ls (by rw [← ht]; exact hB) hS1 hl
theorem g_runV (h : Ok Z X own cc ts nL rm) {y : MethodName} {ws : List Cond} {rm' : Room} {C : String} {index n maxL : Nat} {bytes : ByteArray} {ret : Option FieldType} {b : Addr} {As : List Value} {Qc : Nat → Array Value → State → Outcome → State → Prop} (hM : ∀ sz, Met (zl Z) y ws rm' (PcZ Z (.ref b :: As) M sz) (Qc sz) 0 0 (va_A (zw Z M) sz)) (cw : CallW rm (xs X) (xa X) own C index y bytes maxL ret ws rm' 0 0 n) (hrecv : ∀ H, va_P (zD Z) vwCl (zw Z M) H → ∃ cellB : Cell, H[b]? = some cellB ∧ cellB.vm.isStatics = false ∧ (xs X).vm.findClass C = some cellB.cls) (hn : As.length = n) (hst : st = As.reverse ++ .ref b :: rest) (hroom : (rest.map fun v => v.category).sum ≤ 8) (hdg : decode cc pc = .ok (.invokevirtual index, 3)) :
    RunX Z X M pc lv st rest (fun sz => Qc sz (Value.ref b :: As).toArray) := fun H locs ls hP hl => by
  have hpre := h.pre hP (av := .ref b :: As)
  obtain ⟨p, e, R, s, m, args, below, meth, c, Q0, A, k1, k2⟩ := X
  obtain ⟨hx, hb, hml, hown, hts, hlk, hK, hD, hA, ⟨hR, hk1, hk2⟩, hN⟩ := h
  change R = rm at hR
  change k1 ≤ rm.cells at hk1
  change k2 ≤ rm.slots at hk2
  subst hR
  exact va_runV ⟨hx, hb, rfl, hown, hts⟩ (hM H.size) cw ⟨PcZ.blind, hrecv H hP, hpre⟩ rfl hn hl.1 hst (lv_room hroom) hdg ⟨hk1, hk2⟩
theorem g_runVN (h : Ok Z X own cc ts nL rm) {y : MethodName} {ws : List Cond} {rm' : Room} {C host : String} {index n maxL : Nat} {bytes : ByteArray} {ret : Option FieldType} {b : Addr} {As : List Value} {Qc : Nat → Array Value → State → Outcome → State → Prop} (hM : ∀ sz, Met (zl Z) y ws rm' (PcZ Z (.ref b :: As) M sz) (Qc sz) 0 0 (va_A (zw Z M) sz)) (cw : va_CN rm (xs X) (xa X) own index y host bytes maxL ret ws rm' 0 0 n ∧ (Cond.instanceMethod y).before (xa X) (xs X) = true ∧ (Cond.selects C y y).before (xa X) (xs X) = true) (hrecv : ∀ H, va_P (zD Z) vwCl (zw Z M) H → ∃ cellB : Cell, H[b]? = some cellB ∧ cellB.vm.isStatics = false ∧ (xs X).vm.findClass C = some cellB.cls) (hn : As.length = n) (hst : st = As.reverse ++ .ref b :: rest) (hroom : (rest.map fun v => v.category).sum ≤ 8) (hdg : decode cc pc = .ok (.invokevirtual index, 3)) :
    RunX Z X M pc lv st rest (fun sz => Qc sz (Value.ref b :: As).toArray) := fun H locs ls hP hl => by
  have hpre := h.pre hP (av := .ref b :: As)
  obtain ⟨p, e, R, s, m, args, below, meth, c, Q0, A, k1, k2⟩ := X
  obtain ⟨hx, hb, hml, hown, hts, hlk, hK, hD, hA, ⟨hR, hk1, hk2⟩, hN⟩ := h
  change R = rm at hR
  change k1 ≤ rm.cells at hk1
  change k2 ≤ rm.slots at hk2
  subst hR
  exact va_runVN ⟨hx, hb, rfl, hown, hts⟩ (hM H.size) cw ⟨PcZ.blind, hrecv H hP, hpre⟩ rfl hn hl.1 hst (lv_room hroom) hdg ⟨hk1, hk2⟩
theorem g_runS (h : Ok Z X own cc ts nL rm) {y : MethodName} {ws : List Cond} {rm' : Room} {index n maxL : Nat} {bytes : ByteArray} {ret : Option FieldType} {As : List Value} {Qc : Nat → Array Value → State → Outcome → State → Prop} (hM : ∀ sz, Met (zl Z) y ws rm' (PcZ Z (As) M sz) (Qc sz) 0 0 (va_A (zw Z M) sz)) (cw : CallB rm (xs X) (xa X) own index y bytes maxL ret ws rm' 0 0 n ∧ (Cond.static y).before (xa X) (xs X) = true) (hn : As.length = n) (hst : st = As.reverse ++ rest) (hroom : (rest.map fun v => v.category).sum ≤ 8) (hdg : decode cc pc = .ok (.invokestatic index, 3)) :
    RunX Z X M pc lv st rest (fun sz => Qc sz (As).toArray) := fun H locs ls hP hl => by
  have hpre := h.pre hP (av := As)
  obtain ⟨p, e, R, s, m, args, below, meth, c, Q0, A, k1, k2⟩ := X
  obtain ⟨hx, hb, hml, hown, hts, hlk, hK, hD, hA, ⟨hR, hk1, hk2⟩, hN⟩ := h
  change R = rm at hR
  change k1 ≤ rm.cells at hk1
  change k2 ≤ rm.slots at hk2
  subst hR
  exact va_runS ⟨hx, hb, rfl, hown, hts⟩ (hM H.size) cw ⟨PcZ.blind, hpre⟩ rfl hn hl.1 hst (lv_room hroom) hdg ⟨hk1, hk2⟩
theorem g_runSN (h : Ok Z X own cc ts nL rm) {y : MethodName} {ws : List Cond} {rm' : Room} {host : String} {index n maxL : Nat} {bytes : ByteArray} {ret : Option FieldType} {As : List Value} {Qc : Nat → Array Value → State → Outcome → State → Prop} (hM : ∀ sz, Met (zl Z) y ws rm' (PcZ Z (As) M sz) (Qc sz) 0 0 (va_A (zw Z M) sz)) (cw : va_CN rm (xs X) (xa X) own index y host bytes maxL ret ws rm' 0 0 n ∧ (Cond.static y).before (xa X) (xs X) = true ∧ True) (hn : As.length = n) (hst : st = As.reverse ++ rest) (hroom : (rest.map fun v => v.category).sum ≤ 8) (hdg : decode cc pc = .ok (.invokestatic index, 3)) :
    RunX Z X M pc lv st rest (fun sz => Qc sz (As).toArray) := fun H locs ls hP hl => by
  have hpre := h.pre hP (av := As)
  obtain ⟨p, e, R, s, m, args, below, meth, c, Q0, A, k1, k2⟩ := X
  obtain ⟨hx, hb, hml, hown, hts, hlk, hK, hD, hA, ⟨hR, hk1, hk2⟩, hN⟩ := h
  change R = rm at hR
  change k1 ≤ rm.cells at hk1
  change k2 ≤ rm.slots at hk2
  subst hR
  exact va_runSN ⟨hx, hb, rfl, hown, hts⟩ (hM H.size) cw ⟨PcZ.blind, hpre⟩ rfl hn hl.1 hst (lv_room hroom) hdg ⟨hk1, hk2⟩
end GC
end
section
/-! Array copies, lengths, fills. -/
theorem ix_lt {x : Int32} {n sh c : Nat} (h : vp_in x n) (hc : n + sh ≤ c) : x.toNatClampNeg + sh < c := by
  have h1 : x.toNatClampNeg < n := Nat.not_le.mp (fun q => h (Or.inr q))
  omega
section GY
variable {Z : ZT} {X : XT} {M : Mm} {pc : Nat} {lv lv' : List (Nat × Value)} {st rest : List Value} {own : String} {cc : ByteArray} {ts : List Cond} {nL : Nat} {rm : Room} {S : Nat → Bool} {t i k : Nat}
theorem g_copy {t0 i0 t1 i1 index : Nat} {sp dp n : Int32} (h : Ok Z X own cc ts nL rm) (hL : Lay Z S) (hS0 : S t0 = true) (hi0 : i0 < cnt t0) (hc0 : ck t0 = 1) (hS1 : S t1 = true) (hi1 : i1 < cnt t1) (hc1 : ck t1 = 1) (hl : Cond.methodLink own index arraycopyName ∈ ts) (hnat : Cond.native arraycopyName ∈ ts) (hsta : Cond.static arraycopyName ∈ ts) (hini : Cond.initialized "java/lang/System" ∈ ts)
    (h1 : ¬ sp < 0) (h2 : ¬ dp < 0) (h3 : ¬ n < 0) (h4 : sp.toNatClampNeg + n.toNatClampNeg ≤ nf t0) (h5 : dp.toNatClampNeg + n.toNatClampNeg ≤ nf t1) (hfr : 1 ≤ rm.frames) (hlo : (rest.map fun v => v.category).sum + (nativeFrameWords "java/lang/System" "arraycopy" 5 + 11) ≤ rm.locals) (hdg : decode cc pc = .ok (.invokestatic index, 3))
    (kk : G Z X (sA M t1 i1 (va_cpy (M.1 t0 i0) (M.1 t1 i1) sp.toNatClampNeg dp.toNatClampNeg n.toNatClampNeg)) (pc + 3) lv rest) : G Z X M pc lv (.int n :: .int dp :: .ref (za Z t1 i1) :: .int sp :: .ref (za Z t0 i0) :: rest) := fun H locs ls hP hS' hl' => by
  have hR : xR X = rm := h.2.2.2.2.2.2.2.2.2.1.1
  have hw := h.2.2.2.2.1
  refine va_copyi h.1 h.2.1 hl'.1.symm h.2.2.2.1 (hw _ hl) (hw _ hnat) (hw _ hsta) (hw _ hini) h.2.2.2.2.2.2.1 hP (h.2.2.2.2.2.2.2.1 M) hS' (pos t0 i0) (pos t1 i1) 0 0 (hL.ai hS0 hi0 hc0) (hL.ai hS1 hi1 hc1) rfl rfl rfl h1 h2 h3 h4 h5 (fun _ _ => rfl) (by rw [hR]; exact hfr) (by rw [hR]; exact hlo) hdg (fun H1 locs1 hP1 hD1 hS1' => kk H1 locs1 ls ?_ hS1' hl')
  have e := hL.2.1 M (sA M t1 i1 (va_cpy (M.1 t0 i0) (M.1 t1 i1) sp.toNatClampNeg dp.toNatClampNeg n.toNatClampNeg)) t1 i1 hS1 hi1 (fun a b hne => (cellE_eq (sA_ne hne) rfl).symm)
  have e2 : cellE (za Z) (zc Z) t1 i1 (sA M t1 i1 (va_cpy (M.1 t0 i0) (M.1 t1 i1) sp.toNatClampNeg dp.toNatClampNeg n.toNatClampNeg)) = .inl (zc Z 0, nf t1, .inl (va_cpy (M.1 t0 i0) (M.1 t1 i1) sp.toNatClampNeg dp.toNatClampNeg n.toNatClampNeg)) := by
    simp only [cellE, hc1, sA_at]
  rw [e2] at e
  rw [← e]
  exact hP1
theorem g_alenI (h : Ok Z X own cc ts nL rm) (hL : Lay Z S) (hS : S t = true) (hi : i < cnt t) (hck : ck t = 1) {v : Int32} (hv : Int32.ofNat (nf t) = v) (hdg : decode cc pc = .ok (.arraylength, 1))
    (kk : G Z X M (pc + 1) lv (.int v :: st)) : G Z X M pc lv (.ref (za Z t i) :: st) := fun H locs ls hP hS' hl => va_alen h.1 h.2.1 h.2.2.2.2.2.2.1 hP (pos t i) 0 (hL.ai hS hi hck) rfl hv hdg (kk H locs ls hP hS' hl)
theorem g_alenZ (h : Ok Z X own cc ts nL rm) (hL : Lay Z S) (hS : S t = true) (hi : i < cnt t) (hck : ck t = 2) {v : Int32} (hv : Int32.ofNat (nf t) = v) (hdg : decode cc pc = .ok (.arraylength, 1))
    (kk : G Z X M (pc + 1) lv (.int v :: st)) : G Z X M pc lv (.ref (za Z t i) :: st) := fun H locs ls hP hS' hl => va_alen h.1 h.2.1 h.2.2.2.2.2.2.1 hP (pos t i) 1 (hL.az hS hi hck) rfl hv hdg (kk H locs ls hP hS' hl)
theorem g_alenL (h : Ok Z X own cc ts nL rm) (hL : Lay Z S) (hS : S t = true) (hi : i < cnt t) (hck : ck t = 3) {v : Int32} (hv : Int32.ofNat (nf t) = v) (hdg : decode cc pc = .ok (.arraylength, 1))
    (kk : G Z X M (pc + 1) lv (.int v :: st)) : G Z X M pc lv (.ref (za Z t i) :: st) := fun H locs ls hP hS' hl => va_alen h.1 h.2.1 h.2.2.2.2.2.2.1 hP (pos t i) 2 (hL.al hS hi hck) rfl hv hdg (kk H locs ls hP hS' hl)
end GY
theorem q_l {α : Type} {a : α} {f : α → Option (Int32 × Mm)} {g : α → Int32} {M : Mm} (h : f a = some (g a, M)) : lt a f = some (lt a g, M) := h
theorem q_i {c : Prop} [inst : Decidable c] {a b : Option (Int32 × Mm)} {a' b' : Int32} {M : Mm} (h1 : a = some (a', M)) (h2 : b = some (b', M)) : (if c then a else b) = some (if c then a' else b', M) := by
  by_cases hc : c
  · rw [if_pos hc, if_pos hc]
    exact h1
  · rw [if_neg hc, if_neg hc]
    exact h2
def zo (z : Int32) : Prop := z = 0 ∨ z = 1
theorem zo_0 : zo 0 := Or.inl rfl
theorem zo_1 : zo 1 := Or.inr rfl
theorem zo_l {α : Type} {a : α} {g : α → Int32} (h : zo (g a)) : zo (lt a g) := h
theorem zo_i {c : Prop} [inst : Decidable c] {a b : Int32} (h1 : zo a) (h2 : zo b) : zo (if c then a else b) := by
  by_cases hc : c
  · rw [if_pos hc]
    exact h1
  · rw [if_neg hc]
    exact h2
theorem q_b {v : Int32} {M : Mm} (h : zo v) : bnz v (some (v, M)) = some (v, M) := by
  unfold bnz
  exact if_pos h

theorem ob_0 : Ob 0 RG TG 6 := ⟨rfl, rfl, rfl⟩
theorem ob_1 : Ob 1 RT TT 3 := ⟨rfl, rfl, rfl⟩
theorem ob_4 : Ob 4 RM TM 14 := ⟨rfl, rfl, rfl⟩
theorem ob_13 : Ob 13 RO TO 2 := ⟨rfl, rfl, rfl⟩
theorem ob_14 : Ob 14 RW TW 12 := ⟨rfl, rfl, rfl⟩
theorem ob_19 : Ob 19 RR TR 5 := ⟨rfl, rfl, rfl⟩
theorem ob_30 : Ob 30 RD TD 42 := ⟨rfl, rfl, rfl⟩
end
