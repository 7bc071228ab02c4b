section
-- ===== PART A: goes FIRST, ahead of the names: the tables' words, and 'selects' of the private methods out of them =====
/-- a private method of a class that the tables say can be made, by its rows of tables_1 -/
def lw_okq (q : MethodName × Nat) : Prop := (q.1.cls ≠ "java/lang/invoke/MethodHandle" ∧ q.1.cls ≠ "java/lang/invoke/VarHandle") ∧ Cond.instantiable q.1.cls q.2 ∈ tables_1 ∧ Cond.privateMethod q.1 ∈ tables_1 ∧ Cond.instanceMethod q.1 ∈ tables_1
theorem lw_p0 : lw_okq (⟨"FlowGate$Form", "isWellFormed", "(III)Z"⟩, 2) := ⟨⟨by decide +kernel, by decide +kernel⟩, List.mem_of_getElem? (i := 116) (by decide +kernel), List.mem_of_getElem? (i := 306) (by decide +kernel), List.mem_of_getElem? (i := 307) (by decide +kernel)⟩
theorem lw_p1 : lw_okq (⟨"FlowGate$Form", "isHandlerWellFormed", "(I)Z"⟩, 2) := ⟨⟨by decide +kernel, by decide +kernel⟩, List.mem_of_getElem? (i := 116) (by decide +kernel), List.mem_of_getElem? (i := 325) (by decide +kernel), List.mem_of_getElem? (i := 326) (by decide +kernel)⟩
theorem lw_p2 : lw_okq (⟨"FlowGate$Form", "haveArgumentsRoom", "()Z"⟩, 2) := ⟨⟨by decide +kernel, by decide +kernel⟩, List.mem_of_getElem? (i := 116) (by decide +kernel), List.mem_of_getElem? (i := 333) (by decide +kernel), List.mem_of_getElem? (i := 334) (by decide +kernel)⟩
theorem lw_p3 : lw_okq (⟨"FlowGate$Flow", "meet", "(IILFlowGate$Frame;)I"⟩, 12) := ⟨⟨by decide +kernel, by decide +kernel⟩, List.mem_of_getElem? (i := 129) (by decide +kernel), List.mem_of_getElem? (i := 352) (by decide +kernel), List.mem_of_getElem? (i := 353) (by decide +kernel)⟩
theorem lw_p4 : lw_okq (⟨"FlowGate$Flow", "reach", "(ILFlowGate$Frame;)V"⟩, 12) := ⟨⟨by decide +kernel, by decide +kernel⟩, List.mem_of_getElem? (i := 129) (by decide +kernel), List.mem_of_getElem? (i := 367) (by decide +kernel), List.mem_of_getElem? (i := 368) (by decide +kernel)⟩
theorem lw_p5 : lw_okq (⟨"FlowGate$Frame", "absorbSubs", "(LFlowGate$Frame;)Z"⟩, 5) := ⟨⟨by decide +kernel, by decide +kernel⟩, List.mem_of_getElem? (i := 136) (by decide +kernel), List.mem_of_getElem? (i := 382) (by decide +kernel), List.mem_of_getElem? (i := 383) (by decide +kernel)⟩
theorem lw_p6 : lw_okq (⟨"FlowGate$Types", "joinedClasses", "(II)I"⟩, 3) := ⟨⟨by decide +kernel, by decide +kernel⟩, List.mem_of_getElem? (i := 20) (by decide +kernel), List.mem_of_getElem? (i := 394) (by decide +kernel), List.mem_of_getElem? (i := 395) (by decide +kernel)⟩
theorem lw_p7 : lw_okq (⟨"FlowGate$Flow", "look", "(I)I"⟩, 12) := ⟨⟨by decide +kernel, by decide +kernel⟩, List.mem_of_getElem? (i := 129) (by decide +kernel), List.mem_of_getElem? (i := 398) (by decide +kernel), List.mem_of_getElem? (i := 399) (by decide +kernel)⟩
theorem lw_p8 : lw_okq (⟨"FlowGate$Flow", "meetHandlers", "(I)I"⟩, 12) := ⟨⟨by decide +kernel, by decide +kernel⟩, List.mem_of_getElem? (i := 129) (by decide +kernel), List.mem_of_getElem? (i := 402) (by decide +kernel), List.mem_of_getElem? (i := 403) (by decide +kernel)⟩
theorem lw_p9 : lw_okq (⟨"FlowGate$Flow", "perform", "(I)I"⟩, 12) := ⟨⟨by decide +kernel, by decide +kernel⟩, List.mem_of_getElem? (i := 129) (by decide +kernel), List.mem_of_getElem? (i := 416) (by decide +kernel), List.mem_of_getElem? (i := 417) (by decide +kernel)⟩
theorem lw_p10 : lw_okq (⟨"FlowGate$Flow", "load", "(I)I"⟩, 12) := ⟨⟨by decide +kernel, by decide +kernel⟩, List.mem_of_getElem? (i := 129) (by decide +kernel), List.mem_of_getElem? (i := 420) (by decide +kernel), List.mem_of_getElem? (i := 421) (by decide +kernel)⟩
theorem lw_p11 : lw_okq (⟨"FlowGate$Flow", "fitsLocal", "(II)Z"⟩, 12) := ⟨⟨by decide +kernel, by decide +kernel⟩, List.mem_of_getElem? (i := 129) (by decide +kernel), List.mem_of_getElem? (i := 427) (by decide +kernel), List.mem_of_getElem? (i := 428) (by decide +kernel)⟩
theorem lw_p12 : lw_okq (⟨"FlowGate$Frame", "touchAll", "(I)V"⟩, 5) := ⟨⟨by decide +kernel, by decide +kernel⟩, List.mem_of_getElem? (i := 136) (by decide +kernel), List.mem_of_getElem? (i := 439) (by decide +kernel), List.mem_of_getElem? (i := 440) (by decide +kernel)⟩
theorem lw_p13 : lw_okq (⟨"FlowGate$Flow", "store", "(I)I"⟩, 12) := ⟨⟨by decide +kernel, by decide +kernel⟩, List.mem_of_getElem? (i := 129) (by decide +kernel), List.mem_of_getElem? (i := 447) (by decide +kernel), List.mem_of_getElem? (i := 448) (by decide +kernel)⟩
theorem lw_p14 : lw_okq (⟨"FlowGate$Flow", "increase", "(I)I"⟩, 12) := ⟨⟨by decide +kernel, by decide +kernel⟩, List.mem_of_getElem? (i := 129) (by decide +kernel), List.mem_of_getElem? (i := 463) (by decide +kernel), List.mem_of_getElem? (i := 464) (by decide +kernel)⟩
theorem lw_p15 : lw_okq (⟨"FlowGate$Flow", "prepareReturn", "(II)I"⟩, 12) := ⟨⟨by decide +kernel, by decide +kernel⟩, List.mem_of_getElem? (i := 129) (by decide +kernel), List.mem_of_getElem? (i := 467) (by decide +kernel), List.mem_of_getElem? (i := 468) (by decide +kernel)⟩
def lw_privs_1 : List (MethodName × Nat) := [(⟨"FlowGate$Form", "isWellFormed", "(III)Z"⟩, 2), (⟨"FlowGate$Form", "isHandlerWellFormed", "(I)Z"⟩, 2), (⟨"FlowGate$Form", "haveArgumentsRoom", "()Z"⟩, 2), (⟨"FlowGate$Flow", "meet", "(IILFlowGate$Frame;)I"⟩, 12), (⟨"FlowGate$Flow", "reach", "(ILFlowGate$Frame;)V"⟩, 12), (⟨"FlowGate$Frame", "absorbSubs", "(LFlowGate$Frame;)Z"⟩, 5), (⟨"FlowGate$Types", "joinedClasses", "(II)I"⟩, 3), (⟨"FlowGate$Flow", "look", "(I)I"⟩, 12), (⟨"FlowGate$Flow", "meetHandlers", "(I)I"⟩, 12), (⟨"FlowGate$Flow", "perform", "(I)I"⟩, 12), (⟨"FlowGate$Flow", "load", "(I)I"⟩, 12), (⟨"FlowGate$Flow", "fitsLocal", "(II)Z"⟩, 12), (⟨"FlowGate$Frame", "touchAll", "(I)V"⟩, 5), (⟨"FlowGate$Flow", "store", "(I)I"⟩, 12), (⟨"FlowGate$Flow", "increase", "(I)I"⟩, 12), (⟨"FlowGate$Flow", "prepareReturn", "(II)I"⟩, 12)]
theorem lw_r1 : ∀ q ∈ lw_privs_1, lw_okq q := List.forall_mem_cons.mpr ⟨lw_p0, List.forall_mem_cons.mpr ⟨lw_p1, List.forall_mem_cons.mpr ⟨lw_p2, List.forall_mem_cons.mpr ⟨lw_p3, List.forall_mem_cons.mpr ⟨lw_p4, List.forall_mem_cons.mpr ⟨lw_p5, List.forall_mem_cons.mpr ⟨lw_p6, List.forall_mem_cons.mpr ⟨lw_p7, List.forall_mem_cons.mpr ⟨lw_p8, List.forall_mem_cons.mpr ⟨lw_p9, List.forall_mem_cons.mpr ⟨lw_p10, List.forall_mem_cons.mpr ⟨lw_p11, List.forall_mem_cons.mpr ⟨lw_p12, List.forall_mem_cons.mpr ⟨lw_p13, List.forall_mem_cons.mpr ⟨lw_p14, List.forall_mem_cons.mpr ⟨lw_p15, fun _ h => absurd h List.not_mem_nil⟩⟩⟩⟩⟩⟩⟩⟩⟩⟩⟩⟩⟩⟩⟩⟩
theorem lw_p16 : lw_okq (⟨"FlowGate$Flow", "shuffle", "(I)I"⟩, 12) := ⟨⟨by decide +kernel, by decide +kernel⟩, List.mem_of_getElem? (i := 129) (by decide +kernel), List.mem_of_getElem? (i := 472) (by decide +kernel), List.mem_of_getElem? (i := 473) (by decide +kernel)⟩
theorem lw_p17 : lw_okq (⟨"FlowGate$Flow", "takeIf", "(ZI)I"⟩, 12) := ⟨⟨by decide +kernel, by decide +kernel⟩, List.mem_of_getElem? (i := 129) (by decide +kernel), List.mem_of_getElem? (i := 481) (by decide +kernel), List.mem_of_getElem? (i := 482) (by decide +kernel)⟩
theorem lw_p18 : lw_okq (⟨"FlowGate$Flow", "pushBoth", "(II)I"⟩, 12) := ⟨⟨by decide +kernel, by decide +kernel⟩, List.mem_of_getElem? (i := 129) (by decide +kernel), List.mem_of_getElem? (i := 485) (by decide +kernel), List.mem_of_getElem? (i := 486) (by decide +kernel)⟩
theorem lw_p19 : lw_okq (⟨"FlowGate$Flow", "calculate", "(III)I"⟩, 12) := ⟨⟨by decide +kernel, by decide +kernel⟩, List.mem_of_getElem? (i := 129) (by decide +kernel), List.mem_of_getElem? (i := 489) (by decide +kernel), List.mem_of_getElem? (i := 490) (by decide +kernel)⟩
theorem lw_p20 : lw_okq (⟨"FlowGate$Flow", "exchangeIf", "(ZII)I"⟩, 12) := ⟨⟨by decide +kernel, by decide +kernel⟩, List.mem_of_getElem? (i := 129) (by decide +kernel), List.mem_of_getElem? (i := 493) (by decide +kernel), List.mem_of_getElem? (i := 494) (by decide +kernel)⟩
theorem lw_p21 : lw_okq (⟨"FlowGate$Flow", "decide", "(I)I"⟩, 12) := ⟨⟨by decide +kernel, by decide +kernel⟩, List.mem_of_getElem? (i := 129) (by decide +kernel), List.mem_of_getElem? (i := 497) (by decide +kernel), List.mem_of_getElem? (i := 498) (by decide +kernel)⟩
theorem lw_p22 : lw_okq (⟨"FlowGate$Flow", "enterSub", "(I)I"⟩, 12) := ⟨⟨by decide +kernel, by decide +kernel⟩, List.mem_of_getElem? (i := 129) (by decide +kernel), List.mem_of_getElem? (i := 511) (by decide +kernel), List.mem_of_getElem? (i := 512) (by decide +kernel)⟩
theorem lw_p23 : lw_okq (⟨"FlowGate$Flow", "create", "(I)I"⟩, 12) := ⟨⟨by decide +kernel, by decide +kernel⟩, List.mem_of_getElem? (i := 129) (by decide +kernel), List.mem_of_getElem? (i := 519) (by decide +kernel), List.mem_of_getElem? (i := 520) (by decide +kernel)⟩
theorem lw_p24 : lw_okq (⟨"FlowGate$Flow", "build", "(I)I"⟩, 12) := ⟨⟨by decide +kernel, by decide +kernel⟩, List.mem_of_getElem? (i := 129) (by decide +kernel), List.mem_of_getElem? (i := 531) (by decide +kernel), List.mem_of_getElem? (i := 532) (by decide +kernel)⟩
theorem lw_p25 : lw_okq (⟨"FlowGate$Flow", "useObject", "(III)I"⟩, 12) := ⟨⟨by decide +kernel, by decide +kernel⟩, List.mem_of_getElem? (i := 129) (by decide +kernel), List.mem_of_getElem? (i := 536) (by decide +kernel), List.mem_of_getElem? (i := 537) (by decide +kernel)⟩
theorem lw_p26 : lw_okq (⟨"FlowGate$Flow", "useRow", "(II)I"⟩, 12) := ⟨⟨by decide +kernel, by decide +kernel⟩, List.mem_of_getElem? (i := 129) (by decide +kernel), List.mem_of_getElem? (i := 540) (by decide +kernel), List.mem_of_getElem? (i := 541) (by decide +kernel)⟩
theorem lw_p27 : lw_okq (⟨"FlowGate$Flow", "comeBack", "(I)I"⟩, 12) := ⟨⟨by decide +kernel, by decide +kernel⟩, List.mem_of_getElem? (i := 129) (by decide +kernel), List.mem_of_getElem? (i := 551) (by decide +kernel), List.mem_of_getElem? (i := 552) (by decide +kernel)⟩
theorem lw_p28 : lw_okq (⟨"FlowGate$Flow", "leave", "(I)I"⟩, 12) := ⟨⟨by decide +kernel, by decide +kernel⟩, List.mem_of_getElem? (i := 129) (by decide +kernel), List.mem_of_getElem? (i := 560) (by decide +kernel), List.mem_of_getElem? (i := 561) (by decide +kernel)⟩
theorem lw_p29 : lw_okq (⟨"FlowGate$Flow", "wakeReturns", "(I)V"⟩, 12) := ⟨⟨by decide +kernel, by decide +kernel⟩, List.mem_of_getElem? (i := 129) (by decide +kernel), List.mem_of_getElem? (i := 564) (by decide +kernel), List.mem_of_getElem? (i := 565) (by decide +kernel)⟩
theorem lw_p30 : lw_okq (⟨"FlowGate$Flow", "findChanged", "()I"⟩, 12) := ⟨⟨by decide +kernel, by decide +kernel⟩, List.mem_of_getElem? (i := 129) (by decide +kernel), List.mem_of_getElem? (i := 568) (by decide +kernel), List.mem_of_getElem? (i := 569) (by decide +kernel)⟩
theorem lw_p31 : lw_okq (⟨"FlowGate$Frame", "findSub", "(I)I"⟩, 5) := ⟨⟨by decide +kernel, by decide +kernel⟩, List.mem_of_getElem? (i := 136) (by decide +kernel), List.mem_of_getElem? (i := 590) (by decide +kernel), List.mem_of_getElem? (i := 591) (by decide +kernel)⟩
def lw_privs_2 : List (MethodName × Nat) := [(⟨"FlowGate$Flow", "shuffle", "(I)I"⟩, 12), (⟨"FlowGate$Flow", "takeIf", "(ZI)I"⟩, 12), (⟨"FlowGate$Flow", "pushBoth", "(II)I"⟩, 12), (⟨"FlowGate$Flow", "calculate", "(III)I"⟩, 12), (⟨"FlowGate$Flow", "exchangeIf", "(ZII)I"⟩, 12), (⟨"FlowGate$Flow", "decide", "(I)I"⟩, 12), (⟨"FlowGate$Flow", "enterSub", "(I)I"⟩, 12), (⟨"FlowGate$Flow", "create", "(I)I"⟩, 12), (⟨"FlowGate$Flow", "build", "(I)I"⟩, 12), (⟨"FlowGate$Flow", "useObject", "(III)I"⟩, 12), (⟨"FlowGate$Flow", "useRow", "(II)I"⟩, 12), (⟨"FlowGate$Flow", "comeBack", "(I)I"⟩, 12), (⟨"FlowGate$Flow", "leave", "(I)I"⟩, 12), (⟨"FlowGate$Flow", "wakeReturns", "(I)V"⟩, 12), (⟨"FlowGate$Flow", "findChanged", "()I"⟩, 12), (⟨"FlowGate$Frame", "findSub", "(I)I"⟩, 5)]
theorem lw_r2 : ∀ q ∈ lw_privs_2, lw_okq q := List.forall_mem_cons.mpr ⟨lw_p16, List.forall_mem_cons.mpr ⟨lw_p17, List.forall_mem_cons.mpr ⟨lw_p18, List.forall_mem_cons.mpr ⟨lw_p19, List.forall_mem_cons.mpr ⟨lw_p20, List.forall_mem_cons.mpr ⟨lw_p21, List.forall_mem_cons.mpr ⟨lw_p22, List.forall_mem_cons.mpr ⟨lw_p23, List.forall_mem_cons.mpr ⟨lw_p24, List.forall_mem_cons.mpr ⟨lw_p25, List.forall_mem_cons.mpr ⟨lw_p26, List.forall_mem_cons.mpr ⟨lw_p27, List.forall_mem_cons.mpr ⟨lw_p28, List.forall_mem_cons.mpr ⟨lw_p29, List.forall_mem_cons.mpr ⟨lw_p30, List.forall_mem_cons.mpr ⟨lw_p31, fun _ h => absurd h List.not_mem_nil⟩⟩⟩⟩⟩⟩⟩⟩⟩⟩⟩⟩⟩⟩⟩⟩
theorem lw_p32 : lw_okq (⟨"FlowGateModel", "isPlain", "(I)Z"⟩, 42) := ⟨⟨by decide +kernel, by decide +kernel⟩, List.mem_of_getElem? (i := 613) (by decide +kernel), List.mem_of_getElem? (i := 757) (by decide +kernel), List.mem_of_getElem? (i := 758) (by decide +kernel)⟩
theorem lw_p33 : lw_okq (⟨"FlowGateModel", "isRef", "(I)Z"⟩, 42) := ⟨⟨by decide +kernel, by decide +kernel⟩, List.mem_of_getElem? (i := 613) (by decide +kernel), List.mem_of_getElem? (i := 761) (by decide +kernel), List.mem_of_getElem? (i := 762) (by decide +kernel)⟩
theorem lw_p34 : lw_okq (⟨"FlowGateModel", "isClass", "(I)Z"⟩, 42) := ⟨⟨by decide +kernel, by decide +kernel⟩, List.mem_of_getElem? (i := 613) (by decide +kernel), List.mem_of_getElem? (i := 765) (by decide +kernel), List.mem_of_getElem? (i := 766) (by decide +kernel)⟩
theorem lw_p35 : lw_okq (⟨"FlowGateModel", "form", "()V"⟩, 42) := ⟨⟨by decide +kernel, by decide +kernel⟩, List.mem_of_getElem? (i := 613) (by decide +kernel), List.mem_of_getElem? (i := 789) (by decide +kernel), List.mem_of_getElem? (i := 790) (by decide +kernel)⟩
theorem lw_p36 : lw_okq (⟨"FlowGateModel", "fail", "(II)V"⟩, 42) := ⟨⟨by decide +kernel, by decide +kernel⟩, List.mem_of_getElem? (i := 613) (by decide +kernel), List.mem_of_getElem? (i := 793) (by decide +kernel), List.mem_of_getElem? (i := 794) (by decide +kernel)⟩
theorem lw_p37 : lw_okq (⟨"FlowGateModel", "isFormed", "(III)Z"⟩, 42) := ⟨⟨by decide +kernel, by decide +kernel⟩, List.mem_of_getElem? (i := 613) (by decide +kernel), List.mem_of_getElem? (i := 797) (by decide +kernel), List.mem_of_getElem? (i := 798) (by decide +kernel)⟩
theorem lw_p38 : lw_okq (⟨"FlowGateModel", "isGoal", "(I)Z"⟩, 42) := ⟨⟨by decide +kernel, by decide +kernel⟩, List.mem_of_getElem? (i := 613) (by decide +kernel), List.mem_of_getElem? (i := 801) (by decide +kernel), List.mem_of_getElem? (i := 802) (by decide +kernel)⟩
theorem lw_p39 : lw_okq (⟨"FlowGateModel", "isBelow", "(II)Z"⟩, 42) := ⟨⟨by decide +kernel, by decide +kernel⟩, List.mem_of_getElem? (i := 613) (by decide +kernel), List.mem_of_getElem? (i := 805) (by decide +kernel), List.mem_of_getElem? (i := 806) (by decide +kernel)⟩
theorem lw_p40 : lw_okq (⟨"FlowGateModel", "begins", "()V"⟩, 42) := ⟨⟨by decide +kernel, by decide +kernel⟩, List.mem_of_getElem? (i := 613) (by decide +kernel), List.mem_of_getElem? (i := 812) (by decide +kernel), List.mem_of_getElem? (i := 813) (by decide +kernel)⟩
theorem lw_p41 : lw_okq (⟨"FlowGateModel", "meet", "(I)V"⟩, 42) := ⟨⟨by decide +kernel, by decide +kernel⟩, List.mem_of_getElem? (i := 613) (by decide +kernel), List.mem_of_getElem? (i := 816) (by decide +kernel), List.mem_of_getElem? (i := 817) (by decide +kernel)⟩
theorem lw_p42 : lw_okq (⟨"FlowGateModel", "joined", "(II)I"⟩, 42) := ⟨⟨by decide +kernel, by decide +kernel⟩, List.mem_of_getElem? (i := 613) (by decide +kernel), List.mem_of_getElem? (i := 820) (by decide +kernel), List.mem_of_getElem? (i := 821) (by decide +kernel)⟩
theorem lw_p43 : lw_okq (⟨"FlowGateModel", "lookAt", "(I)V"⟩, 42) := ⟨⟨by decide +kernel, by decide +kernel⟩, List.mem_of_getElem? (i := 613) (by decide +kernel), List.mem_of_getElem? (i := 824) (by decide +kernel), List.mem_of_getElem? (i := 825) (by decide +kernel)⟩
theorem lw_p44 : lw_okq (⟨"FlowGateModel", "copyOut", "()V"⟩, 42) := ⟨⟨by decide +kernel, by decide +kernel⟩, List.mem_of_getElem? (i := 613) (by decide +kernel), List.mem_of_getElem? (i := 828) (by decide +kernel), List.mem_of_getElem? (i := 829) (by decide +kernel)⟩
theorem lw_p45 : lw_okq (⟨"FlowGateModel", "hasRaw", "(Z)Z"⟩, 42) := ⟨⟨by decide +kernel, by decide +kernel⟩, List.mem_of_getElem? (i := 613) (by decide +kernel), List.mem_of_getElem? (i := 832) (by decide +kernel), List.mem_of_getElem? (i := 833) (by decide +kernel)⟩
theorem lw_p46 : lw_okq (⟨"FlowGateModel", "back", "(II)V"⟩, 42) := ⟨⟨by decide +kernel, by decide +kernel⟩, List.mem_of_getElem? (i := 613) (by decide +kernel), List.mem_of_getElem? (i := 836) (by decide +kernel), List.mem_of_getElem? (i := 837) (by decide +kernel)⟩
theorem lw_p47 : lw_okq (⟨"FlowGateModel", "touches", "(II)V"⟩, 42) := ⟨⟨by decide +kernel, by decide +kernel⟩, List.mem_of_getElem? (i := 613) (by decide +kernel), List.mem_of_getElem? (i := 840) (by decide +kernel), List.mem_of_getElem? (i := 841) (by decide +kernel)⟩
def lw_privs_3 : List (MethodName × Nat) := [(⟨"FlowGateModel", "isPlain", "(I)Z"⟩, 42), (⟨"FlowGateModel", "isRef", "(I)Z"⟩, 42), (⟨"FlowGateModel", "isClass", "(I)Z"⟩, 42), (⟨"FlowGateModel", "form", "()V"⟩, 42), (⟨"FlowGateModel", "fail", "(II)V"⟩, 42), (⟨"FlowGateModel", "isFormed", "(III)Z"⟩, 42), (⟨"FlowGateModel", "isGoal", "(I)Z"⟩, 42), (⟨"FlowGateModel", "isBelow", "(II)Z"⟩, 42), (⟨"FlowGateModel", "begins", "()V"⟩, 42), (⟨"FlowGateModel", "meet", "(I)V"⟩, 42), (⟨"FlowGateModel", "joined", "(II)I"⟩, 42), (⟨"FlowGateModel", "lookAt", "(I)V"⟩, 42), (⟨"FlowGateModel", "copyOut", "()V"⟩, 42), (⟨"FlowGateModel", "hasRaw", "(Z)Z"⟩, 42), (⟨"FlowGateModel", "back", "(II)V"⟩, 42), (⟨"FlowGateModel", "touches", "(II)V"⟩, 42)]
theorem lw_r3 : ∀ q ∈ lw_privs_3, lw_okq q := List.forall_mem_cons.mpr ⟨lw_p32, List.forall_mem_cons.mpr ⟨lw_p33, List.forall_mem_cons.mpr ⟨lw_p34, List.forall_mem_cons.mpr ⟨lw_p35, List.forall_mem_cons.mpr ⟨lw_p36, List.forall_mem_cons.mpr ⟨lw_p37, List.forall_mem_cons.mpr ⟨lw_p38, List.forall_mem_cons.mpr ⟨lw_p39, List.forall_mem_cons.mpr ⟨lw_p40, List.forall_mem_cons.mpr ⟨lw_p41, List.forall_mem_cons.mpr ⟨lw_p42, List.forall_mem_cons.mpr ⟨lw_p43, List.forall_mem_cons.mpr ⟨lw_p44, List.forall_mem_cons.mpr ⟨lw_p45, List.forall_mem_cons.mpr ⟨lw_p46, List.forall_mem_cons.mpr ⟨lw_p47, fun _ h => absurd h List.not_mem_nil⟩⟩⟩⟩⟩⟩⟩⟩⟩⟩⟩⟩⟩⟩⟩⟩
theorem lw_p48 : lw_okq (⟨"FlowGateModel", "go", "(II)V"⟩, 42) := ⟨⟨by decide +kernel, by decide +kernel⟩, List.mem_of_getElem? (i := 613) (by decide +kernel), List.mem_of_getElem? (i := 844) (by decide +kernel), List.mem_of_getElem? (i := 845) (by decide +kernel)⟩
theorem lw_p49 : lw_okq (⟨"FlowGateModel", "moves", "(II)Z"⟩, 42) := ⟨⟨by decide +kernel, by decide +kernel⟩, List.mem_of_getElem? (i := 613) (by decide +kernel), List.mem_of_getElem? (i := 848) (by decide +kernel), List.mem_of_getElem? (i := 849) (by decide +kernel)⟩
theorem lw_p50 : lw_okq (⟨"FlowGateModel", "put", "(I)Z"⟩, 42) := ⟨⟨by decide +kernel, by decide +kernel⟩, List.mem_of_getElem? (i := 613) (by decide +kernel), List.mem_of_getElem? (i := 852) (by decide +kernel), List.mem_of_getElem? (i := 853) (by decide +kernel)⟩
theorem lw_p51 : lw_okq (⟨"FlowGateModel", "top", "(I)I"⟩, 42) := ⟨⟨by decide +kernel, by decide +kernel⟩, List.mem_of_getElem? (i := 613) (by decide +kernel), List.mem_of_getElem? (i := 856) (by decide +kernel), List.mem_of_getElem? (i := 857) (by decide +kernel)⟩
theorem lw_p52 : lw_okq (⟨"FlowGateModel", "drop", "()V"⟩, 42) := ⟨⟨by decide +kernel, by decide +kernel⟩, List.mem_of_getElem? (i := 613) (by decide +kernel), List.mem_of_getElem? (i := 860) (by decide +kernel), List.mem_of_getElem? (i := 861) (by decide +kernel)⟩
theorem lw_p53 : lw_okq (⟨"FlowGateModel", "single", "(I)Z"⟩, 42) := ⟨⟨by decide +kernel, by decide +kernel⟩, List.mem_of_getElem? (i := 613) (by decide +kernel), List.mem_of_getElem? (i := 864) (by decide +kernel), List.mem_of_getElem? (i := 865) (by decide +kernel)⟩
theorem lw_p54 : lw_okq (⟨"FlowGateModel", "flows", "(III)Z"⟩, 42) := ⟨⟨by decide +kernel, by decide +kernel⟩, List.mem_of_getElem? (i := 613) (by decide +kernel), List.mem_of_getElem? (i := 868) (by decide +kernel), List.mem_of_getElem? (i := 869) (by decide +kernel)⟩
theorem lw_p55 : lw_okq (⟨"FlowGateModel", "takes", "(I)Z"⟩, 42) := ⟨⟨by decide +kernel, by decide +kernel⟩, List.mem_of_getElem? (i := 613) (by decide +kernel), List.mem_of_getElem? (i := 872) (by decide +kernel), List.mem_of_getElem? (i := 873) (by decide +kernel)⟩
theorem lw_p56 : lw_okq (⟨"FlowGateModel", "takesRef", "()Z"⟩, 42) := ⟨⟨by decide +kernel, by decide +kernel⟩, List.mem_of_getElem? (i := 613) (by decide +kernel), List.mem_of_getElem? (i := 876) (by decide +kernel), List.mem_of_getElem? (i := 877) (by decide +kernel)⟩
theorem lw_p57 : lw_okq (⟨"FlowGateModel", "takesFor", "(I)Z"⟩, 42) := ⟨⟨by decide +kernel, by decide +kernel⟩, List.mem_of_getElem? (i := 613) (by decide +kernel), List.mem_of_getElem? (i := 880) (by decide +kernel), List.mem_of_getElem? (i := 881) (by decide +kernel)⟩
theorem lw_p58 : lw_okq (⟨"FlowGateModel", "goesFor", "(II)Z"⟩, 42) := ⟨⟨by decide +kernel, by decide +kernel⟩, List.mem_of_getElem? (i := 613) (by decide +kernel), List.mem_of_getElem? (i := 884) (by decide +kernel), List.mem_of_getElem? (i := 885) (by decide +kernel)⟩
theorem lw_p59 : lw_okq (⟨"FlowGateModel", "objects", "(IIII)Z"⟩, 42) := ⟨⟨by decide +kernel, by decide +kernel⟩, List.mem_of_getElem? (i := 613) (by decide +kernel), List.mem_of_getElem? (i := 888) (by decide +kernel), List.mem_of_getElem? (i := 889) (by decide +kernel)⟩
theorem lw_p60 : lw_okq (⟨"FlowGateModel", "takesRow", "(I)Z"⟩, 42) := ⟨⟨by decide +kernel, by decide +kernel⟩, List.mem_of_getElem? (i := 613) (by decide +kernel), List.mem_of_getElem? (i := 892) (by decide +kernel), List.mem_of_getElem? (i := 893) (by decide +kernel)⟩
theorem lw_p61 : lw_okq (⟨"FlowGateModel", "enters", "(II)V"⟩, 42) := ⟨⟨by decide +kernel, by decide +kernel⟩, List.mem_of_getElem? (i := 613) (by decide +kernel), List.mem_of_getElem? (i := 896) (by decide +kernel), List.mem_of_getElem? (i := 897) (by decide +kernel)⟩
def lw_privs_4 : List (MethodName × Nat) := [(⟨"FlowGateModel", "go", "(II)V"⟩, 42), (⟨"FlowGateModel", "moves", "(II)Z"⟩, 42), (⟨"FlowGateModel", "put", "(I)Z"⟩, 42), (⟨"FlowGateModel", "top", "(I)I"⟩, 42), (⟨"FlowGateModel", "drop", "()V"⟩, 42), (⟨"FlowGateModel", "single", "(I)Z"⟩, 42), (⟨"FlowGateModel", "flows", "(III)Z"⟩, 42), (⟨"FlowGateModel", "takes", "(I)Z"⟩, 42), (⟨"FlowGateModel", "takesRef", "()Z"⟩, 42), (⟨"FlowGateModel", "takesFor", "(I)Z"⟩, 42), (⟨"FlowGateModel", "goesFor", "(II)Z"⟩, 42), (⟨"FlowGateModel", "objects", "(IIII)Z"⟩, 42), (⟨"FlowGateModel", "takesRow", "(I)Z"⟩, 42), (⟨"FlowGateModel", "enters", "(II)V"⟩, 42)]
theorem lw_r4 : ∀ q ∈ lw_privs_4, lw_okq q := List.forall_mem_cons.mpr ⟨lw_p48, List.forall_mem_cons.mpr ⟨lw_p49, List.forall_mem_cons.mpr ⟨lw_p50, List.forall_mem_cons.mpr ⟨lw_p51, List.forall_mem_cons.mpr ⟨lw_p52, List.forall_mem_cons.mpr ⟨lw_p53, List.forall_mem_cons.mpr ⟨lw_p54, List.forall_mem_cons.mpr ⟨lw_p55, List.forall_mem_cons.mpr ⟨lw_p56, List.forall_mem_cons.mpr ⟨lw_p57, List.forall_mem_cons.mpr ⟨lw_p58, List.forall_mem_cons.mpr ⟨lw_p59, List.forall_mem_cons.mpr ⟨lw_p60, List.forall_mem_cons.mpr ⟨lw_p61, fun _ h => absurd h List.not_mem_nil⟩⟩⟩⟩⟩⟩⟩⟩⟩⟩⟩⟩⟩⟩
def lw_privs : List (MethodName × Nat) := lw_privs_1 ++ (lw_privs_2 ++ (lw_privs_3 ++ (lw_privs_4)))
def lw_tbl : List Cond := k2_sels lw_privs ++ tables_1
theorem lw_privs_ok : ∀ q ∈ lw_privs, lw_okq q := by
  show ∀ q ∈ lw_privs_1 ++ (lw_privs_2 ++ (lw_privs_3 ++ (lw_privs_4))), lw_okq q
  exact List.forall_mem_append.mpr ⟨lw_r1, List.forall_mem_append.mpr ⟨lw_r2, List.forall_mem_append.mpr ⟨lw_r3, lw_r4⟩⟩⟩
end
section
def AW : List Cond := lw_tbl.filter goodWord
theorem mem_AW {w : Cond} {i : Nat} (h : lw_tbl[i]? = some w) (g : goodWord w = true) : w ∈ AW := List.mem_filter.mpr ⟨List.mem_of_getElem? h, g⟩
theorem AW_tbl {w : Cond} (h : w ∈ AW) : w ∈ lw_tbl := (List.mem_filter.mp h).1
theorem AW_good {w : Cond} (h : w ∈ AW) : (w.onTables && w.keeps) = true ∨ ∃ ty, w = .arrayClass ty := good_of_word (List.mem_filter.mp h).2
theorem mc {w c : Cond} (h : w ∈ AW) : w ∈ c :: AW := List.mem_cons_of_mem _ h
theorem g_C {c c' : Cond} (h : c' ∈ AW) : GoodIn (c :: AW) (c' :: AW) := fun w hw => (List.mem_cons.mp hw).elim (fun e => e ▸ ⟨mc h, AW_good h⟩) (fun q => ⟨mc q, AW_good q⟩)
theorem g_V {c c' : Cond} {own C : String} {idx : Nat} {y : MethodName} (h1 : Cond.methodLink own idx y ∈ AW) (h2 : Cond.instanceMethod y ∈ AW) (h3 : Cond.selects C y y ∈ AW) (h4 : Cond.initialized C ∈ AW) (h : c' ∈ AW) : GoodIn (c :: AW) (wsV own idx C y (c' :: AW)) := by
  intro w hw
  rcases List.mem_append.mp hw with q | q
  · simp only [List.mem_cons, List.not_mem_nil, or_false] at q
    rcases q with rfl | rfl | rfl | rfl
    · exact ⟨mc h1, AW_good h1⟩
    · exact ⟨mc h2, AW_good h2⟩
    · exact ⟨mc h3, AW_good h3⟩
    · exact ⟨mc h4, AW_good h4⟩
  · exact g_C h w q
theorem g_S {c c' : Cond} {own : String} {idx : Nat} {y : MethodName} (h1 : Cond.methodLink own idx y ∈ AW) (h2 : Cond.static y ∈ AW) (h4 : Cond.initialized own ∈ AW) (h : c' ∈ AW) : GoodIn (c :: AW) (wsS own idx y (c' :: AW)) := by
  intro w hw
  rcases List.mem_append.mp hw with q | q
  · simp only [List.mem_cons, List.not_mem_nil, or_false] at q
    rcases q with rfl | rfl | rfl
    · exact ⟨mc h1, AW_good h1⟩
    · exact ⟨mc h2, AW_good h2⟩
    · exact ⟨mc h4, AW_good h4⟩
  · exact g_C h w q
def R_G : String := "FlowGate"
def T_G : u_T := fun k => match k with
  | 0 => ("FlowGate", "types", "LFlowGate$Types;", true)
  | 1 => ("FlowGate", "method", "LFlowGate$Method;", true)
  | 2 => ("FlowGate", "form", "LFlowGate$Form;", true)
  | 3 => ("FlowGate", "flow", "LFlowGate$Flow;", true)
  | 4 => ("FlowGate", "place", "I", false)
  | _ => ("FlowGate", "passed", "I", false)
def ty_G : Nat → FieldType := fun k => match k with
  | 0 => .object "FlowGate$Types"
  | 1 => .object "FlowGate$Method"
  | 2 => .object "FlowGate$Form"
  | 3 => .object "FlowGate$Flow"
  | 4 => .int
  | _ => .int
theorem nm_G : ∀ a, a < 6 → ∀ b, b < 6 → a ≠ b → (T_G a).2.1 ≠ (T_G b).2.1 := by decide +kernel
theorem ty_G_ok : ∀ k, k < 6 → parseFieldDescriptor (T_G k).2.2.1 = some (ty_G k) := by decide +kernel
theorem in_G : ∀ w ∈ u_ws "FlowGate" T_G 6, w ∈ AW := by
  intro w hw
  have h : u_ws "FlowGate" T_G 6 = ([271, 273, 275, 277, 279, 281] : List Nat).filterMap (fun i => lw_tbl[i]?) := by decide +kernel
  have hg : (u_ws "FlowGate" T_G 6).all goodWord = true := by decide +kernel
  have g := List.all_eq_true.mp hg w hw
  rw [h] at hw
  obtain ⟨i, -, hi⟩ := List.mem_filterMap.mp hw
  exact mem_AW hi g
def R_T : String := "FlowGate$Types"
def T_T : u_T := fun k => match k with
  | 0 => ("FlowGate$Types", "upward", "[I", true)
  | 1 => ("FlowGate$Types", "isInterface", "[Z", true)
  | _ => ("FlowGate$Types", "size", "I", false)
def ty_T : Nat → FieldType := fun k => match k with
  | 0 => .array (.int)
  | 1 => .array (.boolean)
  | _ => .int
theorem nm_T : ∀ a, a < 3 → ∀ b, b < 3 → a ≠ b → (T_T a).2.1 ≠ (T_T b).2.1 := by decide +kernel
theorem ty_T_ok : ∀ k, k < 3 → parseFieldDescriptor (T_T k).2.2.1 = some (ty_T k) := by decide +kernel
theorem in_T : ∀ w ∈ u_ws "FlowGate$Types" T_T 3, w ∈ AW := by
  intro w hw
  have h : u_ws "FlowGate$Types" T_T 3 = ([91, 93, 95] : List Nat).filterMap (fun i => lw_tbl[i]?) := by decide +kernel
  have hg : (u_ws "FlowGate$Types" T_T 3).all goodWord = true := by decide +kernel
  have g := List.all_eq_true.mp hg w hw
  rw [h] at hw
  obtain ⟨i, -, hi⟩ := List.mem_filterMap.mp hw
  exact mem_AW hi g
def R_M : String := "FlowGate$Method"
def T_M : u_T := fun k => match k with
  | 0 => ("FlowGate$Method", "op", "[I", true)
  | 1 => ("FlowGate$Method", "a", "[I", true)
  | 2 => ("FlowGate$Method", "b", "[I", true)
  | 3 => ("FlowGate$Method", "size", "I", false)
  | 4 => ("FlowGate$Method", "from", "[I", true)
  | 5 => ("FlowGate$Method", "to", "[I", true)
  | 6 => ("FlowGate$Method", "at", "[I", true)
  | 7 => ("FlowGate$Method", "caught", "[I", true)
  | 8 => ("FlowGate$Method", "handlerCount", "I", false)
  | 9 => ("FlowGate$Method", "arguments", "[I", true)
  | 10 => ("FlowGate$Method", "argumentCount", "I", false)
  | 11 => ("FlowGate$Method", "result", "I", false)
  | 12 => ("FlowGate$Method", "locals", "I", false)
  | _ => ("FlowGate$Method", "stack", "I", false)
def ty_M : Nat → FieldType := fun k => match k with
  | 0 => .array (.int)
  | 1 => .array (.int)
  | 2 => .array (.int)
  | 3 => .int
  | 4 => .array (.int)
  | 5 => .array (.int)
  | 6 => .array (.int)
  | 7 => .array (.int)
  | 8 => .int
  | 9 => .array (.int)
  | 10 => .int
  | 11 => .int
  | 12 => .int
  | _ => .int
theorem nm_M : ∀ a, a < 14 → ∀ b, b < 14 → a ≠ b → (T_M a).2.1 ≠ (T_M b).2.1 := by decide +kernel
theorem ty_M_ok : ∀ k, k < 14 → parseFieldDescriptor (T_M k).2.2.1 = some (ty_M k) := by decide +kernel
theorem in_M : ∀ w ∈ u_ws "FlowGate$Method" T_M 14, w ∈ AW := by
  intro w hw
  have h : u_ws "FlowGate$Method" T_M 14 = ([148, 150, 152, 154, 156, 158, 160, 162, 164, 166, 168, 170, 172, 174] : List Nat).filterMap (fun i => lw_tbl[i]?) := by decide +kernel
  have hg : (u_ws "FlowGate$Method" T_M 14).all goodWord = true := by decide +kernel
  have g := List.all_eq_true.mp hg w hw
  rw [h] at hw
  obtain ⟨i, -, hi⟩ := List.mem_filterMap.mp hw
  exact mem_AW hi g
def R_O : String := "FlowGate$Form"
def T_O : u_T := fun k => match k with
  | 0 => ("FlowGate$Form", "types", "LFlowGate$Types;", true)
  | _ => ("FlowGate$Form", "method", "LFlowGate$Method;", true)
def ty_O : Nat → FieldType := fun k => match k with
  | 0 => .object "FlowGate$Types"
  | _ => .object "FlowGate$Method"
theorem nm_O : ∀ a, a < 2 → ∀ b, b < 2 → a ≠ b → (T_O a).2.1 ≠ (T_O b).2.1 := by decide +kernel
theorem ty_O_ok : ∀ k, k < 2 → parseFieldDescriptor (T_O k).2.2.1 = some (ty_O k) := by decide +kernel
theorem in_O : ∀ w ∈ u_ws "FlowGate$Form" T_O 2, w ∈ AW := by
  intro w hw
  have h : u_ws "FlowGate$Form" T_O 2 = ([185, 187] : List Nat).filterMap (fun i => lw_tbl[i]?) := by decide +kernel
  have hg : (u_ws "FlowGate$Form" T_O 2).all goodWord = true := by decide +kernel
  have g := List.all_eq_true.mp hg w hw
  rw [h] at hw
  obtain ⟨i, -, hi⟩ := List.mem_filterMap.mp hw
  exact mem_AW hi g
def R_W : String := "FlowGate$Flow"
def T_W : u_T := fun k => match k with
  | 0 => ("FlowGate$Flow", "types", "LFlowGate$Types;", true)
  | 1 => ("FlowGate$Flow", "method", "LFlowGate$Method;", true)
  | 2 => ("FlowGate$Flow", "frames", "[LFlowGate$Frame;", true)
  | 3 => ("FlowGate$Flow", "reached", "[Z", true)
  | 4 => ("FlowGate$Flow", "changed", "[Z", true)
  | 5 => ("FlowGate$Flow", "doneFor", "[J", true)
  | 6 => ("FlowGate$Flow", "out", "LFlowGate$Frame;", true)
  | 7 => ("FlowGate$Flow", "coming", "LFlowGate$Frame;", true)
  | 8 => ("FlowGate$Flow", "looks", "I", false)
  | 9 => ("FlowGate$Flow", "place", "I", false)
  | 10 => ("FlowGate$Flow", "reachedCount", "I", false)
  | _ => ("FlowGate$Flow", "begunSubs", "J", false)
def ty_W : Nat → FieldType := fun k => match k with
  | 0 => .object "FlowGate$Types"
  | 1 => .object "FlowGate$Method"
  | 2 => .array (.object "FlowGate$Frame")
  | 3 => .array (.boolean)
  | 4 => .array (.boolean)
  | 5 => .array (.long)
  | 6 => .object "FlowGate$Frame"
  | 7 => .object "FlowGate$Frame"
  | 8 => .int
  | 9 => .int
  | 10 => .int
  | _ => .long
theorem nm_W : ∀ a, a < 12 → ∀ b, b < 12 → a ≠ b → (T_W a).2.1 ≠ (T_W b).2.1 := by decide +kernel
theorem ty_W_ok : ∀ k, k < 12 → parseFieldDescriptor (T_W k).2.2.1 = some (ty_W k) := by decide +kernel
theorem in_W : ∀ w ∈ u_ws "FlowGate$Flow" T_W 12, w ∈ AW := by
  intro w hw
  have h : u_ws "FlowGate$Flow" T_W 12 = ([240, 242, 244, 246, 248, 250, 252, 254, 256, 258, 260, 262] : List Nat).filterMap (fun i => lw_tbl[i]?) := by decide +kernel
  have hg : (u_ws "FlowGate$Flow" T_W 12).all goodWord = true := by decide +kernel
  have g := List.all_eq_true.mp hg w hw
  rw [h] at hw
  obtain ⟨i, -, hi⟩ := List.mem_filterMap.mp hw
  exact mem_AW hi g
def R_R : String := "FlowGate$Frame"
def T_R : u_T := fun k => match k with
  | 0 => ("FlowGate$Frame", "locals", "[I", true)
  | 1 => ("FlowGate$Frame", "stack", "[I", true)
  | 2 => ("FlowGate$Frame", "depth", "I", false)
  | 3 => ("FlowGate$Frame", "subs", "J", false)
  | _ => ("FlowGate$Frame", "touched", "[I", true)
def ty_R : Nat → FieldType := fun k => match k with
  | 0 => .array (.int)
  | 1 => .array (.int)
  | 2 => .int
  | 3 => .long
  | _ => .array (.int)
theorem nm_R : ∀ a, a < 5 → ∀ b, b < 5 → a ≠ b → (T_R a).2.1 ≠ (T_R b).2.1 := by decide +kernel
theorem ty_R_ok : ∀ k, k < 5 → parseFieldDescriptor (T_R k).2.2.1 = some (ty_R k) := by decide +kernel
theorem in_R : ∀ w ∈ u_ws "FlowGate$Frame" T_R 5, w ∈ AW := by
  intro w hw
  have h : u_ws "FlowGate$Frame" T_R 5 = ([210, 212, 214, 216, 218] : List Nat).filterMap (fun i => lw_tbl[i]?) := by decide +kernel
  have hg : (u_ws "FlowGate$Frame" T_R 5).all goodWord = true := by decide +kernel
  have g := List.all_eq_true.mp hg w hw
  rw [h] at hw
  obtain ⟨i, -, hi⟩ := List.mem_filterMap.mp hw
  exact mem_AW hi g
def R_D : String := "FlowGateModel"
def T_D : u_T := fun k => match k with
  | 0 => ("FlowGateModel", "above", "[I", true)
  | 1 => ("FlowGateModel", "face", "[Z", true)
  | 2 => ("FlowGateModel", "classes", "I", false)
  | 3 => ("FlowGateModel", "ops", "[I", true)
  | 4 => ("FlowGateModel", "as", "[I", true)
  | 5 => ("FlowGateModel", "bs", "[I", true)
  | 6 => ("FlowGateModel", "from", "[I", true)
  | 7 => ("FlowGateModel", "to", "[I", true)
  | 8 => ("FlowGateModel", "at", "[I", true)
  | 9 => ("FlowGateModel", "caught", "[I", true)
  | 10 => ("FlowGateModel", "arguments", "[I", true)
  | 11 => ("FlowGateModel", "many", "I", false)
  | 12 => ("FlowGateModel", "handlers", "I", false)
  | 13 => ("FlowGateModel", "given", "I", false)
  | 14 => ("FlowGateModel", "result", "I", false)
  | 15 => ("FlowGateModel", "locals", "I", false)
  | 16 => ("FlowGateModel", "room", "I", false)
  | 17 => ("FlowGateModel", "has", "[Z", true)
  | 18 => ("FlowGateModel", "changed", "[Z", true)
  | 19 => ("FlowGateModel", "local", "[I", true)
  | 20 => ("FlowGateModel", "stack", "[I", true)
  | 21 => ("FlowGateModel", "depth", "[I", true)
  | 22 => ("FlowGateModel", "touched", "[I", true)
  | 23 => ("FlowGateModel", "subs", "[J", true)
  | 24 => ("FlowGateModel", "done", "[J", true)
  | 25 => ("FlowGateModel", "here", "[I", true)
  | 26 => ("FlowGateModel", "pile", "[I", true)
  | 27 => ("FlowGateModel", "touch", "[I", true)
  | 28 => ("FlowGateModel", "there", "[I", true)
  | 29 => ("FlowGateModel", "pileThere", "[I", true)
  | 30 => ("FlowGateModel", "touchThere", "[I", true)
  | 31 => ("FlowGateModel", "high", "I", false)
  | 32 => ("FlowGateModel", "size", "I", false)
  | 33 => ("FlowGateModel", "highThere", "I", false)
  | 34 => ("FlowGateModel", "fault", "I", false)
  | 35 => ("FlowGateModel", "place", "I", false)
  | 36 => ("FlowGateModel", "looked", "I", false)
  | 37 => ("FlowGateModel", "good", "I", false)
  | 38 => ("FlowGateModel", "withState", "I", false)
  | 39 => ("FlowGateModel", "in1", "J", false)
  | 40 => ("FlowGateModel", "subsThere", "J", false)
  | _ => ("FlowGateModel", "begun", "J", false)
def ty_D : Nat → FieldType := fun k => match k with
  | 0 => .array (.int)
  | 1 => .array (.boolean)
  | 2 => .int
  | 3 => .array (.int)
  | 4 => .array (.int)
  | 5 => .array (.int)
  | 6 => .array (.int)
  | 7 => .array (.int)
  | 8 => .array (.int)
  | 9 => .array (.int)
  | 10 => .array (.int)
  | 11 => .int
  | 12 => .int
  | 13 => .int
  | 14 => .int
  | 15 => .int
  | 16 => .int
  | 17 => .array (.boolean)
  | 18 => .array (.boolean)
  | 19 => .array (.int)
  | 20 => .array (.int)
  | 21 => .array (.int)
  | 22 => .array (.int)
  | 23 => .array (.long)
  | 24 => .array (.long)
  | 25 => .array (.int)
  | 26 => .array (.int)
  | 27 => .array (.int)
  | 28 => .array (.int)
  | 29 => .array (.int)
  | 30 => .array (.int)
  | 31 => .int
  | 32 => .int
  | 33 => .int
  | 34 => .int
  | 35 => .int
  | 36 => .int
  | 37 => .int
  | 38 => .int
  | 39 => .long
  | 40 => .long
  | _ => .long
theorem nm_D : ∀ a, a < 42 → ∀ b, b < 42 → a ≠ b → (T_D a).2.1 ≠ (T_D b).2.1 := by decide +kernel
theorem ty_D_ok : ∀ k, k < 42 → parseFieldDescriptor (T_D k).2.2.1 = some (ty_D k) := by decide +kernel
theorem in_D : ∀ w ∈ u_ws "FlowGateModel" T_D 42, w ∈ AW := by
  intro w hw
  have h : u_ws "FlowGateModel" T_D 42 = ([722, 724, 726, 728, 730, 732, 734, 736, 738, 740, 742, 744, 746, 748, 750, 752, 754, 756, 758, 760, 762, 764, 766, 768, 770, 772, 774, 776, 778, 780, 782, 784, 786, 788, 790, 792, 794, 796, 798, 800, 802, 804] : List Nat).filterMap (fun i => lw_tbl[i]?) := by decide +kernel
  have hg : (u_ws "FlowGateModel" T_D 42).all goodWord = true := by decide +kernel
  have g := List.all_eq_true.mp hg w hw
  rw [h] at hw
  obtain ⟨i, -, hi⟩ := List.mem_filterMap.mp hw
  exact mem_AW hi g
abbrev vwCl : List vw_C := [("FlowGate", T_G, 6), ("FlowGate$Types", T_T, 3), ("FlowGate$Method", T_M, 14), ("FlowGate$Form", T_O, 2), ("FlowGate$Flow", T_W, 12), ("FlowGate$Frame", T_R, 5), ("FlowGateModel", T_D, 42)]
def y_G_init : MethodName := ⟨"FlowGate", "<init>", "()V"⟩
abbrev c_G_init : ByteArray := prog_1_method_1_code
abbrev ws_G_init : List Cond := .code y_G_init c_G_init 1 none :: AW
def y_T_init : MethodName := ⟨"FlowGate$Types", "<init>", "()V"⟩
abbrev c_T_init : ByteArray := prog_6_method_1_code
abbrev ws_T_init : List Cond := .code y_T_init c_T_init 1 none :: AW
def y_M_init : MethodName := ⟨"FlowGate$Method", "<init>", "()V"⟩
abbrev c_M_init : ByteArray := prog_5_method_1_code
abbrev ws_M_init : List Cond := .code y_M_init c_M_init 1 none :: AW
def y_O_init : MethodName := ⟨"FlowGate$Form", "<init>", "(LFlowGate$Types;LFlowGate$Method;)V"⟩
abbrev c_O_init : ByteArray := prog_3_method_1_code
abbrev ws_O_init : List Cond := .code y_O_init c_O_init 3 none :: AW
def y_W_init : MethodName := ⟨"FlowGate$Flow", "<init>", "(LFlowGate$Types;LFlowGate$Method;)V"⟩
abbrev c_W_init : ByteArray := prog_2_method_1_code
abbrev ws_W_init : List Cond := .code y_W_init c_W_init 4 none :: AW
def y_R_init : MethodName := ⟨"FlowGate$Frame", "<init>", "()V"⟩
abbrev c_R_init : ByteArray := prog_4_method_1_code
abbrev ws_R_init : List Cond := .code y_R_init c_R_init 1 none :: AW
def y_G_cls : MethodName := ⟨"FlowGate", "cls", "(IZ)I"⟩
abbrev c_G_cls : ByteArray := prog_1_method_2_code
abbrev ws_G_cls : List Cond := .code y_G_cls c_G_cls 3 (some .int) :: AW
def y_T_hasClass : MethodName := ⟨"FlowGate$Types", "hasClass", "(I)Z"⟩
abbrev c_T_hasClass : ByteArray := prog_6_method_3_code
abbrev ws_T_hasClass : List Cond := .code y_T_hasClass c_T_hasClass 2 (some .boolean) :: AW
def y_T_append : MethodName := ⟨"FlowGate$Types", "append", "(IZ)I"⟩
abbrev c_T_append : ByteArray := prog_6_method_2_code
abbrev ws_T_append : List Cond := .code y_T_append c_T_append 3 (some .int) :: AW
def y_G_begin : MethodName := ⟨"FlowGate", "begin", "(III)I"⟩
abbrev c_G_begin : ByteArray := prog_1_method_3_code
abbrev ws_G_begin : List Cond := .code y_G_begin c_G_begin 4 (some .int) :: AW
def y_T_isValue : MethodName := ⟨"FlowGate$Types", "isValue", "(I)Z"⟩
abbrev c_T_isValue : ByteArray := prog_6_method_8_code
abbrev ws_T_isValue : List Cond := .code y_T_isValue c_T_isValue 2 (some .boolean) :: AW
def y_T_isRef : MethodName := ⟨"FlowGate$Types", "isRef", "(I)Z"⟩
abbrev c_T_isRef : ByteArray := prog_6_method_5_code
abbrev ws_T_isRef : List Cond := .code y_T_isRef c_T_isRef 4 (some .boolean) :: AW
def y_M_restart : MethodName := ⟨"FlowGate$Method", "restart", "(III)V"⟩
abbrev c_M_restart : ByteArray := prog_5_method_2_code
abbrev ws_M_restart : List Cond := .code y_M_restart c_M_restart 4 none :: AW
def y_G_argument : MethodName := ⟨"FlowGate", "argument", "(I)I"⟩
abbrev c_G_argument : ByteArray := prog_1_method_4_code
abbrev ws_G_argument : List Cond := .code y_G_argument c_G_argument 2 (some .int) :: AW
def y_M_appendArgument : MethodName := ⟨"FlowGate$Method", "appendArgument", "(I)I"⟩
abbrev c_M_appendArgument : ByteArray := prog_5_method_5_code
abbrev ws_M_appendArgument : List Cond := .code y_M_appendArgument c_M_appendArgument 2 (some .int) :: AW
def y_G_add : MethodName := ⟨"FlowGate", "add", "(III)I"⟩
abbrev c_G_add : ByteArray := prog_1_method_5_code
abbrev ws_G_add : List Cond := .code y_G_add c_G_add 4 (some .int) :: AW
def y_G_isOp : MethodName := ⟨"FlowGate", "isOp", "(I)Z"⟩
abbrev c_G_isOp : ByteArray := prog_1_method_14_code
abbrev ws_G_isOp : List Cond := .code y_G_isOp c_G_isOp 1 (some .boolean) :: AW
def y_M_append : MethodName := ⟨"FlowGate$Method", "append", "(III)I"⟩
abbrev c_M_append : ByteArray := prog_5_method_3_code
abbrev ws_M_append : List Cond := .code y_M_append c_M_append 4 (some .int) :: AW
def y_M_write : MethodName := ⟨"FlowGate$Method", "write", "(IIII)V"⟩
abbrev c_M_write : ByteArray := prog_5_method_4_code
abbrev ws_M_write : List Cond := .code y_M_write c_M_write 5 none :: AW
def y_G_change : MethodName := ⟨"FlowGate", "change", "(IIII)I"⟩
abbrev c_G_change : ByteArray := prog_1_method_6_code
abbrev ws_G_change : List Cond := .code y_G_change c_G_change 6 (some .int) :: AW
def y_M_hasInstruction : MethodName := ⟨"FlowGate$Method", "hasInstruction", "(I)Z"⟩
abbrev c_M_hasInstruction : ByteArray := prog_5_method_7_code
abbrev ws_M_hasInstruction : List Cond := .code y_M_hasInstruction c_M_hasInstruction 2 (some .boolean) :: AW
def y_G_handler : MethodName := ⟨"FlowGate", "handler", "(IIII)I"⟩
abbrev c_G_handler : ByteArray := prog_1_method_7_code
abbrev ws_G_handler : List Cond := .code y_G_handler c_G_handler 5 (some .int) :: AW
def y_M_appendHandler : MethodName := ⟨"FlowGate$Method", "appendHandler", "(IIII)I"⟩
abbrev c_M_appendHandler : ByteArray := prog_5_method_6_code
abbrev ws_M_appendHandler : List Cond := .code y_M_appendHandler c_M_appendHandler 5 (some .int) :: AW
def y_G_verify : MethodName := ⟨"FlowGate", "verify", "()I"⟩
abbrev c_G_verify : ByteArray := prog_1_method_8_code
abbrev ws_G_verify : List Cond := .code y_G_verify c_G_verify 2 (some .int) :: AW
def y_W_forget : MethodName := ⟨"FlowGate$Flow", "forget", "()V"⟩
abbrev c_W_forget : ByteArray := prog_2_method_2_code
abbrev ws_W_forget : List Cond := .code y_W_forget c_W_forget 2 none :: AW
def y_JA_fillJ : MethodName := ⟨"java/util/Arrays", "fill", "([JJ)V"⟩
abbrev c_JA_fillJ : ByteArray := prog_11_method_101_code
abbrev ws_JA_fillJ : List Cond := .code y_JA_fillJ c_JA_fillJ 5 none :: AW
def y_O_findFault : MethodName := ⟨"FlowGate$Form", "findFault", "()I"⟩
abbrev c_O_findFault : ByteArray := prog_3_method_2_code
abbrev ws_O_findFault : List Cond := .code y_O_findFault c_O_findFault 2 (some .int) :: AW
def y_O_isWellFormed : MethodName := ⟨"FlowGate$Form", "isWellFormed", "(III)Z"⟩
abbrev c_O_isWellFormed : ByteArray := prog_3_method_3_code
abbrev ws_O_isWellFormed : List Cond := .code y_O_isWellFormed c_O_isWellFormed 4 (some .boolean) :: AW
def y_M_hasLocal : MethodName := ⟨"FlowGate$Method", "hasLocal", "(I)Z"⟩
abbrev c_M_hasLocal : ByteArray := prog_5_method_8_code
abbrev ws_M_hasLocal : List Cond := .code y_M_hasLocal c_M_hasLocal 2 (some .boolean) :: AW
def y_O_isNumber : MethodName := ⟨"FlowGate$Form", "isNumber", "(I)Z"⟩
abbrev c_O_isNumber : ByteArray := prog_3_method_4_code
abbrev ws_O_isNumber : List Cond := .code y_O_isNumber c_O_isNumber 1 (some .boolean) :: AW
def y_T_isRow : MethodName := ⟨"FlowGate$Types", "isRow", "(I)Z"⟩
abbrev c_T_isRow : ByteArray := prog_6_method_6_code
abbrev ws_T_isRow : List Cond := .code y_T_isRow c_T_isRow 2 (some .boolean) :: AW
def y_O_isHandlerWellFormed : MethodName := ⟨"FlowGate$Form", "isHandlerWellFormed", "(I)Z"⟩
abbrev c_O_isHandlerWellFormed : ByteArray := prog_3_method_5_code
abbrev ws_O_isHandlerWellFormed : List Cond := .code y_O_isHandlerWellFormed c_O_isHandlerWellFormed 4 (some .boolean) :: AW
def y_T_isBelow : MethodName := ⟨"FlowGate$Types", "isBelow", "(II)Z"⟩
abbrev c_T_isBelow : ByteArray := prog_6_method_4_code
abbrev ws_T_isBelow : List Cond := .code y_T_isBelow c_T_isBelow 3 (some .boolean) :: AW
def y_O_haveArgumentsRoom : MethodName := ⟨"FlowGate$Form", "haveArgumentsRoom", "()Z"⟩
abbrev c_O_haveArgumentsRoom : ByteArray := prog_3_method_6_code
abbrev ws_O_haveArgumentsRoom : List Cond := .code y_O_haveArgumentsRoom c_O_haveArgumentsRoom 3 (some .boolean) :: AW
def y_G_widthOf : MethodName := ⟨"FlowGate", "widthOf", "(I)I"⟩
abbrev c_G_widthOf : ByteArray := prog_1_method_16_code
abbrev ws_G_widthOf : List Cond := .code y_G_widthOf c_G_widthOf 1 (some .int) :: AW
def y_W_run : MethodName := ⟨"FlowGate$Flow", "run", "()I"⟩
abbrev c_W_run : ByteArray := prog_2_method_3_code
abbrev ws_W_run : List Cond := .code y_W_run c_W_run 3 (some .int) :: AW
def y_R_start : MethodName := ⟨"FlowGate$Frame", "start", "(LFlowGate$Method;)V"⟩
abbrev c_R_start : ByteArray := prog_4_method_3_code
abbrev ws_R_start : List Cond := .code y_R_start c_R_start 4 none :: AW
def y_JA_fillI : MethodName := ⟨"java/util/Arrays", "fill", "([II)V"⟩
abbrev c_JA_fillI : ByteArray := prog_11_method_103_code
abbrev ws_JA_fillI : List Cond := .code y_JA_fillI c_JA_fillI 4 none :: AW
def y_W_meet : MethodName := ⟨"FlowGate$Flow", "meet", "(IILFlowGate$Frame;)I"⟩
abbrev c_W_meet : ByteArray := prog_2_method_7_code
abbrev ws_W_meet : List Cond := .code y_W_meet c_W_meet 4 (some .int) :: AW
def y_R_hasRaw : MethodName := ⟨"FlowGate$Frame", "hasRaw", "()Z"⟩
abbrev c_R_hasRaw : ByteArray := prog_4_method_18_code
abbrev ws_R_hasRaw : List Cond := .code y_R_hasRaw c_R_hasRaw 2 (some .boolean) :: AW
def y_G_isRaw : MethodName := ⟨"FlowGate", "isRaw", "(I)Z"⟩
abbrev c_G_isRaw : ByteArray := prog_1_method_17_code
abbrev ws_G_isRaw : List Cond := .code y_G_isRaw c_G_isRaw 1 (some .boolean) :: AW
def y_R_hasRawLocal : MethodName := ⟨"FlowGate$Frame", "hasRawLocal", "()Z"⟩
abbrev c_R_hasRawLocal : ByteArray := prog_4_method_17_code
abbrev ws_R_hasRawLocal : List Cond := .code y_R_hasRawLocal c_R_hasRawLocal 2 (some .boolean) :: AW
def y_W_reach : MethodName := ⟨"FlowGate$Flow", "reach", "(ILFlowGate$Frame;)V"⟩
abbrev c_W_reach : ByteArray := prog_2_method_8_code
abbrev ws_W_reach : List Cond := .code y_W_reach c_W_reach 3 none :: AW
def y_R_copy : MethodName := ⟨"FlowGate$Frame", "copy", "(LFlowGate$Frame;)V"⟩
abbrev c_R_copy : ByteArray := prog_4_method_2_code
abbrev ws_R_copy : List Cond := .code y_R_copy c_R_copy 2 none :: AW
def y_R_absorb : MethodName := ⟨"FlowGate$Frame", "absorb", "(LFlowGate$Frame;LFlowGate$Types;)Z"⟩
abbrev c_R_absorb : ByteArray := prog_4_method_19_code
abbrev ws_R_absorb : List Cond := .code y_R_absorb c_R_absorb 6 (some .boolean) :: AW
def y_R_absorbSubs : MethodName := ⟨"FlowGate$Frame", "absorbSubs", "(LFlowGate$Frame;)Z"⟩
abbrev c_R_absorbSubs : ByteArray := prog_4_method_20_code
abbrev ws_R_absorbSubs : List Cond := .code y_R_absorbSubs c_R_absorbSubs 7 (some .boolean) :: AW
def y_R_isIn : MethodName := ⟨"FlowGate$Frame", "isIn", "(I)Z"⟩
abbrev c_R_isIn : ByteArray := prog_4_method_13_code
abbrev ws_R_isIn : List Cond := .code y_R_isIn c_R_isIn 2 (some .boolean) :: AW
def y_T_joined : MethodName := ⟨"FlowGate$Types", "joined", "(II)I"⟩
abbrev c_T_joined : ByteArray := prog_6_method_11_code
abbrev ws_T_joined : List Cond := .code y_T_joined c_T_joined 8 (some .int) :: AW
def y_T_joinedClasses : MethodName := ⟨"FlowGate$Types", "joinedClasses", "(II)I"⟩
abbrev c_T_joinedClasses : ByteArray := prog_6_method_12_code
abbrev ws_T_joinedClasses : List Cond := .code y_T_joinedClasses c_T_joinedClasses 5 (some .int) :: AW
def y_W_look : MethodName := ⟨"FlowGate$Flow", "look", "(I)I"⟩
abbrev c_W_look : ByteArray := prog_2_method_5_code
abbrev ws_W_look : List Cond := .code y_W_look c_W_look 3 (some .int) :: AW
def y_W_meetHandlers : MethodName := ⟨"FlowGate$Flow", "meetHandlers", "(I)I"⟩
abbrev c_W_meetHandlers : ByteArray := prog_2_method_6_code
abbrev ws_W_meetHandlers : List Cond := .code y_W_meetHandlers c_W_meetHandlers 4 (some .int) :: AW
def y_M_covers : MethodName := ⟨"FlowGate$Method", "covers", "(II)Z"⟩
abbrev c_M_covers : ByteArray := prog_5_method_9_code
abbrev ws_M_covers : List Cond := .code y_M_covers c_M_covers 3 (some .boolean) :: AW
def y_R_catchIn : MethodName := ⟨"FlowGate$Frame", "catchIn", "(LFlowGate$Frame;I)V"⟩
abbrev c_R_catchIn : ByteArray := prog_4_method_4_code
abbrev ws_R_catchIn : List Cond := .code y_R_catchIn c_R_catchIn 3 none :: AW
def y_W_perform : MethodName := ⟨"FlowGate$Flow", "perform", "(I)I"⟩
abbrev c_W_perform : ByteArray := prog_2_method_12_code
abbrev ws_W_perform : List Cond := .code y_W_perform c_W_perform 5 (some .int) :: AW
def y_W_load : MethodName := ⟨"FlowGate$Flow", "load", "(I)I"⟩
abbrev c_W_load : ByteArray := prog_2_method_16_code
abbrev ws_W_load : List Cond := .code y_W_load c_W_load 3 (some .int) :: AW
def y_G_isReturn : MethodName := ⟨"FlowGate", "isReturn", "(I)Z"⟩
abbrev c_G_isReturn : ByteArray := prog_1_method_18_code
abbrev ws_G_isReturn : List Cond := .code y_G_isReturn c_G_isReturn 1 (some .boolean) :: AW
def y_W_fitsLocal : MethodName := ⟨"FlowGate$Flow", "fitsLocal", "(II)Z"⟩
abbrev c_W_fitsLocal : ByteArray := prog_2_method_15_code
abbrev ws_W_fitsLocal : List Cond := .code y_W_fitsLocal c_W_fitsLocal 3 (some .boolean) :: AW
def y_R_touch : MethodName := ⟨"FlowGate$Frame", "touch", "(II)V"⟩
abbrev c_R_touch : ByteArray := prog_4_method_11_code
abbrev ws_R_touch : List Cond := .code y_R_touch c_R_touch 3 none :: AW
def y_G_isWide : MethodName := ⟨"FlowGate", "isWide", "(I)Z"⟩
abbrev c_G_isWide : ByteArray := prog_1_method_15_code
abbrev ws_G_isWide : List Cond := .code y_G_isWide c_G_isWide 1 (some .boolean) :: AW
def y_R_touchAll : MethodName := ⟨"FlowGate$Frame", "touchAll", "(I)V"⟩
abbrev c_R_touchAll : ByteArray := prog_4_method_12_code
abbrev ws_R_touchAll : List Cond := .code y_R_touchAll c_R_touchAll 3 none :: AW
def y_R_push : MethodName := ⟨"FlowGate$Frame", "push", "(II)I"⟩
abbrev c_R_push : ByteArray := prog_4_method_9_code
abbrev ws_R_push : List Cond := .code y_R_push c_R_push 5 (some .int) :: AW
def y_W_store : MethodName := ⟨"FlowGate$Flow", "store", "(I)I"⟩
abbrev c_W_store : ByteArray := prog_2_method_17_code
abbrev ws_W_store : List Cond := .code y_W_store c_W_store 3 (some .int) :: AW
def y_R_top : MethodName := ⟨"FlowGate$Frame", "top", "(I)I"⟩
abbrev c_R_top : ByteArray := prog_4_method_6_code
abbrev ws_R_top : List Cond := .code y_R_top c_R_top 2 (some .int) :: AW
def y_R_drop : MethodName := ⟨"FlowGate$Frame", "drop", "(I)V"⟩
abbrev c_R_drop : ByteArray := prog_4_method_8_code
abbrev ws_R_drop : List Cond := .code y_R_drop c_R_drop 2 none :: AW
def y_R_store : MethodName := ⟨"FlowGate$Frame", "store", "(II)V"⟩
abbrev c_R_store : ByteArray := prog_4_method_10_code
abbrev ws_R_store : List Cond := .code y_R_store c_R_store 3 none :: AW
def y_W_increase : MethodName := ⟨"FlowGate$Flow", "increase", "(I)I"⟩
abbrev c_W_increase : ByteArray := prog_2_method_18_code
abbrev ws_W_increase : List Cond := .code y_W_increase c_W_increase 2 (some .int) :: AW
def y_W_prepareReturn : MethodName := ⟨"FlowGate$Flow", "prepareReturn", "(II)I"⟩
abbrev c_W_prepareReturn : ByteArray := prog_2_method_19_code
abbrev ws_W_prepareReturn : List Cond := .code y_W_prepareReturn c_W_prepareReturn 5 (some .int) :: AW
def y_W_shuffle : MethodName := ⟨"FlowGate$Flow", "shuffle", "(I)I"⟩
abbrev c_W_shuffle : ByteArray := prog_2_method_21_code
abbrev ws_W_shuffle : List Cond := .code y_W_shuffle c_W_shuffle 5 (some .int) :: AW
def y_R_hasNarrow : MethodName := ⟨"FlowGate$Frame", "hasNarrow", "(I)Z"⟩
abbrev c_R_hasNarrow : ByteArray := prog_4_method_7_code
abbrev ws_R_hasNarrow : List Cond := .code y_R_hasNarrow c_R_hasNarrow 2 (some .boolean) :: AW
def y_W_takeIf : MethodName := ⟨"FlowGate$Flow", "takeIf", "(ZI)I"⟩
abbrev c_W_takeIf : ByteArray := prog_2_method_13_code
abbrev ws_W_takeIf : List Cond := .code y_W_takeIf c_W_takeIf 3 (some .int) :: AW
def y_W_pushBoth : MethodName := ⟨"FlowGate$Flow", "pushBoth", "(II)I"⟩
abbrev c_W_pushBoth : ByteArray := prog_2_method_22_code
abbrev ws_W_pushBoth : List Cond := .code y_W_pushBoth c_W_pushBoth 4 (some .int) :: AW
def y_W_calculate : MethodName := ⟨"FlowGate$Flow", "calculate", "(III)I"⟩
abbrev c_W_calculate : ByteArray := prog_2_method_23_code
abbrev ws_W_calculate : List Cond := .code y_W_calculate c_W_calculate 5 (some .int) :: AW
def y_W_exchangeIf : MethodName := ⟨"FlowGate$Flow", "exchangeIf", "(ZII)I"⟩
abbrev c_W_exchangeIf : ByteArray := prog_2_method_14_code
abbrev ws_W_exchangeIf : List Cond := .code y_W_exchangeIf c_W_exchangeIf 4 (some .int) :: AW
def y_W_decide : MethodName := ⟨"FlowGate$Flow", "decide", "(I)I"⟩
abbrev c_W_decide : ByteArray := prog_2_method_24_code
abbrev ws_W_decide : List Cond := .code y_W_decide c_W_decide 3 (some .int) :: AW
def y_T_isRefOrNull : MethodName := ⟨"FlowGate$Types", "isRefOrNull", "(I)Z"⟩
abbrev c_T_isRefOrNull : ByteArray := prog_6_method_7_code
abbrev ws_T_isRefOrNull : List Cond := .code y_T_isRefOrNull c_T_isRefOrNull 2 (some .boolean) :: AW
def y_T_goesFor : MethodName := ⟨"FlowGate$Types", "goesFor", "(II)Z"⟩
abbrev c_T_goesFor : ByteArray := prog_6_method_10_code
abbrev ws_T_goesFor : List Cond := .code y_T_goesFor c_T_goesFor 6 (some .boolean) :: AW
def y_W_enterSub : MethodName := ⟨"FlowGate$Flow", "enterSub", "(I)I"⟩
abbrev c_W_enterSub : ByteArray := prog_2_method_20_code
abbrev ws_W_enterSub : List Cond := .code y_W_enterSub c_W_enterSub 2 (some .int) :: AW
def y_R_enter : MethodName := ⟨"FlowGate$Frame", "enter", "(I)V"⟩
abbrev c_R_enter : ByteArray := prog_4_method_14_code
abbrev ws_R_enter : List Cond := .code y_R_enter c_R_enter 2 none :: AW
def y_W_create : MethodName := ⟨"FlowGate$Flow", "create", "(I)I"⟩
abbrev c_W_create : ByteArray := prog_2_method_25_code
abbrev ws_W_create : List Cond := .code y_W_create c_W_create 2 (some .int) :: AW
def y_R_isOnStack : MethodName := ⟨"FlowGate$Frame", "isOnStack", "(I)Z"⟩
abbrev c_R_isOnStack : ByteArray := prog_4_method_16_code
abbrev ws_R_isOnStack : List Cond := .code y_R_isOnStack c_R_isOnStack 3 (some .boolean) :: AW
def y_R_replace : MethodName := ⟨"FlowGate$Frame", "replace", "(II)V"⟩
abbrev c_R_replace : ByteArray := prog_4_method_15_code
abbrev ws_R_replace : List Cond := .code y_R_replace c_R_replace 4 none :: AW
def y_W_build : MethodName := ⟨"FlowGate$Flow", "build", "(I)I"⟩
abbrev c_W_build : ByteArray := prog_2_method_26_code
abbrev ws_W_build : List Cond := .code y_W_build c_W_build 3 (some .int) :: AW
def y_W_useObject : MethodName := ⟨"FlowGate$Flow", "useObject", "(III)I"⟩
abbrev c_W_useObject : ByteArray := prog_2_method_27_code
abbrev ws_W_useObject : List Cond := .code y_W_useObject c_W_useObject 5 (some .int) :: AW
def y_W_useRow : MethodName := ⟨"FlowGate$Flow", "useRow", "(II)I"⟩
abbrev c_W_useRow : ByteArray := prog_2_method_28_code
abbrev ws_W_useRow : List Cond := .code y_W_useRow c_W_useRow 4 (some .int) :: AW
def y_W_isRowOf : MethodName := ⟨"FlowGate$Flow", "isRowOf", "(II)Z"⟩
abbrev c_W_isRowOf : ByteArray := prog_2_method_29_code
abbrev ws_W_isRowOf : List Cond := .code y_W_isRowOf c_W_isRowOf 2 (some .boolean) :: AW
def y_W_elementOf : MethodName := ⟨"FlowGate$Flow", "elementOf", "(I)I"⟩
abbrev c_W_elementOf : ByteArray := prog_2_method_30_code
abbrev ws_W_elementOf : List Cond := .code y_W_elementOf c_W_elementOf 1 (some .int) :: AW
def y_W_comeBack : MethodName := ⟨"FlowGate$Flow", "comeBack", "(I)I"⟩
abbrev c_W_comeBack : ByteArray := prog_2_method_11_code
abbrev ws_W_comeBack : List Cond := .code y_W_comeBack c_W_comeBack 5 (some .int) :: AW
def y_R_comeBack : MethodName := ⟨"FlowGate$Frame", "comeBack", "(LFlowGate$Frame;LFlowGate$Frame;I)V"⟩
abbrev c_R_comeBack : ByteArray := prog_4_method_5_code
abbrev ws_R_comeBack : List Cond := .code y_R_comeBack c_R_comeBack 6 none :: AW
def y_W_leave : MethodName := ⟨"FlowGate$Flow", "leave", "(I)I"⟩
abbrev c_W_leave : ByteArray := prog_2_method_9_code
abbrev ws_W_leave : List Cond := .code y_W_leave c_W_leave 4 (some .int) :: AW
def y_W_wakeReturns : MethodName := ⟨"FlowGate$Flow", "wakeReturns", "(I)V"⟩
abbrev c_W_wakeReturns : ByteArray := prog_2_method_10_code
abbrev ws_W_wakeReturns : List Cond := .code y_W_wakeReturns c_W_wakeReturns 3 none :: AW
def y_W_findChanged : MethodName := ⟨"FlowGate$Flow", "findChanged", "()I"⟩
abbrev c_W_findChanged : ByteArray := prog_2_method_4_code
abbrev ws_W_findChanged : List Cond := .code y_W_findChanged c_W_findChanged 2 (some .int) :: AW
def y_G_place : MethodName := ⟨"FlowGate", "place", "()I"⟩
abbrev c_G_place : ByteArray := prog_1_method_9_code
abbrev ws_G_place : List Cond := .code y_G_place c_G_place 1 (some .int) :: AW
def y_G_state : MethodName := ⟨"FlowGate", "state", "(II)I"⟩
abbrev c_G_state : ByteArray := prog_1_method_10_code
abbrev ws_G_state : List Cond := .code y_G_state c_G_state 3 (some .int) :: AW
def y_R_read : MethodName := ⟨"FlowGate$Frame", "read", "(I)I"⟩
abbrev c_R_read : ByteArray := prog_4_method_21_code
abbrev ws_R_read : List Cond := .code y_R_read c_R_read 3 (some .int) :: AW
def y_JL_bitCount : MethodName := ⟨"java/lang/Long", "bitCount", "(J)I"⟩
abbrev c_JL_bitCount : ByteArray := prog_9_method_50_code
abbrev ws_JL_bitCount : List Cond := .code y_JL_bitCount c_JL_bitCount 2 (some .int) :: AW
def y_R_findSub : MethodName := ⟨"FlowGate$Frame", "findSub", "(I)I"⟩
abbrev c_R_findSub : ByteArray := prog_4_method_22_code
abbrev ws_R_findSub : List Cond := .code y_R_findSub c_R_findSub 4 (some .int) :: AW
def y_G_join : MethodName := ⟨"FlowGate", "join", "(II)I"⟩
abbrev c_G_join : ByteArray := prog_1_method_11_code
abbrev ws_G_join : List Cond := .code y_G_join c_G_join 3 (some .int) :: AW
def y_T_isPlain : MethodName := ⟨"FlowGate$Types", "isPlain", "(I)Z"⟩
abbrev c_T_isPlain : ByteArray := prog_6_method_9_code
abbrev ws_T_isPlain : List Cond := .code y_T_isPlain c_T_isPlain 2 (some .boolean) :: AW
def y_G_goes : MethodName := ⟨"FlowGate", "goes", "(II)I"⟩
abbrev c_G_goes : ByteArray := prog_1_method_12_code
abbrev ws_G_goes : List Cond := .code y_G_goes c_G_goes 3 (some .int) :: AW
def y_G_count : MethodName := ⟨"FlowGate", "count", "(I)I"⟩
abbrev c_G_count : ByteArray := prog_1_method_13_code
abbrev ws_G_count : List Cond := .code y_G_count c_G_count 2 (some .int) :: AW
def y_D_init : MethodName := ⟨"FlowGateModel", "<init>", "()V"⟩
abbrev c_D_init : ByteArray := prog_8_method_1_code
abbrev ws_D_init : List Cond := .code y_D_init c_D_init 1 none :: AW
def y_D_cls : MethodName := ⟨"FlowGateModel", "cls", "(IZ)I"⟩
abbrev c_D_cls : ByteArray := prog_8_method_9_code
abbrev ws_D_cls : List Cond := .code y_D_cls c_D_cls 3 (some .int) :: AW
def y_D_in : MethodName := ⟨"FlowGateModel", "in", "(III)Z"⟩
abbrev c_D_in : ByteArray := prog_8_method_2_code
abbrev ws_D_in : List Cond := .code y_D_in c_D_in 3 (some .boolean) :: AW
def y_D_begin : MethodName := ⟨"FlowGateModel", "begin", "(III)I"⟩
abbrev c_D_begin : ByteArray := prog_8_method_11_code
abbrev ws_D_begin : List Cond := .code y_D_begin c_D_begin 4 (some .int) :: AW
def y_D_isPlain : MethodName := ⟨"FlowGateModel", "isPlain", "(I)Z"⟩
abbrev c_D_isPlain : ByteArray := prog_8_method_10_code
abbrev ws_D_isPlain : List Cond := .code y_D_isPlain c_D_isPlain 2 (some .boolean) :: AW
def y_D_isRef : MethodName := ⟨"FlowGateModel", "isRef", "(I)Z"⟩
abbrev c_D_isRef : ByteArray := prog_8_method_4_code
abbrev ws_D_isRef : List Cond := .code y_D_isRef c_D_isRef 2 (some .boolean) :: AW
def y_D_isClass : MethodName := ⟨"FlowGateModel", "isClass", "(I)Z"⟩
abbrev c_D_isClass : ByteArray := prog_8_method_3_code
abbrev ws_D_isClass : List Cond := .code y_D_isClass c_D_isClass 2 (some .boolean) :: AW
def y_D_argument : MethodName := ⟨"FlowGateModel", "argument", "(I)I"⟩
abbrev c_D_argument : ByteArray := prog_8_method_12_code
abbrev ws_D_argument : List Cond := .code y_D_argument c_D_argument 2 (some .int) :: AW
def y_D_add : MethodName := ⟨"FlowGateModel", "add", "(III)I"⟩
abbrev c_D_add : ByteArray := prog_8_method_13_code
abbrev ws_D_add : List Cond := .code y_D_add c_D_add 4 (some .int) :: AW
def y_D_change : MethodName := ⟨"FlowGateModel", "change", "(IIII)I"⟩
abbrev c_D_change : ByteArray := prog_8_method_14_code
abbrev ws_D_change : List Cond := .code y_D_change c_D_change 6 (some .int) :: AW
def y_D_handler : MethodName := ⟨"FlowGateModel", "handler", "(IIII)I"⟩
abbrev c_D_handler : ByteArray := prog_8_method_15_code
abbrev ws_D_handler : List Cond := .code y_D_handler c_D_handler 5 (some .int) :: AW
def y_D_verify : MethodName := ⟨"FlowGateModel", "verify", "()I"⟩
abbrev c_D_verify : ByteArray := prog_8_method_20_code
abbrev ws_D_verify : List Cond := .code y_D_verify c_D_verify 2 (some .int) :: AW
def y_D_form : MethodName := ⟨"FlowGateModel", "form", "()V"⟩
abbrev c_D_form : ByteArray := prog_8_method_19_code
abbrev ws_D_form : List Cond := .code y_D_form c_D_form 3 none :: AW
def y_D_fail : MethodName := ⟨"FlowGateModel", "fail", "(II)V"⟩
abbrev c_D_fail : ByteArray := prog_8_method_18_code
abbrev ws_D_fail : List Cond := .code y_D_fail c_D_fail 3 none :: AW
def y_D_isFormed : MethodName := ⟨"FlowGateModel", "isFormed", "(III)Z"⟩
abbrev c_D_isFormed : ByteArray := prog_8_method_17_code
abbrev ws_D_isFormed : List Cond := .code y_D_isFormed c_D_isFormed 4 (some .boolean) :: AW
def y_D_isGoal : MethodName := ⟨"FlowGateModel", "isGoal", "(I)Z"⟩
abbrev c_D_isGoal : ByteArray := prog_8_method_16_code
abbrev ws_D_isGoal : List Cond := .code y_D_isGoal c_D_isGoal 2 (some .boolean) :: AW
def y_D_isBelow : MethodName := ⟨"FlowGateModel", "isBelow", "(II)Z"⟩
abbrev c_D_isBelow : ByteArray := prog_8_method_6_code
abbrev ws_D_isBelow : List Cond := .code y_D_isBelow c_D_isBelow 4 (some .boolean) :: AW
def y_D_isWide : MethodName := ⟨"FlowGateModel", "isWide", "(I)Z"⟩
abbrev c_D_isWide : ByteArray := prog_8_method_5_code
abbrev ws_D_isWide : List Cond := .code y_D_isWide c_D_isWide 1 (some .boolean) :: AW
def y_D_begins : MethodName := ⟨"FlowGateModel", "begins", "()V"⟩
abbrev c_D_begins : ByteArray := prog_8_method_21_code
abbrev ws_D_begins : List Cond := .code y_D_begins c_D_begins 3 none :: AW
def y_D_meet : MethodName := ⟨"FlowGateModel", "meet", "(I)V"⟩
abbrev c_D_meet : ByteArray := prog_8_method_22_code
abbrev ws_D_meet : List Cond := .code y_D_meet c_D_meet 5 none :: AW
def y_D_joined : MethodName := ⟨"FlowGateModel", "joined", "(II)I"⟩
abbrev c_D_joined : ByteArray := prog_8_method_8_code
abbrev ws_D_joined : List Cond := .code y_D_joined c_D_joined 9 (some .int) :: AW
def y_D_lookAt : MethodName := ⟨"FlowGateModel", "lookAt", "(I)V"⟩
abbrev c_D_lookAt : ByteArray := prog_8_method_26_code
abbrev ws_D_lookAt : List Cond := .code y_D_lookAt c_D_lookAt 6 none :: AW
def y_D_copyOut : MethodName := ⟨"FlowGateModel", "copyOut", "()V"⟩
abbrev c_D_copyOut : ByteArray := prog_8_method_25_code
abbrev ws_D_copyOut : List Cond := .code y_D_copyOut c_D_copyOut 2 none :: AW
def y_D_hasRaw : MethodName := ⟨"FlowGateModel", "hasRaw", "(Z)Z"⟩
abbrev c_D_hasRaw : ByteArray := prog_8_method_23_code
abbrev ws_D_hasRaw : List Cond := .code y_D_hasRaw c_D_hasRaw 3 (some .boolean) :: AW
def y_D_back : MethodName := ⟨"FlowGateModel", "back", "(II)V"⟩
abbrev c_D_back : ByteArray := prog_8_method_40_code
abbrev ws_D_back : List Cond := .code y_D_back c_D_back 6 none :: AW
def y_D_touches : MethodName := ⟨"FlowGateModel", "touches", "(II)V"⟩
abbrev c_D_touches : ByteArray := prog_8_method_35_code
abbrev ws_D_touches : List Cond := .code y_D_touches c_D_touches 4 none :: AW
def y_D_go : MethodName := ⟨"FlowGateModel", "go", "(II)V"⟩
abbrev c_D_go : ByteArray := prog_8_method_24_code
abbrev ws_D_go : List Cond := .code y_D_go c_D_go 3 none :: AW
def y_D_moves : MethodName := ⟨"FlowGateModel", "moves", "(II)Z"⟩
abbrev c_D_moves : ByteArray := prog_8_method_36_code
abbrev ws_D_moves : List Cond := .code y_D_moves c_D_moves 5 (some .boolean) :: AW
def y_D_put : MethodName := ⟨"FlowGateModel", "put", "(I)Z"⟩
abbrev c_D_put : ByteArray := prog_8_method_29_code
abbrev ws_D_put : List Cond := .code y_D_put c_D_put 2 (some .boolean) :: AW
def y_D_top : MethodName := ⟨"FlowGateModel", "top", "(I)I"⟩
abbrev c_D_top : ByteArray := prog_8_method_27_code
abbrev ws_D_top : List Cond := .code y_D_top c_D_top 2 (some .int) :: AW
def y_D_drop : MethodName := ⟨"FlowGateModel", "drop", "()V"⟩
abbrev c_D_drop : ByteArray := prog_8_method_28_code
abbrev ws_D_drop : List Cond := .code y_D_drop c_D_drop 1 none :: AW
def y_D_single : MethodName := ⟨"FlowGateModel", "single", "(I)Z"⟩
abbrev c_D_single : ByteArray := prog_8_method_34_code
abbrev ws_D_single : List Cond := .code y_D_single c_D_single 2 (some .boolean) :: AW
def y_D_flows : MethodName := ⟨"FlowGateModel", "flows", "(III)Z"⟩
abbrev c_D_flows : ByteArray := prog_8_method_37_code
abbrev ws_D_flows : List Cond := .code y_D_flows c_D_flows 4 (some .boolean) :: AW
def y_D_takes : MethodName := ⟨"FlowGateModel", "takes", "(I)Z"⟩
abbrev c_D_takes : ByteArray := prog_8_method_30_code
abbrev ws_D_takes : List Cond := .code y_D_takes c_D_takes 2 (some .boolean) :: AW
def y_D_takesRef : MethodName := ⟨"FlowGateModel", "takesRef", "()Z"⟩
abbrev c_D_takesRef : ByteArray := prog_8_method_32_code
abbrev ws_D_takesRef : List Cond := .code y_D_takesRef c_D_takesRef 1 (some .boolean) :: AW
def y_D_takesFor : MethodName := ⟨"FlowGateModel", "takesFor", "(I)Z"⟩
abbrev c_D_takesFor : ByteArray := prog_8_method_31_code
abbrev ws_D_takesFor : List Cond := .code y_D_takesFor c_D_takesFor 2 (some .boolean) :: AW
def y_D_goesFor : MethodName := ⟨"FlowGateModel", "goesFor", "(II)Z"⟩
abbrev c_D_goesFor : ByteArray := prog_8_method_7_code
abbrev ws_D_goesFor : List Cond := .code y_D_goesFor c_D_goesFor 5 (some .boolean) :: AW
def y_D_objects : MethodName := ⟨"FlowGateModel", "objects", "(IIII)Z"⟩
abbrev c_D_objects : ByteArray := prog_8_method_38_code
abbrev ws_D_objects : List Cond := .code y_D_objects c_D_objects 7 (some .boolean) :: AW
def y_D_takesRow : MethodName := ⟨"FlowGateModel", "takesRow", "(I)Z"⟩
abbrev c_D_takesRow : ByteArray := prog_8_method_33_code
abbrev ws_D_takesRow : List Cond := .code y_D_takesRow c_D_takesRow 2 (some .boolean) :: AW
def y_D_enters : MethodName := ⟨"FlowGateModel", "enters", "(II)V"⟩
abbrev c_D_enters : ByteArray := prog_8_method_39_code
abbrev ws_D_enters : List Cond := .code y_D_enters c_D_enters 4 none :: AW
def y_D_place : MethodName := ⟨"FlowGateModel", "place", "()I"⟩
abbrev c_D_place : ByteArray := prog_8_method_41_code
abbrev ws_D_place : List Cond := .code y_D_place c_D_place 1 (some .int) :: AW
def y_D_state : MethodName := ⟨"FlowGateModel", "state", "(II)I"⟩
abbrev c_D_state : ByteArray := prog_8_method_42_code
abbrev ws_D_state : List Cond := .code y_D_state c_D_state 5 (some .int) :: AW
def y_D_join : MethodName := ⟨"FlowGateModel", "join", "(II)I"⟩
abbrev c_D_join : ByteArray := prog_8_method_43_code
abbrev ws_D_join : List Cond := .code y_D_join c_D_join 3 (some .int) :: AW
def y_D_goes : MethodName := ⟨"FlowGateModel", "goes", "(II)I"⟩
abbrev c_D_goes : ByteArray := prog_8_method_44_code
abbrev ws_D_goes : List Cond := .code y_D_goes c_D_goes 3 (some .int) :: AW
def y_D_count : MethodName := ⟨"FlowGateModel", "count", "(I)I"⟩
abbrev c_D_count : ByteArray := prog_8_method_45_code
abbrev ws_D_count : List Cond := .code y_D_count c_D_count 4 (some .int) :: AW
end
section
theorem m_se_O_isWellFormed : Cond.selects "FlowGate$Form" y_O_isWellFormed y_O_isWellFormed ∈ AW := mem_AW (i := 0) (by decide +kernel) (by decide +kernel)
theorem m_se_O_isHandlerWellFormed : Cond.selects "FlowGate$Form" y_O_isHandlerWellFormed y_O_isHandlerWellFormed ∈ AW := mem_AW (i := 1) (by decide +kernel) (by decide +kernel)
theorem m_se_O_haveArgumentsRoom : Cond.selects "FlowGate$Form" y_O_haveArgumentsRoom y_O_haveArgumentsRoom ∈ AW := mem_AW (i := 2) (by decide +kernel) (by decide +kernel)
theorem m_se_W_meet : Cond.selects "FlowGate$Flow" y_W_meet y_W_meet ∈ AW := mem_AW (i := 3) (by decide +kernel) (by decide +kernel)
theorem m_se_W_reach : Cond.selects "FlowGate$Flow" y_W_reach y_W_reach ∈ AW := mem_AW (i := 4) (by decide +kernel) (by decide +kernel)
theorem m_se_R_absorbSubs : Cond.selects "FlowGate$Frame" y_R_absorbSubs y_R_absorbSubs ∈ AW := mem_AW (i := 5) (by decide +kernel) (by decide +kernel)
theorem m_se_T_joinedClasses : Cond.selects "FlowGate$Types" y_T_joinedClasses y_T_joinedClasses ∈ AW := mem_AW (i := 6) (by decide +kernel) (by decide +kernel)
theorem m_se_W_look : Cond.selects "FlowGate$Flow" y_W_look y_W_look ∈ AW := mem_AW (i := 7) (by decide +kernel) (by decide +kernel)
theorem m_se_W_meetHandlers : Cond.selects "FlowGate$Flow" y_W_meetHandlers y_W_meetHandlers ∈ AW := mem_AW (i := 8) (by decide +kernel) (by decide +kernel)
theorem m_se_W_perform : Cond.selects "FlowGate$Flow" y_W_perform y_W_perform ∈ AW := mem_AW (i := 9) (by decide +kernel) (by decide +kernel)
theorem m_se_W_load : Cond.selects "FlowGate$Flow" y_W_load y_W_load ∈ AW := mem_AW (i := 10) (by decide +kernel) (by decide +kernel)
theorem m_se_W_fitsLocal : Cond.selects "FlowGate$Flow" y_W_fitsLocal y_W_fitsLocal ∈ AW := mem_AW (i := 11) (by decide +kernel) (by decide +kernel)
theorem m_se_R_touchAll : Cond.selects "FlowGate$Frame" y_R_touchAll y_R_touchAll ∈ AW := mem_AW (i := 12) (by decide +kernel) (by decide +kernel)
theorem m_se_W_store : Cond.selects "FlowGate$Flow" y_W_store y_W_store ∈ AW := mem_AW (i := 13) (by decide +kernel) (by decide +kernel)
theorem m_se_W_increase : Cond.selects "FlowGate$Flow" y_W_increase y_W_increase ∈ AW := mem_AW (i := 14) (by decide +kernel) (by decide +kernel)
theorem m_se_W_prepareReturn : Cond.selects "FlowGate$Flow" y_W_prepareReturn y_W_prepareReturn ∈ AW := mem_AW (i := 15) (by decide +kernel) (by decide +kernel)
theorem m_se_W_shuffle : Cond.selects "FlowGate$Flow" y_W_shuffle y_W_shuffle ∈ AW := mem_AW (i := 16) (by decide +kernel) (by decide +kernel)
theorem m_se_W_takeIf : Cond.selects "FlowGate$Flow" y_W_takeIf y_W_takeIf ∈ AW := mem_AW (i := 17) (by decide +kernel) (by decide +kernel)
theorem m_se_W_pushBoth : Cond.selects "FlowGate$Flow" y_W_pushBoth y_W_pushBoth ∈ AW := mem_AW (i := 18) (by decide +kernel) (by decide +kernel)
theorem m_se_W_calculate : Cond.selects "FlowGate$Flow" y_W_calculate y_W_calculate ∈ AW := mem_AW (i := 19) (by decide +kernel) (by decide +kernel)
theorem m_se_W_exchangeIf : Cond.selects "FlowGate$Flow" y_W_exchangeIf y_W_exchangeIf ∈ AW := mem_AW (i := 20) (by decide +kernel) (by decide +kernel)
theorem m_se_W_decide : Cond.selects "FlowGate$Flow" y_W_decide y_W_decide ∈ AW := mem_AW (i := 21) (by decide +kernel) (by decide +kernel)
theorem m_se_W_enterSub : Cond.selects "FlowGate$Flow" y_W_enterSub y_W_enterSub ∈ AW := mem_AW (i := 22) (by decide +kernel) (by decide +kernel)
theorem m_se_W_create : Cond.selects "FlowGate$Flow" y_W_create y_W_create ∈ AW := mem_AW (i := 23) (by decide +kernel) (by decide +kernel)
theorem m_se_W_build : Cond.selects "FlowGate$Flow" y_W_build y_W_build ∈ AW := mem_AW (i := 24) (by decide +kernel) (by decide +kernel)
theorem m_se_W_useObject : Cond.selects "FlowGate$Flow" y_W_useObject y_W_useObject ∈ AW := mem_AW (i := 25) (by decide +kernel) (by decide +kernel)
theorem m_se_W_useRow : Cond.selects "FlowGate$Flow" y_W_useRow y_W_useRow ∈ AW := mem_AW (i := 26) (by decide +kernel) (by decide +kernel)
theorem m_se_W_comeBack : Cond.selects "FlowGate$Flow" y_W_comeBack y_W_comeBack ∈ AW := mem_AW (i := 27) (by decide +kernel) (by decide +kernel)
theorem m_se_W_leave : Cond.selects "FlowGate$Flow" y_W_leave y_W_leave ∈ AW := mem_AW (i := 28) (by decide +kernel) (by decide +kernel)
theorem m_se_W_wakeReturns : Cond.selects "FlowGate$Flow" y_W_wakeReturns y_W_wakeReturns ∈ AW := mem_AW (i := 29) (by decide +kernel) (by decide +kernel)
theorem m_se_W_findChanged : Cond.selects "FlowGate$Flow" y_W_findChanged y_W_findChanged ∈ AW := mem_AW (i := 30) (by decide +kernel) (by decide +kernel)
theorem m_se_R_findSub : Cond.selects "FlowGate$Frame" y_R_findSub y_R_findSub ∈ AW := mem_AW (i := 31) (by decide +kernel) (by decide +kernel)
theorem m_se_D_isPlain : Cond.selects "FlowGateModel" y_D_isPlain y_D_isPlain ∈ AW := mem_AW (i := 32) (by decide +kernel) (by decide +kernel)
theorem m_se_D_isRef : Cond.selects "FlowGateModel" y_D_isRef y_D_isRef ∈ AW := mem_AW (i := 33) (by decide +kernel) (by decide +kernel)
theorem m_se_D_isClass : Cond.selects "FlowGateModel" y_D_isClass y_D_isClass ∈ AW := mem_AW (i := 34) (by decide +kernel) (by decide +kernel)
theorem m_se_D_form : Cond.selects "FlowGateModel" y_D_form y_D_form ∈ AW := mem_AW (i := 35) (by decide +kernel) (by decide +kernel)
theorem m_se_D_fail : Cond.selects "FlowGateModel" y_D_fail y_D_fail ∈ AW := mem_AW (i := 36) (by decide +kernel) (by decide +kernel)
theorem m_se_D_isFormed : Cond.selects "FlowGateModel" y_D_isFormed y_D_isFormed ∈ AW := mem_AW (i := 37) (by decide +kernel) (by decide +kernel)
theorem m_se_D_isGoal : Cond.selects "FlowGateModel" y_D_isGoal y_D_isGoal ∈ AW := mem_AW (i := 38) (by decide +kernel) (by decide +kernel)
theorem m_se_D_isBelow : Cond.selects "FlowGateModel" y_D_isBelow y_D_isBelow ∈ AW := mem_AW (i := 39) (by decide +kernel) (by decide +kernel)
theorem m_se_D_begins : Cond.selects "FlowGateModel" y_D_begins y_D_begins ∈ AW := mem_AW (i := 40) (by decide +kernel) (by decide +kernel)
theorem m_se_D_meet : Cond.selects "FlowGateModel" y_D_meet y_D_meet ∈ AW := mem_AW (i := 41) (by decide +kernel) (by decide +kernel)
theorem m_se_D_joined : Cond.selects "FlowGateModel" y_D_joined y_D_joined ∈ AW := mem_AW (i := 42) (by decide +kernel) (by decide +kernel)
theorem m_se_D_lookAt : Cond.selects "FlowGateModel" y_D_lookAt y_D_lookAt ∈ AW := mem_AW (i := 43) (by decide +kernel) (by decide +kernel)
theorem m_se_D_copyOut : Cond.selects "FlowGateModel" y_D_copyOut y_D_copyOut ∈ AW := mem_AW (i := 44) (by decide +kernel) (by decide +kernel)
theorem m_se_D_hasRaw : Cond.selects "FlowGateModel" y_D_hasRaw y_D_hasRaw ∈ AW := mem_AW (i := 45) (by decide +kernel) (by decide +kernel)
theorem m_se_D_back : Cond.selects "FlowGateModel" y_D_back y_D_back ∈ AW := mem_AW (i := 46) (by decide +kernel) (by decide +kernel)
theorem m_se_D_touches : Cond.selects "FlowGateModel" y_D_touches y_D_touches ∈ AW := mem_AW (i := 47) (by decide +kernel) (by decide +kernel)
theorem m_se_D_go : Cond.selects "FlowGateModel" y_D_go y_D_go ∈ AW := mem_AW (i := 48) (by decide +kernel) (by decide +kernel)
theorem m_se_D_moves : Cond.selects "FlowGateModel" y_D_moves y_D_moves ∈ AW := mem_AW (i := 49) (by decide +kernel) (by decide +kernel)
theorem m_se_D_put : Cond.selects "FlowGateModel" y_D_put y_D_put ∈ AW := mem_AW (i := 50) (by decide +kernel) (by decide +kernel)
theorem m_se_D_top : Cond.selects "FlowGateModel" y_D_top y_D_top ∈ AW := mem_AW (i := 51) (by decide +kernel) (by decide +kernel)
theorem m_se_D_drop : Cond.selects "FlowGateModel" y_D_drop y_D_drop ∈ AW := mem_AW (i := 52) (by decide +kernel) (by decide +kernel)
theorem m_se_D_single : Cond.selects "FlowGateModel" y_D_single y_D_single ∈ AW := mem_AW (i := 53) (by decide +kernel) (by decide +kernel)
theorem m_se_D_flows : Cond.selects "FlowGateModel" y_D_flows y_D_flows ∈ AW := mem_AW (i := 54) (by decide +kernel) (by decide +kernel)
theorem m_se_D_takes : Cond.selects "FlowGateModel" y_D_takes y_D_takes ∈ AW := mem_AW (i := 55) (by decide +kernel) (by decide +kernel)
theorem m_se_D_takesRef : Cond.selects "FlowGateModel" y_D_takesRef y_D_takesRef ∈ AW := mem_AW (i := 56) (by decide +kernel) (by decide +kernel)
theorem m_se_D_takesFor : Cond.selects "FlowGateModel" y_D_takesFor y_D_takesFor ∈ AW := mem_AW (i := 57) (by decide +kernel) (by decide +kernel)
theorem m_se_D_goesFor : Cond.selects "FlowGateModel" y_D_goesFor y_D_goesFor ∈ AW := mem_AW (i := 58) (by decide +kernel) (by decide +kernel)
theorem m_se_D_objects : Cond.selects "FlowGateModel" y_D_objects y_D_objects ∈ AW := mem_AW (i := 59) (by decide +kernel) (by decide +kernel)
theorem m_se_D_takesRow : Cond.selects "FlowGateModel" y_D_takesRow y_D_takesRow ∈ AW := mem_AW (i := 60) (by decide +kernel) (by decide +kernel)
theorem m_se_D_enters : Cond.selects "FlowGateModel" y_D_enters y_D_enters ∈ AW := mem_AW (i := 61) (by decide +kernel) (by decide +kernel)
theorem m_in_L : Cond.initialized "FlowGateLaw" ∈ AW := mem_AW (i := 62) (by decide +kernel) (by decide +kernel)
theorem m_in_G : Cond.initialized "FlowGate" ∈ AW := mem_AW (i := 63) (by decide +kernel) (by decide +kernel)
theorem m_in_T : Cond.initialized "FlowGate$Types" ∈ AW := mem_AW (i := 64) (by decide +kernel) (by decide +kernel)
theorem m_in_M : Cond.initialized "FlowGate$Method" ∈ AW := mem_AW (i := 65) (by decide +kernel) (by decide +kernel)
theorem m_in_O : Cond.initialized "FlowGate$Form" ∈ AW := mem_AW (i := 66) (by decide +kernel) (by decide +kernel)
theorem m_in_W : Cond.initialized "FlowGate$Flow" ∈ AW := mem_AW (i := 67) (by decide +kernel) (by decide +kernel)
theorem m_in_R : Cond.initialized "FlowGate$Frame" ∈ AW := mem_AW (i := 68) (by decide +kernel) (by decide +kernel)
theorem m_in_D : Cond.initialized "FlowGateModel" ∈ AW := mem_AW (i := 69) (by decide +kernel) (by decide +kernel)
theorem m_in_JA : Cond.initialized "java/util/Arrays" ∈ AW := mem_AW (i := 70) (by decide +kernel) (by decide +kernel)
theorem m_in_JS : Cond.initialized "java/lang/System" ∈ AW := mem_AW (i := 71) (by decide +kernel) (by decide +kernel)
theorem m_in_JL : Cond.initialized "java/lang/Long" ∈ AW := mem_AW (i := 72) (by decide +kernel) (by decide +kernel)
theorem m_cl_L_7 : Cond.classLink "FlowGateLaw" 7 "FlowGate" ∈ AW := mem_AW (i := 73) (by decide +kernel) (by decide +kernel)
theorem m_is_G : Cond.instantiable "FlowGate" 6 ∈ AW := mem_AW (i := 74) (by decide +kernel) (by decide +kernel)
theorem m_ml_L_9 : Cond.methodLink "FlowGateLaw" 9 y_G_init ∈ AW := mem_AW (i := 75) (by decide +kernel) (by decide +kernel)
theorem m_im_G_init : Cond.instanceMethod y_G_init ∈ AW := mem_AW (i := 76) (by decide +kernel) (by decide +kernel)
theorem m_co_G_init : Cond.code y_G_init c_G_init 1 none ∈ AW := mem_AW (i := 77) (by decide +kernel) (by decide +kernel)
theorem m_ml_G_1 : Cond.methodLink "FlowGate" 1 objectInit ∈ AW := mem_AW (i := 78) (by decide +kernel) (by decide +kernel)
theorem m_im_JO : Cond.instanceMethod objectInit ∈ AW := mem_AW (i := 79) (by decide +kernel) (by decide +kernel)
theorem m_co_JO : Cond.code objectInit ⟨#[0xb1]⟩ 1 none ∈ AW := mem_AW (i := 80) (by decide +kernel) (by decide +kernel)
theorem m_cl_G_7 : Cond.classLink "FlowGate" 7 "FlowGate$Types" ∈ AW := mem_AW (i := 81) (by decide +kernel) (by decide +kernel)
theorem m_is_T : Cond.instantiable "FlowGate$Types" 3 ∈ AW := mem_AW (i := 82) (by decide +kernel) (by decide +kernel)
theorem m_ml_G_9 : Cond.methodLink "FlowGate" 9 y_T_init ∈ AW := mem_AW (i := 83) (by decide +kernel) (by decide +kernel)
theorem m_im_T_init : Cond.instanceMethod y_T_init ∈ AW := mem_AW (i := 84) (by decide +kernel) (by decide +kernel)
theorem m_co_T_init : Cond.code y_T_init c_T_init 1 none ∈ AW := mem_AW (i := 85) (by decide +kernel) (by decide +kernel)
theorem m_ml_T_3 : Cond.methodLink "FlowGate$Types" 3 objectInit ∈ AW := mem_AW (i := 86) (by decide +kernel) (by decide +kernel)
theorem m_fl_T_9 : Cond.fieldLink "FlowGate$Types" 9 "FlowGate$Types" "upward" "[I" ∈ AW := mem_AW (i := 87) (by decide +kernel) (by decide +kernel)
theorem m_fl_T_15 : Cond.fieldLink "FlowGate$Types" 15 "FlowGate$Types" "isInterface" "[Z" ∈ AW := mem_AW (i := 88) (by decide +kernel) (by decide +kernel)
theorem m_fl_T_19 : Cond.fieldLink "FlowGate$Types" 19 "FlowGate$Types" "size" "I" ∈ AW := mem_AW (i := 89) (by decide +kernel) (by decide +kernel)
theorem m_fl_G_47 : Cond.fieldLink "FlowGate" 47 "FlowGate$Types" "size" "I" ∈ AW := mem_AW (i := 90) (by decide +kernel) (by decide +kernel)
theorem m_ac_int : Cond.arrayClass .int ∈ AW := mem_AW (i := 98) (by decide +kernel) (by decide +kernel)
theorem m_ac_boolean : Cond.arrayClass .boolean ∈ AW := mem_AW (i := 99) (by decide +kernel) (by decide +kernel)
theorem m_cl_G_16 : Cond.classLink "FlowGate" 16 "FlowGate$Method" ∈ AW := mem_AW (i := 100) (by decide +kernel) (by decide +kernel)
theorem m_is_M : Cond.instantiable "FlowGate$Method" 14 ∈ AW := mem_AW (i := 101) (by decide +kernel) (by decide +kernel)
theorem m_im_M_init : Cond.instanceMethod y_M_init ∈ AW := mem_AW (i := 103) (by decide +kernel) (by decide +kernel)
theorem m_co_M_init : Cond.code y_M_init c_M_init 1 none ∈ AW := mem_AW (i := 104) (by decide +kernel) (by decide +kernel)
theorem m_ml_M_3 : Cond.methodLink "FlowGate$Method" 3 objectInit ∈ AW := mem_AW (i := 105) (by decide +kernel) (by decide +kernel)
theorem m_fl_M_9 : Cond.fieldLink "FlowGate$Method" 9 "FlowGate$Method" "op" "[I" ∈ AW := mem_AW (i := 106) (by decide +kernel) (by decide +kernel)
theorem m_fl_O_25 : Cond.fieldLink "FlowGate$Form" 25 "FlowGate$Method" "op" "[I" ∈ AW := mem_AW (i := 107) (by decide +kernel) (by decide +kernel)
theorem m_fl_W_95 : Cond.fieldLink "FlowGate$Flow" 95 "FlowGate$Method" "op" "[I" ∈ AW := mem_AW (i := 108) (by decide +kernel) (by decide +kernel)
theorem m_fl_G_78 : Cond.fieldLink "FlowGate" 78 "FlowGate$Method" "op" "[I" ∈ AW := mem_AW (i := 109) (by decide +kernel) (by decide +kernel)
theorem m_fl_M_15 : Cond.fieldLink "FlowGate$Method" 15 "FlowGate$Method" "a" "[I" ∈ AW := mem_AW (i := 110) (by decide +kernel) (by decide +kernel)
theorem m_fl_O_29 : Cond.fieldLink "FlowGate$Form" 29 "FlowGate$Method" "a" "[I" ∈ AW := mem_AW (i := 111) (by decide +kernel) (by decide +kernel)
theorem m_fl_W_150 : Cond.fieldLink "FlowGate$Flow" 150 "FlowGate$Method" "a" "[I" ∈ AW := mem_AW (i := 112) (by decide +kernel) (by decide +kernel)
theorem m_fl_M_18 : Cond.fieldLink "FlowGate$Method" 18 "FlowGate$Method" "b" "[I" ∈ AW := mem_AW (i := 113) (by decide +kernel) (by decide +kernel)
theorem m_fl_O_32 : Cond.fieldLink "FlowGate$Form" 32 "FlowGate$Method" "b" "[I" ∈ AW := mem_AW (i := 114) (by decide +kernel) (by decide +kernel)
theorem m_fl_W_143 : Cond.fieldLink "FlowGate$Flow" 143 "FlowGate$Method" "b" "[I" ∈ AW := mem_AW (i := 115) (by decide +kernel) (by decide +kernel)
theorem m_fl_O_19 : Cond.fieldLink "FlowGate$Form" 19 "FlowGate$Method" "size" "I" ∈ AW := mem_AW (i := 116) (by decide +kernel) (by decide +kernel)
theorem m_fl_M_46 : Cond.fieldLink "FlowGate$Method" 46 "FlowGate$Method" "size" "I" ∈ AW := mem_AW (i := 117) (by decide +kernel) (by decide +kernel)
theorem m_fl_W_69 : Cond.fieldLink "FlowGate$Flow" 69 "FlowGate$Method" "size" "I" ∈ AW := mem_AW (i := 118) (by decide +kernel) (by decide +kernel)
theorem m_fl_G_71 : Cond.fieldLink "FlowGate" 71 "FlowGate$Method" "size" "I" ∈ AW := mem_AW (i := 119) (by decide +kernel) (by decide +kernel)
theorem m_fl_M_21 : Cond.fieldLink "FlowGate$Method" 21 "FlowGate$Method" "from" "[I" ∈ AW := mem_AW (i := 120) (by decide +kernel) (by decide +kernel)
theorem m_fl_O_73 : Cond.fieldLink "FlowGate$Form" 73 "FlowGate$Method" "from" "[I" ∈ AW := mem_AW (i := 121) (by decide +kernel) (by decide +kernel)
theorem m_fl_M_24 : Cond.fieldLink "FlowGate$Method" 24 "FlowGate$Method" "to" "[I" ∈ AW := mem_AW (i := 122) (by decide +kernel) (by decide +kernel)
theorem m_fl_O_76 : Cond.fieldLink "FlowGate$Form" 76 "FlowGate$Method" "to" "[I" ∈ AW := mem_AW (i := 123) (by decide +kernel) (by decide +kernel)
theorem m_fl_M_27 : Cond.fieldLink "FlowGate$Method" 27 "FlowGate$Method" "at" "[I" ∈ AW := mem_AW (i := 124) (by decide +kernel) (by decide +kernel)
theorem m_fl_O_79 : Cond.fieldLink "FlowGate$Form" 79 "FlowGate$Method" "at" "[I" ∈ AW := mem_AW (i := 125) (by decide +kernel) (by decide +kernel)
theorem m_fl_W_126 : Cond.fieldLink "FlowGate$Flow" 126 "FlowGate$Method" "at" "[I" ∈ AW := mem_AW (i := 126) (by decide +kernel) (by decide +kernel)
theorem m_fl_M_30 : Cond.fieldLink "FlowGate$Method" 30 "FlowGate$Method" "caught" "[I" ∈ AW := mem_AW (i := 127) (by decide +kernel) (by decide +kernel)
theorem m_fl_O_82 : Cond.fieldLink "FlowGate$Form" 82 "FlowGate$Method" "caught" "[I" ∈ AW := mem_AW (i := 128) (by decide +kernel) (by decide +kernel)
theorem m_fl_W_119 : Cond.fieldLink "FlowGate$Flow" 119 "FlowGate$Method" "caught" "[I" ∈ AW := mem_AW (i := 129) (by decide +kernel) (by decide +kernel)
theorem m_fl_M_49 : Cond.fieldLink "FlowGate$Method" 49 "FlowGate$Method" "handlerCount" "I" ∈ AW := mem_AW (i := 130) (by decide +kernel) (by decide +kernel)
theorem m_fl_O_39 : Cond.fieldLink "FlowGate$Form" 39 "FlowGate$Method" "handlerCount" "I" ∈ AW := mem_AW (i := 131) (by decide +kernel) (by decide +kernel)
theorem m_fl_W_105 : Cond.fieldLink "FlowGate$Flow" 105 "FlowGate$Method" "handlerCount" "I" ∈ AW := mem_AW (i := 132) (by decide +kernel) (by decide +kernel)
theorem m_fl_G_86 : Cond.fieldLink "FlowGate" 86 "FlowGate$Method" "handlerCount" "I" ∈ AW := mem_AW (i := 133) (by decide +kernel) (by decide +kernel)
theorem m_fl_M_33 : Cond.fieldLink "FlowGate$Method" 33 "FlowGate$Method" "arguments" "[I" ∈ AW := mem_AW (i := 134) (by decide +kernel) (by decide +kernel)
theorem m_fl_R_46 : Cond.fieldLink "FlowGate$Frame" 46 "FlowGate$Method" "arguments" "[I" ∈ AW := mem_AW (i := 135) (by decide +kernel) (by decide +kernel)
theorem m_fl_O_92 : Cond.fieldLink "FlowGate$Form" 92 "FlowGate$Method" "arguments" "[I" ∈ AW := mem_AW (i := 136) (by decide +kernel) (by decide +kernel)
theorem m_fl_M_52 : Cond.fieldLink "FlowGate$Method" 52 "FlowGate$Method" "argumentCount" "I" ∈ AW := mem_AW (i := 137) (by decide +kernel) (by decide +kernel)
theorem m_fl_R_41 : Cond.fieldLink "FlowGate$Frame" 41 "FlowGate$Method" "argumentCount" "I" ∈ AW := mem_AW (i := 138) (by decide +kernel) (by decide +kernel)
theorem m_fl_G_61 : Cond.fieldLink "FlowGate" 61 "FlowGate$Method" "argumentCount" "I" ∈ AW := mem_AW (i := 139) (by decide +kernel) (by decide +kernel)
theorem m_fl_O_89 : Cond.fieldLink "FlowGate$Form" 89 "FlowGate$Method" "argumentCount" "I" ∈ AW := mem_AW (i := 140) (by decide +kernel) (by decide +kernel)
theorem m_fl_M_36 : Cond.fieldLink "FlowGate$Method" 36 "FlowGate$Method" "result" "I" ∈ AW := mem_AW (i := 141) (by decide +kernel) (by decide +kernel)
theorem m_fl_W_255 : Cond.fieldLink "FlowGate$Flow" 255 "FlowGate$Method" "result" "I" ∈ AW := mem_AW (i := 142) (by decide +kernel) (by decide +kernel)
theorem m_fl_M_40 : Cond.fieldLink "FlowGate$Method" 40 "FlowGate$Method" "locals" "I" ∈ AW := mem_AW (i := 143) (by decide +kernel) (by decide +kernel)
theorem m_fl_O_99 : Cond.fieldLink "FlowGate$Form" 99 "FlowGate$Method" "locals" "I" ∈ AW := mem_AW (i := 144) (by decide +kernel) (by decide +kernel)
theorem m_fl_W_206 : Cond.fieldLink "FlowGate$Flow" 206 "FlowGate$Method" "locals" "I" ∈ AW := mem_AW (i := 145) (by decide +kernel) (by decide +kernel)
theorem m_fl_M_43 : Cond.fieldLink "FlowGate$Method" 43 "FlowGate$Method" "stack" "I" ∈ AW := mem_AW (i := 146) (by decide +kernel) (by decide +kernel)
theorem m_fl_W_116 : Cond.fieldLink "FlowGate$Flow" 116 "FlowGate$Method" "stack" "I" ∈ AW := mem_AW (i := 147) (by decide +kernel) (by decide +kernel)
theorem m_cl_G_23 : Cond.classLink "FlowGate" 23 "FlowGate$Form" ∈ AW := mem_AW (i := 177) (by decide +kernel) (by decide +kernel)
theorem m_is_O : Cond.instantiable "FlowGate$Form" 2 ∈ AW := mem_AW (i := 178) (by decide +kernel) (by decide +kernel)
theorem m_ml_G_25 : Cond.methodLink "FlowGate" 25 y_O_init ∈ AW := mem_AW (i := 179) (by decide +kernel) (by decide +kernel)
theorem m_im_O_init : Cond.instanceMethod y_O_init ∈ AW := mem_AW (i := 180) (by decide +kernel) (by decide +kernel)
theorem m_co_O_init : Cond.code y_O_init c_O_init 3 none ∈ AW := mem_AW (i := 181) (by decide +kernel) (by decide +kernel)
theorem m_ml_O_3 : Cond.methodLink "FlowGate$Form" 3 objectInit ∈ AW := mem_AW (i := 182) (by decide +kernel) (by decide +kernel)
theorem m_fl_O_9 : Cond.fieldLink "FlowGate$Form" 9 "FlowGate$Form" "types" "LFlowGate$Types;" ∈ AW := mem_AW (i := 183) (by decide +kernel) (by decide +kernel)
theorem m_fl_O_15 : Cond.fieldLink "FlowGate$Form" 15 "FlowGate$Form" "method" "LFlowGate$Method;" ∈ AW := mem_AW (i := 184) (by decide +kernel) (by decide +kernel)
theorem m_cl_G_32 : Cond.classLink "FlowGate" 32 "FlowGate$Flow" ∈ AW := mem_AW (i := 190) (by decide +kernel) (by decide +kernel)
theorem m_is_W : Cond.instantiable "FlowGate$Flow" 12 ∈ AW := mem_AW (i := 191) (by decide +kernel) (by decide +kernel)
theorem m_ml_G_34 : Cond.methodLink "FlowGate" 34 y_W_init ∈ AW := mem_AW (i := 192) (by decide +kernel) (by decide +kernel)
theorem m_im_W_init : Cond.instanceMethod y_W_init ∈ AW := mem_AW (i := 193) (by decide +kernel) (by decide +kernel)
theorem m_co_W_init : Cond.code y_W_init c_W_init 4 none ∈ AW := mem_AW (i := 194) (by decide +kernel) (by decide +kernel)
theorem m_ml_W_3 : Cond.methodLink "FlowGate$Flow" 3 objectInit ∈ AW := mem_AW (i := 195) (by decide +kernel) (by decide +kernel)
theorem m_cl_W_9 : Cond.classLink "FlowGate$Flow" 9 "FlowGate$Frame" ∈ AW := mem_AW (i := 196) (by decide +kernel) (by decide +kernel)
theorem m_is_R : Cond.instantiable "FlowGate$Frame" 5 ∈ AW := mem_AW (i := 198) (by decide +kernel) (by decide +kernel)
theorem m_im_R_init : Cond.instanceMethod y_R_init ∈ AW := mem_AW (i := 200) (by decide +kernel) (by decide +kernel)
theorem m_co_R_init : Cond.code y_R_init c_R_init 1 none ∈ AW := mem_AW (i := 201) (by decide +kernel) (by decide +kernel)
theorem m_ml_R_3 : Cond.methodLink "FlowGate$Frame" 3 objectInit ∈ AW := mem_AW (i := 202) (by decide +kernel) (by decide +kernel)
theorem m_fl_R_9 : Cond.fieldLink "FlowGate$Frame" 9 "FlowGate$Frame" "locals" "[I" ∈ AW := mem_AW (i := 203) (by decide +kernel) (by decide +kernel)
theorem m_fl_W_153 : Cond.fieldLink "FlowGate$Flow" 153 "FlowGate$Frame" "locals" "[I" ∈ AW := mem_AW (i := 204) (by decide +kernel) (by decide +kernel)
theorem m_fl_R_15 : Cond.fieldLink "FlowGate$Frame" 15 "FlowGate$Frame" "stack" "[I" ∈ AW := mem_AW (i := 205) (by decide +kernel) (by decide +kernel)
theorem m_fl_R_27 : Cond.fieldLink "FlowGate$Frame" 27 "FlowGate$Frame" "depth" "I" ∈ AW := mem_AW (i := 206) (by decide +kernel) (by decide +kernel)
theorem m_fl_W_136 : Cond.fieldLink "FlowGate$Flow" 136 "FlowGate$Frame" "depth" "I" ∈ AW := mem_AW (i := 207) (by decide +kernel) (by decide +kernel)
theorem m_fl_R_31 : Cond.fieldLink "FlowGate$Frame" 31 "FlowGate$Frame" "subs" "J" ∈ AW := mem_AW (i := 208) (by decide +kernel) (by decide +kernel)
theorem m_fl_R_18 : Cond.fieldLink "FlowGate$Frame" 18 "FlowGate$Frame" "touched" "[I" ∈ AW := mem_AW (i := 209) (by decide +kernel) (by decide +kernel)
theorem m_ac_long : Cond.arrayClass .long ∈ AW := mem_AW (i := 221) (by decide +kernel) (by decide +kernel)
theorem m_fl_W_36 : Cond.fieldLink "FlowGate$Flow" 36 "FlowGate$Flow" "types" "LFlowGate$Types;" ∈ AW := mem_AW (i := 222) (by decide +kernel) (by decide +kernel)
theorem m_fl_W_40 : Cond.fieldLink "FlowGate$Flow" 40 "FlowGate$Flow" "method" "LFlowGate$Method;" ∈ AW := mem_AW (i := 223) (by decide +kernel) (by decide +kernel)
theorem m_fl_W_11 : Cond.fieldLink "FlowGate$Flow" 11 "FlowGate$Flow" "frames" "[LFlowGate$Frame;" ∈ AW := mem_AW (i := 224) (by decide +kernel) (by decide +kernel)
theorem m_fl_G_111 : Cond.fieldLink "FlowGate" 111 "FlowGate$Flow" "frames" "[LFlowGate$Frame;" ∈ AW := mem_AW (i := 225) (by decide +kernel) (by decide +kernel)
theorem m_fl_W_17 : Cond.fieldLink "FlowGate$Flow" 17 "FlowGate$Flow" "reached" "[Z" ∈ AW := mem_AW (i := 226) (by decide +kernel) (by decide +kernel)
theorem m_fl_G_107 : Cond.fieldLink "FlowGate" 107 "FlowGate$Flow" "reached" "[Z" ∈ AW := mem_AW (i := 227) (by decide +kernel) (by decide +kernel)
theorem m_fl_W_21 : Cond.fieldLink "FlowGate$Flow" 21 "FlowGate$Flow" "changed" "[Z" ∈ AW := mem_AW (i := 228) (by decide +kernel) (by decide +kernel)
theorem m_fl_W_24 : Cond.fieldLink "FlowGate$Flow" 24 "FlowGate$Flow" "doneFor" "[J" ∈ AW := mem_AW (i := 229) (by decide +kernel) (by decide +kernel)
theorem m_fl_W_29 : Cond.fieldLink "FlowGate$Flow" 29 "FlowGate$Flow" "out" "LFlowGate$Frame;" ∈ AW := mem_AW (i := 230) (by decide +kernel) (by decide +kernel)
theorem m_fl_W_33 : Cond.fieldLink "FlowGate$Flow" 33 "FlowGate$Flow" "coming" "LFlowGate$Frame;" ∈ AW := mem_AW (i := 231) (by decide +kernel) (by decide +kernel)
theorem m_fl_W_50 : Cond.fieldLink "FlowGate$Flow" 50 "FlowGate$Flow" "looks" "I" ∈ AW := mem_AW (i := 232) (by decide +kernel) (by decide +kernel)
theorem m_fl_G_131 : Cond.fieldLink "FlowGate" 131 "FlowGate$Flow" "looks" "I" ∈ AW := mem_AW (i := 233) (by decide +kernel) (by decide +kernel)
theorem m_fl_W_82 : Cond.fieldLink "FlowGate$Flow" 82 "FlowGate$Flow" "place" "I" ∈ AW := mem_AW (i := 234) (by decide +kernel) (by decide +kernel)
theorem m_fl_G_103 : Cond.fieldLink "FlowGate" 103 "FlowGate$Flow" "place" "I" ∈ AW := mem_AW (i := 235) (by decide +kernel) (by decide +kernel)
theorem m_fl_W_54 : Cond.fieldLink "FlowGate$Flow" 54 "FlowGate$Flow" "reachedCount" "I" ∈ AW := mem_AW (i := 236) (by decide +kernel) (by decide +kernel)
theorem m_fl_G_134 : Cond.fieldLink "FlowGate" 134 "FlowGate$Flow" "reachedCount" "I" ∈ AW := mem_AW (i := 237) (by decide +kernel) (by decide +kernel)
theorem m_fl_W_57 : Cond.fieldLink "FlowGate$Flow" 57 "FlowGate$Flow" "begunSubs" "J" ∈ AW := mem_AW (i := 238) (by decide +kernel) (by decide +kernel)
theorem m_fl_G_137 : Cond.fieldLink "FlowGate" 137 "FlowGate$Flow" "begunSubs" "J" ∈ AW := mem_AW (i := 239) (by decide +kernel) (by decide +kernel)
theorem m_fl_G_10 : Cond.fieldLink "FlowGate" 10 "FlowGate" "types" "LFlowGate$Types;" ∈ AW := mem_AW (i := 265) (by decide +kernel) (by decide +kernel)
theorem m_fl_G_19 : Cond.fieldLink "FlowGate" 19 "FlowGate" "method" "LFlowGate$Method;" ∈ AW := mem_AW (i := 266) (by decide +kernel) (by decide +kernel)
theorem m_fl_G_28 : Cond.fieldLink "FlowGate" 28 "FlowGate" "form" "LFlowGate$Form;" ∈ AW := mem_AW (i := 267) (by decide +kernel) (by decide +kernel)
theorem m_fl_G_35 : Cond.fieldLink "FlowGate" 35 "FlowGate" "flow" "LFlowGate$Flow;" ∈ AW := mem_AW (i := 268) (by decide +kernel) (by decide +kernel)
theorem m_fl_G_39 : Cond.fieldLink "FlowGate" 39 "FlowGate" "place" "I" ∈ AW := mem_AW (i := 269) (by decide +kernel) (by decide +kernel)
theorem m_fl_G_104 : Cond.fieldLink "FlowGate" 104 "FlowGate" "passed" "I" ∈ AW := mem_AW (i := 270) (by decide +kernel) (by decide +kernel)
theorem m_ml_L_13 : Cond.methodLink "FlowGateLaw" 13 y_G_cls ∈ AW := mem_AW (i := 284) (by decide +kernel) (by decide +kernel)
theorem m_im_G_cls : Cond.instanceMethod y_G_cls ∈ AW := mem_AW (i := 285) (by decide +kernel) (by decide +kernel)
theorem m_se_G_cls : Cond.selects "FlowGate" y_G_cls y_G_cls ∈ AW := mem_AW (i := 286) (by decide +kernel) (by decide +kernel)
theorem m_co_G_cls : Cond.code y_G_cls c_G_cls 3 (some .int) ∈ AW := mem_AW (i := 287) (by decide +kernel) (by decide +kernel)
theorem m_ml_G_43 : Cond.methodLink "FlowGate" 43 y_T_hasClass ∈ AW := mem_AW (i := 288) (by decide +kernel) (by decide +kernel)
theorem m_im_T_hasClass : Cond.instanceMethod y_T_hasClass ∈ AW := mem_AW (i := 289) (by decide +kernel) (by decide +kernel)
theorem m_se_T_hasClass : Cond.selects "FlowGate$Types" y_T_hasClass y_T_hasClass ∈ AW := mem_AW (i := 290) (by decide +kernel) (by decide +kernel)
theorem m_co_T_hasClass : Cond.code y_T_hasClass c_T_hasClass 2 (some .boolean) ∈ AW := mem_AW (i := 291) (by decide +kernel) (by decide +kernel)
theorem m_ml_G_50 : Cond.methodLink "FlowGate" 50 y_T_append ∈ AW := mem_AW (i := 292) (by decide +kernel) (by decide +kernel)
theorem m_im_T_append : Cond.instanceMethod y_T_append ∈ AW := mem_AW (i := 293) (by decide +kernel) (by decide +kernel)
theorem m_se_T_append : Cond.selects "FlowGate$Types" y_T_append y_T_append ∈ AW := mem_AW (i := 294) (by decide +kernel) (by decide +kernel)
theorem m_co_T_append : Cond.code y_T_append c_T_append 3 (some .int) ∈ AW := mem_AW (i := 295) (by decide +kernel) (by decide +kernel)
theorem m_ml_L_18 : Cond.methodLink "FlowGateLaw" 18 y_G_begin ∈ AW := mem_AW (i := 296) (by decide +kernel) (by decide +kernel)
theorem m_im_G_begin : Cond.instanceMethod y_G_begin ∈ AW := mem_AW (i := 297) (by decide +kernel) (by decide +kernel)
theorem m_se_G_begin : Cond.selects "FlowGate" y_G_begin y_G_begin ∈ AW := mem_AW (i := 298) (by decide +kernel) (by decide +kernel)
theorem m_co_G_begin : Cond.code y_G_begin c_G_begin 4 (some .int) ∈ AW := mem_AW (i := 299) (by decide +kernel) (by decide +kernel)
theorem m_ml_G_54 : Cond.methodLink "FlowGate" 54 y_T_isValue ∈ AW := mem_AW (i := 300) (by decide +kernel) (by decide +kernel)
theorem m_im_T_isValue : Cond.instanceMethod y_T_isValue ∈ AW := mem_AW (i := 301) (by decide +kernel) (by decide +kernel)
theorem m_se_T_isValue : Cond.selects "FlowGate$Types" y_T_isValue y_T_isValue ∈ AW := mem_AW (i := 302) (by decide +kernel) (by decide +kernel)
theorem m_co_T_isValue : Cond.code y_T_isValue c_T_isValue 2 (some .boolean) ∈ AW := mem_AW (i := 303) (by decide +kernel) (by decide +kernel)
theorem m_ml_T_23 : Cond.methodLink "FlowGate$Types" 23 y_T_isRef ∈ AW := mem_AW (i := 304) (by decide +kernel) (by decide +kernel)
theorem m_im_T_isRef : Cond.instanceMethod y_T_isRef ∈ AW := mem_AW (i := 305) (by decide +kernel) (by decide +kernel)
theorem m_se_T_isRef : Cond.selects "FlowGate$Types" y_T_isRef y_T_isRef ∈ AW := mem_AW (i := 306) (by decide +kernel) (by decide +kernel)
theorem m_co_T_isRef : Cond.code y_T_isRef c_T_isRef 4 (some .boolean) ∈ AW := mem_AW (i := 307) (by decide +kernel) (by decide +kernel)
theorem m_ml_G_57 : Cond.methodLink "FlowGate" 57 y_M_restart ∈ AW := mem_AW (i := 308) (by decide +kernel) (by decide +kernel)
theorem m_im_M_restart : Cond.instanceMethod y_M_restart ∈ AW := mem_AW (i := 309) (by decide +kernel) (by decide +kernel)
theorem m_se_M_restart : Cond.selects "FlowGate$Method" y_M_restart y_M_restart ∈ AW := mem_AW (i := 310) (by decide +kernel) (by decide +kernel)
theorem m_co_M_restart : Cond.code y_M_restart c_M_restart 4 none ∈ AW := mem_AW (i := 311) (by decide +kernel) (by decide +kernel)
theorem m_ml_L_23 : Cond.methodLink "FlowGateLaw" 23 y_G_argument ∈ AW := mem_AW (i := 312) (by decide +kernel) (by decide +kernel)
theorem m_im_G_argument : Cond.instanceMethod y_G_argument ∈ AW := mem_AW (i := 313) (by decide +kernel) (by decide +kernel)
theorem m_se_G_argument : Cond.selects "FlowGate" y_G_argument y_G_argument ∈ AW := mem_AW (i := 314) (by decide +kernel) (by decide +kernel)
theorem m_co_G_argument : Cond.code y_G_argument c_G_argument 2 (some .int) ∈ AW := mem_AW (i := 315) (by decide +kernel) (by decide +kernel)
theorem m_ml_G_64 : Cond.methodLink "FlowGate" 64 y_M_appendArgument ∈ AW := mem_AW (i := 316) (by decide +kernel) (by decide +kernel)
theorem m_im_M_appendArgument : Cond.instanceMethod y_M_appendArgument ∈ AW := mem_AW (i := 317) (by decide +kernel) (by decide +kernel)
theorem m_se_M_appendArgument : Cond.selects "FlowGate$Method" y_M_appendArgument y_M_appendArgument ∈ AW := mem_AW (i := 318) (by decide +kernel) (by decide +kernel)
theorem m_co_M_appendArgument : Cond.code y_M_appendArgument c_M_appendArgument 2 (some .int) ∈ AW := mem_AW (i := 319) (by decide +kernel) (by decide +kernel)
theorem m_ml_L_28 : Cond.methodLink "FlowGateLaw" 28 y_G_add ∈ AW := mem_AW (i := 320) (by decide +kernel) (by decide +kernel)
theorem m_im_G_add : Cond.instanceMethod y_G_add ∈ AW := mem_AW (i := 321) (by decide +kernel) (by decide +kernel)
theorem m_se_G_add : Cond.selects "FlowGate" y_G_add y_G_add ∈ AW := mem_AW (i := 322) (by decide +kernel) (by decide +kernel)
theorem m_co_G_add : Cond.code y_G_add c_G_add 4 (some .int) ∈ AW := mem_AW (i := 323) (by decide +kernel) (by decide +kernel)
theorem m_ml_G_68 : Cond.methodLink "FlowGate" 68 y_G_isOp ∈ AW := mem_AW (i := 324) (by decide +kernel) (by decide +kernel)
theorem m_st_G_isOp : Cond.static y_G_isOp ∈ AW := mem_AW (i := 325) (by decide +kernel) (by decide +kernel)
theorem m_co_G_isOp : Cond.code y_G_isOp c_G_isOp 1 (some .boolean) ∈ AW := mem_AW (i := 326) (by decide +kernel) (by decide +kernel)
theorem m_ml_G_72 : Cond.methodLink "FlowGate" 72 y_M_append ∈ AW := mem_AW (i := 327) (by decide +kernel) (by decide +kernel)
theorem m_im_M_append : Cond.instanceMethod y_M_append ∈ AW := mem_AW (i := 328) (by decide +kernel) (by decide +kernel)
theorem m_se_M_append : Cond.selects "FlowGate$Method" y_M_append y_M_append ∈ AW := mem_AW (i := 329) (by decide +kernel) (by decide +kernel)
theorem m_co_M_append : Cond.code y_M_append c_M_append 4 (some .int) ∈ AW := mem_AW (i := 330) (by decide +kernel) (by decide +kernel)
theorem m_ml_M_55 : Cond.methodLink "FlowGate$Method" 55 y_M_write ∈ AW := mem_AW (i := 331) (by decide +kernel) (by decide +kernel)
theorem m_im_M_write : Cond.instanceMethod y_M_write ∈ AW := mem_AW (i := 332) (by decide +kernel) (by decide +kernel)
theorem m_se_M_write : Cond.selects "FlowGate$Method" y_M_write y_M_write ∈ AW := mem_AW (i := 333) (by decide +kernel) (by decide +kernel)
theorem m_co_M_write : Cond.code y_M_write c_M_write 5 none ∈ AW := mem_AW (i := 334) (by decide +kernel) (by decide +kernel)
theorem m_ml_L_32 : Cond.methodLink "FlowGateLaw" 32 y_G_change ∈ AW := mem_AW (i := 335) (by decide +kernel) (by decide +kernel)
theorem m_im_G_change : Cond.instanceMethod y_G_change ∈ AW := mem_AW (i := 336) (by decide +kernel) (by decide +kernel)
theorem m_se_G_change : Cond.selects "FlowGate" y_G_change y_G_change ∈ AW := mem_AW (i := 337) (by decide +kernel) (by decide +kernel)
theorem m_co_G_change : Cond.code y_G_change c_G_change 6 (some .int) ∈ AW := mem_AW (i := 338) (by decide +kernel) (by decide +kernel)
theorem m_ml_G_75 : Cond.methodLink "FlowGate" 75 y_M_hasInstruction ∈ AW := mem_AW (i := 339) (by decide +kernel) (by decide +kernel)
theorem m_im_M_hasInstruction : Cond.instanceMethod y_M_hasInstruction ∈ AW := mem_AW (i := 340) (by decide +kernel) (by decide +kernel)
theorem m_se_M_hasInstruction : Cond.selects "FlowGate$Method" y_M_hasInstruction y_M_hasInstruction ∈ AW := mem_AW (i := 341) (by decide +kernel) (by decide +kernel)
theorem m_co_M_hasInstruction : Cond.code y_M_hasInstruction c_M_hasInstruction 2 (some .boolean) ∈ AW := mem_AW (i := 342) (by decide +kernel) (by decide +kernel)
theorem m_ml_G_82 : Cond.methodLink "FlowGate" 82 y_M_write ∈ AW := mem_AW (i := 343) (by decide +kernel) (by decide +kernel)
theorem m_ml_L_37 : Cond.methodLink "FlowGateLaw" 37 y_G_handler ∈ AW := mem_AW (i := 344) (by decide +kernel) (by decide +kernel)
theorem m_im_G_handler : Cond.instanceMethod y_G_handler ∈ AW := mem_AW (i := 345) (by decide +kernel) (by decide +kernel)
theorem m_se_G_handler : Cond.selects "FlowGate" y_G_handler y_G_handler ∈ AW := mem_AW (i := 346) (by decide +kernel) (by decide +kernel)
theorem m_co_G_handler : Cond.code y_G_handler c_G_handler 5 (some .int) ∈ AW := mem_AW (i := 347) (by decide +kernel) (by decide +kernel)
theorem m_ml_G_89 : Cond.methodLink "FlowGate" 89 y_M_appendHandler ∈ AW := mem_AW (i := 348) (by decide +kernel) (by decide +kernel)
theorem m_im_M_appendHandler : Cond.instanceMethod y_M_appendHandler ∈ AW := mem_AW (i := 349) (by decide +kernel) (by decide +kernel)
theorem m_se_M_appendHandler : Cond.selects "FlowGate$Method" y_M_appendHandler y_M_appendHandler ∈ AW := mem_AW (i := 350) (by decide +kernel) (by decide +kernel)
theorem m_co_M_appendHandler : Cond.code y_M_appendHandler c_M_appendHandler 5 (some .int) ∈ AW := mem_AW (i := 351) (by decide +kernel) (by decide +kernel)
theorem m_ml_L_41 : Cond.methodLink "FlowGateLaw" 41 y_G_verify ∈ AW := mem_AW (i := 352) (by decide +kernel) (by decide +kernel)
theorem m_im_G_verify : Cond.instanceMethod y_G_verify ∈ AW := mem_AW (i := 353) (by decide +kernel) (by decide +kernel)
theorem m_se_G_verify : Cond.selects "FlowGate" y_G_verify y_G_verify ∈ AW := mem_AW (i := 354) (by decide +kernel) (by decide +kernel)
theorem m_co_G_verify : Cond.code y_G_verify c_G_verify 2 (some .int) ∈ AW := mem_AW (i := 355) (by decide +kernel) (by decide +kernel)
theorem m_ml_G_93 : Cond.methodLink "FlowGate" 93 y_W_forget ∈ AW := mem_AW (i := 356) (by decide +kernel) (by decide +kernel)
theorem m_im_W_forget : Cond.instanceMethod y_W_forget ∈ AW := mem_AW (i := 357) (by decide +kernel) (by decide +kernel)
theorem m_se_W_forget : Cond.selects "FlowGate$Flow" y_W_forget y_W_forget ∈ AW := mem_AW (i := 358) (by decide +kernel) (by decide +kernel)
theorem m_co_W_forget : Cond.code y_W_forget c_W_forget 2 none ∈ AW := mem_AW (i := 359) (by decide +kernel) (by decide +kernel)
theorem m_ml_W_44 : Cond.methodLink "FlowGate$Flow" 44 y_JA_fillJ ∈ AW := mem_AW (i := 360) (by decide +kernel) (by decide +kernel)
theorem m_st_JA_fillJ : Cond.static y_JA_fillJ ∈ AW := mem_AW (i := 361) (by decide +kernel) (by decide +kernel)
theorem m_co_JA_fillJ : Cond.code y_JA_fillJ c_JA_fillJ 5 none ∈ AW := mem_AW (i := 362) (by decide +kernel) (by decide +kernel)
theorem m_ml_G_96 : Cond.methodLink "FlowGate" 96 y_O_findFault ∈ AW := mem_AW (i := 363) (by decide +kernel) (by decide +kernel)
theorem m_im_O_findFault : Cond.instanceMethod y_O_findFault ∈ AW := mem_AW (i := 364) (by decide +kernel) (by decide +kernel)
theorem m_se_O_findFault : Cond.selects "FlowGate$Form" y_O_findFault y_O_findFault ∈ AW := mem_AW (i := 365) (by decide +kernel) (by decide +kernel)
theorem m_co_O_findFault : Cond.code y_O_findFault c_O_findFault 2 (some .int) ∈ AW := mem_AW (i := 366) (by decide +kernel) (by decide +kernel)
theorem m_ml_O_35 : Cond.methodLink "FlowGate$Form" 35 y_O_isWellFormed ∈ AW := mem_AW (i := 367) (by decide +kernel) (by decide +kernel)
theorem m_im_O_isWellFormed : Cond.instanceMethod y_O_isWellFormed ∈ AW := mem_AW (i := 369) (by decide +kernel) (by decide +kernel)
theorem m_co_O_isWellFormed : Cond.code y_O_isWellFormed c_O_isWellFormed 4 (some .boolean) ∈ AW := mem_AW (i := 370) (by decide +kernel) (by decide +kernel)
theorem m_ml_O_50 : Cond.methodLink "FlowGate$Form" 50 y_M_hasLocal ∈ AW := mem_AW (i := 371) (by decide +kernel) (by decide +kernel)
theorem m_im_M_hasLocal : Cond.instanceMethod y_M_hasLocal ∈ AW := mem_AW (i := 372) (by decide +kernel) (by decide +kernel)
theorem m_se_M_hasLocal : Cond.selects "FlowGate$Method" y_M_hasLocal y_M_hasLocal ∈ AW := mem_AW (i := 373) (by decide +kernel) (by decide +kernel)
theorem m_co_M_hasLocal : Cond.code y_M_hasLocal c_M_hasLocal 2 (some .boolean) ∈ AW := mem_AW (i := 374) (by decide +kernel) (by decide +kernel)
theorem m_ml_O_53 : Cond.methodLink "FlowGate$Form" 53 y_O_isNumber ∈ AW := mem_AW (i := 375) (by decide +kernel) (by decide +kernel)
theorem m_st_O_isNumber : Cond.static y_O_isNumber ∈ AW := mem_AW (i := 376) (by decide +kernel) (by decide +kernel)
theorem m_co_O_isNumber : Cond.code y_O_isNumber c_O_isNumber 1 (some .boolean) ∈ AW := mem_AW (i := 377) (by decide +kernel) (by decide +kernel)
theorem m_ml_O_56 : Cond.methodLink "FlowGate$Form" 56 y_M_hasInstruction ∈ AW := mem_AW (i := 378) (by decide +kernel) (by decide +kernel)
theorem m_ml_O_59 : Cond.methodLink "FlowGate$Form" 59 y_T_hasClass ∈ AW := mem_AW (i := 379) (by decide +kernel) (by decide +kernel)
theorem m_ml_O_64 : Cond.methodLink "FlowGate$Form" 64 y_T_isValue ∈ AW := mem_AW (i := 380) (by decide +kernel) (by decide +kernel)
theorem m_ml_O_67 : Cond.methodLink "FlowGate$Form" 67 y_T_isRef ∈ AW := mem_AW (i := 381) (by decide +kernel) (by decide +kernel)
theorem m_ml_O_70 : Cond.methodLink "FlowGate$Form" 70 y_T_isRow ∈ AW := mem_AW (i := 382) (by decide +kernel) (by decide +kernel)
theorem m_im_T_isRow : Cond.instanceMethod y_T_isRow ∈ AW := mem_AW (i := 383) (by decide +kernel) (by decide +kernel)
theorem m_se_T_isRow : Cond.selects "FlowGate$Types" y_T_isRow y_T_isRow ∈ AW := mem_AW (i := 384) (by decide +kernel) (by decide +kernel)
theorem m_co_T_isRow : Cond.code y_T_isRow c_T_isRow 2 (some .boolean) ∈ AW := mem_AW (i := 385) (by decide +kernel) (by decide +kernel)
theorem m_ml_O_42 : Cond.methodLink "FlowGate$Form" 42 y_O_isHandlerWellFormed ∈ AW := mem_AW (i := 386) (by decide +kernel) (by decide +kernel)
theorem m_im_O_isHandlerWellFormed : Cond.instanceMethod y_O_isHandlerWellFormed ∈ AW := mem_AW (i := 388) (by decide +kernel) (by decide +kernel)
theorem m_co_O_isHandlerWellFormed : Cond.code y_O_isHandlerWellFormed c_O_isHandlerWellFormed 4 (some .boolean) ∈ AW := mem_AW (i := 389) (by decide +kernel) (by decide +kernel)
theorem m_ml_O_85 : Cond.methodLink "FlowGate$Form" 85 y_T_isBelow ∈ AW := mem_AW (i := 390) (by decide +kernel) (by decide +kernel)
theorem m_im_T_isBelow : Cond.instanceMethod y_T_isBelow ∈ AW := mem_AW (i := 391) (by decide +kernel) (by decide +kernel)
theorem m_se_T_isBelow : Cond.selects "FlowGate$Types" y_T_isBelow y_T_isBelow ∈ AW := mem_AW (i := 392) (by decide +kernel) (by decide +kernel)
theorem m_co_T_isBelow : Cond.code y_T_isBelow c_T_isBelow 3 (some .boolean) ∈ AW := mem_AW (i := 393) (by decide +kernel) (by decide +kernel)
theorem m_ml_O_46 : Cond.methodLink "FlowGate$Form" 46 y_O_haveArgumentsRoom ∈ AW := mem_AW (i := 394) (by decide +kernel) (by decide +kernel)
theorem m_im_O_haveArgumentsRoom : Cond.instanceMethod y_O_haveArgumentsRoom ∈ AW := mem_AW (i := 396) (by decide +kernel) (by decide +kernel)
theorem m_co_O_haveArgumentsRoom : Cond.code y_O_haveArgumentsRoom c_O_haveArgumentsRoom 3 (some .boolean) ∈ AW := mem_AW (i := 397) (by decide +kernel) (by decide +kernel)
theorem m_st_G_widthOf : Cond.static y_G_widthOf ∈ AW := mem_AW (i := 399) (by decide +kernel) (by decide +kernel)
theorem m_co_G_widthOf : Cond.code y_G_widthOf c_G_widthOf 1 (some .int) ∈ AW := mem_AW (i := 400) (by decide +kernel) (by decide +kernel)
theorem m_ml_G_100 : Cond.methodLink "FlowGate" 100 y_W_run ∈ AW := mem_AW (i := 401) (by decide +kernel) (by decide +kernel)
theorem m_im_W_run : Cond.instanceMethod y_W_run ∈ AW := mem_AW (i := 402) (by decide +kernel) (by decide +kernel)
theorem m_se_W_run : Cond.selects "FlowGate$Flow" y_W_run y_W_run ∈ AW := mem_AW (i := 403) (by decide +kernel) (by decide +kernel)
theorem m_co_W_run : Cond.code y_W_run c_W_run 3 (some .int) ∈ AW := mem_AW (i := 404) (by decide +kernel) (by decide +kernel)
theorem m_ml_W_61 : Cond.methodLink "FlowGate$Flow" 61 y_R_start ∈ AW := mem_AW (i := 405) (by decide +kernel) (by decide +kernel)
theorem m_im_R_start : Cond.instanceMethod y_R_start ∈ AW := mem_AW (i := 406) (by decide +kernel) (by decide +kernel)
theorem m_se_R_start : Cond.selects "FlowGate$Frame" y_R_start y_R_start ∈ AW := mem_AW (i := 407) (by decide +kernel) (by decide +kernel)
theorem m_co_R_start : Cond.code y_R_start c_R_start 4 none ∈ AW := mem_AW (i := 408) (by decide +kernel) (by decide +kernel)
theorem m_ml_R_35 : Cond.methodLink "FlowGate$Frame" 35 y_JA_fillI ∈ AW := mem_AW (i := 409) (by decide +kernel) (by decide +kernel)
theorem m_st_JA_fillI : Cond.static y_JA_fillI ∈ AW := mem_AW (i := 410) (by decide +kernel) (by decide +kernel)
theorem m_co_JA_fillI : Cond.code y_JA_fillI c_JA_fillI 4 none ∈ AW := mem_AW (i := 411) (by decide +kernel) (by decide +kernel)
theorem m_ml_W_65 : Cond.methodLink "FlowGate$Flow" 65 y_W_meet ∈ AW := mem_AW (i := 413) (by decide +kernel) (by decide +kernel)
theorem m_im_W_meet : Cond.instanceMethod y_W_meet ∈ AW := mem_AW (i := 415) (by decide +kernel) (by decide +kernel)
theorem m_co_W_meet : Cond.code y_W_meet c_W_meet 4 (some .int) ∈ AW := mem_AW (i := 416) (by decide +kernel) (by decide +kernel)
theorem m_ml_W_129 : Cond.methodLink "FlowGate$Flow" 129 y_R_hasRaw ∈ AW := mem_AW (i := 417) (by decide +kernel) (by decide +kernel)
theorem m_im_R_hasRaw : Cond.instanceMethod y_R_hasRaw ∈ AW := mem_AW (i := 418) (by decide +kernel) (by decide +kernel)
theorem m_se_R_hasRaw : Cond.selects "FlowGate$Frame" y_R_hasRaw y_R_hasRaw ∈ AW := mem_AW (i := 419) (by decide +kernel) (by decide +kernel)
theorem m_co_R_hasRaw : Cond.code y_R_hasRaw c_R_hasRaw 2 (some .boolean) ∈ AW := mem_AW (i := 420) (by decide +kernel) (by decide +kernel)
theorem m_st_G_isRaw : Cond.static y_G_isRaw ∈ AW := mem_AW (i := 422) (by decide +kernel) (by decide +kernel)
theorem m_co_G_isRaw : Cond.code y_G_isRaw c_G_isRaw 1 (some .boolean) ∈ AW := mem_AW (i := 423) (by decide +kernel) (by decide +kernel)
theorem m_ml_R_75 : Cond.methodLink "FlowGate$Frame" 75 y_R_hasRawLocal ∈ AW := mem_AW (i := 424) (by decide +kernel) (by decide +kernel)
theorem m_im_R_hasRawLocal : Cond.instanceMethod y_R_hasRawLocal ∈ AW := mem_AW (i := 425) (by decide +kernel) (by decide +kernel)
theorem m_se_R_hasRawLocal : Cond.selects "FlowGate$Frame" y_R_hasRawLocal y_R_hasRawLocal ∈ AW := mem_AW (i := 426) (by decide +kernel) (by decide +kernel)
theorem m_co_R_hasRawLocal : Cond.code y_R_hasRawLocal c_R_hasRawLocal 2 (some .boolean) ∈ AW := mem_AW (i := 427) (by decide +kernel) (by decide +kernel)
theorem m_ml_W_132 : Cond.methodLink "FlowGate$Flow" 132 y_W_reach ∈ AW := mem_AW (i := 428) (by decide +kernel) (by decide +kernel)
theorem m_im_W_reach : Cond.instanceMethod y_W_reach ∈ AW := mem_AW (i := 430) (by decide +kernel) (by decide +kernel)
theorem m_co_W_reach : Cond.code y_W_reach c_W_reach 3 none ∈ AW := mem_AW (i := 431) (by decide +kernel) (by decide +kernel)
theorem m_ml_W_88 : Cond.methodLink "FlowGate$Flow" 88 y_R_copy ∈ AW := mem_AW (i := 432) (by decide +kernel) (by decide +kernel)
theorem m_im_R_copy : Cond.instanceMethod y_R_copy ∈ AW := mem_AW (i := 433) (by decide +kernel) (by decide +kernel)
theorem m_se_R_copy : Cond.selects "FlowGate$Frame" y_R_copy y_R_copy ∈ AW := mem_AW (i := 434) (by decide +kernel) (by decide +kernel)
theorem m_co_R_copy : Cond.code y_R_copy c_R_copy 2 none ∈ AW := mem_AW (i := 435) (by decide +kernel) (by decide +kernel)
theorem m_ml_R_21 : Cond.methodLink "FlowGate$Frame" 21 arraycopyName ∈ AW := mem_AW (i := 436) (by decide +kernel) (by decide +kernel)
theorem m_st_JS : Cond.static arraycopyName ∈ AW := mem_AW (i := 437) (by decide +kernel) (by decide +kernel)
theorem m_na_JS : Cond.native arraycopyName ∈ AW := mem_AW (i := 438) (by decide +kernel) (by decide +kernel)
theorem m_ml_W_139 : Cond.methodLink "FlowGate$Flow" 139 y_R_absorb ∈ AW := mem_AW (i := 439) (by decide +kernel) (by decide +kernel)
theorem m_im_R_absorb : Cond.instanceMethod y_R_absorb ∈ AW := mem_AW (i := 440) (by decide +kernel) (by decide +kernel)
theorem m_se_R_absorb : Cond.selects "FlowGate$Frame" y_R_absorb y_R_absorb ∈ AW := mem_AW (i := 441) (by decide +kernel) (by decide +kernel)
theorem m_co_R_absorb : Cond.code y_R_absorb c_R_absorb 6 (some .boolean) ∈ AW := mem_AW (i := 442) (by decide +kernel) (by decide +kernel)
theorem m_ml_R_79 : Cond.methodLink "FlowGate$Frame" 79 y_R_absorbSubs ∈ AW := mem_AW (i := 443) (by decide +kernel) (by decide +kernel)
theorem m_im_R_absorbSubs : Cond.instanceMethod y_R_absorbSubs ∈ AW := mem_AW (i := 445) (by decide +kernel) (by decide +kernel)
theorem m_co_R_absorbSubs : Cond.code y_R_absorbSubs c_R_absorbSubs 7 (some .boolean) ∈ AW := mem_AW (i := 446) (by decide +kernel) (by decide +kernel)
theorem m_ml_R_69 : Cond.methodLink "FlowGate$Frame" 69 y_R_isIn ∈ AW := mem_AW (i := 447) (by decide +kernel) (by decide +kernel)
theorem m_im_R_isIn : Cond.instanceMethod y_R_isIn ∈ AW := mem_AW (i := 448) (by decide +kernel) (by decide +kernel)
theorem m_se_R_isIn : Cond.selects "FlowGate$Frame" y_R_isIn y_R_isIn ∈ AW := mem_AW (i := 449) (by decide +kernel) (by decide +kernel)
theorem m_co_R_isIn : Cond.code y_R_isIn c_R_isIn 2 (some .boolean) ∈ AW := mem_AW (i := 450) (by decide +kernel) (by decide +kernel)
theorem m_ml_R_83 : Cond.methodLink "FlowGate$Frame" 83 y_T_joined ∈ AW := mem_AW (i := 451) (by decide +kernel) (by decide +kernel)
theorem m_im_T_joined : Cond.instanceMethod y_T_joined ∈ AW := mem_AW (i := 452) (by decide +kernel) (by decide +kernel)
theorem m_se_T_joined : Cond.selects "FlowGate$Types" y_T_joined y_T_joined ∈ AW := mem_AW (i := 453) (by decide +kernel) (by decide +kernel)
theorem m_co_T_joined : Cond.code y_T_joined c_T_joined 8 (some .int) ∈ AW := mem_AW (i := 454) (by decide +kernel) (by decide +kernel)
theorem m_ml_T_34 : Cond.methodLink "FlowGate$Types" 34 y_T_joinedClasses ∈ AW := mem_AW (i := 455) (by decide +kernel) (by decide +kernel)
theorem m_im_T_joinedClasses : Cond.instanceMethod y_T_joinedClasses ∈ AW := mem_AW (i := 457) (by decide +kernel) (by decide +kernel)
theorem m_co_T_joinedClasses : Cond.code y_T_joinedClasses c_T_joinedClasses 5 (some .int) ∈ AW := mem_AW (i := 458) (by decide +kernel) (by decide +kernel)
theorem m_ml_W_74 : Cond.methodLink "FlowGate$Flow" 74 y_W_look ∈ AW := mem_AW (i := 459) (by decide +kernel) (by decide +kernel)
theorem m_im_W_look : Cond.instanceMethod y_W_look ∈ AW := mem_AW (i := 461) (by decide +kernel) (by decide +kernel)
theorem m_co_W_look : Cond.code y_W_look c_W_look 3 (some .int) ∈ AW := mem_AW (i := 462) (by decide +kernel) (by decide +kernel)
theorem m_ml_W_85 : Cond.methodLink "FlowGate$Flow" 85 y_W_meetHandlers ∈ AW := mem_AW (i := 463) (by decide +kernel) (by decide +kernel)
theorem m_im_W_meetHandlers : Cond.instanceMethod y_W_meetHandlers ∈ AW := mem_AW (i := 465) (by decide +kernel) (by decide +kernel)
theorem m_co_W_meetHandlers : Cond.code y_W_meetHandlers c_W_meetHandlers 4 (some .int) ∈ AW := mem_AW (i := 466) (by decide +kernel) (by decide +kernel)
theorem m_ml_W_108 : Cond.methodLink "FlowGate$Flow" 108 y_M_covers ∈ AW := mem_AW (i := 467) (by decide +kernel) (by decide +kernel)
theorem m_im_M_covers : Cond.instanceMethod y_M_covers ∈ AW := mem_AW (i := 468) (by decide +kernel) (by decide +kernel)
theorem m_se_M_covers : Cond.selects "FlowGate$Method" y_M_covers y_M_covers ∈ AW := mem_AW (i := 469) (by decide +kernel) (by decide +kernel)
theorem m_co_M_covers : Cond.code y_M_covers c_M_covers 3 (some .boolean) ∈ AW := mem_AW (i := 470) (by decide +kernel) (by decide +kernel)
theorem m_ml_W_112 : Cond.methodLink "FlowGate$Flow" 112 y_R_hasRawLocal ∈ AW := mem_AW (i := 471) (by decide +kernel) (by decide +kernel)
theorem m_ml_W_122 : Cond.methodLink "FlowGate$Flow" 122 y_R_catchIn ∈ AW := mem_AW (i := 472) (by decide +kernel) (by decide +kernel)
theorem m_im_R_catchIn : Cond.instanceMethod y_R_catchIn ∈ AW := mem_AW (i := 473) (by decide +kernel) (by decide +kernel)
theorem m_se_R_catchIn : Cond.selects "FlowGate$Frame" y_R_catchIn y_R_catchIn ∈ AW := mem_AW (i := 474) (by decide +kernel) (by decide +kernel)
theorem m_co_R_catchIn : Cond.code y_R_catchIn c_R_catchIn 3 none ∈ AW := mem_AW (i := 475) (by decide +kernel) (by decide +kernel)
theorem m_ml_R_53 : Cond.methodLink "FlowGate$Frame" 53 y_R_copy ∈ AW := mem_AW (i := 476) (by decide +kernel) (by decide +kernel)
theorem m_ml_W_92 : Cond.methodLink "FlowGate$Flow" 92 y_W_perform ∈ AW := mem_AW (i := 477) (by decide +kernel) (by decide +kernel)
theorem m_im_W_perform : Cond.instanceMethod y_W_perform ∈ AW := mem_AW (i := 479) (by decide +kernel) (by decide +kernel)
theorem m_co_W_perform : Cond.code y_W_perform c_W_perform 5 (some .int) ∈ AW := mem_AW (i := 480) (by decide +kernel) (by decide +kernel)
theorem m_ml_W_159 : Cond.methodLink "FlowGate$Flow" 159 y_W_load ∈ AW := mem_AW (i := 481) (by decide +kernel) (by decide +kernel)
theorem m_im_W_load : Cond.instanceMethod y_W_load ∈ AW := mem_AW (i := 483) (by decide +kernel) (by decide +kernel)
theorem m_co_W_load : Cond.code y_W_load c_W_load 3 (some .int) ∈ AW := mem_AW (i := 484) (by decide +kernel) (by decide +kernel)
theorem m_st_G_isReturn : Cond.static y_G_isReturn ∈ AW := mem_AW (i := 486) (by decide +kernel) (by decide +kernel)
theorem m_co_G_isReturn : Cond.code y_G_isReturn c_G_isReturn 1 (some .boolean) ∈ AW := mem_AW (i := 487) (by decide +kernel) (by decide +kernel)
theorem m_ml_W_212 : Cond.methodLink "FlowGate$Flow" 212 y_W_fitsLocal ∈ AW := mem_AW (i := 488) (by decide +kernel) (by decide +kernel)
theorem m_im_W_fitsLocal : Cond.instanceMethod y_W_fitsLocal ∈ AW := mem_AW (i := 490) (by decide +kernel) (by decide +kernel)
theorem m_co_W_fitsLocal : Cond.code y_W_fitsLocal c_W_fitsLocal 3 (some .boolean) ∈ AW := mem_AW (i := 491) (by decide +kernel) (by decide +kernel)
theorem m_ml_W_215 : Cond.methodLink "FlowGate$Flow" 215 y_R_touch ∈ AW := mem_AW (i := 493) (by decide +kernel) (by decide +kernel)
theorem m_im_R_touch : Cond.instanceMethod y_R_touch ∈ AW := mem_AW (i := 494) (by decide +kernel) (by decide +kernel)
theorem m_se_R_touch : Cond.selects "FlowGate$Frame" y_R_touch y_R_touch ∈ AW := mem_AW (i := 495) (by decide +kernel) (by decide +kernel)
theorem m_co_R_touch : Cond.code y_R_touch c_R_touch 3 none ∈ AW := mem_AW (i := 496) (by decide +kernel) (by decide +kernel)
theorem m_st_G_isWide : Cond.static y_G_isWide ∈ AW := mem_AW (i := 498) (by decide +kernel) (by decide +kernel)
theorem m_co_G_isWide : Cond.code y_G_isWide c_G_isWide 1 (some .boolean) ∈ AW := mem_AW (i := 499) (by decide +kernel) (by decide +kernel)
theorem m_ml_R_57 : Cond.methodLink "FlowGate$Frame" 57 y_R_touchAll ∈ AW := mem_AW (i := 500) (by decide +kernel) (by decide +kernel)
theorem m_im_R_touchAll : Cond.instanceMethod y_R_touchAll ∈ AW := mem_AW (i := 502) (by decide +kernel) (by decide +kernel)
theorem m_co_R_touchAll : Cond.code y_R_touchAll c_R_touchAll 3 none ∈ AW := mem_AW (i := 503) (by decide +kernel) (by decide +kernel)
theorem m_ml_W_200 : Cond.methodLink "FlowGate$Flow" 200 y_R_push ∈ AW := mem_AW (i := 504) (by decide +kernel) (by decide +kernel)
theorem m_im_R_push : Cond.instanceMethod y_R_push ∈ AW := mem_AW (i := 505) (by decide +kernel) (by decide +kernel)
theorem m_se_R_push : Cond.selects "FlowGate$Frame" y_R_push y_R_push ∈ AW := mem_AW (i := 506) (by decide +kernel) (by decide +kernel)
theorem m_co_R_push : Cond.code y_R_push c_R_push 5 (some .int) ∈ AW := mem_AW (i := 507) (by decide +kernel) (by decide +kernel)
theorem m_ml_W_162 : Cond.methodLink "FlowGate$Flow" 162 y_W_store ∈ AW := mem_AW (i := 508) (by decide +kernel) (by decide +kernel)
theorem m_im_W_store : Cond.instanceMethod y_W_store ∈ AW := mem_AW (i := 510) (by decide +kernel) (by decide +kernel)
theorem m_co_W_store : Cond.code y_W_store c_W_store 3 (some .int) ∈ AW := mem_AW (i := 511) (by decide +kernel) (by decide +kernel)
theorem m_ml_W_219 : Cond.methodLink "FlowGate$Flow" 219 y_R_top ∈ AW := mem_AW (i := 512) (by decide +kernel) (by decide +kernel)
theorem m_im_R_top : Cond.instanceMethod y_R_top ∈ AW := mem_AW (i := 513) (by decide +kernel) (by decide +kernel)
theorem m_se_R_top : Cond.selects "FlowGate$Frame" y_R_top y_R_top ∈ AW := mem_AW (i := 514) (by decide +kernel) (by decide +kernel)
theorem m_co_R_top : Cond.code y_R_top c_R_top 2 (some .int) ∈ AW := mem_AW (i := 515) (by decide +kernel) (by decide +kernel)
theorem m_ml_W_197 : Cond.methodLink "FlowGate$Flow" 197 y_R_drop ∈ AW := mem_AW (i := 516) (by decide +kernel) (by decide +kernel)
theorem m_im_R_drop : Cond.instanceMethod y_R_drop ∈ AW := mem_AW (i := 517) (by decide +kernel) (by decide +kernel)
theorem m_se_R_drop : Cond.selects "FlowGate$Frame" y_R_drop y_R_drop ∈ AW := mem_AW (i := 518) (by decide +kernel) (by decide +kernel)
theorem m_co_R_drop : Cond.code y_R_drop c_R_drop 2 none ∈ AW := mem_AW (i := 519) (by decide +kernel) (by decide +kernel)
theorem m_ml_W_222 : Cond.methodLink "FlowGate$Flow" 222 y_R_store ∈ AW := mem_AW (i := 520) (by decide +kernel) (by decide +kernel)
theorem m_im_R_store : Cond.instanceMethod y_R_store ∈ AW := mem_AW (i := 521) (by decide +kernel) (by decide +kernel)
theorem m_se_R_store : Cond.selects "FlowGate$Frame" y_R_store y_R_store ∈ AW := mem_AW (i := 522) (by decide +kernel) (by decide +kernel)
theorem m_co_R_store : Cond.code y_R_store c_R_store 3 none ∈ AW := mem_AW (i := 523) (by decide +kernel) (by decide +kernel)
theorem m_ml_W_165 : Cond.methodLink "FlowGate$Flow" 165 y_W_increase ∈ AW := mem_AW (i := 524) (by decide +kernel) (by decide +kernel)
theorem m_im_W_increase : Cond.instanceMethod y_W_increase ∈ AW := mem_AW (i := 526) (by decide +kernel) (by decide +kernel)
theorem m_co_W_increase : Cond.code y_W_increase c_W_increase 2 (some .int) ∈ AW := mem_AW (i := 527) (by decide +kernel) (by decide +kernel)
theorem m_ml_W_168 : Cond.methodLink "FlowGate$Flow" 168 y_W_prepareReturn ∈ AW := mem_AW (i := 528) (by decide +kernel) (by decide +kernel)
theorem m_im_W_prepareReturn : Cond.instanceMethod y_W_prepareReturn ∈ AW := mem_AW (i := 530) (by decide +kernel) (by decide +kernel)
theorem m_co_W_prepareReturn : Cond.code y_W_prepareReturn c_W_prepareReturn 5 (some .int) ∈ AW := mem_AW (i := 531) (by decide +kernel) (by decide +kernel)
theorem m_ml_W_224 : Cond.methodLink "FlowGate$Flow" 224 y_R_isIn ∈ AW := mem_AW (i := 532) (by decide +kernel) (by decide +kernel)
theorem m_ml_W_172 : Cond.methodLink "FlowGate$Flow" 172 y_W_shuffle ∈ AW := mem_AW (i := 533) (by decide +kernel) (by decide +kernel)
theorem m_im_W_shuffle : Cond.instanceMethod y_W_shuffle ∈ AW := mem_AW (i := 535) (by decide +kernel) (by decide +kernel)
theorem m_co_W_shuffle : Cond.code y_W_shuffle c_W_shuffle 5 (some .int) ∈ AW := mem_AW (i := 536) (by decide +kernel) (by decide +kernel)
theorem m_ml_W_233 : Cond.methodLink "FlowGate$Flow" 233 y_R_hasNarrow ∈ AW := mem_AW (i := 538) (by decide +kernel) (by decide +kernel)
theorem m_im_R_hasNarrow : Cond.instanceMethod y_R_hasNarrow ∈ AW := mem_AW (i := 539) (by decide +kernel) (by decide +kernel)
theorem m_se_R_hasNarrow : Cond.selects "FlowGate$Frame" y_R_hasNarrow y_R_hasNarrow ∈ AW := mem_AW (i := 540) (by decide +kernel) (by decide +kernel)
theorem m_co_R_hasNarrow : Cond.code y_R_hasNarrow c_R_hasNarrow 2 (some .boolean) ∈ AW := mem_AW (i := 541) (by decide +kernel) (by decide +kernel)
theorem m_ml_W_236 : Cond.methodLink "FlowGate$Flow" 236 y_W_takeIf ∈ AW := mem_AW (i := 542) (by decide +kernel) (by decide +kernel)
theorem m_im_W_takeIf : Cond.instanceMethod y_W_takeIf ∈ AW := mem_AW (i := 544) (by decide +kernel) (by decide +kernel)
theorem m_co_W_takeIf : Cond.code y_W_takeIf c_W_takeIf 3 (some .int) ∈ AW := mem_AW (i := 545) (by decide +kernel) (by decide +kernel)
theorem m_ml_W_240 : Cond.methodLink "FlowGate$Flow" 240 y_W_pushBoth ∈ AW := mem_AW (i := 546) (by decide +kernel) (by decide +kernel)
theorem m_im_W_pushBoth : Cond.instanceMethod y_W_pushBoth ∈ AW := mem_AW (i := 548) (by decide +kernel) (by decide +kernel)
theorem m_co_W_pushBoth : Cond.code y_W_pushBoth c_W_pushBoth 4 (some .int) ∈ AW := mem_AW (i := 549) (by decide +kernel) (by decide +kernel)
theorem m_ml_W_175 : Cond.methodLink "FlowGate$Flow" 175 y_W_calculate ∈ AW := mem_AW (i := 550) (by decide +kernel) (by decide +kernel)
theorem m_im_W_calculate : Cond.instanceMethod y_W_calculate ∈ AW := mem_AW (i := 552) (by decide +kernel) (by decide +kernel)
theorem m_co_W_calculate : Cond.code y_W_calculate c_W_calculate 5 (some .int) ∈ AW := mem_AW (i := 553) (by decide +kernel) (by decide +kernel)
theorem m_ml_W_243 : Cond.methodLink "FlowGate$Flow" 243 y_W_exchangeIf ∈ AW := mem_AW (i := 554) (by decide +kernel) (by decide +kernel)
theorem m_im_W_exchangeIf : Cond.instanceMethod y_W_exchangeIf ∈ AW := mem_AW (i := 556) (by decide +kernel) (by decide +kernel)
theorem m_co_W_exchangeIf : Cond.code y_W_exchangeIf c_W_exchangeIf 4 (some .int) ∈ AW := mem_AW (i := 557) (by decide +kernel) (by decide +kernel)
theorem m_ml_W_179 : Cond.methodLink "FlowGate$Flow" 179 y_W_decide ∈ AW := mem_AW (i := 558) (by decide +kernel) (by decide +kernel)
theorem m_im_W_decide : Cond.instanceMethod y_W_decide ∈ AW := mem_AW (i := 560) (by decide +kernel) (by decide +kernel)
theorem m_co_W_decide : Cond.code y_W_decide c_W_decide 3 (some .int) ∈ AW := mem_AW (i := 561) (by decide +kernel) (by decide +kernel)
theorem m_ml_W_247 : Cond.methodLink "FlowGate$Flow" 247 y_T_isRefOrNull ∈ AW := mem_AW (i := 562) (by decide +kernel) (by decide +kernel)
theorem m_im_T_isRefOrNull : Cond.instanceMethod y_T_isRefOrNull ∈ AW := mem_AW (i := 563) (by decide +kernel) (by decide +kernel)
theorem m_se_T_isRefOrNull : Cond.selects "FlowGate$Types" y_T_isRefOrNull y_T_isRefOrNull ∈ AW := mem_AW (i := 564) (by decide +kernel) (by decide +kernel)
theorem m_co_T_isRefOrNull : Cond.code y_T_isRefOrNull c_T_isRefOrNull 2 (some .boolean) ∈ AW := mem_AW (i := 565) (by decide +kernel) (by decide +kernel)
theorem m_ml_W_252 : Cond.methodLink "FlowGate$Flow" 252 y_T_goesFor ∈ AW := mem_AW (i := 566) (by decide +kernel) (by decide +kernel)
theorem m_im_T_goesFor : Cond.instanceMethod y_T_goesFor ∈ AW := mem_AW (i := 567) (by decide +kernel) (by decide +kernel)
theorem m_se_T_goesFor : Cond.selects "FlowGate$Types" y_T_goesFor y_T_goesFor ∈ AW := mem_AW (i := 568) (by decide +kernel) (by decide +kernel)
theorem m_co_T_goesFor : Cond.code y_T_goesFor c_T_goesFor 6 (some .boolean) ∈ AW := mem_AW (i := 569) (by decide +kernel) (by decide +kernel)
theorem m_ml_T_27 : Cond.methodLink "FlowGate$Types" 27 y_T_isRefOrNull ∈ AW := mem_AW (i := 570) (by decide +kernel) (by decide +kernel)
theorem m_ml_T_30 : Cond.methodLink "FlowGate$Types" 30 y_T_isBelow ∈ AW := mem_AW (i := 571) (by decide +kernel) (by decide +kernel)
theorem m_ml_W_182 : Cond.methodLink "FlowGate$Flow" 182 y_W_enterSub ∈ AW := mem_AW (i := 572) (by decide +kernel) (by decide +kernel)
theorem m_im_W_enterSub : Cond.instanceMethod y_W_enterSub ∈ AW := mem_AW (i := 574) (by decide +kernel) (by decide +kernel)
theorem m_co_W_enterSub : Cond.code y_W_enterSub c_W_enterSub 2 (some .int) ∈ AW := mem_AW (i := 575) (by decide +kernel) (by decide +kernel)
theorem m_ml_W_227 : Cond.methodLink "FlowGate$Flow" 227 y_R_enter ∈ AW := mem_AW (i := 576) (by decide +kernel) (by decide +kernel)
theorem m_im_R_enter : Cond.instanceMethod y_R_enter ∈ AW := mem_AW (i := 577) (by decide +kernel) (by decide +kernel)
theorem m_se_R_enter : Cond.selects "FlowGate$Frame" y_R_enter y_R_enter ∈ AW := mem_AW (i := 578) (by decide +kernel) (by decide +kernel)
theorem m_co_R_enter : Cond.code y_R_enter c_R_enter 2 none ∈ AW := mem_AW (i := 579) (by decide +kernel) (by decide +kernel)
theorem m_ml_W_185 : Cond.methodLink "FlowGate$Flow" 185 y_W_create ∈ AW := mem_AW (i := 580) (by decide +kernel) (by decide +kernel)
theorem m_im_W_create : Cond.instanceMethod y_W_create ∈ AW := mem_AW (i := 582) (by decide +kernel) (by decide +kernel)
theorem m_co_W_create : Cond.code y_W_create c_W_create 2 (some .int) ∈ AW := mem_AW (i := 583) (by decide +kernel) (by decide +kernel)
theorem m_ml_W_258 : Cond.methodLink "FlowGate$Flow" 258 y_R_isOnStack ∈ AW := mem_AW (i := 584) (by decide +kernel) (by decide +kernel)
theorem m_im_R_isOnStack : Cond.instanceMethod y_R_isOnStack ∈ AW := mem_AW (i := 585) (by decide +kernel) (by decide +kernel)
theorem m_se_R_isOnStack : Cond.selects "FlowGate$Frame" y_R_isOnStack y_R_isOnStack ∈ AW := mem_AW (i := 586) (by decide +kernel) (by decide +kernel)
theorem m_co_R_isOnStack : Cond.code y_R_isOnStack c_R_isOnStack 3 (some .boolean) ∈ AW := mem_AW (i := 587) (by decide +kernel) (by decide +kernel)
theorem m_ml_W_261 : Cond.methodLink "FlowGate$Flow" 261 y_R_replace ∈ AW := mem_AW (i := 588) (by decide +kernel) (by decide +kernel)
theorem m_im_R_replace : Cond.instanceMethod y_R_replace ∈ AW := mem_AW (i := 589) (by decide +kernel) (by decide +kernel)
theorem m_se_R_replace : Cond.selects "FlowGate$Frame" y_R_replace y_R_replace ∈ AW := mem_AW (i := 590) (by decide +kernel) (by decide +kernel)
theorem m_co_R_replace : Cond.code y_R_replace c_R_replace 4 none ∈ AW := mem_AW (i := 591) (by decide +kernel) (by decide +kernel)
theorem m_ml_W_188 : Cond.methodLink "FlowGate$Flow" 188 y_W_build ∈ AW := mem_AW (i := 592) (by decide +kernel) (by decide +kernel)
theorem m_im_W_build : Cond.instanceMethod y_W_build ∈ AW := mem_AW (i := 594) (by decide +kernel) (by decide +kernel)
theorem m_co_W_build : Cond.code y_W_build c_W_build 3 (some .int) ∈ AW := mem_AW (i := 595) (by decide +kernel) (by decide +kernel)
theorem m_ml_W_191 : Cond.methodLink "FlowGate$Flow" 191 y_W_useObject ∈ AW := mem_AW (i := 597) (by decide +kernel) (by decide +kernel)
theorem m_im_W_useObject : Cond.instanceMethod y_W_useObject ∈ AW := mem_AW (i := 599) (by decide +kernel) (by decide +kernel)
theorem m_co_W_useObject : Cond.code y_W_useObject c_W_useObject 5 (some .int) ∈ AW := mem_AW (i := 600) (by decide +kernel) (by decide +kernel)
theorem m_ml_W_194 : Cond.methodLink "FlowGate$Flow" 194 y_W_useRow ∈ AW := mem_AW (i := 601) (by decide +kernel) (by decide +kernel)
theorem m_im_W_useRow : Cond.instanceMethod y_W_useRow ∈ AW := mem_AW (i := 603) (by decide +kernel) (by decide +kernel)
theorem m_co_W_useRow : Cond.code y_W_useRow c_W_useRow 4 (some .int) ∈ AW := mem_AW (i := 604) (by decide +kernel) (by decide +kernel)
theorem m_ml_W_267 : Cond.methodLink "FlowGate$Flow" 267 y_W_isRowOf ∈ AW := mem_AW (i := 605) (by decide +kernel) (by decide +kernel)
theorem m_st_W_isRowOf : Cond.static y_W_isRowOf ∈ AW := mem_AW (i := 606) (by decide +kernel) (by decide +kernel)
theorem m_co_W_isRowOf : Cond.code y_W_isRowOf c_W_isRowOf 2 (some .boolean) ∈ AW := mem_AW (i := 607) (by decide +kernel) (by decide +kernel)
theorem m_ml_W_270 : Cond.methodLink "FlowGate$Flow" 270 y_W_elementOf ∈ AW := mem_AW (i := 608) (by decide +kernel) (by decide +kernel)
theorem m_st_W_elementOf : Cond.static y_W_elementOf ∈ AW := mem_AW (i := 609) (by decide +kernel) (by decide +kernel)
theorem m_co_W_elementOf : Cond.code y_W_elementOf c_W_elementOf 1 (some .int) ∈ AW := mem_AW (i := 610) (by decide +kernel) (by decide +kernel)
theorem m_ml_W_273 : Cond.methodLink "FlowGate$Flow" 273 y_T_isRow ∈ AW := mem_AW (i := 611) (by decide +kernel) (by decide +kernel)
theorem m_ml_W_99 : Cond.methodLink "FlowGate$Flow" 99 y_W_comeBack ∈ AW := mem_AW (i := 612) (by decide +kernel) (by decide +kernel)
theorem m_im_W_comeBack : Cond.instanceMethod y_W_comeBack ∈ AW := mem_AW (i := 614) (by decide +kernel) (by decide +kernel)
theorem m_co_W_comeBack : Cond.code y_W_comeBack c_W_comeBack 5 (some .int) ∈ AW := mem_AW (i := 615) (by decide +kernel) (by decide +kernel)
theorem m_ml_W_156 : Cond.methodLink "FlowGate$Flow" 156 y_R_comeBack ∈ AW := mem_AW (i := 616) (by decide +kernel) (by decide +kernel)
theorem m_im_R_comeBack : Cond.instanceMethod y_R_comeBack ∈ AW := mem_AW (i := 617) (by decide +kernel) (by decide +kernel)
theorem m_se_R_comeBack : Cond.selects "FlowGate$Frame" y_R_comeBack y_R_comeBack ∈ AW := mem_AW (i := 618) (by decide +kernel) (by decide +kernel)
theorem m_co_R_comeBack : Cond.code y_R_comeBack c_R_comeBack 6 none ∈ AW := mem_AW (i := 619) (by decide +kernel) (by decide +kernel)
theorem m_ml_R_61 : Cond.methodLink "FlowGate$Frame" 61 y_R_replace ∈ AW := mem_AW (i := 620) (by decide +kernel) (by decide +kernel)
theorem m_ml_W_102 : Cond.methodLink "FlowGate$Flow" 102 y_W_leave ∈ AW := mem_AW (i := 621) (by decide +kernel) (by decide +kernel)
theorem m_im_W_leave : Cond.instanceMethod y_W_leave ∈ AW := mem_AW (i := 623) (by decide +kernel) (by decide +kernel)
theorem m_co_W_leave : Cond.code y_W_leave c_W_leave 4 (some .int) ∈ AW := mem_AW (i := 624) (by decide +kernel) (by decide +kernel)
theorem m_ml_W_146 : Cond.methodLink "FlowGate$Flow" 146 y_W_wakeReturns ∈ AW := mem_AW (i := 625) (by decide +kernel) (by decide +kernel)
theorem m_im_W_wakeReturns : Cond.instanceMethod y_W_wakeReturns ∈ AW := mem_AW (i := 627) (by decide +kernel) (by decide +kernel)
theorem m_co_W_wakeReturns : Cond.code y_W_wakeReturns c_W_wakeReturns 3 none ∈ AW := mem_AW (i := 628) (by decide +kernel) (by decide +kernel)
theorem m_ml_W_78 : Cond.methodLink "FlowGate$Flow" 78 y_W_findChanged ∈ AW := mem_AW (i := 629) (by decide +kernel) (by decide +kernel)
theorem m_im_W_findChanged : Cond.instanceMethod y_W_findChanged ∈ AW := mem_AW (i := 631) (by decide +kernel) (by decide +kernel)
theorem m_co_W_findChanged : Cond.code y_W_findChanged c_W_findChanged 2 (some .int) ∈ AW := mem_AW (i := 632) (by decide +kernel) (by decide +kernel)
theorem m_ml_L_46 : Cond.methodLink "FlowGateLaw" 46 y_G_place ∈ AW := mem_AW (i := 633) (by decide +kernel) (by decide +kernel)
theorem m_im_G_place : Cond.instanceMethod y_G_place ∈ AW := mem_AW (i := 634) (by decide +kernel) (by decide +kernel)
theorem m_se_G_place : Cond.selects "FlowGate" y_G_place y_G_place ∈ AW := mem_AW (i := 635) (by decide +kernel) (by decide +kernel)
theorem m_co_G_place : Cond.code y_G_place c_G_place 1 (some .int) ∈ AW := mem_AW (i := 636) (by decide +kernel) (by decide +kernel)
theorem m_ml_L_50 : Cond.methodLink "FlowGateLaw" 50 y_G_state ∈ AW := mem_AW (i := 637) (by decide +kernel) (by decide +kernel)
theorem m_im_G_state : Cond.instanceMethod y_G_state ∈ AW := mem_AW (i := 638) (by decide +kernel) (by decide +kernel)
theorem m_se_G_state : Cond.selects "FlowGate" y_G_state y_G_state ∈ AW := mem_AW (i := 639) (by decide +kernel) (by decide +kernel)
theorem m_co_G_state : Cond.code y_G_state c_G_state 3 (some .int) ∈ AW := mem_AW (i := 640) (by decide +kernel) (by decide +kernel)
theorem m_ml_G_115 : Cond.methodLink "FlowGate" 115 y_R_read ∈ AW := mem_AW (i := 641) (by decide +kernel) (by decide +kernel)
theorem m_im_R_read : Cond.instanceMethod y_R_read ∈ AW := mem_AW (i := 642) (by decide +kernel) (by decide +kernel)
theorem m_se_R_read : Cond.selects "FlowGate$Frame" y_R_read y_R_read ∈ AW := mem_AW (i := 643) (by decide +kernel) (by decide +kernel)
theorem m_co_R_read : Cond.code y_R_read c_R_read 3 (some .int) ∈ AW := mem_AW (i := 644) (by decide +kernel) (by decide +kernel)
theorem m_ml_R_89 : Cond.methodLink "FlowGate$Frame" 89 y_JL_bitCount ∈ AW := mem_AW (i := 645) (by decide +kernel) (by decide +kernel)
theorem m_st_JL_bitCount : Cond.static y_JL_bitCount ∈ AW := mem_AW (i := 646) (by decide +kernel) (by decide +kernel)
theorem m_co_JL_bitCount : Cond.code y_JL_bitCount c_JL_bitCount 2 (some .int) ∈ AW := mem_AW (i := 647) (by decide +kernel) (by decide +kernel)
theorem m_kl_JL_314 : Cond.constantLong "java/lang/Long" 314 (6148914691236517205) ∈ AW := mem_AW (i := 648) (by decide +kernel) (by decide +kernel)
theorem m_kl_JL_316 : Cond.constantLong "java/lang/Long" 316 (3689348814741910323) ∈ AW := mem_AW (i := 649) (by decide +kernel) (by decide +kernel)
theorem m_kl_JL_318 : Cond.constantLong "java/lang/Long" 318 (1085102592571150095) ∈ AW := mem_AW (i := 650) (by decide +kernel) (by decide +kernel)
theorem m_ml_R_95 : Cond.methodLink "FlowGate$Frame" 95 y_R_findSub ∈ AW := mem_AW (i := 651) (by decide +kernel) (by decide +kernel)
theorem m_im_R_findSub : Cond.instanceMethod y_R_findSub ∈ AW := mem_AW (i := 653) (by decide +kernel) (by decide +kernel)
theorem m_co_R_findSub : Cond.code y_R_findSub c_R_findSub 4 (some .int) ∈ AW := mem_AW (i := 654) (by decide +kernel) (by decide +kernel)
theorem m_ml_L_55 : Cond.methodLink "FlowGateLaw" 55 y_G_join ∈ AW := mem_AW (i := 655) (by decide +kernel) (by decide +kernel)
theorem m_im_G_join : Cond.instanceMethod y_G_join ∈ AW := mem_AW (i := 656) (by decide +kernel) (by decide +kernel)
theorem m_se_G_join : Cond.selects "FlowGate" y_G_join y_G_join ∈ AW := mem_AW (i := 657) (by decide +kernel) (by decide +kernel)
theorem m_co_G_join : Cond.code y_G_join c_G_join 3 (some .int) ∈ AW := mem_AW (i := 658) (by decide +kernel) (by decide +kernel)
theorem m_ml_G_120 : Cond.methodLink "FlowGate" 120 y_T_isPlain ∈ AW := mem_AW (i := 659) (by decide +kernel) (by decide +kernel)
theorem m_im_T_isPlain : Cond.instanceMethod y_T_isPlain ∈ AW := mem_AW (i := 660) (by decide +kernel) (by decide +kernel)
theorem m_se_T_isPlain : Cond.selects "FlowGate$Types" y_T_isPlain y_T_isPlain ∈ AW := mem_AW (i := 661) (by decide +kernel) (by decide +kernel)
theorem m_co_T_isPlain : Cond.code y_T_isPlain c_T_isPlain 2 (some .boolean) ∈ AW := mem_AW (i := 662) (by decide +kernel) (by decide +kernel)
theorem m_ml_G_123 : Cond.methodLink "FlowGate" 123 y_T_joined ∈ AW := mem_AW (i := 663) (by decide +kernel) (by decide +kernel)
theorem m_ml_L_59 : Cond.methodLink "FlowGateLaw" 59 y_G_goes ∈ AW := mem_AW (i := 664) (by decide +kernel) (by decide +kernel)
theorem m_im_G_goes : Cond.instanceMethod y_G_goes ∈ AW := mem_AW (i := 665) (by decide +kernel) (by decide +kernel)
theorem m_se_G_goes : Cond.selects "FlowGate" y_G_goes y_G_goes ∈ AW := mem_AW (i := 666) (by decide +kernel) (by decide +kernel)
theorem m_co_G_goes : Cond.code y_G_goes c_G_goes 3 (some .int) ∈ AW := mem_AW (i := 667) (by decide +kernel) (by decide +kernel)
theorem m_ml_G_127 : Cond.methodLink "FlowGate" 127 y_T_goesFor ∈ AW := mem_AW (i := 668) (by decide +kernel) (by decide +kernel)
theorem m_ml_L_63 : Cond.methodLink "FlowGateLaw" 63 y_G_count ∈ AW := mem_AW (i := 669) (by decide +kernel) (by decide +kernel)
theorem m_im_G_count : Cond.instanceMethod y_G_count ∈ AW := mem_AW (i := 670) (by decide +kernel) (by decide +kernel)
theorem m_se_G_count : Cond.selects "FlowGate" y_G_count y_G_count ∈ AW := mem_AW (i := 671) (by decide +kernel) (by decide +kernel)
theorem m_co_G_count : Cond.code y_G_count c_G_count 2 (some .int) ∈ AW := mem_AW (i := 672) (by decide +kernel) (by decide +kernel)
theorem m_ml_G_141 : Cond.methodLink "FlowGate" 141 y_JL_bitCount ∈ AW := mem_AW (i := 673) (by decide +kernel) (by decide +kernel)
theorem m_cl_L_10 : Cond.classLink "FlowGateLaw" 10 "FlowGateModel" ∈ AW := mem_AW (i := 674) (by decide +kernel) (by decide +kernel)
theorem m_is_D : Cond.instantiable "FlowGateModel" 42 ∈ AW := mem_AW (i := 675) (by decide +kernel) (by decide +kernel)
theorem m_ml_L_12 : Cond.methodLink "FlowGateLaw" 12 y_D_init ∈ AW := mem_AW (i := 676) (by decide +kernel) (by decide +kernel)
theorem m_im_D_init : Cond.instanceMethod y_D_init ∈ AW := mem_AW (i := 677) (by decide +kernel) (by decide +kernel)
theorem m_co_D_init : Cond.code y_D_init c_D_init 1 none ∈ AW := mem_AW (i := 678) (by decide +kernel) (by decide +kernel)
theorem m_ml_D_1 : Cond.methodLink "FlowGateModel" 1 objectInit ∈ AW := mem_AW (i := 679) (by decide +kernel) (by decide +kernel)
theorem m_fl_D_7 : Cond.fieldLink "FlowGateModel" 7 "FlowGateModel" "above" "[I" ∈ AW := mem_AW (i := 680) (by decide +kernel) (by decide +kernel)
theorem m_fl_D_13 : Cond.fieldLink "FlowGateModel" 13 "FlowGateModel" "face" "[Z" ∈ AW := mem_AW (i := 681) (by decide +kernel) (by decide +kernel)
theorem m_fl_D_17 : Cond.fieldLink "FlowGateModel" 17 "FlowGateModel" "classes" "I" ∈ AW := mem_AW (i := 682) (by decide +kernel) (by decide +kernel)
theorem m_fl_D_21 : Cond.fieldLink "FlowGateModel" 21 "FlowGateModel" "ops" "[I" ∈ AW := mem_AW (i := 683) (by decide +kernel) (by decide +kernel)
theorem m_fl_D_24 : Cond.fieldLink "FlowGateModel" 24 "FlowGateModel" "as" "[I" ∈ AW := mem_AW (i := 684) (by decide +kernel) (by decide +kernel)
theorem m_fl_D_27 : Cond.fieldLink "FlowGateModel" 27 "FlowGateModel" "bs" "[I" ∈ AW := mem_AW (i := 685) (by decide +kernel) (by decide +kernel)
theorem m_fl_D_30 : Cond.fieldLink "FlowGateModel" 30 "FlowGateModel" "from" "[I" ∈ AW := mem_AW (i := 686) (by decide +kernel) (by decide +kernel)
theorem m_fl_D_33 : Cond.fieldLink "FlowGateModel" 33 "FlowGateModel" "to" "[I" ∈ AW := mem_AW (i := 687) (by decide +kernel) (by decide +kernel)
theorem m_fl_D_36 : Cond.fieldLink "FlowGateModel" 36 "FlowGateModel" "at" "[I" ∈ AW := mem_AW (i := 688) (by decide +kernel) (by decide +kernel)
theorem m_fl_D_39 : Cond.fieldLink "FlowGateModel" 39 "FlowGateModel" "caught" "[I" ∈ AW := mem_AW (i := 689) (by decide +kernel) (by decide +kernel)
theorem m_fl_D_42 : Cond.fieldLink "FlowGateModel" 42 "FlowGateModel" "arguments" "[I" ∈ AW := mem_AW (i := 690) (by decide +kernel) (by decide +kernel)
theorem m_fl_D_118 : Cond.fieldLink "FlowGateModel" 118 "FlowGateModel" "many" "I" ∈ AW := mem_AW (i := 691) (by decide +kernel) (by decide +kernel)
theorem m_fl_D_121 : Cond.fieldLink "FlowGateModel" 121 "FlowGateModel" "handlers" "I" ∈ AW := mem_AW (i := 692) (by decide +kernel) (by decide +kernel)
theorem m_fl_D_124 : Cond.fieldLink "FlowGateModel" 124 "FlowGateModel" "given" "I" ∈ AW := mem_AW (i := 693) (by decide +kernel) (by decide +kernel)
theorem m_fl_D_109 : Cond.fieldLink "FlowGateModel" 109 "FlowGateModel" "result" "I" ∈ AW := mem_AW (i := 694) (by decide +kernel) (by decide +kernel)
theorem m_fl_D_112 : Cond.fieldLink "FlowGateModel" 112 "FlowGateModel" "locals" "I" ∈ AW := mem_AW (i := 695) (by decide +kernel) (by decide +kernel)
theorem m_fl_D_115 : Cond.fieldLink "FlowGateModel" 115 "FlowGateModel" "room" "I" ∈ AW := mem_AW (i := 696) (by decide +kernel) (by decide +kernel)
theorem m_fl_D_45 : Cond.fieldLink "FlowGateModel" 45 "FlowGateModel" "has" "[Z" ∈ AW := mem_AW (i := 697) (by decide +kernel) (by decide +kernel)
theorem m_fl_D_48 : Cond.fieldLink "FlowGateModel" 48 "FlowGateModel" "changed" "[Z" ∈ AW := mem_AW (i := 698) (by decide +kernel) (by decide +kernel)
theorem m_fl_D_51 : Cond.fieldLink "FlowGateModel" 51 "FlowGateModel" "local" "[I" ∈ AW := mem_AW (i := 699) (by decide +kernel) (by decide +kernel)
theorem m_fl_D_54 : Cond.fieldLink "FlowGateModel" 54 "FlowGateModel" "stack" "[I" ∈ AW := mem_AW (i := 700) (by decide +kernel) (by decide +kernel)
theorem m_fl_D_57 : Cond.fieldLink "FlowGateModel" 57 "FlowGateModel" "depth" "[I" ∈ AW := mem_AW (i := 701) (by decide +kernel) (by decide +kernel)
theorem m_fl_D_60 : Cond.fieldLink "FlowGateModel" 60 "FlowGateModel" "touched" "[I" ∈ AW := mem_AW (i := 702) (by decide +kernel) (by decide +kernel)
theorem m_fl_D_63 : Cond.fieldLink "FlowGateModel" 63 "FlowGateModel" "subs" "[J" ∈ AW := mem_AW (i := 703) (by decide +kernel) (by decide +kernel)
theorem m_fl_D_67 : Cond.fieldLink "FlowGateModel" 67 "FlowGateModel" "done" "[J" ∈ AW := mem_AW (i := 704) (by decide +kernel) (by decide +kernel)
theorem m_fl_D_70 : Cond.fieldLink "FlowGateModel" 70 "FlowGateModel" "here" "[I" ∈ AW := mem_AW (i := 705) (by decide +kernel) (by decide +kernel)
theorem m_fl_D_73 : Cond.fieldLink "FlowGateModel" 73 "FlowGateModel" "pile" "[I" ∈ AW := mem_AW (i := 706) (by decide +kernel) (by decide +kernel)
theorem m_fl_D_76 : Cond.fieldLink "FlowGateModel" 76 "FlowGateModel" "touch" "[I" ∈ AW := mem_AW (i := 707) (by decide +kernel) (by decide +kernel)
theorem m_fl_D_79 : Cond.fieldLink "FlowGateModel" 79 "FlowGateModel" "there" "[I" ∈ AW := mem_AW (i := 708) (by decide +kernel) (by decide +kernel)
theorem m_fl_D_82 : Cond.fieldLink "FlowGateModel" 82 "FlowGateModel" "pileThere" "[I" ∈ AW := mem_AW (i := 709) (by decide +kernel) (by decide +kernel)
theorem m_fl_D_85 : Cond.fieldLink "FlowGateModel" 85 "FlowGateModel" "touchThere" "[I" ∈ AW := mem_AW (i := 710) (by decide +kernel) (by decide +kernel)
theorem m_fl_D_183 : Cond.fieldLink "FlowGateModel" 183 "FlowGateModel" "high" "I" ∈ AW := mem_AW (i := 711) (by decide +kernel) (by decide +kernel)
theorem m_fl_D_189 : Cond.fieldLink "FlowGateModel" 189 "FlowGateModel" "size" "I" ∈ AW := mem_AW (i := 712) (by decide +kernel) (by decide +kernel)
theorem m_fl_D_166 : Cond.fieldLink "FlowGateModel" 166 "FlowGateModel" "highThere" "I" ∈ AW := mem_AW (i := 713) (by decide +kernel) (by decide +kernel)
theorem m_fl_D_130 : Cond.fieldLink "FlowGateModel" 130 "FlowGateModel" "fault" "I" ∈ AW := mem_AW (i := 714) (by decide +kernel) (by decide +kernel)
theorem m_fl_D_88 : Cond.fieldLink "FlowGateModel" 88 "FlowGateModel" "place" "I" ∈ AW := mem_AW (i := 715) (by decide +kernel) (by decide +kernel)
theorem m_fl_D_143 : Cond.fieldLink "FlowGateModel" 143 "FlowGateModel" "looked" "I" ∈ AW := mem_AW (i := 716) (by decide +kernel) (by decide +kernel)
theorem m_fl_D_156 : Cond.fieldLink "FlowGateModel" 156 "FlowGateModel" "good" "I" ∈ AW := mem_AW (i := 717) (by decide +kernel) (by decide +kernel)
theorem m_fl_D_159 : Cond.fieldLink "FlowGateModel" 159 "FlowGateModel" "withState" "I" ∈ AW := mem_AW (i := 718) (by decide +kernel) (by decide +kernel)
theorem m_fl_D_186 : Cond.fieldLink "FlowGateModel" 186 "FlowGateModel" "in1" "J" ∈ AW := mem_AW (i := 719) (by decide +kernel) (by decide +kernel)
theorem m_fl_D_169 : Cond.fieldLink "FlowGateModel" 169 "FlowGateModel" "subsThere" "J" ∈ AW := mem_AW (i := 720) (by decide +kernel) (by decide +kernel)
theorem m_fl_D_162 : Cond.fieldLink "FlowGateModel" 162 "FlowGateModel" "begun" "J" ∈ AW := mem_AW (i := 721) (by decide +kernel) (by decide +kernel)
theorem m_ml_L_17 : Cond.methodLink "FlowGateLaw" 17 y_D_cls ∈ AW := mem_AW (i := 807) (by decide +kernel) (by decide +kernel)
theorem m_im_D_cls : Cond.instanceMethod y_D_cls ∈ AW := mem_AW (i := 808) (by decide +kernel) (by decide +kernel)
theorem m_se_D_cls : Cond.selects "FlowGateModel" y_D_cls y_D_cls ∈ AW := mem_AW (i := 809) (by decide +kernel) (by decide +kernel)
theorem m_co_D_cls : Cond.code y_D_cls c_D_cls 3 (some .int) ∈ AW := mem_AW (i := 810) (by decide +kernel) (by decide +kernel)
theorem m_ml_D_91 : Cond.methodLink "FlowGateModel" 91 y_D_in ∈ AW := mem_AW (i := 811) (by decide +kernel) (by decide +kernel)
theorem m_st_D_in : Cond.static y_D_in ∈ AW := mem_AW (i := 812) (by decide +kernel) (by decide +kernel)
theorem m_co_D_in : Cond.code y_D_in c_D_in 3 (some .boolean) ∈ AW := mem_AW (i := 813) (by decide +kernel) (by decide +kernel)
theorem m_ml_L_22 : Cond.methodLink "FlowGateLaw" 22 y_D_begin ∈ AW := mem_AW (i := 814) (by decide +kernel) (by decide +kernel)
theorem m_im_D_begin : Cond.instanceMethod y_D_begin ∈ AW := mem_AW (i := 815) (by decide +kernel) (by decide +kernel)
theorem m_se_D_begin : Cond.selects "FlowGateModel" y_D_begin y_D_begin ∈ AW := mem_AW (i := 816) (by decide +kernel) (by decide +kernel)
theorem m_co_D_begin : Cond.code y_D_begin c_D_begin 4 (some .int) ∈ AW := mem_AW (i := 817) (by decide +kernel) (by decide +kernel)
theorem m_ml_D_106 : Cond.methodLink "FlowGateModel" 106 y_D_isPlain ∈ AW := mem_AW (i := 818) (by decide +kernel) (by decide +kernel)
theorem m_im_D_isPlain : Cond.instanceMethod y_D_isPlain ∈ AW := mem_AW (i := 820) (by decide +kernel) (by decide +kernel)
theorem m_co_D_isPlain : Cond.code y_D_isPlain c_D_isPlain 2 (some .boolean) ∈ AW := mem_AW (i := 821) (by decide +kernel) (by decide +kernel)
theorem m_ml_D_99 : Cond.methodLink "FlowGateModel" 99 y_D_isRef ∈ AW := mem_AW (i := 822) (by decide +kernel) (by decide +kernel)
theorem m_im_D_isRef : Cond.instanceMethod y_D_isRef ∈ AW := mem_AW (i := 824) (by decide +kernel) (by decide +kernel)
theorem m_co_D_isRef : Cond.code y_D_isRef c_D_isRef 2 (some .boolean) ∈ AW := mem_AW (i := 825) (by decide +kernel) (by decide +kernel)
theorem m_ml_D_95 : Cond.methodLink "FlowGateModel" 95 y_D_isClass ∈ AW := mem_AW (i := 826) (by decide +kernel) (by decide +kernel)
theorem m_im_D_isClass : Cond.instanceMethod y_D_isClass ∈ AW := mem_AW (i := 828) (by decide +kernel) (by decide +kernel)
theorem m_co_D_isClass : Cond.code y_D_isClass c_D_isClass 2 (some .boolean) ∈ AW := mem_AW (i := 829) (by decide +kernel) (by decide +kernel)
theorem m_ml_L_27 : Cond.methodLink "FlowGateLaw" 27 y_D_argument ∈ AW := mem_AW (i := 830) (by decide +kernel) (by decide +kernel)
theorem m_im_D_argument : Cond.instanceMethod y_D_argument ∈ AW := mem_AW (i := 831) (by decide +kernel) (by decide +kernel)
theorem m_se_D_argument : Cond.selects "FlowGateModel" y_D_argument y_D_argument ∈ AW := mem_AW (i := 832) (by decide +kernel) (by decide +kernel)
theorem m_co_D_argument : Cond.code y_D_argument c_D_argument 2 (some .int) ∈ AW := mem_AW (i := 833) (by decide +kernel) (by decide +kernel)
theorem m_ml_L_31 : Cond.methodLink "FlowGateLaw" 31 y_D_add ∈ AW := mem_AW (i := 834) (by decide +kernel) (by decide +kernel)
theorem m_im_D_add : Cond.instanceMethod y_D_add ∈ AW := mem_AW (i := 835) (by decide +kernel) (by decide +kernel)
theorem m_se_D_add : Cond.selects "FlowGateModel" y_D_add y_D_add ∈ AW := mem_AW (i := 836) (by decide +kernel) (by decide +kernel)
theorem m_co_D_add : Cond.code y_D_add c_D_add 4 (some .int) ∈ AW := mem_AW (i := 837) (by decide +kernel) (by decide +kernel)
theorem m_ml_L_36 : Cond.methodLink "FlowGateLaw" 36 y_D_change ∈ AW := mem_AW (i := 838) (by decide +kernel) (by decide +kernel)
theorem m_im_D_change : Cond.instanceMethod y_D_change ∈ AW := mem_AW (i := 839) (by decide +kernel) (by decide +kernel)
theorem m_se_D_change : Cond.selects "FlowGateModel" y_D_change y_D_change ∈ AW := mem_AW (i := 840) (by decide +kernel) (by decide +kernel)
theorem m_co_D_change : Cond.code y_D_change c_D_change 6 (some .int) ∈ AW := mem_AW (i := 841) (by decide +kernel) (by decide +kernel)
theorem m_ml_L_40 : Cond.methodLink "FlowGateLaw" 40 y_D_handler ∈ AW := mem_AW (i := 842) (by decide +kernel) (by decide +kernel)
theorem m_im_D_handler : Cond.instanceMethod y_D_handler ∈ AW := mem_AW (i := 843) (by decide +kernel) (by decide +kernel)
theorem m_se_D_handler : Cond.selects "FlowGateModel" y_D_handler y_D_handler ∈ AW := mem_AW (i := 844) (by decide +kernel) (by decide +kernel)
theorem m_co_D_handler : Cond.code y_D_handler c_D_handler 5 (some .int) ∈ AW := mem_AW (i := 845) (by decide +kernel) (by decide +kernel)
theorem m_ml_L_45 : Cond.methodLink "FlowGateLaw" 45 y_D_verify ∈ AW := mem_AW (i := 846) (by decide +kernel) (by decide +kernel)
theorem m_im_D_verify : Cond.instanceMethod y_D_verify ∈ AW := mem_AW (i := 847) (by decide +kernel) (by decide +kernel)
theorem m_se_D_verify : Cond.selects "FlowGateModel" y_D_verify y_D_verify ∈ AW := mem_AW (i := 848) (by decide +kernel) (by decide +kernel)
theorem m_co_D_verify : Cond.code y_D_verify c_D_verify 2 (some .int) ∈ AW := mem_AW (i := 849) (by decide +kernel) (by decide +kernel)
theorem m_ml_D_146 : Cond.methodLink "FlowGateModel" 146 y_D_form ∈ AW := mem_AW (i := 850) (by decide +kernel) (by decide +kernel)
theorem m_im_D_form : Cond.instanceMethod y_D_form ∈ AW := mem_AW (i := 852) (by decide +kernel) (by decide +kernel)
theorem m_co_D_form : Cond.code y_D_form c_D_form 3 none ∈ AW := mem_AW (i := 853) (by decide +kernel) (by decide +kernel)
theorem m_ml_D_133 : Cond.methodLink "FlowGateModel" 133 y_D_fail ∈ AW := mem_AW (i := 854) (by decide +kernel) (by decide +kernel)
theorem m_im_D_fail : Cond.instanceMethod y_D_fail ∈ AW := mem_AW (i := 856) (by decide +kernel) (by decide +kernel)
theorem m_co_D_fail : Cond.code y_D_fail c_D_fail 3 none ∈ AW := mem_AW (i := 857) (by decide +kernel) (by decide +kernel)
theorem m_ml_D_137 : Cond.methodLink "FlowGateModel" 137 y_D_isFormed ∈ AW := mem_AW (i := 858) (by decide +kernel) (by decide +kernel)
theorem m_im_D_isFormed : Cond.instanceMethod y_D_isFormed ∈ AW := mem_AW (i := 860) (by decide +kernel) (by decide +kernel)
theorem m_co_D_isFormed : Cond.code y_D_isFormed c_D_isFormed 4 (some .boolean) ∈ AW := mem_AW (i := 861) (by decide +kernel) (by decide +kernel)
theorem m_ml_D_127 : Cond.methodLink "FlowGateModel" 127 y_D_isGoal ∈ AW := mem_AW (i := 862) (by decide +kernel) (by decide +kernel)
theorem m_im_D_isGoal : Cond.instanceMethod y_D_isGoal ∈ AW := mem_AW (i := 864) (by decide +kernel) (by decide +kernel)
theorem m_co_D_isGoal : Cond.code y_D_isGoal c_D_isGoal 2 (some .boolean) ∈ AW := mem_AW (i := 865) (by decide +kernel) (by decide +kernel)
theorem m_ml_D_102 : Cond.methodLink "FlowGateModel" 102 y_D_isBelow ∈ AW := mem_AW (i := 866) (by decide +kernel) (by decide +kernel)
theorem m_im_D_isBelow : Cond.instanceMethod y_D_isBelow ∈ AW := mem_AW (i := 868) (by decide +kernel) (by decide +kernel)
theorem m_co_D_isBelow : Cond.code y_D_isBelow c_D_isBelow 4 (some .boolean) ∈ AW := mem_AW (i := 869) (by decide +kernel) (by decide +kernel)
theorem m_ml_D_140 : Cond.methodLink "FlowGateModel" 140 y_D_isWide ∈ AW := mem_AW (i := 870) (by decide +kernel) (by decide +kernel)
theorem m_st_D_isWide : Cond.static y_D_isWide ∈ AW := mem_AW (i := 871) (by decide +kernel) (by decide +kernel)
theorem m_co_D_isWide : Cond.code y_D_isWide c_D_isWide 1 (some .boolean) ∈ AW := mem_AW (i := 872) (by decide +kernel) (by decide +kernel)
theorem m_ml_D_149 : Cond.methodLink "FlowGateModel" 149 y_D_begins ∈ AW := mem_AW (i := 873) (by decide +kernel) (by decide +kernel)
theorem m_im_D_begins : Cond.instanceMethod y_D_begins ∈ AW := mem_AW (i := 875) (by decide +kernel) (by decide +kernel)
theorem m_co_D_begins : Cond.code y_D_begins c_D_begins 3 none ∈ AW := mem_AW (i := 876) (by decide +kernel) (by decide +kernel)
theorem m_ml_D_172 : Cond.methodLink "FlowGateModel" 172 y_D_meet ∈ AW := mem_AW (i := 877) (by decide +kernel) (by decide +kernel)
theorem m_im_D_meet : Cond.instanceMethod y_D_meet ∈ AW := mem_AW (i := 879) (by decide +kernel) (by decide +kernel)
theorem m_co_D_meet : Cond.code y_D_meet c_D_meet 5 none ∈ AW := mem_AW (i := 880) (by decide +kernel) (by decide +kernel)
theorem m_ml_D_175 : Cond.methodLink "FlowGateModel" 175 y_D_joined ∈ AW := mem_AW (i := 881) (by decide +kernel) (by decide +kernel)
theorem m_im_D_joined : Cond.instanceMethod y_D_joined ∈ AW := mem_AW (i := 883) (by decide +kernel) (by decide +kernel)
theorem m_co_D_joined : Cond.code y_D_joined c_D_joined 9 (some .int) ∈ AW := mem_AW (i := 884) (by decide +kernel) (by decide +kernel)
theorem m_ml_D_152 : Cond.methodLink "FlowGateModel" 152 y_D_lookAt ∈ AW := mem_AW (i := 885) (by decide +kernel) (by decide +kernel)
theorem m_im_D_lookAt : Cond.instanceMethod y_D_lookAt ∈ AW := mem_AW (i := 887) (by decide +kernel) (by decide +kernel)
theorem m_co_D_lookAt : Cond.code y_D_lookAt c_D_lookAt 6 none ∈ AW := mem_AW (i := 888) (by decide +kernel) (by decide +kernel)
theorem m_ml_D_192 : Cond.methodLink "FlowGateModel" 192 y_D_copyOut ∈ AW := mem_AW (i := 889) (by decide +kernel) (by decide +kernel)
theorem m_im_D_copyOut : Cond.instanceMethod y_D_copyOut ∈ AW := mem_AW (i := 891) (by decide +kernel) (by decide +kernel)
theorem m_co_D_copyOut : Cond.code y_D_copyOut c_D_copyOut 2 none ∈ AW := mem_AW (i := 892) (by decide +kernel) (by decide +kernel)
theorem m_ml_D_179 : Cond.methodLink "FlowGateModel" 179 y_D_hasRaw ∈ AW := mem_AW (i := 893) (by decide +kernel) (by decide +kernel)
theorem m_im_D_hasRaw : Cond.instanceMethod y_D_hasRaw ∈ AW := mem_AW (i := 895) (by decide +kernel) (by decide +kernel)
theorem m_co_D_hasRaw : Cond.code y_D_hasRaw c_D_hasRaw 3 (some .boolean) ∈ AW := mem_AW (i := 896) (by decide +kernel) (by decide +kernel)
theorem m_ml_D_195 : Cond.methodLink "FlowGateModel" 195 y_D_back ∈ AW := mem_AW (i := 897) (by decide +kernel) (by decide +kernel)
theorem m_im_D_back : Cond.instanceMethod y_D_back ∈ AW := mem_AW (i := 899) (by decide +kernel) (by decide +kernel)
theorem m_co_D_back : Cond.code y_D_back c_D_back 6 none ∈ AW := mem_AW (i := 900) (by decide +kernel) (by decide +kernel)
theorem m_ml_D_230 : Cond.methodLink "FlowGateModel" 230 y_D_touches ∈ AW := mem_AW (i := 901) (by decide +kernel) (by decide +kernel)
theorem m_im_D_touches : Cond.instanceMethod y_D_touches ∈ AW := mem_AW (i := 903) (by decide +kernel) (by decide +kernel)
theorem m_co_D_touches : Cond.code y_D_touches c_D_touches 4 none ∈ AW := mem_AW (i := 904) (by decide +kernel) (by decide +kernel)
theorem m_ml_D_211 : Cond.methodLink "FlowGateModel" 211 y_D_go ∈ AW := mem_AW (i := 905) (by decide +kernel) (by decide +kernel)
theorem m_im_D_go : Cond.instanceMethod y_D_go ∈ AW := mem_AW (i := 907) (by decide +kernel) (by decide +kernel)
theorem m_co_D_go : Cond.code y_D_go c_D_go 3 none ∈ AW := mem_AW (i := 908) (by decide +kernel) (by decide +kernel)
theorem m_ml_D_198 : Cond.methodLink "FlowGateModel" 198 y_D_moves ∈ AW := mem_AW (i := 909) (by decide +kernel) (by decide +kernel)
theorem m_im_D_moves : Cond.instanceMethod y_D_moves ∈ AW := mem_AW (i := 911) (by decide +kernel) (by decide +kernel)
theorem m_co_D_moves : Cond.code y_D_moves c_D_moves 5 (some .boolean) ∈ AW := mem_AW (i := 912) (by decide +kernel) (by decide +kernel)
theorem m_ml_D_227 : Cond.methodLink "FlowGateModel" 227 y_D_put ∈ AW := mem_AW (i := 913) (by decide +kernel) (by decide +kernel)
theorem m_im_D_put : Cond.instanceMethod y_D_put ∈ AW := mem_AW (i := 915) (by decide +kernel) (by decide +kernel)
theorem m_co_D_put : Cond.code y_D_put c_D_put 2 (some .boolean) ∈ AW := mem_AW (i := 916) (by decide +kernel) (by decide +kernel)
theorem m_ml_D_214 : Cond.methodLink "FlowGateModel" 214 y_D_top ∈ AW := mem_AW (i := 917) (by decide +kernel) (by decide +kernel)
theorem m_im_D_top : Cond.instanceMethod y_D_top ∈ AW := mem_AW (i := 919) (by decide +kernel) (by decide +kernel)
theorem m_co_D_top : Cond.code y_D_top c_D_top 2 (some .int) ∈ AW := mem_AW (i := 920) (by decide +kernel) (by decide +kernel)
theorem m_ml_D_218 : Cond.methodLink "FlowGateModel" 218 y_D_drop ∈ AW := mem_AW (i := 921) (by decide +kernel) (by decide +kernel)
theorem m_im_D_drop : Cond.instanceMethod y_D_drop ∈ AW := mem_AW (i := 923) (by decide +kernel) (by decide +kernel)
theorem m_co_D_drop : Cond.code y_D_drop c_D_drop 1 none ∈ AW := mem_AW (i := 924) (by decide +kernel) (by decide +kernel)
theorem m_ml_D_233 : Cond.methodLink "FlowGateModel" 233 y_D_single ∈ AW := mem_AW (i := 925) (by decide +kernel) (by decide +kernel)
theorem m_im_D_single : Cond.instanceMethod y_D_single ∈ AW := mem_AW (i := 927) (by decide +kernel) (by decide +kernel)
theorem m_co_D_single : Cond.code y_D_single c_D_single 2 (some .boolean) ∈ AW := mem_AW (i := 928) (by decide +kernel) (by decide +kernel)
theorem m_ml_D_201 : Cond.methodLink "FlowGateModel" 201 y_D_flows ∈ AW := mem_AW (i := 929) (by decide +kernel) (by decide +kernel)
theorem m_im_D_flows : Cond.instanceMethod y_D_flows ∈ AW := mem_AW (i := 931) (by decide +kernel) (by decide +kernel)
theorem m_co_D_flows : Cond.code y_D_flows c_D_flows 4 (some .boolean) ∈ AW := mem_AW (i := 932) (by decide +kernel) (by decide +kernel)
theorem m_ml_D_224 : Cond.methodLink "FlowGateModel" 224 y_D_takes ∈ AW := mem_AW (i := 933) (by decide +kernel) (by decide +kernel)
theorem m_im_D_takes : Cond.instanceMethod y_D_takes ∈ AW := mem_AW (i := 935) (by decide +kernel) (by decide +kernel)
theorem m_co_D_takes : Cond.code y_D_takes c_D_takes 2 (some .boolean) ∈ AW := mem_AW (i := 936) (by decide +kernel) (by decide +kernel)
theorem m_ml_D_236 : Cond.methodLink "FlowGateModel" 236 y_D_takesRef ∈ AW := mem_AW (i := 937) (by decide +kernel) (by decide +kernel)
theorem m_im_D_takesRef : Cond.instanceMethod y_D_takesRef ∈ AW := mem_AW (i := 939) (by decide +kernel) (by decide +kernel)
theorem m_co_D_takesRef : Cond.code y_D_takesRef c_D_takesRef 1 (some .boolean) ∈ AW := mem_AW (i := 940) (by decide +kernel) (by decide +kernel)
theorem m_ml_D_240 : Cond.methodLink "FlowGateModel" 240 y_D_takesFor ∈ AW := mem_AW (i := 941) (by decide +kernel) (by decide +kernel)
theorem m_im_D_takesFor : Cond.instanceMethod y_D_takesFor ∈ AW := mem_AW (i := 943) (by decide +kernel) (by decide +kernel)
theorem m_co_D_takesFor : Cond.code y_D_takesFor c_D_takesFor 2 (some .boolean) ∈ AW := mem_AW (i := 944) (by decide +kernel) (by decide +kernel)
theorem m_ml_D_221 : Cond.methodLink "FlowGateModel" 221 y_D_goesFor ∈ AW := mem_AW (i := 945) (by decide +kernel) (by decide +kernel)
theorem m_im_D_goesFor : Cond.instanceMethod y_D_goesFor ∈ AW := mem_AW (i := 947) (by decide +kernel) (by decide +kernel)
theorem m_co_D_goesFor : Cond.code y_D_goesFor c_D_goesFor 5 (some .boolean) ∈ AW := mem_AW (i := 948) (by decide +kernel) (by decide +kernel)
theorem m_ml_D_204 : Cond.methodLink "FlowGateModel" 204 y_D_objects ∈ AW := mem_AW (i := 949) (by decide +kernel) (by decide +kernel)
theorem m_im_D_objects : Cond.instanceMethod y_D_objects ∈ AW := mem_AW (i := 951) (by decide +kernel) (by decide +kernel)
theorem m_co_D_objects : Cond.code y_D_objects c_D_objects 7 (some .boolean) ∈ AW := mem_AW (i := 952) (by decide +kernel) (by decide +kernel)
theorem m_ml_D_243 : Cond.methodLink "FlowGateModel" 243 y_D_takesRow ∈ AW := mem_AW (i := 953) (by decide +kernel) (by decide +kernel)
theorem m_im_D_takesRow : Cond.instanceMethod y_D_takesRow ∈ AW := mem_AW (i := 955) (by decide +kernel) (by decide +kernel)
theorem m_co_D_takesRow : Cond.code y_D_takesRow c_D_takesRow 2 (some .boolean) ∈ AW := mem_AW (i := 956) (by decide +kernel) (by decide +kernel)
theorem m_ml_D_208 : Cond.methodLink "FlowGateModel" 208 y_D_enters ∈ AW := mem_AW (i := 957) (by decide +kernel) (by decide +kernel)
theorem m_im_D_enters : Cond.instanceMethod y_D_enters ∈ AW := mem_AW (i := 959) (by decide +kernel) (by decide +kernel)
theorem m_co_D_enters : Cond.code y_D_enters c_D_enters 4 none ∈ AW := mem_AW (i := 960) (by decide +kernel) (by decide +kernel)
theorem m_ml_L_49 : Cond.methodLink "FlowGateLaw" 49 y_D_place ∈ AW := mem_AW (i := 961) (by decide +kernel) (by decide +kernel)
theorem m_im_D_place : Cond.instanceMethod y_D_place ∈ AW := mem_AW (i := 962) (by decide +kernel) (by decide +kernel)
theorem m_se_D_place : Cond.selects "FlowGateModel" y_D_place y_D_place ∈ AW := mem_AW (i := 963) (by decide +kernel) (by decide +kernel)
theorem m_co_D_place : Cond.code y_D_place c_D_place 1 (some .int) ∈ AW := mem_AW (i := 964) (by decide +kernel) (by decide +kernel)
theorem m_ml_L_54 : Cond.methodLink "FlowGateLaw" 54 y_D_state ∈ AW := mem_AW (i := 965) (by decide +kernel) (by decide +kernel)
theorem m_im_D_state : Cond.instanceMethod y_D_state ∈ AW := mem_AW (i := 966) (by decide +kernel) (by decide +kernel)
theorem m_se_D_state : Cond.selects "FlowGateModel" y_D_state y_D_state ∈ AW := mem_AW (i := 967) (by decide +kernel) (by decide +kernel)
theorem m_co_D_state : Cond.code y_D_state c_D_state 5 (some .int) ∈ AW := mem_AW (i := 968) (by decide +kernel) (by decide +kernel)
theorem m_ml_L_58 : Cond.methodLink "FlowGateLaw" 58 y_D_join ∈ AW := mem_AW (i := 969) (by decide +kernel) (by decide +kernel)
theorem m_im_D_join : Cond.instanceMethod y_D_join ∈ AW := mem_AW (i := 970) (by decide +kernel) (by decide +kernel)
theorem m_se_D_join : Cond.selects "FlowGateModel" y_D_join y_D_join ∈ AW := mem_AW (i := 971) (by decide +kernel) (by decide +kernel)
theorem m_co_D_join : Cond.code y_D_join c_D_join 3 (some .int) ∈ AW := mem_AW (i := 972) (by decide +kernel) (by decide +kernel)
theorem m_ml_L_62 : Cond.methodLink "FlowGateLaw" 62 y_D_goes ∈ AW := mem_AW (i := 973) (by decide +kernel) (by decide +kernel)
theorem m_im_D_goes : Cond.instanceMethod y_D_goes ∈ AW := mem_AW (i := 974) (by decide +kernel) (by decide +kernel)
theorem m_se_D_goes : Cond.selects "FlowGateModel" y_D_goes y_D_goes ∈ AW := mem_AW (i := 975) (by decide +kernel) (by decide +kernel)
theorem m_co_D_goes : Cond.code y_D_goes c_D_goes 3 (some .int) ∈ AW := mem_AW (i := 976) (by decide +kernel) (by decide +kernel)
theorem m_ml_L_66 : Cond.methodLink "FlowGateLaw" 66 y_D_count ∈ AW := mem_AW (i := 977) (by decide +kernel) (by decide +kernel)
theorem m_im_D_count : Cond.instanceMethod y_D_count ∈ AW := mem_AW (i := 978) (by decide +kernel) (by decide +kernel)
theorem m_se_D_count : Cond.selects "FlowGateModel" y_D_count y_D_count ∈ AW := mem_AW (i := 979) (by decide +kernel) (by decide +kernel)
theorem m_co_D_count : Cond.code y_D_count c_D_count 4 (some .int) ∈ AW := mem_AW (i := 980) (by decide +kernel) (by decide +kernel)
end
section
theorem d_G_init_0 : decode c_G_init 0 = .ok (.aload_n 0, 1) := by decide +kernel
theorem d_G_init_1 : decode c_G_init 1 = .ok (.invokespecial 1, 3) := by decide +kernel
theorem d_G_init_4 : decode c_G_init 4 = .ok (.aload_n 0, 1) := by decide +kernel
theorem d_G_init_5 : decode c_G_init 5 = .ok (.new 7, 3) := by decide +kernel
theorem d_G_init_8 : decode c_G_init 8 = .ok (.dup, 1) := by decide +kernel
theorem d_G_init_9 : decode c_G_init 9 = .ok (.invokespecial 9, 3) := by decide +kernel
theorem d_G_init_12 : decode c_G_init 12 = .ok (.putfield 10, 3) := by decide +kernel
theorem d_G_init_15 : decode c_G_init 15 = .ok (.aload_n 0, 1) := by decide +kernel
theorem d_G_init_16 : decode c_G_init 16 = .ok (.new 16, 3) := by decide +kernel
theorem d_G_init_19 : decode c_G_init 19 = .ok (.dup, 1) := by decide +kernel
theorem d_G_init_20 : decode c_G_init 20 = .ok (.invokespecial 18, 3) := by decide +kernel
theorem d_G_init_23 : decode c_G_init 23 = .ok (.putfield 19, 3) := by decide +kernel
theorem d_G_init_26 : decode c_G_init 26 = .ok (.aload_n 0, 1) := by decide +kernel
theorem d_G_init_27 : decode c_G_init 27 = .ok (.new 23, 3) := by decide +kernel
theorem d_G_init_30 : decode c_G_init 30 = .ok (.dup, 1) := by decide +kernel
theorem d_G_init_31 : decode c_G_init 31 = .ok (.aload_n 0, 1) := by decide +kernel
theorem d_G_init_32 : decode c_G_init 32 = .ok (.getfield 10, 3) := by decide +kernel
theorem d_G_init_35 : decode c_G_init 35 = .ok (.aload_n 0, 1) := by decide +kernel
theorem d_G_init_36 : decode c_G_init 36 = .ok (.getfield 19, 3) := by decide +kernel
theorem d_G_init_39 : decode c_G_init 39 = .ok (.invokespecial 25, 3) := by decide +kernel
theorem d_G_init_42 : decode c_G_init 42 = .ok (.putfield 28, 3) := by decide +kernel
theorem d_G_init_45 : decode c_G_init 45 = .ok (.aload_n 0, 1) := by decide +kernel
theorem d_G_init_46 : decode c_G_init 46 = .ok (.new 32, 3) := by decide +kernel
theorem d_G_init_49 : decode c_G_init 49 = .ok (.dup, 1) := by decide +kernel
theorem d_G_init_50 : decode c_G_init 50 = .ok (.aload_n 0, 1) := by decide +kernel
theorem d_G_init_51 : decode c_G_init 51 = .ok (.getfield 10, 3) := by decide +kernel
theorem d_G_init_54 : decode c_G_init 54 = .ok (.aload_n 0, 1) := by decide +kernel
theorem d_G_init_55 : decode c_G_init 55 = .ok (.getfield 19, 3) := by decide +kernel
theorem d_G_init_58 : decode c_G_init 58 = .ok (.invokespecial 34, 3) := by decide +kernel
theorem d_G_init_61 : decode c_G_init 61 = .ok (.putfield 35, 3) := by decide +kernel
theorem d_G_init_64 : decode c_G_init 64 = .ok (.aload_n 0, 1) := by decide +kernel
theorem d_G_init_65 : decode c_G_init 65 = .ok (.iconst (-1), 1) := by decide +kernel
theorem d_G_init_66 : decode c_G_init 66 = .ok (.putfield 39, 3) := by decide +kernel
theorem d_G_init_69 : decode c_G_init 69 = .ok (.return_, 1) := by decide +kernel
theorem d_G_cls_0 : decode c_G_cls 0 = .ok (.aload_n 0, 1) := by decide +kernel
theorem d_G_cls_1 : decode c_G_cls 1 = .ok (.getfield 10, 3) := by decide +kernel
theorem d_G_cls_4 : decode c_G_cls 4 = .ok (.iload_n 1, 1) := by decide +kernel
theorem d_G_cls_5 : decode c_G_cls 5 = .ok (.invokevirtual 43, 3) := by decide +kernel
theorem d_G_cls_8 : decode c_G_cls 8 = .ok (.ifCond .ne 5, 3) := by decide +kernel
theorem d_G_cls_11 : decode c_G_cls 11 = .ok (.iconst (-1), 1) := by decide +kernel
theorem d_G_cls_12 : decode c_G_cls 12 = .ok (.ireturn, 1) := by decide +kernel
theorem d_G_cls_13 : decode c_G_cls 13 = .ok (.aload_n 0, 1) := by decide +kernel
theorem d_G_cls_14 : decode c_G_cls 14 = .ok (.getfield 10, 3) := by decide +kernel
theorem d_G_cls_17 : decode c_G_cls 17 = .ok (.getfield 47, 3) := by decide +kernel
theorem d_G_cls_20 : decode c_G_cls 20 = .ok (.bipush 10, 2) := by decide +kernel
theorem d_G_cls_22 : decode c_G_cls 22 = .ok (.if_icmp .ne 6, 3) := by decide +kernel
theorem d_G_cls_25 : decode c_G_cls 25 = .ok (.bipush (-2), 2) := by decide +kernel
theorem d_G_cls_27 : decode c_G_cls 27 = .ok (.ireturn, 1) := by decide +kernel
theorem d_G_cls_28 : decode c_G_cls 28 = .ok (.aload_n 0, 1) := by decide +kernel
theorem d_G_cls_29 : decode c_G_cls 29 = .ok (.getfield 10, 3) := by decide +kernel
theorem d_G_cls_32 : decode c_G_cls 32 = .ok (.iload_n 1, 1) := by decide +kernel
theorem d_G_cls_33 : decode c_G_cls 33 = .ok (.iload_n 2, 1) := by decide +kernel
theorem d_G_cls_34 : decode c_G_cls 34 = .ok (.invokevirtual 50, 3) := by decide +kernel
theorem d_G_cls_37 : decode c_G_cls 37 = .ok (.ireturn, 1) := by decide +kernel
theorem d_G_begin_0 : decode c_G_begin 0 = .ok (.iload_n 1, 1) := by decide +kernel
theorem d_G_begin_1 : decode c_G_begin 1 = .ok (.ifCond .eq 16, 3) := by decide +kernel
theorem d_G_begin_4 : decode c_G_begin 4 = .ok (.aload_n 0, 1) := by decide +kernel
theorem d_G_begin_5 : decode c_G_begin 5 = .ok (.getfield 10, 3) := by decide +kernel
theorem d_G_begin_8 : decode c_G_begin 8 = .ok (.iload_n 1, 1) := by decide +kernel
theorem d_G_begin_9 : decode c_G_begin 9 = .ok (.invokevirtual 54, 3) := by decide +kernel
theorem d_G_begin_12 : decode c_G_begin 12 = .ok (.ifCond .ne 5, 3) := by decide +kernel
theorem d_G_begin_15 : decode c_G_begin 15 = .ok (.iconst (-1), 1) := by decide +kernel
theorem d_G_begin_16 : decode c_G_begin 16 = .ok (.ireturn, 1) := by decide +kernel
theorem d_G_begin_17 : decode c_G_begin 17 = .ok (.iload_n 2, 1) := by decide +kernel
theorem d_G_begin_18 : decode c_G_begin 18 = .ok (.ifCond .lt 19, 3) := by decide +kernel
theorem d_G_begin_21 : decode c_G_begin 21 = .ok (.iload_n 2, 1) := by decide +kernel
theorem d_G_begin_22 : decode c_G_begin 22 = .ok (.bipush 12, 2) := by decide +kernel
theorem d_G_begin_24 : decode c_G_begin 24 = .ok (.if_icmp .gt 13, 3) := by decide +kernel
theorem d_G_begin_27 : decode c_G_begin 27 = .ok (.iload_n 3, 1) := by decide +kernel
theorem d_G_begin_28 : decode c_G_begin 28 = .ok (.ifCond .lt 9, 3) := by decide +kernel
theorem d_G_begin_31 : decode c_G_begin 31 = .ok (.iload_n 3, 1) := by decide +kernel
theorem d_G_begin_32 : decode c_G_begin 32 = .ok (.bipush 12, 2) := by decide +kernel
theorem d_G_begin_34 : decode c_G_begin 34 = .ok (.if_icmp .le 5, 3) := by decide +kernel
theorem d_G_begin_37 : decode c_G_begin 37 = .ok (.iconst (-1), 1) := by decide +kernel
theorem d_G_begin_38 : decode c_G_begin 38 = .ok (.ireturn, 1) := by decide +kernel
theorem d_G_begin_39 : decode c_G_begin 39 = .ok (.aload_n 0, 1) := by decide +kernel
theorem d_G_begin_40 : decode c_G_begin 40 = .ok (.getfield 19, 3) := by decide +kernel
theorem d_G_begin_43 : decode c_G_begin 43 = .ok (.iload_n 1, 1) := by decide +kernel
theorem d_G_begin_44 : decode c_G_begin 44 = .ok (.iload_n 2, 1) := by decide +kernel
theorem d_G_begin_45 : decode c_G_begin 45 = .ok (.iload_n 3, 1) := by decide +kernel
theorem d_G_begin_46 : decode c_G_begin 46 = .ok (.invokevirtual 57, 3) := by decide +kernel
theorem d_G_begin_49 : decode c_G_begin 49 = .ok (.iconst 1, 1) := by decide +kernel
theorem d_G_begin_50 : decode c_G_begin 50 = .ok (.ireturn, 1) := by decide +kernel
theorem d_G_argument_0 : decode c_G_argument 0 = .ok (.aload_n 0, 1) := by decide +kernel
theorem d_G_argument_1 : decode c_G_argument 1 = .ok (.getfield 10, 3) := by decide +kernel
theorem d_G_argument_4 : decode c_G_argument 4 = .ok (.iload_n 1, 1) := by decide +kernel
theorem d_G_argument_5 : decode c_G_argument 5 = .ok (.invokevirtual 54, 3) := by decide +kernel
theorem d_G_argument_8 : decode c_G_argument 8 = .ok (.ifCond .ne 5, 3) := by decide +kernel
theorem d_G_argument_11 : decode c_G_argument 11 = .ok (.iconst (-1), 1) := by decide +kernel
theorem d_G_argument_12 : decode c_G_argument 12 = .ok (.ireturn, 1) := by decide +kernel
theorem d_G_argument_13 : decode c_G_argument 13 = .ok (.aload_n 0, 1) := by decide +kernel
theorem d_G_argument_14 : decode c_G_argument 14 = .ok (.getfield 19, 3) := by decide +kernel
theorem d_G_argument_17 : decode c_G_argument 17 = .ok (.getfield 61, 3) := by decide +kernel
theorem d_G_argument_20 : decode c_G_argument 20 = .ok (.bipush 6, 2) := by decide +kernel
theorem d_G_argument_22 : decode c_G_argument 22 = .ok (.if_icmp .ne 6, 3) := by decide +kernel
theorem d_G_argument_25 : decode c_G_argument 25 = .ok (.bipush (-2), 2) := by decide +kernel
theorem d_G_argument_27 : decode c_G_argument 27 = .ok (.ireturn, 1) := by decide +kernel
theorem d_G_argument_28 : decode c_G_argument 28 = .ok (.aload_n 0, 1) := by decide +kernel
theorem d_G_argument_29 : decode c_G_argument 29 = .ok (.getfield 19, 3) := by decide +kernel
theorem d_G_argument_32 : decode c_G_argument 32 = .ok (.iload_n 1, 1) := by decide +kernel
theorem d_G_argument_33 : decode c_G_argument 33 = .ok (.invokevirtual 64, 3) := by decide +kernel
theorem d_G_argument_36 : decode c_G_argument 36 = .ok (.ireturn, 1) := by decide +kernel
theorem d_G_add_0 : decode c_G_add 0 = .ok (.iload_n 1, 1) := by decide +kernel
theorem d_G_add_1 : decode c_G_add 1 = .ok (.invokestatic 68, 3) := by decide +kernel
theorem d_G_add_4 : decode c_G_add 4 = .ok (.ifCond .ne 5, 3) := by decide +kernel
theorem d_G_add_7 : decode c_G_add 7 = .ok (.iconst (-1), 1) := by decide +kernel
theorem d_G_add_8 : decode c_G_add 8 = .ok (.ireturn, 1) := by decide +kernel
theorem d_G_add_9 : decode c_G_add 9 = .ok (.aload_n 0, 1) := by decide +kernel
theorem d_G_add_10 : decode c_G_add 10 = .ok (.getfield 19, 3) := by decide +kernel
theorem d_G_add_13 : decode c_G_add 13 = .ok (.getfield 71, 3) := by decide +kernel
theorem d_G_add_16 : decode c_G_add 16 = .ok (.bipush 48, 2) := by decide +kernel
theorem d_G_add_18 : decode c_G_add 18 = .ok (.if_icmp .ne 6, 3) := by decide +kernel
theorem d_G_add_21 : decode c_G_add 21 = .ok (.bipush (-2), 2) := by decide +kernel
theorem d_G_add_23 : decode c_G_add 23 = .ok (.ireturn, 1) := by decide +kernel
theorem d_G_add_24 : decode c_G_add 24 = .ok (.aload_n 0, 1) := by decide +kernel
theorem d_G_add_25 : decode c_G_add 25 = .ok (.getfield 19, 3) := by decide +kernel
theorem d_G_add_28 : decode c_G_add 28 = .ok (.iload_n 1, 1) := by decide +kernel
theorem d_G_add_29 : decode c_G_add 29 = .ok (.iload_n 2, 1) := by decide +kernel
theorem d_G_add_30 : decode c_G_add 30 = .ok (.iload_n 3, 1) := by decide +kernel
theorem d_G_add_31 : decode c_G_add 31 = .ok (.invokevirtual 72, 3) := by decide +kernel
theorem d_G_add_34 : decode c_G_add 34 = .ok (.ireturn, 1) := by decide +kernel
theorem d_G_change_0 : decode c_G_change 0 = .ok (.aload_n 0, 1) := by decide +kernel
theorem d_G_change_1 : decode c_G_change 1 = .ok (.getfield 19, 3) := by decide +kernel
theorem d_G_change_4 : decode c_G_change 4 = .ok (.iload_n 1, 1) := by decide +kernel
theorem d_G_change_5 : decode c_G_change 5 = .ok (.invokevirtual 75, 3) := by decide +kernel
theorem d_G_change_8 : decode c_G_change 8 = .ok (.ifCond .eq 10, 3) := by decide +kernel
theorem d_G_change_11 : decode c_G_change 11 = .ok (.iload_n 2, 1) := by decide +kernel
theorem d_G_change_12 : decode c_G_change 12 = .ok (.invokestatic 68, 3) := by decide +kernel
theorem d_G_change_15 : decode c_G_change 15 = .ok (.ifCond .ne 5, 3) := by decide +kernel
theorem d_G_change_18 : decode c_G_change 18 = .ok (.iconst (-1), 1) := by decide +kernel
theorem d_G_change_19 : decode c_G_change 19 = .ok (.ireturn, 1) := by decide +kernel
theorem d_G_change_20 : decode c_G_change 20 = .ok (.aload_n 0, 1) := by decide +kernel
theorem d_G_change_21 : decode c_G_change 21 = .ok (.getfield 19, 3) := by decide +kernel
theorem d_G_change_24 : decode c_G_change 24 = .ok (.getfield 78, 3) := by decide +kernel
theorem d_G_change_27 : decode c_G_change 27 = .ok (.iload_n 1, 1) := by decide +kernel
theorem d_G_change_28 : decode c_G_change 28 = .ok (.iaload, 1) := by decide +kernel
theorem d_G_change_29 : decode c_G_change 29 = .ok (.istore 5, 2) := by decide +kernel
theorem d_G_change_31 : decode c_G_change 31 = .ok (.aload_n 0, 1) := by decide +kernel
theorem d_G_change_32 : decode c_G_change 32 = .ok (.getfield 19, 3) := by decide +kernel
theorem d_G_change_35 : decode c_G_change 35 = .ok (.iload_n 1, 1) := by decide +kernel
theorem d_G_change_36 : decode c_G_change 36 = .ok (.iload_n 2, 1) := by decide +kernel
theorem d_G_change_37 : decode c_G_change 37 = .ok (.iload_n 3, 1) := by decide +kernel
theorem d_G_change_38 : decode c_G_change 38 = .ok (.iload 4, 2) := by decide +kernel
theorem d_G_change_40 : decode c_G_change 40 = .ok (.invokevirtual 82, 3) := by decide +kernel
theorem d_G_change_43 : decode c_G_change 43 = .ok (.iload 5, 2) := by decide +kernel
theorem d_G_change_45 : decode c_G_change 45 = .ok (.ireturn, 1) := by decide +kernel
theorem d_G_handler_0 : decode c_G_handler 0 = .ok (.aload_n 0, 1) := by decide +kernel
theorem d_G_handler_1 : decode c_G_handler 1 = .ok (.getfield 19, 3) := by decide +kernel
theorem d_G_handler_4 : decode c_G_handler 4 = .ok (.getfield 86, 3) := by decide +kernel
theorem d_G_handler_7 : decode c_G_handler 7 = .ok (.iconst 3, 1) := by decide +kernel
theorem d_G_handler_8 : decode c_G_handler 8 = .ok (.if_icmp .ne 6, 3) := by decide +kernel
theorem d_G_handler_11 : decode c_G_handler 11 = .ok (.bipush (-2), 2) := by decide +kernel
theorem d_G_handler_13 : decode c_G_handler 13 = .ok (.ireturn, 1) := by decide +kernel
theorem d_G_handler_14 : decode c_G_handler 14 = .ok (.aload_n 0, 1) := by decide +kernel
theorem d_G_handler_15 : decode c_G_handler 15 = .ok (.getfield 19, 3) := by decide +kernel
theorem d_G_handler_18 : decode c_G_handler 18 = .ok (.iload_n 1, 1) := by decide +kernel
theorem d_G_handler_19 : decode c_G_handler 19 = .ok (.iload_n 2, 1) := by decide +kernel
theorem d_G_handler_20 : decode c_G_handler 20 = .ok (.iload_n 3, 1) := by decide +kernel
theorem d_G_handler_21 : decode c_G_handler 21 = .ok (.iload 4, 2) := by decide +kernel
theorem d_G_handler_23 : decode c_G_handler 23 = .ok (.invokevirtual 89, 3) := by decide +kernel
theorem d_G_handler_26 : decode c_G_handler 26 = .ok (.ireturn, 1) := by decide +kernel
theorem d_G_verify_0 : decode c_G_verify 0 = .ok (.aload_n 0, 1) := by decide +kernel
theorem d_G_verify_1 : decode c_G_verify 1 = .ok (.getfield 35, 3) := by decide +kernel
theorem d_G_verify_4 : decode c_G_verify 4 = .ok (.invokevirtual 93, 3) := by decide +kernel
theorem d_G_verify_7 : decode c_G_verify 7 = .ok (.aload_n 0, 1) := by decide +kernel
theorem d_G_verify_8 : decode c_G_verify 8 = .ok (.aload_n 0, 1) := by decide +kernel
theorem d_G_verify_9 : decode c_G_verify 9 = .ok (.getfield 28, 3) := by decide +kernel
theorem d_G_verify_12 : decode c_G_verify 12 = .ok (.invokevirtual 96, 3) := by decide +kernel
theorem d_G_verify_15 : decode c_G_verify 15 = .ok (.putfield 39, 3) := by decide +kernel
theorem d_G_verify_18 : decode c_G_verify 18 = .ok (.aload_n 0, 1) := by decide +kernel
theorem d_G_verify_19 : decode c_G_verify 19 = .ok (.getfield 39, 3) := by decide +kernel
theorem d_G_verify_22 : decode c_G_verify 22 = .ok (.iconst (-1), 1) := by decide +kernel
theorem d_G_verify_23 : decode c_G_verify 23 = .ok (.if_icmp .eq 5, 3) := by decide +kernel
theorem d_G_verify_26 : decode c_G_verify 26 = .ok (.iconst 1, 1) := by decide +kernel
theorem d_G_verify_27 : decode c_G_verify 27 = .ok (.ireturn, 1) := by decide +kernel
theorem d_G_verify_28 : decode c_G_verify 28 = .ok (.aload_n 0, 1) := by decide +kernel
theorem d_G_verify_29 : decode c_G_verify 29 = .ok (.getfield 35, 3) := by decide +kernel
theorem d_G_verify_32 : decode c_G_verify 32 = .ok (.invokevirtual 100, 3) := by decide +kernel
theorem d_G_verify_35 : decode c_G_verify 35 = .ok (.istore_n 1, 1) := by decide +kernel
theorem d_G_verify_36 : decode c_G_verify 36 = .ok (.iload_n 1, 1) := by decide +kernel
theorem d_G_verify_37 : decode c_G_verify 37 = .ok (.ifCond .eq 16, 3) := by decide +kernel
theorem d_G_verify_40 : decode c_G_verify 40 = .ok (.aload_n 0, 1) := by decide +kernel
theorem d_G_verify_41 : decode c_G_verify 41 = .ok (.aload_n 0, 1) := by decide +kernel
theorem d_G_verify_42 : decode c_G_verify 42 = .ok (.getfield 35, 3) := by decide +kernel
theorem d_G_verify_45 : decode c_G_verify 45 = .ok (.getfield 103, 3) := by decide +kernel
theorem d_G_verify_48 : decode c_G_verify 48 = .ok (.putfield 39, 3) := by decide +kernel
theorem d_G_verify_51 : decode c_G_verify 51 = .ok (.iload_n 1, 1) := by decide +kernel
theorem d_G_verify_52 : decode c_G_verify 52 = .ok (.ireturn, 1) := by decide +kernel
theorem d_G_verify_53 : decode c_G_verify 53 = .ok (.aload_n 0, 1) := by decide +kernel
theorem d_G_verify_54 : decode c_G_verify 54 = .ok (.dup, 1) := by decide +kernel
theorem d_G_verify_55 : decode c_G_verify 55 = .ok (.getfield 104, 3) := by decide +kernel
theorem d_G_verify_58 : decode c_G_verify 58 = .ok (.iconst 1, 1) := by decide +kernel
theorem d_G_verify_59 : decode c_G_verify 59 = .ok (.iadd, 1) := by decide +kernel
theorem d_G_verify_60 : decode c_G_verify 60 = .ok (.putfield 104, 3) := by decide +kernel
theorem d_G_verify_63 : decode c_G_verify 63 = .ok (.iconst 0, 1) := by decide +kernel
theorem d_G_verify_64 : decode c_G_verify 64 = .ok (.ireturn, 1) := by decide +kernel
theorem d_G_place_0 : decode c_G_place 0 = .ok (.aload_n 0, 1) := by decide +kernel
theorem d_G_place_1 : decode c_G_place 1 = .ok (.getfield 39, 3) := by decide +kernel
theorem d_G_place_4 : decode c_G_place 4 = .ok (.ireturn, 1) := by decide +kernel
theorem d_G_state_0 : decode c_G_state 0 = .ok (.iload_n 1, 1) := by decide +kernel
theorem d_G_state_1 : decode c_G_state 1 = .ok (.ifCond .lt 21, 3) := by decide +kernel
theorem d_G_state_4 : decode c_G_state 4 = .ok (.iload_n 1, 1) := by decide +kernel
theorem d_G_state_5 : decode c_G_state 5 = .ok (.bipush 48, 2) := by decide +kernel
theorem d_G_state_7 : decode c_G_state 7 = .ok (.if_icmp .ge 15, 3) := by decide +kernel
theorem d_G_state_10 : decode c_G_state 10 = .ok (.aload_n 0, 1) := by decide +kernel
theorem d_G_state_11 : decode c_G_state 11 = .ok (.getfield 35, 3) := by decide +kernel
theorem d_G_state_14 : decode c_G_state 14 = .ok (.getfield 107, 3) := by decide +kernel
theorem d_G_state_17 : decode c_G_state 17 = .ok (.iload_n 1, 1) := by decide +kernel
theorem d_G_state_18 : decode c_G_state 18 = .ok (.baload, 1) := by decide +kernel
theorem d_G_state_19 : decode c_G_state 19 = .ok (.ifCond .ne 5, 3) := by decide +kernel
theorem d_G_state_22 : decode c_G_state 22 = .ok (.iconst (-1), 1) := by decide +kernel
theorem d_G_state_23 : decode c_G_state 23 = .ok (.ireturn, 1) := by decide +kernel
theorem d_G_state_24 : decode c_G_state 24 = .ok (.aload_n 0, 1) := by decide +kernel
theorem d_G_state_25 : decode c_G_state 25 = .ok (.getfield 35, 3) := by decide +kernel
theorem d_G_state_28 : decode c_G_state 28 = .ok (.getfield 111, 3) := by decide +kernel
theorem d_G_state_31 : decode c_G_state 31 = .ok (.iload_n 1, 1) := by decide +kernel
theorem d_G_state_32 : decode c_G_state 32 = .ok (.aaload, 1) := by decide +kernel
theorem d_G_state_33 : decode c_G_state 33 = .ok (.iload_n 2, 1) := by decide +kernel
theorem d_G_state_34 : decode c_G_state 34 = .ok (.invokevirtual 115, 3) := by decide +kernel
theorem d_G_state_37 : decode c_G_state 37 = .ok (.ireturn, 1) := by decide +kernel
theorem d_G_join_0 : decode c_G_join 0 = .ok (.aload_n 0, 1) := by decide +kernel
theorem d_G_join_1 : decode c_G_join 1 = .ok (.getfield 10, 3) := by decide +kernel
theorem d_G_join_4 : decode c_G_join 4 = .ok (.iload_n 1, 1) := by decide +kernel
theorem d_G_join_5 : decode c_G_join 5 = .ok (.invokevirtual 120, 3) := by decide +kernel
theorem d_G_join_8 : decode c_G_join 8 = .ok (.ifCond .eq 14, 3) := by decide +kernel
theorem d_G_join_11 : decode c_G_join 11 = .ok (.aload_n 0, 1) := by decide +kernel
theorem d_G_join_12 : decode c_G_join 12 = .ok (.getfield 10, 3) := by decide +kernel
theorem d_G_join_15 : decode c_G_join 15 = .ok (.iload_n 2, 1) := by decide +kernel
theorem d_G_join_16 : decode c_G_join 16 = .ok (.invokevirtual 120, 3) := by decide +kernel
theorem d_G_join_19 : decode c_G_join 19 = .ok (.ifCond .ne 5, 3) := by decide +kernel
theorem d_G_join_22 : decode c_G_join 22 = .ok (.iconst (-1), 1) := by decide +kernel
theorem d_G_join_23 : decode c_G_join 23 = .ok (.ireturn, 1) := by decide +kernel
theorem d_G_join_24 : decode c_G_join 24 = .ok (.aload_n 0, 1) := by decide +kernel
theorem d_G_join_25 : decode c_G_join 25 = .ok (.getfield 10, 3) := by decide +kernel
theorem d_G_join_28 : decode c_G_join 28 = .ok (.iload_n 1, 1) := by decide +kernel
theorem d_G_join_29 : decode c_G_join 29 = .ok (.iload_n 2, 1) := by decide +kernel
theorem d_G_join_30 : decode c_G_join 30 = .ok (.invokevirtual 123, 3) := by decide +kernel
theorem d_G_join_33 : decode c_G_join 33 = .ok (.ireturn, 1) := by decide +kernel
theorem d_G_goes_0 : decode c_G_goes 0 = .ok (.aload_n 0, 1) := by decide +kernel
theorem d_G_goes_1 : decode c_G_goes 1 = .ok (.getfield 10, 3) := by decide +kernel
theorem d_G_goes_4 : decode c_G_goes 4 = .ok (.iload_n 1, 1) := by decide +kernel
theorem d_G_goes_5 : decode c_G_goes 5 = .ok (.invokevirtual 120, 3) := by decide +kernel
theorem d_G_goes_8 : decode c_G_goes 8 = .ok (.ifCond .eq 14, 3) := by decide +kernel
theorem d_G_goes_11 : decode c_G_goes 11 = .ok (.aload_n 0, 1) := by decide +kernel
theorem d_G_goes_12 : decode c_G_goes 12 = .ok (.getfield 10, 3) := by decide +kernel
theorem d_G_goes_15 : decode c_G_goes 15 = .ok (.iload_n 2, 1) := by decide +kernel
theorem d_G_goes_16 : decode c_G_goes 16 = .ok (.invokevirtual 120, 3) := by decide +kernel
theorem d_G_goes_19 : decode c_G_goes 19 = .ok (.ifCond .ne 5, 3) := by decide +kernel
theorem d_G_goes_22 : decode c_G_goes 22 = .ok (.iconst (-1), 1) := by decide +kernel
theorem d_G_goes_23 : decode c_G_goes 23 = .ok (.ireturn, 1) := by decide +kernel
theorem d_G_goes_24 : decode c_G_goes 24 = .ok (.aload_n 0, 1) := by decide +kernel
theorem d_G_goes_25 : decode c_G_goes 25 = .ok (.getfield 10, 3) := by decide +kernel
theorem d_G_goes_28 : decode c_G_goes 28 = .ok (.iload_n 1, 1) := by decide +kernel
theorem d_G_goes_29 : decode c_G_goes 29 = .ok (.iload_n 2, 1) := by decide +kernel
theorem d_G_goes_30 : decode c_G_goes 30 = .ok (.invokevirtual 127, 3) := by decide +kernel
theorem d_G_goes_33 : decode c_G_goes 33 = .ok (.ifCond .eq 7, 3) := by decide +kernel
theorem d_G_goes_36 : decode c_G_goes 36 = .ok (.iconst 1, 1) := by decide +kernel
theorem d_G_goes_37 : decode c_G_goes 37 = .ok (.goto 4, 3) := by decide +kernel
theorem d_G_goes_40 : decode c_G_goes 40 = .ok (.iconst 0, 1) := by decide +kernel
theorem d_G_goes_41 : decode c_G_goes 41 = .ok (.ireturn, 1) := by decide +kernel
theorem d_G_count_0 : decode c_G_count 0 = .ok (.iload_n 1, 1) := by decide +kernel
theorem d_G_count_1 : decode c_G_count 1 = .ok (.tableswitch 111 0 7 #[47, 55, 63, 71, 79, 87, 95, 100], 47) := by decide +kernel
theorem d_G_count_48 : decode c_G_count 48 = .ok (.aload_n 0, 1) := by decide +kernel
theorem d_G_count_49 : decode c_G_count 49 = .ok (.getfield 10, 3) := by decide +kernel
theorem d_G_count_52 : decode c_G_count 52 = .ok (.getfield 47, 3) := by decide +kernel
theorem d_G_count_55 : decode c_G_count 55 = .ok (.ireturn, 1) := by decide +kernel
theorem d_G_count_56 : decode c_G_count 56 = .ok (.aload_n 0, 1) := by decide +kernel
theorem d_G_count_57 : decode c_G_count 57 = .ok (.getfield 19, 3) := by decide +kernel
theorem d_G_count_60 : decode c_G_count 60 = .ok (.getfield 71, 3) := by decide +kernel
theorem d_G_count_63 : decode c_G_count 63 = .ok (.ireturn, 1) := by decide +kernel
theorem d_G_count_64 : decode c_G_count 64 = .ok (.aload_n 0, 1) := by decide +kernel
theorem d_G_count_65 : decode c_G_count 65 = .ok (.getfield 19, 3) := by decide +kernel
theorem d_G_count_68 : decode c_G_count 68 = .ok (.getfield 86, 3) := by decide +kernel
theorem d_G_count_71 : decode c_G_count 71 = .ok (.ireturn, 1) := by decide +kernel
theorem d_G_count_72 : decode c_G_count 72 = .ok (.aload_n 0, 1) := by decide +kernel
theorem d_G_count_73 : decode c_G_count 73 = .ok (.getfield 19, 3) := by decide +kernel
theorem d_G_count_76 : decode c_G_count 76 = .ok (.getfield 61, 3) := by decide +kernel
theorem d_G_count_79 : decode c_G_count 79 = .ok (.ireturn, 1) := by decide +kernel
theorem d_G_count_80 : decode c_G_count 80 = .ok (.aload_n 0, 1) := by decide +kernel
theorem d_G_count_81 : decode c_G_count 81 = .ok (.getfield 35, 3) := by decide +kernel
theorem d_G_count_84 : decode c_G_count 84 = .ok (.getfield 131, 3) := by decide +kernel
theorem d_G_count_87 : decode c_G_count 87 = .ok (.ireturn, 1) := by decide +kernel
theorem d_G_count_88 : decode c_G_count 88 = .ok (.aload_n 0, 1) := by decide +kernel
theorem d_G_count_89 : decode c_G_count 89 = .ok (.getfield 35, 3) := by decide +kernel
theorem d_G_count_92 : decode c_G_count 92 = .ok (.getfield 134, 3) := by decide +kernel
theorem d_G_count_95 : decode c_G_count 95 = .ok (.ireturn, 1) := by decide +kernel
theorem d_G_count_96 : decode c_G_count 96 = .ok (.aload_n 0, 1) := by decide +kernel
theorem d_G_count_97 : decode c_G_count 97 = .ok (.getfield 104, 3) := by decide +kernel
theorem d_G_count_100 : decode c_G_count 100 = .ok (.ireturn, 1) := by decide +kernel
theorem d_G_count_101 : decode c_G_count 101 = .ok (.aload_n 0, 1) := by decide +kernel
theorem d_G_count_102 : decode c_G_count 102 = .ok (.getfield 35, 3) := by decide +kernel
theorem d_G_count_105 : decode c_G_count 105 = .ok (.getfield 137, 3) := by decide +kernel
theorem d_G_count_108 : decode c_G_count 108 = .ok (.invokestatic 141, 3) := by decide +kernel
theorem d_G_count_111 : decode c_G_count 111 = .ok (.ireturn, 1) := by decide +kernel
theorem d_G_count_112 : decode c_G_count 112 = .ok (.iconst (-1), 1) := by decide +kernel
theorem d_G_count_113 : decode c_G_count 113 = .ok (.ireturn, 1) := by decide +kernel
theorem d_G_isOp_0 : decode c_G_isOp 0 = .ok (.iload_n 0, 1) := by decide +kernel
theorem d_G_isOp_1 : decode c_G_isOp 1 = .ok (.ifCond .lt 13, 3) := by decide +kernel
theorem d_G_isOp_4 : decode c_G_isOp 4 = .ok (.iload_n 0, 1) := by decide +kernel
theorem d_G_isOp_5 : decode c_G_isOp 5 = .ok (.bipush 30, 2) := by decide +kernel
theorem d_G_isOp_7 : decode c_G_isOp 7 = .ok (.if_icmp .gt 7, 3) := by decide +kernel
theorem d_G_isOp_10 : decode c_G_isOp 10 = .ok (.iconst 1, 1) := by decide +kernel
theorem d_G_isOp_11 : decode c_G_isOp 11 = .ok (.goto 4, 3) := by decide +kernel
theorem d_G_isOp_14 : decode c_G_isOp 14 = .ok (.iconst 0, 1) := by decide +kernel
theorem d_G_isOp_15 : decode c_G_isOp 15 = .ok (.ireturn, 1) := by decide +kernel
theorem d_G_isWide_0 : decode c_G_isWide 0 = .ok (.iload_n 0, 1) := by decide +kernel
theorem d_G_isWide_1 : decode c_G_isWide 1 = .ok (.iconst 3, 1) := by decide +kernel
theorem d_G_isWide_2 : decode c_G_isWide 2 = .ok (.if_icmp .eq 8, 3) := by decide +kernel
theorem d_G_isWide_5 : decode c_G_isWide 5 = .ok (.iload_n 0, 1) := by decide +kernel
theorem d_G_isWide_6 : decode c_G_isWide 6 = .ok (.iconst 4, 1) := by decide +kernel
theorem d_G_isWide_7 : decode c_G_isWide 7 = .ok (.if_icmp .ne 7, 3) := by decide +kernel
theorem d_G_isWide_10 : decode c_G_isWide 10 = .ok (.iconst 1, 1) := by decide +kernel
theorem d_G_isWide_11 : decode c_G_isWide 11 = .ok (.goto 4, 3) := by decide +kernel
theorem d_G_isWide_14 : decode c_G_isWide 14 = .ok (.iconst 0, 1) := by decide +kernel
theorem d_G_isWide_15 : decode c_G_isWide 15 = .ok (.ireturn, 1) := by decide +kernel
theorem d_G_widthOf_0 : decode c_G_widthOf 0 = .ok (.iload_n 0, 1) := by decide +kernel
theorem d_G_widthOf_1 : decode c_G_widthOf 1 = .ok (.iconst 3, 1) := by decide +kernel
theorem d_G_widthOf_2 : decode c_G_widthOf 2 = .ok (.if_icmp .eq 8, 3) := by decide +kernel
theorem d_G_widthOf_5 : decode c_G_widthOf 5 = .ok (.iload_n 0, 1) := by decide +kernel
theorem d_G_widthOf_6 : decode c_G_widthOf 6 = .ok (.iconst 4, 1) := by decide +kernel
theorem d_G_widthOf_7 : decode c_G_widthOf 7 = .ok (.if_icmp .ne 7, 3) := by decide +kernel
theorem d_G_widthOf_10 : decode c_G_widthOf 10 = .ok (.iconst 2, 1) := by decide +kernel
theorem d_G_widthOf_11 : decode c_G_widthOf 11 = .ok (.goto 4, 3) := by decide +kernel
theorem d_G_widthOf_14 : decode c_G_widthOf 14 = .ok (.iconst 1, 1) := by decide +kernel
theorem d_G_widthOf_15 : decode c_G_widthOf 15 = .ok (.ireturn, 1) := by decide +kernel
theorem d_G_isRaw_0 : decode c_G_isRaw 0 = .ok (.iload_n 0, 1) := by decide +kernel
theorem d_G_isRaw_1 : decode c_G_isRaw 1 = .ok (.sipush 1000, 3) := by decide +kernel
theorem d_G_isRaw_4 : decode c_G_isRaw 4 = .ok (.if_icmp .lt 14, 3) := by decide +kernel
theorem d_G_isRaw_7 : decode c_G_isRaw 7 = .ok (.iload_n 0, 1) := by decide +kernel
theorem d_G_isRaw_8 : decode c_G_isRaw 8 = .ok (.sipush 1048, 3) := by decide +kernel
theorem d_G_isRaw_11 : decode c_G_isRaw 11 = .ok (.if_icmp .ge 7, 3) := by decide +kernel
theorem d_G_isRaw_14 : decode c_G_isRaw 14 = .ok (.iconst 1, 1) := by decide +kernel
theorem d_G_isRaw_15 : decode c_G_isRaw 15 = .ok (.goto 4, 3) := by decide +kernel
theorem d_G_isRaw_18 : decode c_G_isRaw 18 = .ok (.iconst 0, 1) := by decide +kernel
theorem d_G_isRaw_19 : decode c_G_isRaw 19 = .ok (.ireturn, 1) := by decide +kernel
theorem d_G_isReturn_0 : decode c_G_isReturn 0 = .ok (.iload_n 0, 1) := by decide +kernel
theorem d_G_isReturn_1 : decode c_G_isReturn 1 = .ok (.sipush 2000, 3) := by decide +kernel
theorem d_G_isReturn_4 : decode c_G_isReturn 4 = .ok (.if_icmp .lt 14, 3) := by decide +kernel
theorem d_G_isReturn_7 : decode c_G_isReturn 7 = .ok (.iload_n 0, 1) := by decide +kernel
theorem d_G_isReturn_8 : decode c_G_isReturn 8 = .ok (.sipush 2048, 3) := by decide +kernel
theorem d_G_isReturn_11 : decode c_G_isReturn 11 = .ok (.if_icmp .ge 7, 3) := by decide +kernel
theorem d_G_isReturn_14 : decode c_G_isReturn 14 = .ok (.iconst 1, 1) := by decide +kernel
theorem d_G_isReturn_15 : decode c_G_isReturn 15 = .ok (.goto 4, 3) := by decide +kernel
theorem d_G_isReturn_18 : decode c_G_isReturn 18 = .ok (.iconst 0, 1) := by decide +kernel
theorem d_G_isReturn_19 : decode c_G_isReturn 19 = .ok (.ireturn, 1) := by decide +kernel
theorem d_D_init_0 : decode c_D_init 0 = .ok (.aload_n 0, 1) := by decide +kernel
theorem d_D_init_1 : decode c_D_init 1 = .ok (.invokespecial 1, 3) := by decide +kernel
theorem d_D_init_4 : decode c_D_init 4 = .ok (.aload_n 0, 1) := by decide +kernel
theorem d_D_init_5 : decode c_D_init 5 = .ok (.bipush 10, 2) := by decide +kernel
theorem d_D_init_7 : decode c_D_init 7 = .ok (.newarray .int, 2) := by decide +kernel
theorem d_D_init_9 : decode c_D_init 9 = .ok (.putfield 7, 3) := by decide +kernel
theorem d_D_init_12 : decode c_D_init 12 = .ok (.aload_n 0, 1) := by decide +kernel
theorem d_D_init_13 : decode c_D_init 13 = .ok (.bipush 10, 2) := by decide +kernel
theorem d_D_init_15 : decode c_D_init 15 = .ok (.newarray .boolean, 2) := by decide +kernel
theorem d_D_init_17 : decode c_D_init 17 = .ok (.putfield 13, 3) := by decide +kernel
theorem d_D_init_20 : decode c_D_init 20 = .ok (.aload_n 0, 1) := by decide +kernel
theorem d_D_init_21 : decode c_D_init 21 = .ok (.iconst 2, 1) := by decide +kernel
theorem d_D_init_22 : decode c_D_init 22 = .ok (.putfield 17, 3) := by decide +kernel
theorem d_D_init_25 : decode c_D_init 25 = .ok (.aload_n 0, 1) := by decide +kernel
theorem d_D_init_26 : decode c_D_init 26 = .ok (.bipush 48, 2) := by decide +kernel
theorem d_D_init_28 : decode c_D_init 28 = .ok (.newarray .int, 2) := by decide +kernel
theorem d_D_init_30 : decode c_D_init 30 = .ok (.putfield 21, 3) := by decide +kernel
theorem d_D_init_33 : decode c_D_init 33 = .ok (.aload_n 0, 1) := by decide +kernel
theorem d_D_init_34 : decode c_D_init 34 = .ok (.bipush 48, 2) := by decide +kernel
theorem d_D_init_36 : decode c_D_init 36 = .ok (.newarray .int, 2) := by decide +kernel
theorem d_D_init_38 : decode c_D_init 38 = .ok (.putfield 24, 3) := by decide +kernel
theorem d_D_init_41 : decode c_D_init 41 = .ok (.aload_n 0, 1) := by decide +kernel
theorem d_D_init_42 : decode c_D_init 42 = .ok (.bipush 48, 2) := by decide +kernel
theorem d_D_init_44 : decode c_D_init 44 = .ok (.newarray .int, 2) := by decide +kernel
theorem d_D_init_46 : decode c_D_init 46 = .ok (.putfield 27, 3) := by decide +kernel
theorem d_D_init_49 : decode c_D_init 49 = .ok (.aload_n 0, 1) := by decide +kernel
theorem d_D_init_50 : decode c_D_init 50 = .ok (.iconst 3, 1) := by decide +kernel
theorem d_D_init_51 : decode c_D_init 51 = .ok (.newarray .int, 2) := by decide +kernel
theorem d_D_init_53 : decode c_D_init 53 = .ok (.putfield 30, 3) := by decide +kernel
theorem d_D_init_56 : decode c_D_init 56 = .ok (.aload_n 0, 1) := by decide +kernel
theorem d_D_init_57 : decode c_D_init 57 = .ok (.iconst 3, 1) := by decide +kernel
theorem d_D_init_58 : decode c_D_init 58 = .ok (.newarray .int, 2) := by decide +kernel
theorem d_D_init_60 : decode c_D_init 60 = .ok (.putfield 33, 3) := by decide +kernel
theorem d_D_init_63 : decode c_D_init 63 = .ok (.aload_n 0, 1) := by decide +kernel
theorem d_D_init_64 : decode c_D_init 64 = .ok (.iconst 3, 1) := by decide +kernel
theorem d_D_init_65 : decode c_D_init 65 = .ok (.newarray .int, 2) := by decide +kernel
theorem d_D_init_67 : decode c_D_init 67 = .ok (.putfield 36, 3) := by decide +kernel
theorem d_D_init_70 : decode c_D_init 70 = .ok (.aload_n 0, 1) := by decide +kernel
theorem d_D_init_71 : decode c_D_init 71 = .ok (.iconst 3, 1) := by decide +kernel
theorem d_D_init_72 : decode c_D_init 72 = .ok (.newarray .int, 2) := by decide +kernel
theorem d_D_init_74 : decode c_D_init 74 = .ok (.putfield 39, 3) := by decide +kernel
theorem d_D_init_77 : decode c_D_init 77 = .ok (.aload_n 0, 1) := by decide +kernel
theorem d_D_init_78 : decode c_D_init 78 = .ok (.bipush 6, 2) := by decide +kernel
theorem d_D_init_80 : decode c_D_init 80 = .ok (.newarray .int, 2) := by decide +kernel
theorem d_D_init_82 : decode c_D_init 82 = .ok (.putfield 42, 3) := by decide +kernel
theorem d_D_init_85 : decode c_D_init 85 = .ok (.aload_n 0, 1) := by decide +kernel
theorem d_D_init_86 : decode c_D_init 86 = .ok (.bipush 48, 2) := by decide +kernel
theorem d_D_init_88 : decode c_D_init 88 = .ok (.newarray .boolean, 2) := by decide +kernel
theorem d_D_init_90 : decode c_D_init 90 = .ok (.putfield 45, 3) := by decide +kernel
theorem d_D_init_93 : decode c_D_init 93 = .ok (.aload_n 0, 1) := by decide +kernel
theorem d_D_init_94 : decode c_D_init 94 = .ok (.bipush 48, 2) := by decide +kernel
theorem d_D_init_96 : decode c_D_init 96 = .ok (.newarray .boolean, 2) := by decide +kernel
theorem d_D_init_98 : decode c_D_init 98 = .ok (.putfield 48, 3) := by decide +kernel
theorem d_D_init_101 : decode c_D_init 101 = .ok (.aload_n 0, 1) := by decide +kernel
theorem d_D_init_102 : decode c_D_init 102 = .ok (.sipush 576, 3) := by decide +kernel
theorem d_D_init_105 : decode c_D_init 105 = .ok (.newarray .int, 2) := by decide +kernel
theorem d_D_init_107 : decode c_D_init 107 = .ok (.putfield 51, 3) := by decide +kernel
theorem d_D_init_110 : decode c_D_init 110 = .ok (.aload_n 0, 1) := by decide +kernel
theorem d_D_init_111 : decode c_D_init 111 = .ok (.sipush 576, 3) := by decide +kernel
theorem d_D_init_114 : decode c_D_init 114 = .ok (.newarray .int, 2) := by decide +kernel
theorem d_D_init_116 : decode c_D_init 116 = .ok (.putfield 54, 3) := by decide +kernel
theorem d_D_init_119 : decode c_D_init 119 = .ok (.aload_n 0, 1) := by decide +kernel
theorem d_D_init_120 : decode c_D_init 120 = .ok (.bipush 48, 2) := by decide +kernel
theorem d_D_init_122 : decode c_D_init 122 = .ok (.newarray .int, 2) := by decide +kernel
theorem d_D_init_124 : decode c_D_init 124 = .ok (.putfield 57, 3) := by decide +kernel
theorem d_D_init_127 : decode c_D_init 127 = .ok (.aload_n 0, 1) := by decide +kernel
theorem d_D_init_128 : decode c_D_init 128 = .ok (.sipush 2304, 3) := by decide +kernel
theorem d_D_init_131 : decode c_D_init 131 = .ok (.newarray .int, 2) := by decide +kernel
theorem d_D_init_133 : decode c_D_init 133 = .ok (.putfield 60, 3) := by decide +kernel
theorem d_D_init_136 : decode c_D_init 136 = .ok (.aload_n 0, 1) := by decide +kernel
theorem d_D_init_137 : decode c_D_init 137 = .ok (.bipush 48, 2) := by decide +kernel
theorem d_D_init_139 : decode c_D_init 139 = .ok (.newarray .long, 2) := by decide +kernel
theorem d_D_init_141 : decode c_D_init 141 = .ok (.putfield 63, 3) := by decide +kernel
theorem d_D_init_144 : decode c_D_init 144 = .ok (.aload_n 0, 1) := by decide +kernel
theorem d_D_init_145 : decode c_D_init 145 = .ok (.bipush 48, 2) := by decide +kernel
theorem d_D_init_147 : decode c_D_init 147 = .ok (.newarray .long, 2) := by decide +kernel
theorem d_D_init_149 : decode c_D_init 149 = .ok (.putfield 67, 3) := by decide +kernel
theorem d_D_init_152 : decode c_D_init 152 = .ok (.aload_n 0, 1) := by decide +kernel
theorem d_D_init_153 : decode c_D_init 153 = .ok (.bipush 14, 2) := by decide +kernel
theorem d_D_init_155 : decode c_D_init 155 = .ok (.newarray .int, 2) := by decide +kernel
theorem d_D_init_157 : decode c_D_init 157 = .ok (.putfield 70, 3) := by decide +kernel
theorem d_D_init_160 : decode c_D_init 160 = .ok (.aload_n 0, 1) := by decide +kernel
theorem d_D_init_161 : decode c_D_init 161 = .ok (.bipush 20, 2) := by decide +kernel
theorem d_D_init_163 : decode c_D_init 163 = .ok (.newarray .int, 2) := by decide +kernel
theorem d_D_init_165 : decode c_D_init 165 = .ok (.putfield 73, 3) := by decide +kernel
theorem d_D_init_168 : decode c_D_init 168 = .ok (.aload_n 0, 1) := by decide +kernel
theorem d_D_init_169 : decode c_D_init 169 = .ok (.bipush 48, 2) := by decide +kernel
theorem d_D_init_171 : decode c_D_init 171 = .ok (.newarray .int, 2) := by decide +kernel
theorem d_D_init_173 : decode c_D_init 173 = .ok (.putfield 76, 3) := by decide +kernel
theorem d_D_init_176 : decode c_D_init 176 = .ok (.aload_n 0, 1) := by decide +kernel
theorem d_D_init_177 : decode c_D_init 177 = .ok (.bipush 12, 2) := by decide +kernel
theorem d_D_init_179 : decode c_D_init 179 = .ok (.newarray .int, 2) := by decide +kernel
theorem d_D_init_181 : decode c_D_init 181 = .ok (.putfield 79, 3) := by decide +kernel
theorem d_D_init_184 : decode c_D_init 184 = .ok (.aload_n 0, 1) := by decide +kernel
theorem d_D_init_185 : decode c_D_init 185 = .ok (.bipush 20, 2) := by decide +kernel
theorem d_D_init_187 : decode c_D_init 187 = .ok (.newarray .int, 2) := by decide +kernel
theorem d_D_init_189 : decode c_D_init 189 = .ok (.putfield 82, 3) := by decide +kernel
theorem d_D_init_192 : decode c_D_init 192 = .ok (.aload_n 0, 1) := by decide +kernel
theorem d_D_init_193 : decode c_D_init 193 = .ok (.bipush 48, 2) := by decide +kernel
theorem d_D_init_195 : decode c_D_init 195 = .ok (.newarray .int, 2) := by decide +kernel
theorem d_D_init_197 : decode c_D_init 197 = .ok (.putfield 85, 3) := by decide +kernel
theorem d_D_init_200 : decode c_D_init 200 = .ok (.aload_n 0, 1) := by decide +kernel
theorem d_D_init_201 : decode c_D_init 201 = .ok (.iconst (-1), 1) := by decide +kernel
theorem d_D_init_202 : decode c_D_init 202 = .ok (.putfield 88, 3) := by decide +kernel
theorem d_D_init_205 : decode c_D_init 205 = .ok (.aload_n 0, 1) := by decide +kernel
theorem d_D_init_206 : decode c_D_init 206 = .ok (.getfield 7, 3) := by decide +kernel
theorem d_D_init_209 : decode c_D_init 209 = .ok (.iconst 0, 1) := by decide +kernel
theorem d_D_init_210 : decode c_D_init 210 = .ok (.iconst (-1), 1) := by decide +kernel
theorem d_D_init_211 : decode c_D_init 211 = .ok (.iastore, 1) := by decide +kernel
theorem d_D_init_212 : decode c_D_init 212 = .ok (.return_, 1) := by decide +kernel
theorem d_D_in_0 : decode c_D_in 0 = .ok (.iload_n 0, 1) := by decide +kernel
theorem d_D_in_1 : decode c_D_in 1 = .ok (.iload_n 1, 1) := by decide +kernel
theorem d_D_in_2 : decode c_D_in 2 = .ok (.if_icmp .lt 12, 3) := by decide +kernel
theorem d_D_in_5 : decode c_D_in 5 = .ok (.iload_n 0, 1) := by decide +kernel
theorem d_D_in_6 : decode c_D_in 6 = .ok (.iload_n 2, 1) := by decide +kernel
theorem d_D_in_7 : decode c_D_in 7 = .ok (.if_icmp .gt 7, 3) := by decide +kernel
theorem d_D_in_10 : decode c_D_in 10 = .ok (.iconst 1, 1) := by decide +kernel
theorem d_D_in_11 : decode c_D_in 11 = .ok (.goto 4, 3) := by decide +kernel
theorem d_D_in_14 : decode c_D_in 14 = .ok (.iconst 0, 1) := by decide +kernel
theorem d_D_in_15 : decode c_D_in 15 = .ok (.ireturn, 1) := by decide +kernel
theorem d_D_isClass_0 : decode c_D_isClass 0 = .ok (.iload_n 1, 1) := by decide +kernel
theorem d_D_isClass_1 : decode c_D_isClass 1 = .ok (.bipush 16, 2) := by decide +kernel
theorem d_D_isClass_3 : decode c_D_isClass 3 = .ok (.bipush 16, 2) := by decide +kernel
theorem d_D_isClass_5 : decode c_D_isClass 5 = .ok (.aload_n 0, 1) := by decide +kernel
theorem d_D_isClass_6 : decode c_D_isClass 6 = .ok (.getfield 17, 3) := by decide +kernel
theorem d_D_isClass_9 : decode c_D_isClass 9 = .ok (.iadd, 1) := by decide +kernel
theorem d_D_isClass_10 : decode c_D_isClass 10 = .ok (.iconst 1, 1) := by decide +kernel
theorem d_D_isClass_11 : decode c_D_isClass 11 = .ok (.isub, 1) := by decide +kernel
theorem d_D_isClass_12 : decode c_D_isClass 12 = .ok (.invokestatic 91, 3) := by decide +kernel
theorem d_D_isClass_15 : decode c_D_isClass 15 = .ok (.ireturn, 1) := by decide +kernel
theorem d_D_isRef_0 : decode c_D_isRef 0 = .ok (.aload_n 0, 1) := by decide +kernel
theorem d_D_isRef_1 : decode c_D_isRef 1 = .ok (.iload_n 1, 1) := by decide +kernel
theorem d_D_isRef_2 : decode c_D_isRef 2 = .ok (.invokevirtual 95, 3) := by decide +kernel
theorem d_D_isRef_5 : decode c_D_isRef 5 = .ok (.ifCond .ne 35, 3) := by decide +kernel
theorem d_D_isRef_8 : decode c_D_isRef 8 = .ok (.iload_n 1, 1) := by decide +kernel
theorem d_D_isRef_9 : decode c_D_isRef 9 = .ok (.bipush 64, 2) := by decide +kernel
theorem d_D_isRef_11 : decode c_D_isRef 11 = .ok (.sipush 255, 3) := by decide +kernel
theorem d_D_isRef_14 : decode c_D_isRef 14 = .ok (.invokestatic 91, 3) := by decide +kernel
theorem d_D_isRef_17 : decode c_D_isRef 17 = .ok (.ifCond .eq 27, 3) := by decide +kernel
theorem d_D_isRef_20 : decode c_D_isRef 20 = .ok (.iload_n 1, 1) := by decide +kernel
theorem d_D_isRef_21 : decode c_D_isRef 21 = .ok (.bipush 64, 2) := by decide +kernel
theorem d_D_isRef_23 : decode c_D_isRef 23 = .ok (.irem, 1) := by decide +kernel
theorem d_D_isRef_24 : decode c_D_isRef 24 = .ok (.bipush 12, 2) := by decide +kernel
theorem d_D_isRef_26 : decode c_D_isRef 26 = .ok (.if_icmp .eq 14, 3) := by decide +kernel
theorem d_D_isRef_29 : decode c_D_isRef 29 = .ok (.aload_n 0, 1) := by decide +kernel
theorem d_D_isRef_30 : decode c_D_isRef 30 = .ok (.iload_n 1, 1) := by decide +kernel
theorem d_D_isRef_31 : decode c_D_isRef 31 = .ok (.bipush 64, 2) := by decide +kernel
theorem d_D_isRef_33 : decode c_D_isRef 33 = .ok (.irem, 1) := by decide +kernel
theorem d_D_isRef_34 : decode c_D_isRef 34 = .ok (.invokevirtual 95, 3) := by decide +kernel
theorem d_D_isRef_37 : decode c_D_isRef 37 = .ok (.ifCond .eq 7, 3) := by decide +kernel
theorem d_D_isRef_40 : decode c_D_isRef 40 = .ok (.iconst 1, 1) := by decide +kernel
theorem d_D_isRef_41 : decode c_D_isRef 41 = .ok (.goto 4, 3) := by decide +kernel
theorem d_D_isRef_44 : decode c_D_isRef 44 = .ok (.iconst 0, 1) := by decide +kernel
theorem d_D_isRef_45 : decode c_D_isRef 45 = .ok (.ireturn, 1) := by decide +kernel
theorem d_D_isWide_0 : decode c_D_isWide 0 = .ok (.iload_n 0, 1) := by decide +kernel
theorem d_D_isWide_1 : decode c_D_isWide 1 = .ok (.iconst 3, 1) := by decide +kernel
theorem d_D_isWide_2 : decode c_D_isWide 2 = .ok (.if_icmp .eq 8, 3) := by decide +kernel
theorem d_D_isWide_5 : decode c_D_isWide 5 = .ok (.iload_n 0, 1) := by decide +kernel
theorem d_D_isWide_6 : decode c_D_isWide 6 = .ok (.iconst 4, 1) := by decide +kernel
theorem d_D_isWide_7 : decode c_D_isWide 7 = .ok (.if_icmp .ne 7, 3) := by decide +kernel
theorem d_D_isWide_10 : decode c_D_isWide 10 = .ok (.iconst 1, 1) := by decide +kernel
theorem d_D_isWide_11 : decode c_D_isWide 11 = .ok (.goto 4, 3) := by decide +kernel
theorem d_D_isWide_14 : decode c_D_isWide 14 = .ok (.iconst 0, 1) := by decide +kernel
theorem d_D_isWide_15 : decode c_D_isWide 15 = .ok (.ireturn, 1) := by decide +kernel
theorem d_D_isBelow_0 : decode c_D_isBelow 0 = .ok (.iload_n 1, 1) := by decide +kernel
theorem d_D_isBelow_1 : decode c_D_isBelow 1 = .ok (.istore_n 3, 1) := by decide +kernel
theorem d_D_isBelow_2 : decode c_D_isBelow 2 = .ok (.iload_n 3, 1) := by decide +kernel
theorem d_D_isBelow_3 : decode c_D_isBelow 3 = .ok (.ifCond .lt 18, 3) := by decide +kernel
theorem d_D_isBelow_6 : decode c_D_isBelow 6 = .ok (.iload_n 3, 1) := by decide +kernel
theorem d_D_isBelow_7 : decode c_D_isBelow 7 = .ok (.iload_n 2, 1) := by decide +kernel
theorem d_D_isBelow_8 : decode c_D_isBelow 8 = .ok (.if_icmp .eq 13, 3) := by decide +kernel
theorem d_D_isBelow_11 : decode c_D_isBelow 11 = .ok (.aload_n 0, 1) := by decide +kernel
theorem d_D_isBelow_12 : decode c_D_isBelow 12 = .ok (.getfield 7, 3) := by decide +kernel
theorem d_D_isBelow_15 : decode c_D_isBelow 15 = .ok (.iload_n 3, 1) := by decide +kernel
theorem d_D_isBelow_16 : decode c_D_isBelow 16 = .ok (.iaload, 1) := by decide +kernel
theorem d_D_isBelow_17 : decode c_D_isBelow 17 = .ok (.istore_n 3, 1) := by decide +kernel
theorem d_D_isBelow_18 : decode c_D_isBelow 18 = .ok (.goto (-16), 3) := by decide +kernel
theorem d_D_isBelow_21 : decode c_D_isBelow 21 = .ok (.iload_n 3, 1) := by decide +kernel
theorem d_D_isBelow_22 : decode c_D_isBelow 22 = .ok (.iload_n 2, 1) := by decide +kernel
theorem d_D_isBelow_23 : decode c_D_isBelow 23 = .ok (.if_icmp .ne 7, 3) := by decide +kernel
theorem d_D_isBelow_26 : decode c_D_isBelow 26 = .ok (.iconst 1, 1) := by decide +kernel
theorem d_D_isBelow_27 : decode c_D_isBelow 27 = .ok (.goto 4, 3) := by decide +kernel
theorem d_D_isBelow_30 : decode c_D_isBelow 30 = .ok (.iconst 0, 1) := by decide +kernel
theorem d_D_isBelow_31 : decode c_D_isBelow 31 = .ok (.ireturn, 1) := by decide +kernel
theorem d_D_goesFor_0 : decode c_D_goesFor 0 = .ok (.iload_n 1, 1) := by decide +kernel
theorem d_D_goesFor_1 : decode c_D_goesFor 1 = .ok (.iload_n 2, 1) := by decide +kernel
theorem d_D_goesFor_2 : decode c_D_goesFor 2 = .ok (.if_icmp .ne 5, 3) := by decide +kernel
theorem d_D_goesFor_5 : decode c_D_goesFor 5 = .ok (.iconst 1, 1) := by decide +kernel
theorem d_D_goesFor_6 : decode c_D_goesFor 6 = .ok (.ireturn, 1) := by decide +kernel
theorem d_D_goesFor_7 : decode c_D_goesFor 7 = .ok (.iload_n 1, 1) := by decide +kernel
theorem d_D_goesFor_8 : decode c_D_goesFor 8 = .ok (.iconst 5, 1) := by decide +kernel
theorem d_D_goesFor_9 : decode c_D_goesFor 9 = .ok (.if_icmp .ne 9, 3) := by decide +kernel
theorem d_D_goesFor_12 : decode c_D_goesFor 12 = .ok (.aload_n 0, 1) := by decide +kernel
theorem d_D_goesFor_13 : decode c_D_goesFor 13 = .ok (.iload_n 2, 1) := by decide +kernel
theorem d_D_goesFor_14 : decode c_D_goesFor 14 = .ok (.invokevirtual 99, 3) := by decide +kernel
theorem d_D_goesFor_17 : decode c_D_goesFor 17 = .ok (.ireturn, 1) := by decide +kernel
theorem d_D_goesFor_18 : decode c_D_goesFor 18 = .ok (.iload_n 1, 1) := by decide +kernel
theorem d_D_goesFor_19 : decode c_D_goesFor 19 = .ok (.istore_n 3, 1) := by decide +kernel
theorem d_D_goesFor_20 : decode c_D_goesFor 20 = .ok (.iload_n 2, 1) := by decide +kernel
theorem d_D_goesFor_21 : decode c_D_goesFor 21 = .ok (.istore 4, 2) := by decide +kernel
theorem d_D_goesFor_23 : decode c_D_goesFor 23 = .ok (.iload_n 3, 1) := by decide +kernel
theorem d_D_goesFor_24 : decode c_D_goesFor 24 = .ok (.iload 4, 2) := by decide +kernel
theorem d_D_goesFor_26 : decode c_D_goesFor 26 = .ok (.if_icmp .eq 44, 3) := by decide +kernel
theorem d_D_goesFor_29 : decode c_D_goesFor 29 = .ok (.iload 4, 2) := by decide +kernel
theorem d_D_goesFor_31 : decode c_D_goesFor 31 = .ok (.bipush 16, 2) := by decide +kernel
theorem d_D_goesFor_33 : decode c_D_goesFor 33 = .ok (.if_icmp .eq 37, 3) := by decide +kernel
theorem d_D_goesFor_36 : decode c_D_goesFor 36 = .ok (.iload_n 3, 1) := by decide +kernel
theorem d_D_goesFor_37 : decode c_D_goesFor 37 = .ok (.bipush 64, 2) := by decide +kernel
theorem d_D_goesFor_39 : decode c_D_goesFor 39 = .ok (.sipush 255, 3) := by decide +kernel
theorem d_D_goesFor_42 : decode c_D_goesFor 42 = .ok (.invokestatic 91, 3) := by decide +kernel
theorem d_D_goesFor_45 : decode c_D_goesFor 45 = .ok (.ifCond .eq 25, 3) := by decide +kernel
theorem d_D_goesFor_48 : decode c_D_goesFor 48 = .ok (.iload 4, 2) := by decide +kernel
theorem d_D_goesFor_50 : decode c_D_goesFor 50 = .ok (.bipush 64, 2) := by decide +kernel
theorem d_D_goesFor_52 : decode c_D_goesFor 52 = .ok (.sipush 255, 3) := by decide +kernel
theorem d_D_goesFor_55 : decode c_D_goesFor 55 = .ok (.invokestatic 91, 3) := by decide +kernel
theorem d_D_goesFor_58 : decode c_D_goesFor 58 = .ok (.ifCond .eq 12, 3) := by decide +kernel
theorem d_D_goesFor_61 : decode c_D_goesFor 61 = .ok (.iinc 3 (-64), 3) := by decide +kernel
theorem d_D_goesFor_64 : decode c_D_goesFor 64 = .ok (.iinc 4 (-64), 3) := by decide +kernel
theorem d_D_goesFor_67 : decode c_D_goesFor 67 = .ok (.goto (-44), 3) := by decide +kernel
theorem d_D_goesFor_70 : decode c_D_goesFor 70 = .ok (.aload_n 0, 1) := by decide +kernel
theorem d_D_goesFor_71 : decode c_D_goesFor 71 = .ok (.iload_n 3, 1) := by decide +kernel
theorem d_D_goesFor_72 : decode c_D_goesFor 72 = .ok (.invokevirtual 99, 3) := by decide +kernel
theorem d_D_goesFor_75 : decode c_D_goesFor 75 = .ok (.ifCond .eq 12, 3) := by decide +kernel
theorem d_D_goesFor_78 : decode c_D_goesFor 78 = .ok (.aload_n 0, 1) := by decide +kernel
theorem d_D_goesFor_79 : decode c_D_goesFor 79 = .ok (.iload 4, 2) := by decide +kernel
theorem d_D_goesFor_81 : decode c_D_goesFor 81 = .ok (.invokevirtual 99, 3) := by decide +kernel
theorem d_D_goesFor_84 : decode c_D_goesFor 84 = .ok (.ifCond .ne 5, 3) := by decide +kernel
theorem d_D_goesFor_87 : decode c_D_goesFor 87 = .ok (.iconst 0, 1) := by decide +kernel
theorem d_D_goesFor_88 : decode c_D_goesFor 88 = .ok (.ireturn, 1) := by decide +kernel
theorem d_D_goesFor_89 : decode c_D_goesFor 89 = .ok (.iload_n 3, 1) := by decide +kernel
theorem d_D_goesFor_90 : decode c_D_goesFor 90 = .ok (.iload 4, 2) := by decide +kernel
theorem d_D_goesFor_92 : decode c_D_goesFor 92 = .ok (.if_icmp .eq 56, 3) := by decide +kernel
theorem d_D_goesFor_95 : decode c_D_goesFor 95 = .ok (.iload 4, 2) := by decide +kernel
theorem d_D_goesFor_97 : decode c_D_goesFor 97 = .ok (.bipush 16, 2) := by decide +kernel
theorem d_D_goesFor_99 : decode c_D_goesFor 99 = .ok (.if_icmp .eq 49, 3) := by decide +kernel
theorem d_D_goesFor_102 : decode c_D_goesFor 102 = .ok (.aload_n 0, 1) := by decide +kernel
theorem d_D_goesFor_103 : decode c_D_goesFor 103 = .ok (.iload_n 3, 1) := by decide +kernel
theorem d_D_goesFor_104 : decode c_D_goesFor 104 = .ok (.invokevirtual 95, 3) := by decide +kernel
theorem d_D_goesFor_107 : decode c_D_goesFor 107 = .ok (.ifCond .eq 45, 3) := by decide +kernel
theorem d_D_goesFor_110 : decode c_D_goesFor 110 = .ok (.aload_n 0, 1) := by decide +kernel
theorem d_D_goesFor_111 : decode c_D_goesFor 111 = .ok (.iload 4, 2) := by decide +kernel
theorem d_D_goesFor_113 : decode c_D_goesFor 113 = .ok (.invokevirtual 95, 3) := by decide +kernel
theorem d_D_goesFor_116 : decode c_D_goesFor 116 = .ok (.ifCond .eq 36, 3) := by decide +kernel
theorem d_D_goesFor_119 : decode c_D_goesFor 119 = .ok (.aload_n 0, 1) := by decide +kernel
theorem d_D_goesFor_120 : decode c_D_goesFor 120 = .ok (.getfield 13, 3) := by decide +kernel
theorem d_D_goesFor_123 : decode c_D_goesFor 123 = .ok (.iload 4, 2) := by decide +kernel
theorem d_D_goesFor_125 : decode c_D_goesFor 125 = .ok (.bipush 16, 2) := by decide +kernel
theorem d_D_goesFor_127 : decode c_D_goesFor 127 = .ok (.isub, 1) := by decide +kernel
theorem d_D_goesFor_128 : decode c_D_goesFor 128 = .ok (.baload, 1) := by decide +kernel
theorem d_D_goesFor_129 : decode c_D_goesFor 129 = .ok (.ifCond .ne 19, 3) := by decide +kernel
theorem d_D_goesFor_132 : decode c_D_goesFor 132 = .ok (.aload_n 0, 1) := by decide +kernel
theorem d_D_goesFor_133 : decode c_D_goesFor 133 = .ok (.iload_n 3, 1) := by decide +kernel
theorem d_D_goesFor_134 : decode c_D_goesFor 134 = .ok (.bipush 16, 2) := by decide +kernel
theorem d_D_goesFor_136 : decode c_D_goesFor 136 = .ok (.isub, 1) := by decide +kernel
theorem d_D_goesFor_137 : decode c_D_goesFor 137 = .ok (.iload 4, 2) := by decide +kernel
theorem d_D_goesFor_139 : decode c_D_goesFor 139 = .ok (.bipush 16, 2) := by decide +kernel
theorem d_D_goesFor_141 : decode c_D_goesFor 141 = .ok (.isub, 1) := by decide +kernel
theorem d_D_goesFor_142 : decode c_D_goesFor 142 = .ok (.invokevirtual 102, 3) := by decide +kernel
theorem d_D_goesFor_145 : decode c_D_goesFor 145 = .ok (.ifCond .eq 7, 3) := by decide +kernel
theorem d_D_goesFor_148 : decode c_D_goesFor 148 = .ok (.iconst 1, 1) := by decide +kernel
theorem d_D_goesFor_149 : decode c_D_goesFor 149 = .ok (.goto 4, 3) := by decide +kernel
theorem d_D_goesFor_152 : decode c_D_goesFor 152 = .ok (.iconst 0, 1) := by decide +kernel
theorem d_D_goesFor_153 : decode c_D_goesFor 153 = .ok (.ireturn, 1) := by decide +kernel
theorem d_D_joined_0 : decode c_D_joined 0 = .ok (.iload_n 1, 1) := by decide +kernel
theorem d_D_joined_1 : decode c_D_joined 1 = .ok (.iload_n 2, 1) := by decide +kernel
theorem d_D_joined_2 : decode c_D_joined 2 = .ok (.if_icmp .ne 5, 3) := by decide +kernel
theorem d_D_joined_5 : decode c_D_joined 5 = .ok (.iload_n 1, 1) := by decide +kernel
theorem d_D_joined_6 : decode c_D_joined 6 = .ok (.ireturn, 1) := by decide +kernel
theorem d_D_joined_7 : decode c_D_joined 7 = .ok (.iload_n 1, 1) := by decide +kernel
theorem d_D_joined_8 : decode c_D_joined 8 = .ok (.iconst 5, 1) := by decide +kernel
theorem d_D_joined_9 : decode c_D_joined 9 = .ok (.if_icmp .ne 13, 3) := by decide +kernel
theorem d_D_joined_12 : decode c_D_joined 12 = .ok (.aload_n 0, 1) := by decide +kernel
theorem d_D_joined_13 : decode c_D_joined 13 = .ok (.iload_n 2, 1) := by decide +kernel
theorem d_D_joined_14 : decode c_D_joined 14 = .ok (.invokevirtual 99, 3) := by decide +kernel
theorem d_D_joined_17 : decode c_D_joined 17 = .ok (.ifCond .eq 5, 3) := by decide +kernel
theorem d_D_joined_20 : decode c_D_joined 20 = .ok (.iload_n 2, 1) := by decide +kernel
theorem d_D_joined_21 : decode c_D_joined 21 = .ok (.ireturn, 1) := by decide +kernel
theorem d_D_joined_22 : decode c_D_joined 22 = .ok (.iload_n 2, 1) := by decide +kernel
theorem d_D_joined_23 : decode c_D_joined 23 = .ok (.iconst 5, 1) := by decide +kernel
theorem d_D_joined_24 : decode c_D_joined 24 = .ok (.if_icmp .ne 13, 3) := by decide +kernel
theorem d_D_joined_27 : decode c_D_joined 27 = .ok (.aload_n 0, 1) := by decide +kernel
theorem d_D_joined_28 : decode c_D_joined 28 = .ok (.iload_n 1, 1) := by decide +kernel
theorem d_D_joined_29 : decode c_D_joined 29 = .ok (.invokevirtual 99, 3) := by decide +kernel
theorem d_D_joined_32 : decode c_D_joined 32 = .ok (.ifCond .eq 5, 3) := by decide +kernel
theorem d_D_joined_35 : decode c_D_joined 35 = .ok (.iload_n 1, 1) := by decide +kernel
theorem d_D_joined_36 : decode c_D_joined 36 = .ok (.ireturn, 1) := by decide +kernel
theorem d_D_joined_37 : decode c_D_joined 37 = .ok (.aload_n 0, 1) := by decide +kernel
theorem d_D_joined_38 : decode c_D_joined 38 = .ok (.iload_n 1, 1) := by decide +kernel
theorem d_D_joined_39 : decode c_D_joined 39 = .ok (.invokevirtual 99, 3) := by decide +kernel
theorem d_D_joined_42 : decode c_D_joined 42 = .ok (.ifCond .eq 11, 3) := by decide +kernel
theorem d_D_joined_45 : decode c_D_joined 45 = .ok (.aload_n 0, 1) := by decide +kernel
theorem d_D_joined_46 : decode c_D_joined 46 = .ok (.iload_n 2, 1) := by decide +kernel
theorem d_D_joined_47 : decode c_D_joined 47 = .ok (.invokevirtual 99, 3) := by decide +kernel
theorem d_D_joined_50 : decode c_D_joined 50 = .ok (.ifCond .ne 5, 3) := by decide +kernel
theorem d_D_joined_53 : decode c_D_joined 53 = .ok (.iconst 0, 1) := by decide +kernel
theorem d_D_joined_54 : decode c_D_joined 54 = .ok (.ireturn, 1) := by decide +kernel
theorem d_D_joined_55 : decode c_D_joined 55 = .ok (.iload_n 1, 1) := by decide +kernel
theorem d_D_joined_56 : decode c_D_joined 56 = .ok (.bipush 64, 2) := by decide +kernel
theorem d_D_joined_58 : decode c_D_joined 58 = .ok (.idiv, 1) := by decide +kernel
theorem d_D_joined_59 : decode c_D_joined 59 = .ok (.istore_n 3, 1) := by decide +kernel
theorem d_D_joined_60 : decode c_D_joined 60 = .ok (.iload_n 2, 1) := by decide +kernel
theorem d_D_joined_61 : decode c_D_joined 61 = .ok (.bipush 64, 2) := by decide +kernel
theorem d_D_joined_63 : decode c_D_joined 63 = .ok (.idiv, 1) := by decide +kernel
theorem d_D_joined_64 : decode c_D_joined 64 = .ok (.istore 4, 2) := by decide +kernel
theorem d_D_joined_66 : decode c_D_joined 66 = .ok (.iload_n 1, 1) := by decide +kernel
theorem d_D_joined_67 : decode c_D_joined 67 = .ok (.bipush 64, 2) := by decide +kernel
theorem d_D_joined_69 : decode c_D_joined 69 = .ok (.irem, 1) := by decide +kernel
theorem d_D_joined_70 : decode c_D_joined 70 = .ok (.istore 5, 2) := by decide +kernel
theorem d_D_joined_72 : decode c_D_joined 72 = .ok (.iload_n 2, 1) := by decide +kernel
theorem d_D_joined_73 : decode c_D_joined 73 = .ok (.bipush 64, 2) := by decide +kernel
theorem d_D_joined_75 : decode c_D_joined 75 = .ok (.irem, 1) := by decide +kernel
theorem d_D_joined_76 : decode c_D_joined 76 = .ok (.istore 6, 2) := by decide +kernel
theorem d_D_joined_78 : decode c_D_joined 78 = .ok (.iload_n 3, 1) := by decide +kernel
theorem d_D_joined_79 : decode c_D_joined 79 = .ok (.iload 4, 2) := by decide +kernel
theorem d_D_joined_81 : decode c_D_joined 81 = .ok (.if_icmp .ge 7, 3) := by decide +kernel
theorem d_D_joined_84 : decode c_D_joined 84 = .ok (.iload_n 3, 1) := by decide +kernel
theorem d_D_joined_85 : decode c_D_joined 85 = .ok (.goto 5, 3) := by decide +kernel
theorem d_D_joined_88 : decode c_D_joined 88 = .ok (.iload 4, 2) := by decide +kernel
theorem d_D_joined_90 : decode c_D_joined 90 = .ok (.istore 7, 2) := by decide +kernel
theorem d_D_joined_92 : decode c_D_joined 92 = .ok (.iload_n 3, 1) := by decide +kernel
theorem d_D_joined_93 : decode c_D_joined 93 = .ok (.iload 4, 2) := by decide +kernel
theorem d_D_joined_95 : decode c_D_joined 95 = .ok (.if_icmp .ne 95, 3) := by decide +kernel
theorem d_D_joined_98 : decode c_D_joined 98 = .ok (.iload 5, 2) := by decide +kernel
theorem d_D_joined_100 : decode c_D_joined 100 = .ok (.bipush 12, 2) := by decide +kernel
theorem d_D_joined_102 : decode c_D_joined 102 = .ok (.if_icmp .eq 88, 3) := by decide +kernel
theorem d_D_joined_105 : decode c_D_joined 105 = .ok (.iload 6, 2) := by decide +kernel
theorem d_D_joined_107 : decode c_D_joined 107 = .ok (.bipush 12, 2) := by decide +kernel
theorem d_D_joined_109 : decode c_D_joined 109 = .ok (.if_icmp .eq 81, 3) := by decide +kernel
theorem d_D_joined_112 : decode c_D_joined 112 = .ok (.aload_n 0, 1) := by decide +kernel
theorem d_D_joined_113 : decode c_D_joined 113 = .ok (.getfield 13, 3) := by decide +kernel
theorem d_D_joined_116 : decode c_D_joined 116 = .ok (.iload 5, 2) := by decide +kernel
theorem d_D_joined_118 : decode c_D_joined 118 = .ok (.bipush 16, 2) := by decide +kernel
theorem d_D_joined_120 : decode c_D_joined 120 = .ok (.isub, 1) := by decide +kernel
theorem d_D_joined_121 : decode c_D_joined 121 = .ok (.baload, 1) := by decide +kernel
theorem d_D_joined_122 : decode c_D_joined 122 = .ok (.ifCond .ne 16, 3) := by decide +kernel
theorem d_D_joined_125 : decode c_D_joined 125 = .ok (.aload_n 0, 1) := by decide +kernel
theorem d_D_joined_126 : decode c_D_joined 126 = .ok (.getfield 13, 3) := by decide +kernel
theorem d_D_joined_129 : decode c_D_joined 129 = .ok (.iload 6, 2) := by decide +kernel
theorem d_D_joined_131 : decode c_D_joined 131 = .ok (.bipush 16, 2) := by decide +kernel
theorem d_D_joined_133 : decode c_D_joined 133 = .ok (.isub, 1) := by decide +kernel
theorem d_D_joined_134 : decode c_D_joined 134 = .ok (.baload, 1) := by decide +kernel
theorem d_D_joined_135 : decode c_D_joined 135 = .ok (.ifCond .eq 11, 3) := by decide +kernel
theorem d_D_joined_138 : decode c_D_joined 138 = .ok (.bipush 64, 2) := by decide +kernel
theorem d_D_joined_140 : decode c_D_joined 140 = .ok (.iload_n 3, 1) := by decide +kernel
theorem d_D_joined_141 : decode c_D_joined 141 = .ok (.imul, 1) := by decide +kernel
theorem d_D_joined_142 : decode c_D_joined 142 = .ok (.bipush 16, 2) := by decide +kernel
theorem d_D_joined_144 : decode c_D_joined 144 = .ok (.iadd, 1) := by decide +kernel
theorem d_D_joined_145 : decode c_D_joined 145 = .ok (.ireturn, 1) := by decide +kernel
theorem d_D_joined_146 : decode c_D_joined 146 = .ok (.iload 5, 2) := by decide +kernel
theorem d_D_joined_148 : decode c_D_joined 148 = .ok (.bipush 16, 2) := by decide +kernel
theorem d_D_joined_150 : decode c_D_joined 150 = .ok (.isub, 1) := by decide +kernel
theorem d_D_joined_151 : decode c_D_joined 151 = .ok (.istore 8, 2) := by decide +kernel
theorem d_D_joined_153 : decode c_D_joined 153 = .ok (.aload_n 0, 1) := by decide +kernel
theorem d_D_joined_154 : decode c_D_joined 154 = .ok (.iload 6, 2) := by decide +kernel
theorem d_D_joined_156 : decode c_D_joined 156 = .ok (.bipush 16, 2) := by decide +kernel
theorem d_D_joined_158 : decode c_D_joined 158 = .ok (.isub, 1) := by decide +kernel
theorem d_D_joined_159 : decode c_D_joined 159 = .ok (.iload 8, 2) := by decide +kernel
theorem d_D_joined_161 : decode c_D_joined 161 = .ok (.invokevirtual 102, 3) := by decide +kernel
theorem d_D_joined_164 : decode c_D_joined 164 = .ok (.ifCond .ne 15, 3) := by decide +kernel
theorem d_D_joined_167 : decode c_D_joined 167 = .ok (.aload_n 0, 1) := by decide +kernel
theorem d_D_joined_168 : decode c_D_joined 168 = .ok (.getfield 7, 3) := by decide +kernel
theorem d_D_joined_171 : decode c_D_joined 171 = .ok (.iload 8, 2) := by decide +kernel
theorem d_D_joined_173 : decode c_D_joined 173 = .ok (.iaload, 1) := by decide +kernel
theorem d_D_joined_174 : decode c_D_joined 174 = .ok (.istore 8, 2) := by decide +kernel
theorem d_D_joined_176 : decode c_D_joined 176 = .ok (.goto (-23), 3) := by decide +kernel
theorem d_D_joined_179 : decode c_D_joined 179 = .ok (.bipush 64, 2) := by decide +kernel
theorem d_D_joined_181 : decode c_D_joined 181 = .ok (.iload_n 3, 1) := by decide +kernel
theorem d_D_joined_182 : decode c_D_joined 182 = .ok (.imul, 1) := by decide +kernel
theorem d_D_joined_183 : decode c_D_joined 183 = .ok (.bipush 16, 2) := by decide +kernel
theorem d_D_joined_185 : decode c_D_joined 185 = .ok (.iadd, 1) := by decide +kernel
theorem d_D_joined_186 : decode c_D_joined 186 = .ok (.iload 8, 2) := by decide +kernel
theorem d_D_joined_188 : decode c_D_joined 188 = .ok (.iadd, 1) := by decide +kernel
theorem d_D_joined_189 : decode c_D_joined 189 = .ok (.ireturn, 1) := by decide +kernel
theorem d_D_joined_190 : decode c_D_joined 190 = .ok (.iload 5, 2) := by decide +kernel
theorem d_D_joined_192 : decode c_D_joined 192 = .ok (.bipush 12, 2) := by decide +kernel
theorem d_D_joined_194 : decode c_D_joined 194 = .ok (.if_icmp .ne 9, 3) := by decide +kernel
theorem d_D_joined_197 : decode c_D_joined 197 = .ok (.iload_n 3, 1) := by decide +kernel
theorem d_D_joined_198 : decode c_D_joined 198 = .ok (.iload 7, 2) := by decide +kernel
theorem d_D_joined_200 : decode c_D_joined 200 = .ok (.if_icmp .eq 17, 3) := by decide +kernel
theorem d_D_joined_203 : decode c_D_joined 203 = .ok (.iload 6, 2) := by decide +kernel
theorem d_D_joined_205 : decode c_D_joined 205 = .ok (.bipush 12, 2) := by decide +kernel
theorem d_D_joined_207 : decode c_D_joined 207 = .ok (.if_icmp .ne 13, 3) := by decide +kernel
theorem d_D_joined_210 : decode c_D_joined 210 = .ok (.iload 4, 2) := by decide +kernel
theorem d_D_joined_212 : decode c_D_joined 212 = .ok (.iload 7, 2) := by decide +kernel
theorem d_D_joined_214 : decode c_D_joined 214 = .ok (.if_icmp .ne 6, 3) := by decide +kernel
theorem d_D_joined_217 : decode c_D_joined 217 = .ok (.iinc 7 (-1), 3) := by decide +kernel
theorem d_D_joined_220 : decode c_D_joined 220 = .ok (.bipush 64, 2) := by decide +kernel
theorem d_D_joined_222 : decode c_D_joined 222 = .ok (.iload 7, 2) := by decide +kernel
theorem d_D_joined_224 : decode c_D_joined 224 = .ok (.imul, 1) := by decide +kernel
theorem d_D_joined_225 : decode c_D_joined 225 = .ok (.bipush 16, 2) := by decide +kernel
theorem d_D_joined_227 : decode c_D_joined 227 = .ok (.iadd, 1) := by decide +kernel
theorem d_D_joined_228 : decode c_D_joined 228 = .ok (.ireturn, 1) := by decide +kernel
theorem d_D_cls_0 : decode c_D_cls 0 = .ok (.iload_n 1, 1) := by decide +kernel
theorem d_D_cls_1 : decode c_D_cls 1 = .ok (.iconst 0, 1) := by decide +kernel
theorem d_D_cls_2 : decode c_D_cls 2 = .ok (.aload_n 0, 1) := by decide +kernel
theorem d_D_cls_3 : decode c_D_cls 3 = .ok (.getfield 17, 3) := by decide +kernel
theorem d_D_cls_6 : decode c_D_cls 6 = .ok (.iconst 1, 1) := by decide +kernel
theorem d_D_cls_7 : decode c_D_cls 7 = .ok (.isub, 1) := by decide +kernel
theorem d_D_cls_8 : decode c_D_cls 8 = .ok (.invokestatic 91, 3) := by decide +kernel
theorem d_D_cls_11 : decode c_D_cls 11 = .ok (.ifCond .ne 5, 3) := by decide +kernel
theorem d_D_cls_14 : decode c_D_cls 14 = .ok (.iconst (-1), 1) := by decide +kernel
theorem d_D_cls_15 : decode c_D_cls 15 = .ok (.ireturn, 1) := by decide +kernel
theorem d_D_cls_16 : decode c_D_cls 16 = .ok (.aload_n 0, 1) := by decide +kernel
theorem d_D_cls_17 : decode c_D_cls 17 = .ok (.getfield 17, 3) := by decide +kernel
theorem d_D_cls_20 : decode c_D_cls 20 = .ok (.bipush 10, 2) := by decide +kernel
theorem d_D_cls_22 : decode c_D_cls 22 = .ok (.if_icmp .ne 6, 3) := by decide +kernel
theorem d_D_cls_25 : decode c_D_cls 25 = .ok (.bipush (-2), 2) := by decide +kernel
theorem d_D_cls_27 : decode c_D_cls 27 = .ok (.ireturn, 1) := by decide +kernel
theorem d_D_cls_28 : decode c_D_cls 28 = .ok (.aload_n 0, 1) := by decide +kernel
theorem d_D_cls_29 : decode c_D_cls 29 = .ok (.getfield 7, 3) := by decide +kernel
theorem d_D_cls_32 : decode c_D_cls 32 = .ok (.aload_n 0, 1) := by decide +kernel
theorem d_D_cls_33 : decode c_D_cls 33 = .ok (.getfield 17, 3) := by decide +kernel
theorem d_D_cls_36 : decode c_D_cls 36 = .ok (.iload_n 1, 1) := by decide +kernel
theorem d_D_cls_37 : decode c_D_cls 37 = .ok (.iastore, 1) := by decide +kernel
theorem d_D_cls_38 : decode c_D_cls 38 = .ok (.aload_n 0, 1) := by decide +kernel
theorem d_D_cls_39 : decode c_D_cls 39 = .ok (.getfield 13, 3) := by decide +kernel
theorem d_D_cls_42 : decode c_D_cls 42 = .ok (.aload_n 0, 1) := by decide +kernel
theorem d_D_cls_43 : decode c_D_cls 43 = .ok (.getfield 17, 3) := by decide +kernel
theorem d_D_cls_46 : decode c_D_cls 46 = .ok (.iload_n 2, 1) := by decide +kernel
theorem d_D_cls_47 : decode c_D_cls 47 = .ok (.bastore, 1) := by decide +kernel
theorem d_D_cls_48 : decode c_D_cls 48 = .ok (.aload_n 0, 1) := by decide +kernel
theorem d_D_cls_49 : decode c_D_cls 49 = .ok (.dup, 1) := by decide +kernel
theorem d_D_cls_50 : decode c_D_cls 50 = .ok (.getfield 17, 3) := by decide +kernel
theorem d_D_cls_53 : decode c_D_cls 53 = .ok (.iconst 1, 1) := by decide +kernel
theorem d_D_cls_54 : decode c_D_cls 54 = .ok (.iadd, 1) := by decide +kernel
theorem d_D_cls_55 : decode c_D_cls 55 = .ok (.putfield 17, 3) := by decide +kernel
theorem d_D_cls_58 : decode c_D_cls 58 = .ok (.aload_n 0, 1) := by decide +kernel
theorem d_D_cls_59 : decode c_D_cls 59 = .ok (.getfield 17, 3) := by decide +kernel
theorem d_D_cls_62 : decode c_D_cls 62 = .ok (.iconst 1, 1) := by decide +kernel
theorem d_D_cls_63 : decode c_D_cls 63 = .ok (.isub, 1) := by decide +kernel
theorem d_D_cls_64 : decode c_D_cls 64 = .ok (.ireturn, 1) := by decide +kernel
theorem d_D_isPlain_0 : decode c_D_isPlain 0 = .ok (.iload_n 1, 1) := by decide +kernel
theorem d_D_isPlain_1 : decode c_D_isPlain 1 = .ok (.iconst 1, 1) := by decide +kernel
theorem d_D_isPlain_2 : decode c_D_isPlain 2 = .ok (.iconst 4, 1) := by decide +kernel
theorem d_D_isPlain_3 : decode c_D_isPlain 3 = .ok (.invokestatic 91, 3) := by decide +kernel
theorem d_D_isPlain_6 : decode c_D_isPlain 6 = .ok (.ifCond .ne 11, 3) := by decide +kernel
theorem d_D_isPlain_9 : decode c_D_isPlain 9 = .ok (.aload_n 0, 1) := by decide +kernel
theorem d_D_isPlain_10 : decode c_D_isPlain 10 = .ok (.iload_n 1, 1) := by decide +kernel
theorem d_D_isPlain_11 : decode c_D_isPlain 11 = .ok (.invokevirtual 99, 3) := by decide +kernel
theorem d_D_isPlain_14 : decode c_D_isPlain 14 = .ok (.ifCond .eq 7, 3) := by decide +kernel
theorem d_D_isPlain_17 : decode c_D_isPlain 17 = .ok (.iconst 1, 1) := by decide +kernel
theorem d_D_isPlain_18 : decode c_D_isPlain 18 = .ok (.goto 4, 3) := by decide +kernel
theorem d_D_isPlain_21 : decode c_D_isPlain 21 = .ok (.iconst 0, 1) := by decide +kernel
theorem d_D_isPlain_22 : decode c_D_isPlain 22 = .ok (.ireturn, 1) := by decide +kernel
theorem d_D_begin_0 : decode c_D_begin 0 = .ok (.iload_n 1, 1) := by decide +kernel
theorem d_D_begin_1 : decode c_D_begin 1 = .ok (.ifCond .eq 11, 3) := by decide +kernel
theorem d_D_begin_4 : decode c_D_begin 4 = .ok (.aload_n 0, 1) := by decide +kernel
theorem d_D_begin_5 : decode c_D_begin 5 = .ok (.iload_n 1, 1) := by decide +kernel
theorem d_D_begin_6 : decode c_D_begin 6 = .ok (.invokevirtual 106, 3) := by decide +kernel
theorem d_D_begin_9 : decode c_D_begin 9 = .ok (.ifCond .eq 23, 3) := by decide +kernel
theorem d_D_begin_12 : decode c_D_begin 12 = .ok (.iload_n 2, 1) := by decide +kernel
theorem d_D_begin_13 : decode c_D_begin 13 = .ok (.iconst 0, 1) := by decide +kernel
theorem d_D_begin_14 : decode c_D_begin 14 = .ok (.bipush 12, 2) := by decide +kernel
theorem d_D_begin_16 : decode c_D_begin 16 = .ok (.invokestatic 91, 3) := by decide +kernel
theorem d_D_begin_19 : decode c_D_begin 19 = .ok (.ifCond .eq 13, 3) := by decide +kernel
theorem d_D_begin_22 : decode c_D_begin 22 = .ok (.iload_n 3, 1) := by decide +kernel
theorem d_D_begin_23 : decode c_D_begin 23 = .ok (.iconst 0, 1) := by decide +kernel
theorem d_D_begin_24 : decode c_D_begin 24 = .ok (.bipush 12, 2) := by decide +kernel
theorem d_D_begin_26 : decode c_D_begin 26 = .ok (.invokestatic 91, 3) := by decide +kernel
theorem d_D_begin_29 : decode c_D_begin 29 = .ok (.ifCond .ne 5, 3) := by decide +kernel
theorem d_D_begin_32 : decode c_D_begin 32 = .ok (.iconst (-1), 1) := by decide +kernel
theorem d_D_begin_33 : decode c_D_begin 33 = .ok (.ireturn, 1) := by decide +kernel
theorem d_D_begin_34 : decode c_D_begin 34 = .ok (.aload_n 0, 1) := by decide +kernel
theorem d_D_begin_35 : decode c_D_begin 35 = .ok (.iload_n 1, 1) := by decide +kernel
theorem d_D_begin_36 : decode c_D_begin 36 = .ok (.putfield 109, 3) := by decide +kernel
theorem d_D_begin_39 : decode c_D_begin 39 = .ok (.aload_n 0, 1) := by decide +kernel
theorem d_D_begin_40 : decode c_D_begin 40 = .ok (.iload_n 2, 1) := by decide +kernel
theorem d_D_begin_41 : decode c_D_begin 41 = .ok (.putfield 112, 3) := by decide +kernel
theorem d_D_begin_44 : decode c_D_begin 44 = .ok (.aload_n 0, 1) := by decide +kernel
theorem d_D_begin_45 : decode c_D_begin 45 = .ok (.iload_n 3, 1) := by decide +kernel
theorem d_D_begin_46 : decode c_D_begin 46 = .ok (.putfield 115, 3) := by decide +kernel
theorem d_D_begin_49 : decode c_D_begin 49 = .ok (.aload_n 0, 1) := by decide +kernel
theorem d_D_begin_50 : decode c_D_begin 50 = .ok (.iconst 0, 1) := by decide +kernel
theorem d_D_begin_51 : decode c_D_begin 51 = .ok (.putfield 118, 3) := by decide +kernel
theorem d_D_begin_54 : decode c_D_begin 54 = .ok (.aload_n 0, 1) := by decide +kernel
theorem d_D_begin_55 : decode c_D_begin 55 = .ok (.iconst 0, 1) := by decide +kernel
theorem d_D_begin_56 : decode c_D_begin 56 = .ok (.putfield 121, 3) := by decide +kernel
theorem d_D_begin_59 : decode c_D_begin 59 = .ok (.aload_n 0, 1) := by decide +kernel
theorem d_D_begin_60 : decode c_D_begin 60 = .ok (.iconst 0, 1) := by decide +kernel
theorem d_D_begin_61 : decode c_D_begin 61 = .ok (.putfield 124, 3) := by decide +kernel
theorem d_D_begin_64 : decode c_D_begin 64 = .ok (.iconst 1, 1) := by decide +kernel
theorem d_D_begin_65 : decode c_D_begin 65 = .ok (.ireturn, 1) := by decide +kernel
theorem d_D_argument_0 : decode c_D_argument 0 = .ok (.aload_n 0, 1) := by decide +kernel
theorem d_D_argument_1 : decode c_D_argument 1 = .ok (.iload_n 1, 1) := by decide +kernel
theorem d_D_argument_2 : decode c_D_argument 2 = .ok (.invokevirtual 106, 3) := by decide +kernel
theorem d_D_argument_5 : decode c_D_argument 5 = .ok (.ifCond .ne 5, 3) := by decide +kernel
theorem d_D_argument_8 : decode c_D_argument 8 = .ok (.iconst (-1), 1) := by decide +kernel
theorem d_D_argument_9 : decode c_D_argument 9 = .ok (.ireturn, 1) := by decide +kernel
theorem d_D_argument_10 : decode c_D_argument 10 = .ok (.aload_n 0, 1) := by decide +kernel
theorem d_D_argument_11 : decode c_D_argument 11 = .ok (.getfield 124, 3) := by decide +kernel
theorem d_D_argument_14 : decode c_D_argument 14 = .ok (.bipush 6, 2) := by decide +kernel
theorem d_D_argument_16 : decode c_D_argument 16 = .ok (.if_icmp .ne 6, 3) := by decide +kernel
theorem d_D_argument_19 : decode c_D_argument 19 = .ok (.bipush (-2), 2) := by decide +kernel
theorem d_D_argument_21 : decode c_D_argument 21 = .ok (.ireturn, 1) := by decide +kernel
theorem d_D_argument_22 : decode c_D_argument 22 = .ok (.aload_n 0, 1) := by decide +kernel
theorem d_D_argument_23 : decode c_D_argument 23 = .ok (.getfield 42, 3) := by decide +kernel
theorem d_D_argument_26 : decode c_D_argument 26 = .ok (.aload_n 0, 1) := by decide +kernel
theorem d_D_argument_27 : decode c_D_argument 27 = .ok (.getfield 124, 3) := by decide +kernel
theorem d_D_argument_30 : decode c_D_argument 30 = .ok (.iload_n 1, 1) := by decide +kernel
theorem d_D_argument_31 : decode c_D_argument 31 = .ok (.iastore, 1) := by decide +kernel
theorem d_D_argument_32 : decode c_D_argument 32 = .ok (.aload_n 0, 1) := by decide +kernel
theorem d_D_argument_33 : decode c_D_argument 33 = .ok (.dup, 1) := by decide +kernel
theorem d_D_argument_34 : decode c_D_argument 34 = .ok (.getfield 124, 3) := by decide +kernel
theorem d_D_argument_37 : decode c_D_argument 37 = .ok (.iconst 1, 1) := by decide +kernel
theorem d_D_argument_38 : decode c_D_argument 38 = .ok (.iadd, 1) := by decide +kernel
theorem d_D_argument_39 : decode c_D_argument 39 = .ok (.putfield 124, 3) := by decide +kernel
theorem d_D_argument_42 : decode c_D_argument 42 = .ok (.aload_n 0, 1) := by decide +kernel
theorem d_D_argument_43 : decode c_D_argument 43 = .ok (.getfield 124, 3) := by decide +kernel
theorem d_D_argument_46 : decode c_D_argument 46 = .ok (.ireturn, 1) := by decide +kernel
theorem d_D_add_0 : decode c_D_add 0 = .ok (.iload_n 1, 1) := by decide +kernel
theorem d_D_add_1 : decode c_D_add 1 = .ok (.iconst 0, 1) := by decide +kernel
theorem d_D_add_2 : decode c_D_add 2 = .ok (.bipush 30, 2) := by decide +kernel
theorem d_D_add_4 : decode c_D_add 4 = .ok (.invokestatic 91, 3) := by decide +kernel
theorem d_D_add_7 : decode c_D_add 7 = .ok (.ifCond .ne 5, 3) := by decide +kernel
theorem d_D_add_10 : decode c_D_add 10 = .ok (.iconst (-1), 1) := by decide +kernel
theorem d_D_add_11 : decode c_D_add 11 = .ok (.ireturn, 1) := by decide +kernel
theorem d_D_add_12 : decode c_D_add 12 = .ok (.aload_n 0, 1) := by decide +kernel
theorem d_D_add_13 : decode c_D_add 13 = .ok (.getfield 118, 3) := by decide +kernel
theorem d_D_add_16 : decode c_D_add 16 = .ok (.bipush 48, 2) := by decide +kernel
theorem d_D_add_18 : decode c_D_add 18 = .ok (.if_icmp .ne 6, 3) := by decide +kernel
theorem d_D_add_21 : decode c_D_add 21 = .ok (.bipush (-2), 2) := by decide +kernel
theorem d_D_add_23 : decode c_D_add 23 = .ok (.ireturn, 1) := by decide +kernel
theorem d_D_add_24 : decode c_D_add 24 = .ok (.aload_n 0, 1) := by decide +kernel
theorem d_D_add_25 : decode c_D_add 25 = .ok (.getfield 21, 3) := by decide +kernel
theorem d_D_add_28 : decode c_D_add 28 = .ok (.aload_n 0, 1) := by decide +kernel
theorem d_D_add_29 : decode c_D_add 29 = .ok (.getfield 118, 3) := by decide +kernel
theorem d_D_add_32 : decode c_D_add 32 = .ok (.iload_n 1, 1) := by decide +kernel
theorem d_D_add_33 : decode c_D_add 33 = .ok (.iastore, 1) := by decide +kernel
theorem d_D_add_34 : decode c_D_add 34 = .ok (.aload_n 0, 1) := by decide +kernel
theorem d_D_add_35 : decode c_D_add 35 = .ok (.getfield 24, 3) := by decide +kernel
theorem d_D_add_38 : decode c_D_add 38 = .ok (.aload_n 0, 1) := by decide +kernel
theorem d_D_add_39 : decode c_D_add 39 = .ok (.getfield 118, 3) := by decide +kernel
theorem d_D_add_42 : decode c_D_add 42 = .ok (.iload_n 2, 1) := by decide +kernel
theorem d_D_add_43 : decode c_D_add 43 = .ok (.iastore, 1) := by decide +kernel
theorem d_D_add_44 : decode c_D_add 44 = .ok (.aload_n 0, 1) := by decide +kernel
theorem d_D_add_45 : decode c_D_add 45 = .ok (.getfield 27, 3) := by decide +kernel
theorem d_D_add_48 : decode c_D_add 48 = .ok (.aload_n 0, 1) := by decide +kernel
theorem d_D_add_49 : decode c_D_add 49 = .ok (.getfield 118, 3) := by decide +kernel
theorem d_D_add_52 : decode c_D_add 52 = .ok (.iload_n 3, 1) := by decide +kernel
theorem d_D_add_53 : decode c_D_add 53 = .ok (.iastore, 1) := by decide +kernel
theorem d_D_add_54 : decode c_D_add 54 = .ok (.aload_n 0, 1) := by decide +kernel
theorem d_D_add_55 : decode c_D_add 55 = .ok (.dup, 1) := by decide +kernel
theorem d_D_add_56 : decode c_D_add 56 = .ok (.getfield 118, 3) := by decide +kernel
theorem d_D_add_59 : decode c_D_add 59 = .ok (.iconst 1, 1) := by decide +kernel
theorem d_D_add_60 : decode c_D_add 60 = .ok (.iadd, 1) := by decide +kernel
theorem d_D_add_61 : decode c_D_add 61 = .ok (.putfield 118, 3) := by decide +kernel
theorem d_D_add_64 : decode c_D_add 64 = .ok (.aload_n 0, 1) := by decide +kernel
theorem d_D_add_65 : decode c_D_add 65 = .ok (.getfield 118, 3) := by decide +kernel
theorem d_D_add_68 : decode c_D_add 68 = .ok (.iconst 1, 1) := by decide +kernel
theorem d_D_add_69 : decode c_D_add 69 = .ok (.isub, 1) := by decide +kernel
theorem d_D_add_70 : decode c_D_add 70 = .ok (.ireturn, 1) := by decide +kernel
end
section
theorem d_D_change_0 : decode c_D_change 0 = .ok (.iload_n 1, 1) := by decide +kernel
theorem d_D_change_1 : decode c_D_change 1 = .ok (.iconst 0, 1) := by decide +kernel
theorem d_D_change_2 : decode c_D_change 2 = .ok (.aload_n 0, 1) := by decide +kernel
theorem d_D_change_3 : decode c_D_change 3 = .ok (.getfield 118, 3) := by decide +kernel
theorem d_D_change_6 : decode c_D_change 6 = .ok (.iconst 1, 1) := by decide +kernel
theorem d_D_change_7 : decode c_D_change 7 = .ok (.isub, 1) := by decide +kernel
theorem d_D_change_8 : decode c_D_change 8 = .ok (.invokestatic 91, 3) := by decide +kernel
theorem d_D_change_11 : decode c_D_change 11 = .ok (.ifCond .eq 13, 3) := by decide +kernel
theorem d_D_change_14 : decode c_D_change 14 = .ok (.iload_n 2, 1) := by decide +kernel
theorem d_D_change_15 : decode c_D_change 15 = .ok (.iconst 0, 1) := by decide +kernel
theorem d_D_change_16 : decode c_D_change 16 = .ok (.bipush 30, 2) := by decide +kernel
theorem d_D_change_18 : decode c_D_change 18 = .ok (.invokestatic 91, 3) := by decide +kernel
theorem d_D_change_21 : decode c_D_change 21 = .ok (.ifCond .ne 5, 3) := by decide +kernel
theorem d_D_change_24 : decode c_D_change 24 = .ok (.iconst (-1), 1) := by decide +kernel
theorem d_D_change_25 : decode c_D_change 25 = .ok (.ireturn, 1) := by decide +kernel
theorem d_D_change_26 : decode c_D_change 26 = .ok (.aload_n 0, 1) := by decide +kernel
theorem d_D_change_27 : decode c_D_change 27 = .ok (.getfield 21, 3) := by decide +kernel
theorem d_D_change_30 : decode c_D_change 30 = .ok (.iload_n 1, 1) := by decide +kernel
theorem d_D_change_31 : decode c_D_change 31 = .ok (.iaload, 1) := by decide +kernel
theorem d_D_change_32 : decode c_D_change 32 = .ok (.istore 5, 2) := by decide +kernel
theorem d_D_change_34 : decode c_D_change 34 = .ok (.aload_n 0, 1) := by decide +kernel
theorem d_D_change_35 : decode c_D_change 35 = .ok (.getfield 21, 3) := by decide +kernel
theorem d_D_change_38 : decode c_D_change 38 = .ok (.iload_n 1, 1) := by decide +kernel
theorem d_D_change_39 : decode c_D_change 39 = .ok (.iload_n 2, 1) := by decide +kernel
theorem d_D_change_40 : decode c_D_change 40 = .ok (.iastore, 1) := by decide +kernel
theorem d_D_change_41 : decode c_D_change 41 = .ok (.aload_n 0, 1) := by decide +kernel
theorem d_D_change_42 : decode c_D_change 42 = .ok (.getfield 24, 3) := by decide +kernel
theorem d_D_change_45 : decode c_D_change 45 = .ok (.iload_n 1, 1) := by decide +kernel
theorem d_D_change_46 : decode c_D_change 46 = .ok (.iload_n 3, 1) := by decide +kernel
theorem d_D_change_47 : decode c_D_change 47 = .ok (.iastore, 1) := by decide +kernel
theorem d_D_change_48 : decode c_D_change 48 = .ok (.aload_n 0, 1) := by decide +kernel
theorem d_D_change_49 : decode c_D_change 49 = .ok (.getfield 27, 3) := by decide +kernel
theorem d_D_change_52 : decode c_D_change 52 = .ok (.iload_n 1, 1) := by decide +kernel
theorem d_D_change_53 : decode c_D_change 53 = .ok (.iload 4, 2) := by decide +kernel
theorem d_D_change_55 : decode c_D_change 55 = .ok (.iastore, 1) := by decide +kernel
theorem d_D_change_56 : decode c_D_change 56 = .ok (.iload 5, 2) := by decide +kernel
theorem d_D_change_58 : decode c_D_change 58 = .ok (.ireturn, 1) := by decide +kernel
theorem d_D_handler_0 : decode c_D_handler 0 = .ok (.aload_n 0, 1) := by decide +kernel
theorem d_D_handler_1 : decode c_D_handler 1 = .ok (.getfield 121, 3) := by decide +kernel
theorem d_D_handler_4 : decode c_D_handler 4 = .ok (.iconst 3, 1) := by decide +kernel
theorem d_D_handler_5 : decode c_D_handler 5 = .ok (.if_icmp .ne 6, 3) := by decide +kernel
theorem d_D_handler_8 : decode c_D_handler 8 = .ok (.bipush (-2), 2) := by decide +kernel
theorem d_D_handler_10 : decode c_D_handler 10 = .ok (.ireturn, 1) := by decide +kernel
theorem d_D_handler_11 : decode c_D_handler 11 = .ok (.aload_n 0, 1) := by decide +kernel
theorem d_D_handler_12 : decode c_D_handler 12 = .ok (.getfield 30, 3) := by decide +kernel
theorem d_D_handler_15 : decode c_D_handler 15 = .ok (.aload_n 0, 1) := by decide +kernel
theorem d_D_handler_16 : decode c_D_handler 16 = .ok (.getfield 121, 3) := by decide +kernel
theorem d_D_handler_19 : decode c_D_handler 19 = .ok (.iload_n 1, 1) := by decide +kernel
theorem d_D_handler_20 : decode c_D_handler 20 = .ok (.iastore, 1) := by decide +kernel
theorem d_D_handler_21 : decode c_D_handler 21 = .ok (.aload_n 0, 1) := by decide +kernel
theorem d_D_handler_22 : decode c_D_handler 22 = .ok (.getfield 33, 3) := by decide +kernel
theorem d_D_handler_25 : decode c_D_handler 25 = .ok (.aload_n 0, 1) := by decide +kernel
theorem d_D_handler_26 : decode c_D_handler 26 = .ok (.getfield 121, 3) := by decide +kernel
theorem d_D_handler_29 : decode c_D_handler 29 = .ok (.iload_n 2, 1) := by decide +kernel
theorem d_D_handler_30 : decode c_D_handler 30 = .ok (.iastore, 1) := by decide +kernel
theorem d_D_handler_31 : decode c_D_handler 31 = .ok (.aload_n 0, 1) := by decide +kernel
theorem d_D_handler_32 : decode c_D_handler 32 = .ok (.getfield 36, 3) := by decide +kernel
theorem d_D_handler_35 : decode c_D_handler 35 = .ok (.aload_n 0, 1) := by decide +kernel
theorem d_D_handler_36 : decode c_D_handler 36 = .ok (.getfield 121, 3) := by decide +kernel
theorem d_D_handler_39 : decode c_D_handler 39 = .ok (.iload_n 3, 1) := by decide +kernel
theorem d_D_handler_40 : decode c_D_handler 40 = .ok (.iastore, 1) := by decide +kernel
theorem d_D_handler_41 : decode c_D_handler 41 = .ok (.aload_n 0, 1) := by decide +kernel
theorem d_D_handler_42 : decode c_D_handler 42 = .ok (.getfield 39, 3) := by decide +kernel
theorem d_D_handler_45 : decode c_D_handler 45 = .ok (.aload_n 0, 1) := by decide +kernel
theorem d_D_handler_46 : decode c_D_handler 46 = .ok (.getfield 121, 3) := by decide +kernel
theorem d_D_handler_49 : decode c_D_handler 49 = .ok (.iload 4, 2) := by decide +kernel
theorem d_D_handler_51 : decode c_D_handler 51 = .ok (.iastore, 1) := by decide +kernel
theorem d_D_handler_52 : decode c_D_handler 52 = .ok (.aload_n 0, 1) := by decide +kernel
theorem d_D_handler_53 : decode c_D_handler 53 = .ok (.dup, 1) := by decide +kernel
theorem d_D_handler_54 : decode c_D_handler 54 = .ok (.getfield 121, 3) := by decide +kernel
theorem d_D_handler_57 : decode c_D_handler 57 = .ok (.iconst 1, 1) := by decide +kernel
theorem d_D_handler_58 : decode c_D_handler 58 = .ok (.iadd, 1) := by decide +kernel
theorem d_D_handler_59 : decode c_D_handler 59 = .ok (.putfield 121, 3) := by decide +kernel
theorem d_D_handler_62 : decode c_D_handler 62 = .ok (.aload_n 0, 1) := by decide +kernel
theorem d_D_handler_63 : decode c_D_handler 63 = .ok (.getfield 121, 3) := by decide +kernel
theorem d_D_handler_66 : decode c_D_handler 66 = .ok (.ireturn, 1) := by decide +kernel
theorem d_D_isGoal_0 : decode c_D_isGoal 0 = .ok (.iload_n 1, 1) := by decide +kernel
theorem d_D_isGoal_1 : decode c_D_isGoal 1 = .ok (.iconst 0, 1) := by decide +kernel
theorem d_D_isGoal_2 : decode c_D_isGoal 2 = .ok (.aload_n 0, 1) := by decide +kernel
theorem d_D_isGoal_3 : decode c_D_isGoal 3 = .ok (.getfield 118, 3) := by decide +kernel
theorem d_D_isGoal_6 : decode c_D_isGoal 6 = .ok (.iconst 1, 1) := by decide +kernel
theorem d_D_isGoal_7 : decode c_D_isGoal 7 = .ok (.isub, 1) := by decide +kernel
theorem d_D_isGoal_8 : decode c_D_isGoal 8 = .ok (.invokestatic 91, 3) := by decide +kernel
theorem d_D_isGoal_11 : decode c_D_isGoal 11 = .ok (.ireturn, 1) := by decide +kernel
theorem d_D_isFormed_0 : decode c_D_isFormed 0 = .ok (.iload_n 1, 1) := by decide +kernel
theorem d_D_isFormed_1 : decode c_D_isFormed 1 = .ok (.tableswitch 335 1 30 #[135, 142, 142, 335, 335, 335, 335, 335, 154, 161, 185, 192, 192, 192, 192, 142, 198, 335, 335, 220, 220, 232, 232, 260, 282, 288, 315, 315, 335, 142], 135) := by decide +kernel
theorem d_D_isFormed_136 : decode c_D_isFormed 136 = .ok (.iload_n 2, 1) := by decide +kernel
theorem d_D_isFormed_137 : decode c_D_isFormed 137 = .ok (.iconst 1, 1) := by decide +kernel
theorem d_D_isFormed_138 : decode c_D_isFormed 138 = .ok (.iconst 5, 1) := by decide +kernel
theorem d_D_isFormed_139 : decode c_D_isFormed 139 = .ok (.invokestatic 91, 3) := by decide +kernel
theorem d_D_isFormed_142 : decode c_D_isFormed 142 = .ok (.ireturn, 1) := by decide +kernel
theorem d_D_isFormed_143 : decode c_D_isFormed 143 = .ok (.iload_n 2, 1) := by decide +kernel
theorem d_D_isFormed_144 : decode c_D_isFormed 144 = .ok (.iconst 0, 1) := by decide +kernel
theorem d_D_isFormed_145 : decode c_D_isFormed 145 = .ok (.aload_n 0, 1) := by decide +kernel
theorem d_D_isFormed_146 : decode c_D_isFormed 146 = .ok (.getfield 112, 3) := by decide +kernel
theorem d_D_isFormed_149 : decode c_D_isFormed 149 = .ok (.iconst 1, 1) := by decide +kernel
theorem d_D_isFormed_150 : decode c_D_isFormed 150 = .ok (.isub, 1) := by decide +kernel
theorem d_D_isFormed_151 : decode c_D_isFormed 151 = .ok (.invokestatic 91, 3) := by decide +kernel
theorem d_D_isFormed_154 : decode c_D_isFormed 154 = .ok (.ireturn, 1) := by decide +kernel
theorem d_D_isFormed_155 : decode c_D_isFormed 155 = .ok (.iload_n 2, 1) := by decide +kernel
theorem d_D_isFormed_156 : decode c_D_isFormed 156 = .ok (.iconst 1, 1) := by decide +kernel
theorem d_D_isFormed_157 : decode c_D_isFormed 157 = .ok (.iconst 4, 1) := by decide +kernel
theorem d_D_isFormed_158 : decode c_D_isFormed 158 = .ok (.invokestatic 91, 3) := by decide +kernel
theorem d_D_isFormed_161 : decode c_D_isFormed 161 = .ok (.ireturn, 1) := by decide +kernel
theorem d_D_isFormed_162 : decode c_D_isFormed 162 = .ok (.iload_n 2, 1) := by decide +kernel
theorem d_D_isFormed_163 : decode c_D_isFormed 163 = .ok (.iconst 1, 1) := by decide +kernel
theorem d_D_isFormed_164 : decode c_D_isFormed 164 = .ok (.iconst 4, 1) := by decide +kernel
theorem d_D_isFormed_165 : decode c_D_isFormed 165 = .ok (.invokestatic 91, 3) := by decide +kernel
theorem d_D_isFormed_168 : decode c_D_isFormed 168 = .ok (.ifCond .eq 16, 3) := by decide +kernel
theorem d_D_isFormed_171 : decode c_D_isFormed 171 = .ok (.iload_n 3, 1) := by decide +kernel
theorem d_D_isFormed_172 : decode c_D_isFormed 172 = .ok (.iconst 1, 1) := by decide +kernel
theorem d_D_isFormed_173 : decode c_D_isFormed 173 = .ok (.iconst 4, 1) := by decide +kernel
theorem d_D_isFormed_174 : decode c_D_isFormed 174 = .ok (.invokestatic 91, 3) := by decide +kernel
theorem d_D_isFormed_177 : decode c_D_isFormed 177 = .ok (.ifCond .eq 7, 3) := by decide +kernel
theorem d_D_isFormed_180 : decode c_D_isFormed 180 = .ok (.iconst 1, 1) := by decide +kernel
theorem d_D_isFormed_181 : decode c_D_isFormed 181 = .ok (.goto 4, 3) := by decide +kernel
theorem d_D_isFormed_184 : decode c_D_isFormed 184 = .ok (.iconst 0, 1) := by decide +kernel
theorem d_D_isFormed_185 : decode c_D_isFormed 185 = .ok (.ireturn, 1) := by decide +kernel
theorem d_D_isFormed_186 : decode c_D_isFormed 186 = .ok (.iload_n 2, 1) := by decide +kernel
theorem d_D_isFormed_187 : decode c_D_isFormed 187 = .ok (.iconst 2, 1) := by decide +kernel
theorem d_D_isFormed_188 : decode c_D_isFormed 188 = .ok (.iconst 4, 1) := by decide +kernel
theorem d_D_isFormed_189 : decode c_D_isFormed 189 = .ok (.invokestatic 91, 3) := by decide +kernel
theorem d_D_isFormed_192 : decode c_D_isFormed 192 = .ok (.ireturn, 1) := by decide +kernel
theorem d_D_isFormed_193 : decode c_D_isFormed 193 = .ok (.aload_n 0, 1) := by decide +kernel
theorem d_D_isFormed_194 : decode c_D_isFormed 194 = .ok (.iload_n 3, 1) := by decide +kernel
theorem d_D_isFormed_195 : decode c_D_isFormed 195 = .ok (.invokevirtual 127, 3) := by decide +kernel
theorem d_D_isFormed_198 : decode c_D_isFormed 198 = .ok (.ireturn, 1) := by decide +kernel
theorem d_D_isFormed_199 : decode c_D_isFormed 199 = .ok (.aload_n 0, 1) := by decide +kernel
theorem d_D_isFormed_200 : decode c_D_isFormed 200 = .ok (.iload_n 2, 1) := by decide +kernel
theorem d_D_isFormed_201 : decode c_D_isFormed 201 = .ok (.invokevirtual 127, 3) := by decide +kernel
theorem d_D_isFormed_204 : decode c_D_isFormed 204 = .ok (.ifCond .eq 15, 3) := by decide +kernel
theorem d_D_isFormed_207 : decode c_D_isFormed 207 = .ok (.aload_n 0, 1) := by decide +kernel
theorem d_D_isFormed_208 : decode c_D_isFormed 208 = .ok (.iload_n 3, 1) := by decide +kernel
theorem d_D_isFormed_209 : decode c_D_isFormed 209 = .ok (.invokevirtual 127, 3) := by decide +kernel
theorem d_D_isFormed_212 : decode c_D_isFormed 212 = .ok (.ifCond .eq 7, 3) := by decide +kernel
theorem d_D_isFormed_215 : decode c_D_isFormed 215 = .ok (.iconst 1, 1) := by decide +kernel
theorem d_D_isFormed_216 : decode c_D_isFormed 216 = .ok (.goto 4, 3) := by decide +kernel
theorem d_D_isFormed_219 : decode c_D_isFormed 219 = .ok (.iconst 0, 1) := by decide +kernel
theorem d_D_isFormed_220 : decode c_D_isFormed 220 = .ok (.ireturn, 1) := by decide +kernel
theorem d_D_isFormed_221 : decode c_D_isFormed 221 = .ok (.iload_n 2, 1) := by decide +kernel
theorem d_D_isFormed_222 : decode c_D_isFormed 222 = .ok (.iconst 0, 1) := by decide +kernel
theorem d_D_isFormed_223 : decode c_D_isFormed 223 = .ok (.aload_n 0, 1) := by decide +kernel
theorem d_D_isFormed_224 : decode c_D_isFormed 224 = .ok (.getfield 17, 3) := by decide +kernel
theorem d_D_isFormed_227 : decode c_D_isFormed 227 = .ok (.iconst 1, 1) := by decide +kernel
theorem d_D_isFormed_228 : decode c_D_isFormed 228 = .ok (.isub, 1) := by decide +kernel
theorem d_D_isFormed_229 : decode c_D_isFormed 229 = .ok (.invokestatic 91, 3) := by decide +kernel
theorem d_D_isFormed_232 : decode c_D_isFormed 232 = .ok (.ireturn, 1) := by decide +kernel
theorem d_D_isFormed_233 : decode c_D_isFormed 233 = .ok (.iload_n 2, 1) := by decide +kernel
theorem d_D_isFormed_234 : decode c_D_isFormed 234 = .ok (.iconst 0, 1) := by decide +kernel
theorem d_D_isFormed_235 : decode c_D_isFormed 235 = .ok (.aload_n 0, 1) := by decide +kernel
theorem d_D_isFormed_236 : decode c_D_isFormed 236 = .ok (.getfield 17, 3) := by decide +kernel
theorem d_D_isFormed_239 : decode c_D_isFormed 239 = .ok (.iconst 1, 1) := by decide +kernel
theorem d_D_isFormed_240 : decode c_D_isFormed 240 = .ok (.isub, 1) := by decide +kernel
theorem d_D_isFormed_241 : decode c_D_isFormed 241 = .ok (.invokestatic 91, 3) := by decide +kernel
theorem d_D_isFormed_244 : decode c_D_isFormed 244 = .ok (.ifCond .eq 15, 3) := by decide +kernel
theorem d_D_isFormed_247 : decode c_D_isFormed 247 = .ok (.aload_n 0, 1) := by decide +kernel
theorem d_D_isFormed_248 : decode c_D_isFormed 248 = .ok (.iload_n 3, 1) := by decide +kernel
theorem d_D_isFormed_249 : decode c_D_isFormed 249 = .ok (.invokevirtual 106, 3) := by decide +kernel
theorem d_D_isFormed_252 : decode c_D_isFormed 252 = .ok (.ifCond .eq 7, 3) := by decide +kernel
theorem d_D_isFormed_255 : decode c_D_isFormed 255 = .ok (.iconst 1, 1) := by decide +kernel
theorem d_D_isFormed_256 : decode c_D_isFormed 256 = .ok (.goto 4, 3) := by decide +kernel
theorem d_D_isFormed_259 : decode c_D_isFormed 259 = .ok (.iconst 0, 1) := by decide +kernel
theorem d_D_isFormed_260 : decode c_D_isFormed 260 = .ok (.ireturn, 1) := by decide +kernel
theorem d_D_isFormed_261 : decode c_D_isFormed 261 = .ok (.aload_n 0, 1) := by decide +kernel
theorem d_D_isFormed_262 : decode c_D_isFormed 262 = .ok (.iload_n 2, 1) := by decide +kernel
theorem d_D_isFormed_263 : decode c_D_isFormed 263 = .ok (.invokevirtual 106, 3) := by decide +kernel
theorem d_D_isFormed_266 : decode c_D_isFormed 266 = .ok (.ifCond .eq 15, 3) := by decide +kernel
theorem d_D_isFormed_269 : decode c_D_isFormed 269 = .ok (.aload_n 0, 1) := by decide +kernel
theorem d_D_isFormed_270 : decode c_D_isFormed 270 = .ok (.iload_n 3, 1) := by decide +kernel
theorem d_D_isFormed_271 : decode c_D_isFormed 271 = .ok (.invokevirtual 106, 3) := by decide +kernel
theorem d_D_isFormed_274 : decode c_D_isFormed 274 = .ok (.ifCond .eq 7, 3) := by decide +kernel
theorem d_D_isFormed_277 : decode c_D_isFormed 277 = .ok (.iconst 1, 1) := by decide +kernel
theorem d_D_isFormed_278 : decode c_D_isFormed 278 = .ok (.goto 4, 3) := by decide +kernel
theorem d_D_isFormed_281 : decode c_D_isFormed 281 = .ok (.iconst 0, 1) := by decide +kernel
theorem d_D_isFormed_282 : decode c_D_isFormed 282 = .ok (.ireturn, 1) := by decide +kernel
theorem d_D_isFormed_283 : decode c_D_isFormed 283 = .ok (.aload_n 0, 1) := by decide +kernel
theorem d_D_isFormed_284 : decode c_D_isFormed 284 = .ok (.iload_n 2, 1) := by decide +kernel
theorem d_D_isFormed_285 : decode c_D_isFormed 285 = .ok (.invokevirtual 99, 3) := by decide +kernel
theorem d_D_isFormed_288 : decode c_D_isFormed 288 = .ok (.ireturn, 1) := by decide +kernel
theorem d_D_isFormed_289 : decode c_D_isFormed 289 = .ok (.iload_n 2, 1) := by decide +kernel
theorem d_D_isFormed_290 : decode c_D_isFormed 290 = .ok (.bipush 12, 2) := by decide +kernel
theorem d_D_isFormed_292 : decode c_D_isFormed 292 = .ok (.if_icmp .eq 18, 3) := by decide +kernel
theorem d_D_isFormed_295 : decode c_D_isFormed 295 = .ok (.aload_n 0, 1) := by decide +kernel
theorem d_D_isFormed_296 : decode c_D_isFormed 296 = .ok (.iload_n 2, 1) := by decide +kernel
theorem d_D_isFormed_297 : decode c_D_isFormed 297 = .ok (.invokevirtual 99, 3) := by decide +kernel
theorem d_D_isFormed_300 : decode c_D_isFormed 300 = .ok (.ifCond .eq 14, 3) := by decide +kernel
theorem d_D_isFormed_303 : decode c_D_isFormed 303 = .ok (.iload_n 2, 1) := by decide +kernel
theorem d_D_isFormed_304 : decode c_D_isFormed 304 = .ok (.sipush 192, 3) := by decide +kernel
theorem d_D_isFormed_307 : decode c_D_isFormed 307 = .ok (.if_icmp .ge 7, 3) := by decide +kernel
theorem d_D_isFormed_310 : decode c_D_isFormed 310 = .ok (.iconst 1, 1) := by decide +kernel
theorem d_D_isFormed_311 : decode c_D_isFormed 311 = .ok (.goto 4, 3) := by decide +kernel
theorem d_D_isFormed_314 : decode c_D_isFormed 314 = .ok (.iconst 0, 1) := by decide +kernel
theorem d_D_isFormed_315 : decode c_D_isFormed 315 = .ok (.ireturn, 1) := by decide +kernel
theorem d_D_isFormed_316 : decode c_D_isFormed 316 = .ok (.aload_n 0, 1) := by decide +kernel
theorem d_D_isFormed_317 : decode c_D_isFormed 317 = .ok (.iload_n 2, 1) := by decide +kernel
theorem d_D_isFormed_318 : decode c_D_isFormed 318 = .ok (.invokevirtual 99, 3) := by decide +kernel
theorem d_D_isFormed_321 : decode c_D_isFormed 321 = .ok (.ifCond .eq 13, 3) := by decide +kernel
theorem d_D_isFormed_324 : decode c_D_isFormed 324 = .ok (.iload_n 2, 1) := by decide +kernel
theorem d_D_isFormed_325 : decode c_D_isFormed 325 = .ok (.bipush 64, 2) := by decide +kernel
theorem d_D_isFormed_327 : decode c_D_isFormed 327 = .ok (.if_icmp .lt 7, 3) := by decide +kernel
theorem d_D_isFormed_330 : decode c_D_isFormed 330 = .ok (.iconst 1, 1) := by decide +kernel
theorem d_D_isFormed_331 : decode c_D_isFormed 331 = .ok (.goto 4, 3) := by decide +kernel
theorem d_D_isFormed_334 : decode c_D_isFormed 334 = .ok (.iconst 0, 1) := by decide +kernel
theorem d_D_isFormed_335 : decode c_D_isFormed 335 = .ok (.ireturn, 1) := by decide +kernel
theorem d_D_isFormed_336 : decode c_D_isFormed 336 = .ok (.iconst 1, 1) := by decide +kernel
theorem d_D_isFormed_337 : decode c_D_isFormed 337 = .ok (.ireturn, 1) := by decide +kernel
theorem d_D_fail_0 : decode c_D_fail 0 = .ok (.aload_n 0, 1) := by decide +kernel
theorem d_D_fail_1 : decode c_D_fail 1 = .ok (.getfield 130, 3) := by decide +kernel
theorem d_D_fail_4 : decode c_D_fail 4 = .ok (.ifCond .le 4, 3) := by decide +kernel
theorem d_D_fail_7 : decode c_D_fail 7 = .ok (.return_, 1) := by decide +kernel
theorem d_D_fail_8 : decode c_D_fail 8 = .ok (.aload_n 0, 1) := by decide +kernel
theorem d_D_fail_9 : decode c_D_fail 9 = .ok (.iload_n 1, 1) := by decide +kernel
theorem d_D_fail_10 : decode c_D_fail 10 = .ok (.putfield 130, 3) := by decide +kernel
theorem d_D_fail_13 : decode c_D_fail 13 = .ok (.aload_n 0, 1) := by decide +kernel
theorem d_D_fail_14 : decode c_D_fail 14 = .ok (.iload_n 2, 1) := by decide +kernel
theorem d_D_fail_15 : decode c_D_fail 15 = .ok (.putfield 88, 3) := by decide +kernel
theorem d_D_fail_18 : decode c_D_fail 18 = .ok (.return_, 1) := by decide +kernel
theorem d_D_form_0 : decode c_D_form 0 = .ok (.aload_n 0, 1) := by decide +kernel
theorem d_D_form_1 : decode c_D_form 1 = .ok (.getfield 118, 3) := by decide +kernel
theorem d_D_form_4 : decode c_D_form 4 = .ok (.ifCond .ne 9, 3) := by decide +kernel
theorem d_D_form_7 : decode c_D_form 7 = .ok (.aload_n 0, 1) := by decide +kernel
theorem d_D_form_8 : decode c_D_form 8 = .ok (.iconst 1, 1) := by decide +kernel
theorem d_D_form_9 : decode c_D_form 9 = .ok (.iconst 0, 1) := by decide +kernel
theorem d_D_form_10 : decode c_D_form 10 = .ok (.invokevirtual 133, 3) := by decide +kernel
theorem d_D_form_13 : decode c_D_form 13 = .ok (.iconst 0, 1) := by decide +kernel
theorem d_D_form_14 : decode c_D_form 14 = .ok (.istore_n 1, 1) := by decide +kernel
theorem d_D_form_15 : decode c_D_form 15 = .ok (.iload_n 1, 1) := by decide +kernel
theorem d_D_form_16 : decode c_D_form 16 = .ok (.aload_n 0, 1) := by decide +kernel
theorem d_D_form_17 : decode c_D_form 17 = .ok (.getfield 118, 3) := by decide +kernel
theorem d_D_form_20 : decode c_D_form 20 = .ok (.if_icmp .ge 42, 3) := by decide +kernel
theorem d_D_form_23 : decode c_D_form 23 = .ok (.aload_n 0, 1) := by decide +kernel
theorem d_D_form_24 : decode c_D_form 24 = .ok (.aload_n 0, 1) := by decide +kernel
theorem d_D_form_25 : decode c_D_form 25 = .ok (.getfield 21, 3) := by decide +kernel
theorem d_D_form_28 : decode c_D_form 28 = .ok (.iload_n 1, 1) := by decide +kernel
theorem d_D_form_29 : decode c_D_form 29 = .ok (.iaload, 1) := by decide +kernel
theorem d_D_form_30 : decode c_D_form 30 = .ok (.aload_n 0, 1) := by decide +kernel
theorem d_D_form_31 : decode c_D_form 31 = .ok (.getfield 24, 3) := by decide +kernel
theorem d_D_form_34 : decode c_D_form 34 = .ok (.iload_n 1, 1) := by decide +kernel
theorem d_D_form_35 : decode c_D_form 35 = .ok (.iaload, 1) := by decide +kernel
theorem d_D_form_36 : decode c_D_form 36 = .ok (.aload_n 0, 1) := by decide +kernel
theorem d_D_form_37 : decode c_D_form 37 = .ok (.getfield 27, 3) := by decide +kernel
theorem d_D_form_40 : decode c_D_form 40 = .ok (.iload_n 1, 1) := by decide +kernel
theorem d_D_form_41 : decode c_D_form 41 = .ok (.iaload, 1) := by decide +kernel
theorem d_D_form_42 : decode c_D_form 42 = .ok (.invokevirtual 137, 3) := by decide +kernel
theorem d_D_form_45 : decode c_D_form 45 = .ok (.istore_n 2, 1) := by decide +kernel
theorem d_D_form_46 : decode c_D_form 46 = .ok (.iload_n 2, 1) := by decide +kernel
theorem d_D_form_47 : decode c_D_form 47 = .ok (.ifCond .ne 9, 3) := by decide +kernel
theorem d_D_form_50 : decode c_D_form 50 = .ok (.aload_n 0, 1) := by decide +kernel
theorem d_D_form_51 : decode c_D_form 51 = .ok (.iconst 1, 1) := by decide +kernel
theorem d_D_form_52 : decode c_D_form 52 = .ok (.iload_n 1, 1) := by decide +kernel
theorem d_D_form_53 : decode c_D_form 53 = .ok (.invokevirtual 133, 3) := by decide +kernel
theorem d_D_form_56 : decode c_D_form 56 = .ok (.iinc 1 1, 3) := by decide +kernel
theorem d_D_form_59 : decode c_D_form 59 = .ok (.goto (-44), 3) := by decide +kernel
theorem d_D_form_62 : decode c_D_form 62 = .ok (.iconst 0, 1) := by decide +kernel
theorem d_D_form_63 : decode c_D_form 63 = .ok (.istore_n 1, 1) := by decide +kernel
theorem d_D_form_64 : decode c_D_form 64 = .ok (.iload_n 1, 1) := by decide +kernel
theorem d_D_form_65 : decode c_D_form 65 = .ok (.aload_n 0, 1) := by decide +kernel
theorem d_D_form_66 : decode c_D_form 66 = .ok (.getfield 121, 3) := by decide +kernel
theorem d_D_form_69 : decode c_D_form 69 = .ok (.if_icmp .ge 101, 3) := by decide +kernel
theorem d_D_form_72 : decode c_D_form 72 = .ok (.aload_n 0, 1) := by decide +kernel
theorem d_D_form_73 : decode c_D_form 73 = .ok (.getfield 30, 3) := by decide +kernel
theorem d_D_form_76 : decode c_D_form 76 = .ok (.iload_n 1, 1) := by decide +kernel
theorem d_D_form_77 : decode c_D_form 77 = .ok (.iaload, 1) := by decide +kernel
theorem d_D_form_78 : decode c_D_form 78 = .ok (.ifCond .lt 77, 3) := by decide +kernel
theorem d_D_form_81 : decode c_D_form 81 = .ok (.aload_n 0, 1) := by decide +kernel
theorem d_D_form_82 : decode c_D_form 82 = .ok (.getfield 30, 3) := by decide +kernel
theorem d_D_form_85 : decode c_D_form 85 = .ok (.iload_n 1, 1) := by decide +kernel
theorem d_D_form_86 : decode c_D_form 86 = .ok (.iaload, 1) := by decide +kernel
theorem d_D_form_87 : decode c_D_form 87 = .ok (.aload_n 0, 1) := by decide +kernel
theorem d_D_form_88 : decode c_D_form 88 = .ok (.getfield 33, 3) := by decide +kernel
theorem d_D_form_91 : decode c_D_form 91 = .ok (.iload_n 1, 1) := by decide +kernel
theorem d_D_form_92 : decode c_D_form 92 = .ok (.iaload, 1) := by decide +kernel
theorem d_D_form_93 : decode c_D_form 93 = .ok (.if_icmp .ge 62, 3) := by decide +kernel
theorem d_D_form_96 : decode c_D_form 96 = .ok (.aload_n 0, 1) := by decide +kernel
theorem d_D_form_97 : decode c_D_form 97 = .ok (.getfield 33, 3) := by decide +kernel
theorem d_D_form_100 : decode c_D_form 100 = .ok (.iload_n 1, 1) := by decide +kernel
theorem d_D_form_101 : decode c_D_form 101 = .ok (.iaload, 1) := by decide +kernel
theorem d_D_form_102 : decode c_D_form 102 = .ok (.aload_n 0, 1) := by decide +kernel
theorem d_D_form_103 : decode c_D_form 103 = .ok (.getfield 118, 3) := by decide +kernel
theorem d_D_form_106 : decode c_D_form 106 = .ok (.if_icmp .gt 49, 3) := by decide +kernel
theorem d_D_form_109 : decode c_D_form 109 = .ok (.aload_n 0, 1) := by decide +kernel
theorem d_D_form_110 : decode c_D_form 110 = .ok (.aload_n 0, 1) := by decide +kernel
theorem d_D_form_111 : decode c_D_form 111 = .ok (.getfield 36, 3) := by decide +kernel
theorem d_D_form_114 : decode c_D_form 114 = .ok (.iload_n 1, 1) := by decide +kernel
theorem d_D_form_115 : decode c_D_form 115 = .ok (.iaload, 1) := by decide +kernel
theorem d_D_form_116 : decode c_D_form 116 = .ok (.invokevirtual 127, 3) := by decide +kernel
theorem d_D_form_119 : decode c_D_form 119 = .ok (.ifCond .eq 36, 3) := by decide +kernel
theorem d_D_form_122 : decode c_D_form 122 = .ok (.aload_n 0, 1) := by decide +kernel
theorem d_D_form_123 : decode c_D_form 123 = .ok (.getfield 39, 3) := by decide +kernel
theorem d_D_form_126 : decode c_D_form 126 = .ok (.iload_n 1, 1) := by decide +kernel
theorem d_D_form_127 : decode c_D_form 127 = .ok (.iaload, 1) := by decide +kernel
theorem d_D_form_128 : decode c_D_form 128 = .ok (.iconst 0, 1) := by decide +kernel
theorem d_D_form_129 : decode c_D_form 129 = .ok (.aload_n 0, 1) := by decide +kernel
theorem d_D_form_130 : decode c_D_form 130 = .ok (.getfield 17, 3) := by decide +kernel
theorem d_D_form_133 : decode c_D_form 133 = .ok (.iconst 1, 1) := by decide +kernel
theorem d_D_form_134 : decode c_D_form 134 = .ok (.isub, 1) := by decide +kernel
theorem d_D_form_135 : decode c_D_form 135 = .ok (.invokestatic 91, 3) := by decide +kernel
theorem d_D_form_138 : decode c_D_form 138 = .ok (.ifCond .eq 17, 3) := by decide +kernel
theorem d_D_form_141 : decode c_D_form 141 = .ok (.aload_n 0, 1) := by decide +kernel
theorem d_D_form_142 : decode c_D_form 142 = .ok (.aload_n 0, 1) := by decide +kernel
theorem d_D_form_143 : decode c_D_form 143 = .ok (.getfield 39, 3) := by decide +kernel
theorem d_D_form_146 : decode c_D_form 146 = .ok (.iload_n 1, 1) := by decide +kernel
theorem d_D_form_147 : decode c_D_form 147 = .ok (.iaload, 1) := by decide +kernel
theorem d_D_form_148 : decode c_D_form 148 = .ok (.iconst 1, 1) := by decide +kernel
theorem d_D_form_149 : decode c_D_form 149 = .ok (.invokevirtual 102, 3) := by decide +kernel
theorem d_D_form_152 : decode c_D_form 152 = .ok (.ifCond .ne 12, 3) := by decide +kernel
theorem d_D_form_155 : decode c_D_form 155 = .ok (.aload_n 0, 1) := by decide +kernel
theorem d_D_form_156 : decode c_D_form 156 = .ok (.iconst 1, 1) := by decide +kernel
theorem d_D_form_157 : decode c_D_form 157 = .ok (.bipush 100, 2) := by decide +kernel
theorem d_D_form_159 : decode c_D_form 159 = .ok (.iload_n 1, 1) := by decide +kernel
theorem d_D_form_160 : decode c_D_form 160 = .ok (.iadd, 1) := by decide +kernel
theorem d_D_form_161 : decode c_D_form 161 = .ok (.invokevirtual 133, 3) := by decide +kernel
theorem d_D_form_164 : decode c_D_form 164 = .ok (.iinc 1 1, 3) := by decide +kernel
theorem d_D_form_167 : decode c_D_form 167 = .ok (.goto (-103), 3) := by decide +kernel
theorem d_D_form_170 : decode c_D_form 170 = .ok (.iconst 0, 1) := by decide +kernel
theorem d_D_form_171 : decode c_D_form 171 = .ok (.istore_n 1, 1) := by decide +kernel
theorem d_D_form_172 : decode c_D_form 172 = .ok (.iconst 0, 1) := by decide +kernel
theorem d_D_form_173 : decode c_D_form 173 = .ok (.istore_n 2, 1) := by decide +kernel
theorem d_D_form_174 : decode c_D_form 174 = .ok (.iload_n 2, 1) := by decide +kernel
theorem d_D_form_175 : decode c_D_form 175 = .ok (.aload_n 0, 1) := by decide +kernel
theorem d_D_form_176 : decode c_D_form 176 = .ok (.getfield 124, 3) := by decide +kernel
theorem d_D_form_179 : decode c_D_form 179 = .ok (.if_icmp .ge 29, 3) := by decide +kernel
theorem d_D_form_182 : decode c_D_form 182 = .ok (.iload_n 1, 1) := by decide +kernel
theorem d_D_form_183 : decode c_D_form 183 = .ok (.aload_n 0, 1) := by decide +kernel
theorem d_D_form_184 : decode c_D_form 184 = .ok (.getfield 42, 3) := by decide +kernel
theorem d_D_form_187 : decode c_D_form 187 = .ok (.iload_n 2, 1) := by decide +kernel
theorem d_D_form_188 : decode c_D_form 188 = .ok (.iaload, 1) := by decide +kernel
theorem d_D_form_189 : decode c_D_form 189 = .ok (.invokestatic 140, 3) := by decide +kernel
theorem d_D_form_192 : decode c_D_form 192 = .ok (.ifCond .eq 7, 3) := by decide +kernel
theorem d_D_form_195 : decode c_D_form 195 = .ok (.iconst 2, 1) := by decide +kernel
theorem d_D_form_196 : decode c_D_form 196 = .ok (.goto 4, 3) := by decide +kernel
theorem d_D_form_199 : decode c_D_form 199 = .ok (.iconst 1, 1) := by decide +kernel
theorem d_D_form_200 : decode c_D_form 200 = .ok (.iadd, 1) := by decide +kernel
theorem d_D_form_201 : decode c_D_form 201 = .ok (.istore_n 1, 1) := by decide +kernel
theorem d_D_form_202 : decode c_D_form 202 = .ok (.iinc 2 1, 3) := by decide +kernel
theorem d_D_form_205 : decode c_D_form 205 = .ok (.goto (-31), 3) := by decide +kernel
theorem d_D_form_208 : decode c_D_form 208 = .ok (.iload_n 1, 1) := by decide +kernel
theorem d_D_form_209 : decode c_D_form 209 = .ok (.aload_n 0, 1) := by decide +kernel
theorem d_D_form_210 : decode c_D_form 210 = .ok (.getfield 112, 3) := by decide +kernel
theorem d_D_form_213 : decode c_D_form 213 = .ok (.if_icmp .le 11, 3) := by decide +kernel
theorem d_D_form_216 : decode c_D_form 216 = .ok (.aload_n 0, 1) := by decide +kernel
theorem d_D_form_217 : decode c_D_form 217 = .ok (.iconst 1, 1) := by decide +kernel
theorem d_D_form_218 : decode c_D_form 218 = .ok (.sipush 200, 3) := by decide +kernel
theorem d_D_form_221 : decode c_D_form 221 = .ok (.invokevirtual 133, 3) := by decide +kernel
theorem d_D_form_224 : decode c_D_form 224 = .ok (.return_, 1) := by decide +kernel
theorem d_D_verify_0 : decode c_D_verify 0 = .ok (.aload_n 0, 1) := by decide +kernel
theorem d_D_verify_1 : decode c_D_verify 1 = .ok (.iconst 0, 1) := by decide +kernel
theorem d_D_verify_2 : decode c_D_verify 2 = .ok (.putfield 130, 3) := by decide +kernel
theorem d_D_verify_5 : decode c_D_verify 5 = .ok (.aload_n 0, 1) := by decide +kernel
theorem d_D_verify_6 : decode c_D_verify 6 = .ok (.iconst (-1), 1) := by decide +kernel
theorem d_D_verify_7 : decode c_D_verify 7 = .ok (.putfield 88, 3) := by decide +kernel
theorem d_D_verify_10 : decode c_D_verify 10 = .ok (.aload_n 0, 1) := by decide +kernel
theorem d_D_verify_11 : decode c_D_verify 11 = .ok (.iconst 0, 1) := by decide +kernel
theorem d_D_verify_12 : decode c_D_verify 12 = .ok (.putfield 143, 3) := by decide +kernel
theorem d_D_verify_15 : decode c_D_verify 15 = .ok (.iconst 0, 1) := by decide +kernel
theorem d_D_verify_16 : decode c_D_verify 16 = .ok (.istore_n 1, 1) := by decide +kernel
theorem d_D_verify_17 : decode c_D_verify 17 = .ok (.iload_n 1, 1) := by decide +kernel
theorem d_D_verify_18 : decode c_D_verify 18 = .ok (.bipush 48, 2) := by decide +kernel
theorem d_D_verify_20 : decode c_D_verify 20 = .ok (.if_icmp .ge 30, 3) := by decide +kernel
theorem d_D_verify_23 : decode c_D_verify 23 = .ok (.aload_n 0, 1) := by decide +kernel
theorem d_D_verify_24 : decode c_D_verify 24 = .ok (.getfield 45, 3) := by decide +kernel
theorem d_D_verify_27 : decode c_D_verify 27 = .ok (.iload_n 1, 1) := by decide +kernel
theorem d_D_verify_28 : decode c_D_verify 28 = .ok (.iconst 0, 1) := by decide +kernel
theorem d_D_verify_29 : decode c_D_verify 29 = .ok (.bastore, 1) := by decide +kernel
theorem d_D_verify_30 : decode c_D_verify 30 = .ok (.aload_n 0, 1) := by decide +kernel
theorem d_D_verify_31 : decode c_D_verify 31 = .ok (.getfield 48, 3) := by decide +kernel
theorem d_D_verify_34 : decode c_D_verify 34 = .ok (.iload_n 1, 1) := by decide +kernel
theorem d_D_verify_35 : decode c_D_verify 35 = .ok (.iconst 0, 1) := by decide +kernel
theorem d_D_verify_36 : decode c_D_verify 36 = .ok (.bastore, 1) := by decide +kernel
theorem d_D_verify_37 : decode c_D_verify 37 = .ok (.aload_n 0, 1) := by decide +kernel
theorem d_D_verify_38 : decode c_D_verify 38 = .ok (.getfield 67, 3) := by decide +kernel
theorem d_D_verify_41 : decode c_D_verify 41 = .ok (.iload_n 1, 1) := by decide +kernel
theorem d_D_verify_42 : decode c_D_verify 42 = .ok (.lconst 0, 1) := by decide +kernel
theorem d_D_verify_43 : decode c_D_verify 43 = .ok (.lastore, 1) := by decide +kernel
theorem d_D_verify_44 : decode c_D_verify 44 = .ok (.iinc 1 1, 3) := by decide +kernel
theorem d_D_verify_47 : decode c_D_verify 47 = .ok (.goto (-30), 3) := by decide +kernel
theorem d_D_verify_50 : decode c_D_verify 50 = .ok (.aload_n 0, 1) := by decide +kernel
theorem d_D_verify_51 : decode c_D_verify 51 = .ok (.invokevirtual 146, 3) := by decide +kernel
theorem d_D_verify_54 : decode c_D_verify 54 = .ok (.aload_n 0, 1) := by decide +kernel
theorem d_D_verify_55 : decode c_D_verify 55 = .ok (.getfield 130, 3) := by decide +kernel
theorem d_D_verify_58 : decode c_D_verify 58 = .ok (.ifCond .ne 7, 3) := by decide +kernel
theorem d_D_verify_61 : decode c_D_verify 61 = .ok (.aload_n 0, 1) := by decide +kernel
theorem d_D_verify_62 : decode c_D_verify 62 = .ok (.invokevirtual 149, 3) := by decide +kernel
theorem d_D_verify_65 : decode c_D_verify 65 = .ok (.aload_n 0, 1) := by decide +kernel
theorem d_D_verify_66 : decode c_D_verify 66 = .ok (.getfield 130, 3) := by decide +kernel
theorem d_D_verify_69 : decode c_D_verify 69 = .ok (.ifCond .ne 67, 3) := by decide +kernel
theorem d_D_verify_72 : decode c_D_verify 72 = .ok (.iconst 0, 1) := by decide +kernel
theorem d_D_verify_73 : decode c_D_verify 73 = .ok (.istore_n 1, 1) := by decide +kernel
theorem d_D_verify_74 : decode c_D_verify 74 = .ok (.iload_n 1, 1) := by decide +kernel
theorem d_D_verify_75 : decode c_D_verify 75 = .ok (.aload_n 0, 1) := by decide +kernel
theorem d_D_verify_76 : decode c_D_verify 76 = .ok (.getfield 118, 3) := by decide +kernel
theorem d_D_verify_79 : decode c_D_verify 79 = .ok (.if_icmp .ge 18, 3) := by decide +kernel
theorem d_D_verify_82 : decode c_D_verify 82 = .ok (.aload_n 0, 1) := by decide +kernel
theorem d_D_verify_83 : decode c_D_verify 83 = .ok (.getfield 48, 3) := by decide +kernel
theorem d_D_verify_86 : decode c_D_verify 86 = .ok (.iload_n 1, 1) := by decide +kernel
theorem d_D_verify_87 : decode c_D_verify 87 = .ok (.baload, 1) := by decide +kernel
theorem d_D_verify_88 : decode c_D_verify 88 = .ok (.ifCond .ne 9, 3) := by decide +kernel
theorem d_D_verify_91 : decode c_D_verify 91 = .ok (.iinc 1 1, 3) := by decide +kernel
theorem d_D_verify_94 : decode c_D_verify 94 = .ok (.goto (-20), 3) := by decide +kernel
theorem d_D_verify_97 : decode c_D_verify 97 = .ok (.iload_n 1, 1) := by decide +kernel
theorem d_D_verify_98 : decode c_D_verify 98 = .ok (.aload_n 0, 1) := by decide +kernel
theorem d_D_verify_99 : decode c_D_verify 99 = .ok (.getfield 118, 3) := by decide +kernel
theorem d_D_verify_102 : decode c_D_verify 102 = .ok (.if_icmp .ne 6, 3) := by decide +kernel
theorem d_D_verify_105 : decode c_D_verify 105 = .ok (.goto 31, 3) := by decide +kernel
theorem d_D_verify_108 : decode c_D_verify 108 = .ok (.aload_n 0, 1) := by decide +kernel
theorem d_D_verify_109 : decode c_D_verify 109 = .ok (.getfield 143, 3) := by decide +kernel
theorem d_D_verify_112 : decode c_D_verify 112 = .ok (.sipush 2999, 3) := by decide +kernel
theorem d_D_verify_115 : decode c_D_verify 115 = .ok (.if_icmp .ne 13, 3) := by decide +kernel
theorem d_D_verify_118 : decode c_D_verify 118 = .ok (.aload_n 0, 1) := by decide +kernel
theorem d_D_verify_119 : decode c_D_verify 119 = .ok (.bipush 9, 2) := by decide +kernel
theorem d_D_verify_121 : decode c_D_verify 121 = .ok (.iload_n 1, 1) := by decide +kernel
theorem d_D_verify_122 : decode c_D_verify 122 = .ok (.invokevirtual 133, 3) := by decide +kernel
theorem d_D_verify_125 : decode c_D_verify 125 = .ok (.goto 8, 3) := by decide +kernel
theorem d_D_verify_128 : decode c_D_verify 128 = .ok (.aload_n 0, 1) := by decide +kernel
theorem d_D_verify_129 : decode c_D_verify 129 = .ok (.iload_n 1, 1) := by decide +kernel
theorem d_D_verify_130 : decode c_D_verify 130 = .ok (.invokevirtual 152, 3) := by decide +kernel
theorem d_D_verify_133 : decode c_D_verify 133 = .ok (.goto (-68), 3) := by decide +kernel
theorem d_D_verify_136 : decode c_D_verify 136 = .ok (.aload_n 0, 1) := by decide +kernel
theorem d_D_verify_137 : decode c_D_verify 137 = .ok (.getfield 130, 3) := by decide +kernel
theorem d_D_verify_140 : decode c_D_verify 140 = .ok (.ifCond .ne 13, 3) := by decide +kernel
theorem d_D_verify_143 : decode c_D_verify 143 = .ok (.aload_n 0, 1) := by decide +kernel
theorem d_D_verify_144 : decode c_D_verify 144 = .ok (.dup, 1) := by decide +kernel
theorem d_D_verify_145 : decode c_D_verify 145 = .ok (.getfield 156, 3) := by decide +kernel
theorem d_D_verify_148 : decode c_D_verify 148 = .ok (.iconst 1, 1) := by decide +kernel
theorem d_D_verify_149 : decode c_D_verify 149 = .ok (.iadd, 1) := by decide +kernel
theorem d_D_verify_150 : decode c_D_verify 150 = .ok (.putfield 156, 3) := by decide +kernel
theorem d_D_verify_153 : decode c_D_verify 153 = .ok (.aload_n 0, 1) := by decide +kernel
theorem d_D_verify_154 : decode c_D_verify 154 = .ok (.iconst 0, 1) := by decide +kernel
theorem d_D_verify_155 : decode c_D_verify 155 = .ok (.putfield 159, 3) := by decide +kernel
theorem d_D_verify_158 : decode c_D_verify 158 = .ok (.aload_n 0, 1) := by decide +kernel
theorem d_D_verify_159 : decode c_D_verify 159 = .ok (.lconst 0, 1) := by decide +kernel
theorem d_D_verify_160 : decode c_D_verify 160 = .ok (.putfield 162, 3) := by decide +kernel
theorem d_D_verify_163 : decode c_D_verify 163 = .ok (.iconst 0, 1) := by decide +kernel
theorem d_D_verify_164 : decode c_D_verify 164 = .ok (.istore_n 1, 1) := by decide +kernel
theorem d_D_verify_165 : decode c_D_verify 165 = .ok (.iload_n 1, 1) := by decide +kernel
theorem d_D_verify_166 : decode c_D_verify 166 = .ok (.aload_n 0, 1) := by decide +kernel
theorem d_D_verify_167 : decode c_D_verify 167 = .ok (.getfield 118, 3) := by decide +kernel
theorem d_D_verify_170 : decode c_D_verify 170 = .ok (.if_icmp .ge 56, 3) := by decide +kernel
theorem d_D_verify_173 : decode c_D_verify 173 = .ok (.aload_n 0, 1) := by decide +kernel
theorem d_D_verify_174 : decode c_D_verify 174 = .ok (.getfield 45, 3) := by decide +kernel
theorem d_D_verify_177 : decode c_D_verify 177 = .ok (.iload_n 1, 1) := by decide +kernel
theorem d_D_verify_178 : decode c_D_verify 178 = .ok (.baload, 1) := by decide +kernel
theorem d_D_verify_179 : decode c_D_verify 179 = .ok (.ifCond .eq 41, 3) := by decide +kernel
theorem d_D_verify_182 : decode c_D_verify 182 = .ok (.aload_n 0, 1) := by decide +kernel
theorem d_D_verify_183 : decode c_D_verify 183 = .ok (.dup, 1) := by decide +kernel
theorem d_D_verify_184 : decode c_D_verify 184 = .ok (.getfield 159, 3) := by decide +kernel
theorem d_D_verify_187 : decode c_D_verify 187 = .ok (.iconst 1, 1) := by decide +kernel
theorem d_D_verify_188 : decode c_D_verify 188 = .ok (.iadd, 1) := by decide +kernel
theorem d_D_verify_189 : decode c_D_verify 189 = .ok (.putfield 159, 3) := by decide +kernel
theorem d_D_verify_192 : decode c_D_verify 192 = .ok (.aload_n 0, 1) := by decide +kernel
theorem d_D_verify_193 : decode c_D_verify 193 = .ok (.getfield 21, 3) := by decide +kernel
theorem d_D_verify_196 : decode c_D_verify 196 = .ok (.iload_n 1, 1) := by decide +kernel
theorem d_D_verify_197 : decode c_D_verify 197 = .ok (.iaload, 1) := by decide +kernel
theorem d_D_verify_198 : decode c_D_verify 198 = .ok (.bipush 15, 2) := by decide +kernel
theorem d_D_verify_200 : decode c_D_verify 200 = .ok (.if_icmp .ne 20, 3) := by decide +kernel
theorem d_D_verify_203 : decode c_D_verify 203 = .ok (.aload_n 0, 1) := by decide +kernel
theorem d_D_verify_204 : decode c_D_verify 204 = .ok (.dup, 1) := by decide +kernel
theorem d_D_verify_205 : decode c_D_verify 205 = .ok (.getfield 162, 3) := by decide +kernel
theorem d_D_verify_208 : decode c_D_verify 208 = .ok (.lconst 1, 1) := by decide +kernel
theorem d_D_verify_209 : decode c_D_verify 209 = .ok (.aload_n 0, 1) := by decide +kernel
theorem d_D_verify_210 : decode c_D_verify 210 = .ok (.getfield 27, 3) := by decide +kernel
theorem d_D_verify_213 : decode c_D_verify 213 = .ok (.iload_n 1, 1) := by decide +kernel
theorem d_D_verify_214 : decode c_D_verify 214 = .ok (.iaload, 1) := by decide +kernel
theorem d_D_verify_215 : decode c_D_verify 215 = .ok (.lshl, 1) := by decide +kernel
theorem d_D_verify_216 : decode c_D_verify 216 = .ok (.lor, 1) := by decide +kernel
theorem d_D_verify_217 : decode c_D_verify 217 = .ok (.putfield 162, 3) := by decide +kernel
theorem d_D_verify_220 : decode c_D_verify 220 = .ok (.iinc 1 1, 3) := by decide +kernel
theorem d_D_verify_223 : decode c_D_verify 223 = .ok (.goto (-58), 3) := by decide +kernel
theorem d_D_verify_226 : decode c_D_verify 226 = .ok (.aload_n 0, 1) := by decide +kernel
theorem d_D_verify_227 : decode c_D_verify 227 = .ok (.getfield 130, 3) := by decide +kernel
theorem d_D_verify_230 : decode c_D_verify 230 = .ok (.ireturn, 1) := by decide +kernel
theorem d_D_begins_0 : decode c_D_begins 0 = .ok (.iconst 0, 1) := by decide +kernel
theorem d_D_begins_1 : decode c_D_begins 1 = .ok (.istore_n 1, 1) := by decide +kernel
theorem d_D_begins_2 : decode c_D_begins 2 = .ok (.iconst 0, 1) := by decide +kernel
theorem d_D_begins_3 : decode c_D_begins 3 = .ok (.istore_n 2, 1) := by decide +kernel
theorem d_D_begins_4 : decode c_D_begins 4 = .ok (.iload_n 2, 1) := by decide +kernel
theorem d_D_begins_5 : decode c_D_begins 5 = .ok (.bipush 12, 2) := by decide +kernel
theorem d_D_begins_7 : decode c_D_begins 7 = .ok (.if_icmp .ge 16, 3) := by decide +kernel
theorem d_D_begins_10 : decode c_D_begins 10 = .ok (.aload_n 0, 1) := by decide +kernel
theorem d_D_begins_11 : decode c_D_begins 11 = .ok (.getfield 79, 3) := by decide +kernel
theorem d_D_begins_14 : decode c_D_begins 14 = .ok (.iload_n 2, 1) := by decide +kernel
theorem d_D_begins_15 : decode c_D_begins 15 = .ok (.iconst 0, 1) := by decide +kernel
theorem d_D_begins_16 : decode c_D_begins 16 = .ok (.iastore, 1) := by decide +kernel
theorem d_D_begins_17 : decode c_D_begins 17 = .ok (.iinc 2 1, 3) := by decide +kernel
theorem d_D_begins_20 : decode c_D_begins 20 = .ok (.goto (-16), 3) := by decide +kernel
theorem d_D_begins_23 : decode c_D_begins 23 = .ok (.iconst 0, 1) := by decide +kernel
theorem d_D_begins_24 : decode c_D_begins 24 = .ok (.istore_n 2, 1) := by decide +kernel
theorem d_D_begins_25 : decode c_D_begins 25 = .ok (.iload_n 2, 1) := by decide +kernel
theorem d_D_begins_26 : decode c_D_begins 26 = .ok (.aload_n 0, 1) := by decide +kernel
theorem d_D_begins_27 : decode c_D_begins 27 = .ok (.getfield 124, 3) := by decide +kernel
theorem d_D_begins_30 : decode c_D_begins 30 = .ok (.if_icmp .ge 41, 3) := by decide +kernel
theorem d_D_begins_33 : decode c_D_begins 33 = .ok (.aload_n 0, 1) := by decide +kernel
theorem d_D_begins_34 : decode c_D_begins 34 = .ok (.getfield 79, 3) := by decide +kernel
theorem d_D_begins_37 : decode c_D_begins 37 = .ok (.iload_n 1, 1) := by decide +kernel
theorem d_D_begins_38 : decode c_D_begins 38 = .ok (.aload_n 0, 1) := by decide +kernel
theorem d_D_begins_39 : decode c_D_begins 39 = .ok (.getfield 42, 3) := by decide +kernel
theorem d_D_begins_42 : decode c_D_begins 42 = .ok (.iload_n 2, 1) := by decide +kernel
theorem d_D_begins_43 : decode c_D_begins 43 = .ok (.iaload, 1) := by decide +kernel
theorem d_D_begins_44 : decode c_D_begins 44 = .ok (.iastore, 1) := by decide +kernel
theorem d_D_begins_45 : decode c_D_begins 45 = .ok (.iload_n 1, 1) := by decide +kernel
theorem d_D_begins_46 : decode c_D_begins 46 = .ok (.aload_n 0, 1) := by decide +kernel
theorem d_D_begins_47 : decode c_D_begins 47 = .ok (.getfield 42, 3) := by decide +kernel
theorem d_D_begins_50 : decode c_D_begins 50 = .ok (.iload_n 2, 1) := by decide +kernel
theorem d_D_begins_51 : decode c_D_begins 51 = .ok (.iaload, 1) := by decide +kernel
theorem d_D_begins_52 : decode c_D_begins 52 = .ok (.invokestatic 140, 3) := by decide +kernel
theorem d_D_begins_55 : decode c_D_begins 55 = .ok (.ifCond .eq 7, 3) := by decide +kernel
theorem d_D_begins_58 : decode c_D_begins 58 = .ok (.iconst 2, 1) := by decide +kernel
theorem d_D_begins_59 : decode c_D_begins 59 = .ok (.goto 4, 3) := by decide +kernel
theorem d_D_begins_62 : decode c_D_begins 62 = .ok (.iconst 1, 1) := by decide +kernel
theorem d_D_begins_63 : decode c_D_begins 63 = .ok (.iadd, 1) := by decide +kernel
theorem d_D_begins_64 : decode c_D_begins 64 = .ok (.istore_n 1, 1) := by decide +kernel
theorem d_D_begins_65 : decode c_D_begins 65 = .ok (.iinc 2 1, 3) := by decide +kernel
theorem d_D_begins_68 : decode c_D_begins 68 = .ok (.goto (-43), 3) := by decide +kernel
theorem d_D_begins_71 : decode c_D_begins 71 = .ok (.aload_n 0, 1) := by decide +kernel
theorem d_D_begins_72 : decode c_D_begins 72 = .ok (.iconst 0, 1) := by decide +kernel
theorem d_D_begins_73 : decode c_D_begins 73 = .ok (.putfield 166, 3) := by decide +kernel
theorem d_D_begins_76 : decode c_D_begins 76 = .ok (.aload_n 0, 1) := by decide +kernel
theorem d_D_begins_77 : decode c_D_begins 77 = .ok (.lconst 0, 1) := by decide +kernel
theorem d_D_begins_78 : decode c_D_begins 78 = .ok (.putfield 169, 3) := by decide +kernel
theorem d_D_begins_81 : decode c_D_begins 81 = .ok (.aload_n 0, 1) := by decide +kernel
theorem d_D_begins_82 : decode c_D_begins 82 = .ok (.iconst 0, 1) := by decide +kernel
theorem d_D_begins_83 : decode c_D_begins 83 = .ok (.invokevirtual 172, 3) := by decide +kernel
theorem d_D_begins_86 : decode c_D_begins 86 = .ok (.return_, 1) := by decide +kernel
theorem d_D_meet_0 : decode c_D_meet 0 = .ok (.aload_n 0, 1) := by decide +kernel
theorem d_D_meet_1 : decode c_D_meet 1 = .ok (.getfield 45, 3) := by decide +kernel
theorem d_D_meet_4 : decode c_D_meet 4 = .ok (.iload_n 1, 1) := by decide +kernel
theorem d_D_meet_5 : decode c_D_meet 5 = .ok (.baload, 1) := by decide +kernel
theorem d_D_meet_6 : decode c_D_meet 6 = .ok (.ifCond .ne 133, 3) := by decide +kernel
theorem d_D_meet_9 : decode c_D_meet 9 = .ok (.aload_n 0, 1) := by decide +kernel
theorem d_D_meet_10 : decode c_D_meet 10 = .ok (.getfield 45, 3) := by decide +kernel
theorem d_D_meet_13 : decode c_D_meet 13 = .ok (.iload_n 1, 1) := by decide +kernel
theorem d_D_meet_14 : decode c_D_meet 14 = .ok (.iconst 1, 1) := by decide +kernel
theorem d_D_meet_15 : decode c_D_meet 15 = .ok (.bastore, 1) := by decide +kernel
theorem d_D_meet_16 : decode c_D_meet 16 = .ok (.aload_n 0, 1) := by decide +kernel
theorem d_D_meet_17 : decode c_D_meet 17 = .ok (.getfield 48, 3) := by decide +kernel
theorem d_D_meet_20 : decode c_D_meet 20 = .ok (.iload_n 1, 1) := by decide +kernel
theorem d_D_meet_21 : decode c_D_meet 21 = .ok (.iconst 1, 1) := by decide +kernel
theorem d_D_meet_22 : decode c_D_meet 22 = .ok (.bastore, 1) := by decide +kernel
theorem d_D_meet_23 : decode c_D_meet 23 = .ok (.aload_n 0, 1) := by decide +kernel
theorem d_D_meet_24 : decode c_D_meet 24 = .ok (.getfield 57, 3) := by decide +kernel
theorem d_D_meet_27 : decode c_D_meet 27 = .ok (.iload_n 1, 1) := by decide +kernel
theorem d_D_meet_28 : decode c_D_meet 28 = .ok (.aload_n 0, 1) := by decide +kernel
theorem d_D_meet_29 : decode c_D_meet 29 = .ok (.getfield 166, 3) := by decide +kernel
theorem d_D_meet_32 : decode c_D_meet 32 = .ok (.iastore, 1) := by decide +kernel
theorem d_D_meet_33 : decode c_D_meet 33 = .ok (.aload_n 0, 1) := by decide +kernel
theorem d_D_meet_34 : decode c_D_meet 34 = .ok (.getfield 63, 3) := by decide +kernel
theorem d_D_meet_37 : decode c_D_meet 37 = .ok (.iload_n 1, 1) := by decide +kernel
theorem d_D_meet_38 : decode c_D_meet 38 = .ok (.aload_n 0, 1) := by decide +kernel
theorem d_D_meet_39 : decode c_D_meet 39 = .ok (.getfield 169, 3) := by decide +kernel
theorem d_D_meet_42 : decode c_D_meet 42 = .ok (.lastore, 1) := by decide +kernel
theorem d_D_meet_43 : decode c_D_meet 43 = .ok (.iconst 0, 1) := by decide +kernel
theorem d_D_meet_44 : decode c_D_meet 44 = .ok (.istore_n 2, 1) := by decide +kernel
theorem d_D_meet_45 : decode c_D_meet 45 = .ok (.iload_n 2, 1) := by decide +kernel
theorem d_D_meet_46 : decode c_D_meet 46 = .ok (.bipush 12, 2) := by decide +kernel
theorem d_D_meet_48 : decode c_D_meet 48 = .ok (.if_icmp .ge 26, 3) := by decide +kernel
theorem d_D_meet_51 : decode c_D_meet 51 = .ok (.aload_n 0, 1) := by decide +kernel
theorem d_D_meet_52 : decode c_D_meet 52 = .ok (.getfield 51, 3) := by decide +kernel
theorem d_D_meet_55 : decode c_D_meet 55 = .ok (.bipush 12, 2) := by decide +kernel
theorem d_D_meet_57 : decode c_D_meet 57 = .ok (.iload_n 1, 1) := by decide +kernel
theorem d_D_meet_58 : decode c_D_meet 58 = .ok (.imul, 1) := by decide +kernel
theorem d_D_meet_59 : decode c_D_meet 59 = .ok (.iload_n 2, 1) := by decide +kernel
theorem d_D_meet_60 : decode c_D_meet 60 = .ok (.iadd, 1) := by decide +kernel
theorem d_D_meet_61 : decode c_D_meet 61 = .ok (.aload_n 0, 1) := by decide +kernel
theorem d_D_meet_62 : decode c_D_meet 62 = .ok (.getfield 79, 3) := by decide +kernel
theorem d_D_meet_65 : decode c_D_meet 65 = .ok (.iload_n 2, 1) := by decide +kernel
theorem d_D_meet_66 : decode c_D_meet 66 = .ok (.iaload, 1) := by decide +kernel
theorem d_D_meet_67 : decode c_D_meet 67 = .ok (.iastore, 1) := by decide +kernel
theorem d_D_meet_68 : decode c_D_meet 68 = .ok (.iinc 2 1, 3) := by decide +kernel
theorem d_D_meet_71 : decode c_D_meet 71 = .ok (.goto (-26), 3) := by decide +kernel
theorem d_D_meet_74 : decode c_D_meet 74 = .ok (.iconst 0, 1) := by decide +kernel
theorem d_D_meet_75 : decode c_D_meet 75 = .ok (.istore_n 2, 1) := by decide +kernel
theorem d_D_meet_76 : decode c_D_meet 76 = .ok (.iload_n 2, 1) := by decide +kernel
theorem d_D_meet_77 : decode c_D_meet 77 = .ok (.aload_n 0, 1) := by decide +kernel
theorem d_D_meet_78 : decode c_D_meet 78 = .ok (.getfield 166, 3) := by decide +kernel
theorem d_D_meet_81 : decode c_D_meet 81 = .ok (.if_icmp .ge 26, 3) := by decide +kernel
theorem d_D_meet_84 : decode c_D_meet 84 = .ok (.aload_n 0, 1) := by decide +kernel
theorem d_D_meet_85 : decode c_D_meet 85 = .ok (.getfield 54, 3) := by decide +kernel
theorem d_D_meet_88 : decode c_D_meet 88 = .ok (.bipush 12, 2) := by decide +kernel
theorem d_D_meet_90 : decode c_D_meet 90 = .ok (.iload_n 1, 1) := by decide +kernel
theorem d_D_meet_91 : decode c_D_meet 91 = .ok (.imul, 1) := by decide +kernel
theorem d_D_meet_92 : decode c_D_meet 92 = .ok (.iload_n 2, 1) := by decide +kernel
theorem d_D_meet_93 : decode c_D_meet 93 = .ok (.iadd, 1) := by decide +kernel
theorem d_D_meet_94 : decode c_D_meet 94 = .ok (.aload_n 0, 1) := by decide +kernel
theorem d_D_meet_95 : decode c_D_meet 95 = .ok (.getfield 82, 3) := by decide +kernel
theorem d_D_meet_98 : decode c_D_meet 98 = .ok (.iload_n 2, 1) := by decide +kernel
theorem d_D_meet_99 : decode c_D_meet 99 = .ok (.iaload, 1) := by decide +kernel
theorem d_D_meet_100 : decode c_D_meet 100 = .ok (.iastore, 1) := by decide +kernel
theorem d_D_meet_101 : decode c_D_meet 101 = .ok (.iinc 2 1, 3) := by decide +kernel
theorem d_D_meet_104 : decode c_D_meet 104 = .ok (.goto (-28), 3) := by decide +kernel
theorem d_D_meet_107 : decode c_D_meet 107 = .ok (.iconst 0, 1) := by decide +kernel
theorem d_D_meet_108 : decode c_D_meet 108 = .ok (.istore_n 2, 1) := by decide +kernel
theorem d_D_meet_109 : decode c_D_meet 109 = .ok (.iload_n 2, 1) := by decide +kernel
theorem d_D_meet_110 : decode c_D_meet 110 = .ok (.bipush 48, 2) := by decide +kernel
theorem d_D_meet_112 : decode c_D_meet 112 = .ok (.if_icmp .ge 26, 3) := by decide +kernel
theorem d_D_meet_115 : decode c_D_meet 115 = .ok (.aload_n 0, 1) := by decide +kernel
theorem d_D_meet_116 : decode c_D_meet 116 = .ok (.getfield 60, 3) := by decide +kernel
theorem d_D_meet_119 : decode c_D_meet 119 = .ok (.bipush 48, 2) := by decide +kernel
theorem d_D_meet_121 : decode c_D_meet 121 = .ok (.iload_n 1, 1) := by decide +kernel
theorem d_D_meet_122 : decode c_D_meet 122 = .ok (.imul, 1) := by decide +kernel
theorem d_D_meet_123 : decode c_D_meet 123 = .ok (.iload_n 2, 1) := by decide +kernel
theorem d_D_meet_124 : decode c_D_meet 124 = .ok (.iadd, 1) := by decide +kernel
theorem d_D_meet_125 : decode c_D_meet 125 = .ok (.aload_n 0, 1) := by decide +kernel
theorem d_D_meet_126 : decode c_D_meet 126 = .ok (.getfield 85, 3) := by decide +kernel
theorem d_D_meet_129 : decode c_D_meet 129 = .ok (.iload_n 2, 1) := by decide +kernel
theorem d_D_meet_130 : decode c_D_meet 130 = .ok (.iaload, 1) := by decide +kernel
theorem d_D_meet_131 : decode c_D_meet 131 = .ok (.iastore, 1) := by decide +kernel
theorem d_D_meet_132 : decode c_D_meet 132 = .ok (.iinc 2 1, 3) := by decide +kernel
theorem d_D_meet_135 : decode c_D_meet 135 = .ok (.goto (-26), 3) := by decide +kernel
theorem d_D_meet_138 : decode c_D_meet 138 = .ok (.return_, 1) := by decide +kernel
theorem d_D_meet_139 : decode c_D_meet 139 = .ok (.aload_n 0, 1) := by decide +kernel
theorem d_D_meet_140 : decode c_D_meet 140 = .ok (.getfield 57, 3) := by decide +kernel
theorem d_D_meet_143 : decode c_D_meet 143 = .ok (.iload_n 1, 1) := by decide +kernel
theorem d_D_meet_144 : decode c_D_meet 144 = .ok (.iaload, 1) := by decide +kernel
theorem d_D_meet_145 : decode c_D_meet 145 = .ok (.aload_n 0, 1) := by decide +kernel
theorem d_D_meet_146 : decode c_D_meet 146 = .ok (.getfield 166, 3) := by decide +kernel
theorem d_D_meet_149 : decode c_D_meet 149 = .ok (.if_icmp .eq 10, 3) := by decide +kernel
theorem d_D_meet_152 : decode c_D_meet 152 = .ok (.aload_n 0, 1) := by decide +kernel
theorem d_D_meet_153 : decode c_D_meet 153 = .ok (.iconst 4, 1) := by decide +kernel
theorem d_D_meet_154 : decode c_D_meet 154 = .ok (.iload_n 1, 1) := by decide +kernel
theorem d_D_meet_155 : decode c_D_meet 155 = .ok (.invokevirtual 133, 3) := by decide +kernel
theorem d_D_meet_158 : decode c_D_meet 158 = .ok (.return_, 1) := by decide +kernel
theorem d_D_meet_159 : decode c_D_meet 159 = .ok (.aload_n 0, 1) := by decide +kernel
theorem d_D_meet_160 : decode c_D_meet 160 = .ok (.getfield 63, 3) := by decide +kernel
theorem d_D_meet_163 : decode c_D_meet 163 = .ok (.iload_n 1, 1) := by decide +kernel
theorem d_D_meet_164 : decode c_D_meet 164 = .ok (.laload, 1) := by decide +kernel
theorem d_D_meet_165 : decode c_D_meet 165 = .ok (.aload_n 0, 1) := by decide +kernel
theorem d_D_meet_166 : decode c_D_meet 166 = .ok (.getfield 169, 3) := by decide +kernel
theorem d_D_meet_169 : decode c_D_meet 169 = .ok (.land, 1) := by decide +kernel
theorem d_D_meet_170 : decode c_D_meet 170 = .ok (.aload_n 0, 1) := by decide +kernel
theorem d_D_meet_171 : decode c_D_meet 171 = .ok (.getfield 63, 3) := by decide +kernel
theorem d_D_meet_174 : decode c_D_meet 174 = .ok (.iload_n 1, 1) := by decide +kernel
theorem d_D_meet_175 : decode c_D_meet 175 = .ok (.laload, 1) := by decide +kernel
theorem d_D_meet_176 : decode c_D_meet 176 = .ok (.lcmp, 1) := by decide +kernel
theorem d_D_meet_177 : decode c_D_meet 177 = .ok (.ifCond .eq 7, 3) := by decide +kernel
theorem d_D_meet_180 : decode c_D_meet 180 = .ok (.iconst 1, 1) := by decide +kernel
theorem d_D_meet_181 : decode c_D_meet 181 = .ok (.goto 4, 3) := by decide +kernel
theorem d_D_meet_184 : decode c_D_meet 184 = .ok (.iconst 0, 1) := by decide +kernel
theorem d_D_meet_185 : decode c_D_meet 185 = .ok (.istore_n 2, 1) := by decide +kernel
theorem d_D_meet_186 : decode c_D_meet 186 = .ok (.aload_n 0, 1) := by decide +kernel
theorem d_D_meet_187 : decode c_D_meet 187 = .ok (.getfield 63, 3) := by decide +kernel
theorem d_D_meet_190 : decode c_D_meet 190 = .ok (.iload_n 1, 1) := by decide +kernel
theorem d_D_meet_191 : decode c_D_meet 191 = .ok (.dup2, 1) := by decide +kernel
theorem d_D_meet_192 : decode c_D_meet 192 = .ok (.laload, 1) := by decide +kernel
theorem d_D_meet_193 : decode c_D_meet 193 = .ok (.aload_n 0, 1) := by decide +kernel
theorem d_D_meet_194 : decode c_D_meet 194 = .ok (.getfield 169, 3) := by decide +kernel
theorem d_D_meet_197 : decode c_D_meet 197 = .ok (.land, 1) := by decide +kernel
theorem d_D_meet_198 : decode c_D_meet 198 = .ok (.lastore, 1) := by decide +kernel
theorem d_D_meet_199 : decode c_D_meet 199 = .ok (.iconst 0, 1) := by decide +kernel
theorem d_D_meet_200 : decode c_D_meet 200 = .ok (.istore_n 3, 1) := by decide +kernel
theorem d_D_meet_201 : decode c_D_meet 201 = .ok (.iload_n 3, 1) := by decide +kernel
theorem d_D_meet_202 : decode c_D_meet 202 = .ok (.bipush 12, 2) := by decide +kernel
theorem d_D_meet_204 : decode c_D_meet 204 = .ok (.if_icmp .ge 69, 3) := by decide +kernel
theorem d_D_meet_207 : decode c_D_meet 207 = .ok (.aload_n 0, 1) := by decide +kernel
theorem d_D_meet_208 : decode c_D_meet 208 = .ok (.aload_n 0, 1) := by decide +kernel
theorem d_D_meet_209 : decode c_D_meet 209 = .ok (.getfield 51, 3) := by decide +kernel
theorem d_D_meet_212 : decode c_D_meet 212 = .ok (.bipush 12, 2) := by decide +kernel
theorem d_D_meet_214 : decode c_D_meet 214 = .ok (.iload_n 1, 1) := by decide +kernel
theorem d_D_meet_215 : decode c_D_meet 215 = .ok (.imul, 1) := by decide +kernel
theorem d_D_meet_216 : decode c_D_meet 216 = .ok (.iload_n 3, 1) := by decide +kernel
theorem d_D_meet_217 : decode c_D_meet 217 = .ok (.iadd, 1) := by decide +kernel
theorem d_D_meet_218 : decode c_D_meet 218 = .ok (.iaload, 1) := by decide +kernel
theorem d_D_meet_219 : decode c_D_meet 219 = .ok (.aload_n 0, 1) := by decide +kernel
theorem d_D_meet_220 : decode c_D_meet 220 = .ok (.getfield 79, 3) := by decide +kernel
theorem d_D_meet_223 : decode c_D_meet 223 = .ok (.iload_n 3, 1) := by decide +kernel
theorem d_D_meet_224 : decode c_D_meet 224 = .ok (.iaload, 1) := by decide +kernel
theorem d_D_meet_225 : decode c_D_meet 225 = .ok (.invokevirtual 175, 3) := by decide +kernel
theorem d_D_meet_228 : decode c_D_meet 228 = .ok (.istore 4, 2) := by decide +kernel
theorem d_D_meet_230 : decode c_D_meet 230 = .ok (.iload_n 2, 1) := by decide +kernel
theorem d_D_meet_231 : decode c_D_meet 231 = .ok (.iload 4, 2) := by decide +kernel
theorem d_D_meet_233 : decode c_D_meet 233 = .ok (.aload_n 0, 1) := by decide +kernel
theorem d_D_meet_234 : decode c_D_meet 234 = .ok (.getfield 51, 3) := by decide +kernel
theorem d_D_meet_237 : decode c_D_meet 237 = .ok (.bipush 12, 2) := by decide +kernel
theorem d_D_meet_239 : decode c_D_meet 239 = .ok (.iload_n 1, 1) := by decide +kernel
theorem d_D_meet_240 : decode c_D_meet 240 = .ok (.imul, 1) := by decide +kernel
theorem d_D_meet_241 : decode c_D_meet 241 = .ok (.iload_n 3, 1) := by decide +kernel
theorem d_D_meet_242 : decode c_D_meet 242 = .ok (.iadd, 1) := by decide +kernel
theorem d_D_meet_243 : decode c_D_meet 243 = .ok (.iaload, 1) := by decide +kernel
theorem d_D_meet_244 : decode c_D_meet 244 = .ok (.if_icmp .eq 7, 3) := by decide +kernel
theorem d_D_meet_247 : decode c_D_meet 247 = .ok (.iconst 1, 1) := by decide +kernel
theorem d_D_meet_248 : decode c_D_meet 248 = .ok (.goto 4, 3) := by decide +kernel
theorem d_D_meet_251 : decode c_D_meet 251 = .ok (.iconst 0, 1) := by decide +kernel
theorem d_D_meet_252 : decode c_D_meet 252 = .ok (.ior, 1) := by decide +kernel
theorem d_D_meet_253 : decode c_D_meet 253 = .ok (.istore_n 2, 1) := by decide +kernel
theorem d_D_meet_254 : decode c_D_meet 254 = .ok (.aload_n 0, 1) := by decide +kernel
theorem d_D_meet_255 : decode c_D_meet 255 = .ok (.getfield 51, 3) := by decide +kernel
theorem d_D_meet_258 : decode c_D_meet 258 = .ok (.bipush 12, 2) := by decide +kernel
theorem d_D_meet_260 : decode c_D_meet 260 = .ok (.iload_n 1, 1) := by decide +kernel
theorem d_D_meet_261 : decode c_D_meet 261 = .ok (.imul, 1) := by decide +kernel
theorem d_D_meet_262 : decode c_D_meet 262 = .ok (.iload_n 3, 1) := by decide +kernel
theorem d_D_meet_263 : decode c_D_meet 263 = .ok (.iadd, 1) := by decide +kernel
theorem d_D_meet_264 : decode c_D_meet 264 = .ok (.iload 4, 2) := by decide +kernel
theorem d_D_meet_266 : decode c_D_meet 266 = .ok (.iastore, 1) := by decide +kernel
theorem d_D_meet_267 : decode c_D_meet 267 = .ok (.iinc 3 1, 3) := by decide +kernel
theorem d_D_meet_270 : decode c_D_meet 270 = .ok (.goto (-69), 3) := by decide +kernel
theorem d_D_meet_273 : decode c_D_meet 273 = .ok (.iconst 0, 1) := by decide +kernel
theorem d_D_meet_274 : decode c_D_meet 274 = .ok (.istore_n 3, 1) := by decide +kernel
theorem d_D_meet_275 : decode c_D_meet 275 = .ok (.iload_n 3, 1) := by decide +kernel
theorem d_D_meet_276 : decode c_D_meet 276 = .ok (.aload_n 0, 1) := by decide +kernel
theorem d_D_meet_277 : decode c_D_meet 277 = .ok (.getfield 166, 3) := by decide +kernel
theorem d_D_meet_280 : decode c_D_meet 280 = .ok (.if_icmp .ge 69, 3) := by decide +kernel
theorem d_D_meet_283 : decode c_D_meet 283 = .ok (.aload_n 0, 1) := by decide +kernel
theorem d_D_meet_284 : decode c_D_meet 284 = .ok (.aload_n 0, 1) := by decide +kernel
theorem d_D_meet_285 : decode c_D_meet 285 = .ok (.getfield 54, 3) := by decide +kernel
theorem d_D_meet_288 : decode c_D_meet 288 = .ok (.bipush 12, 2) := by decide +kernel
theorem d_D_meet_290 : decode c_D_meet 290 = .ok (.iload_n 1, 1) := by decide +kernel
theorem d_D_meet_291 : decode c_D_meet 291 = .ok (.imul, 1) := by decide +kernel
theorem d_D_meet_292 : decode c_D_meet 292 = .ok (.iload_n 3, 1) := by decide +kernel
theorem d_D_meet_293 : decode c_D_meet 293 = .ok (.iadd, 1) := by decide +kernel
theorem d_D_meet_294 : decode c_D_meet 294 = .ok (.iaload, 1) := by decide +kernel
theorem d_D_meet_295 : decode c_D_meet 295 = .ok (.aload_n 0, 1) := by decide +kernel
theorem d_D_meet_296 : decode c_D_meet 296 = .ok (.getfield 82, 3) := by decide +kernel
theorem d_D_meet_299 : decode c_D_meet 299 = .ok (.iload_n 3, 1) := by decide +kernel
theorem d_D_meet_300 : decode c_D_meet 300 = .ok (.iaload, 1) := by decide +kernel
theorem d_D_meet_301 : decode c_D_meet 301 = .ok (.invokevirtual 175, 3) := by decide +kernel
theorem d_D_meet_304 : decode c_D_meet 304 = .ok (.istore 4, 2) := by decide +kernel
theorem d_D_meet_306 : decode c_D_meet 306 = .ok (.iload_n 2, 1) := by decide +kernel
theorem d_D_meet_307 : decode c_D_meet 307 = .ok (.iload 4, 2) := by decide +kernel
theorem d_D_meet_309 : decode c_D_meet 309 = .ok (.aload_n 0, 1) := by decide +kernel
theorem d_D_meet_310 : decode c_D_meet 310 = .ok (.getfield 54, 3) := by decide +kernel
theorem d_D_meet_313 : decode c_D_meet 313 = .ok (.bipush 12, 2) := by decide +kernel
theorem d_D_meet_315 : decode c_D_meet 315 = .ok (.iload_n 1, 1) := by decide +kernel
theorem d_D_meet_316 : decode c_D_meet 316 = .ok (.imul, 1) := by decide +kernel
theorem d_D_meet_317 : decode c_D_meet 317 = .ok (.iload_n 3, 1) := by decide +kernel
theorem d_D_meet_318 : decode c_D_meet 318 = .ok (.iadd, 1) := by decide +kernel
theorem d_D_meet_319 : decode c_D_meet 319 = .ok (.iaload, 1) := by decide +kernel
theorem d_D_meet_320 : decode c_D_meet 320 = .ok (.if_icmp .eq 7, 3) := by decide +kernel
theorem d_D_meet_323 : decode c_D_meet 323 = .ok (.iconst 1, 1) := by decide +kernel
theorem d_D_meet_324 : decode c_D_meet 324 = .ok (.goto 4, 3) := by decide +kernel
theorem d_D_meet_327 : decode c_D_meet 327 = .ok (.iconst 0, 1) := by decide +kernel
theorem d_D_meet_328 : decode c_D_meet 328 = .ok (.ior, 1) := by decide +kernel
theorem d_D_meet_329 : decode c_D_meet 329 = .ok (.istore_n 2, 1) := by decide +kernel
theorem d_D_meet_330 : decode c_D_meet 330 = .ok (.aload_n 0, 1) := by decide +kernel
theorem d_D_meet_331 : decode c_D_meet 331 = .ok (.getfield 54, 3) := by decide +kernel
theorem d_D_meet_334 : decode c_D_meet 334 = .ok (.bipush 12, 2) := by decide +kernel
theorem d_D_meet_336 : decode c_D_meet 336 = .ok (.iload_n 1, 1) := by decide +kernel
theorem d_D_meet_337 : decode c_D_meet 337 = .ok (.imul, 1) := by decide +kernel
theorem d_D_meet_338 : decode c_D_meet 338 = .ok (.iload_n 3, 1) := by decide +kernel
theorem d_D_meet_339 : decode c_D_meet 339 = .ok (.iadd, 1) := by decide +kernel
theorem d_D_meet_340 : decode c_D_meet 340 = .ok (.iload 4, 2) := by decide +kernel
theorem d_D_meet_342 : decode c_D_meet 342 = .ok (.iastore, 1) := by decide +kernel
theorem d_D_meet_343 : decode c_D_meet 343 = .ok (.iinc 3 1, 3) := by decide +kernel
theorem d_D_meet_346 : decode c_D_meet 346 = .ok (.goto (-71), 3) := by decide +kernel
theorem d_D_meet_349 : decode c_D_meet 349 = .ok (.iconst 0, 1) := by decide +kernel
theorem d_D_meet_350 : decode c_D_meet 350 = .ok (.istore_n 3, 1) := by decide +kernel
theorem d_D_meet_351 : decode c_D_meet 351 = .ok (.iload_n 3, 1) := by decide +kernel
theorem d_D_meet_352 : decode c_D_meet 352 = .ok (.bipush 48, 2) := by decide +kernel
theorem d_D_meet_354 : decode c_D_meet 354 = .ok (.if_icmp .ge 84, 3) := by decide +kernel
theorem d_D_meet_357 : decode c_D_meet 357 = .ok (.aload_n 0, 1) := by decide +kernel
theorem d_D_meet_358 : decode c_D_meet 358 = .ok (.getfield 63, 3) := by decide +kernel
theorem d_D_meet_361 : decode c_D_meet 361 = .ok (.iload_n 1, 1) := by decide +kernel
theorem d_D_meet_362 : decode c_D_meet 362 = .ok (.laload, 1) := by decide +kernel
theorem d_D_meet_363 : decode c_D_meet 363 = .ok (.iload_n 3, 1) := by decide +kernel
theorem d_D_meet_364 : decode c_D_meet 364 = .ok (.lshr, 1) := by decide +kernel
theorem d_D_meet_365 : decode c_D_meet 365 = .ok (.lconst 1, 1) := by decide +kernel
theorem d_D_meet_366 : decode c_D_meet 366 = .ok (.land, 1) := by decide +kernel
theorem d_D_meet_367 : decode c_D_meet 367 = .ok (.lconst 0, 1) := by decide +kernel
theorem d_D_meet_368 : decode c_D_meet 368 = .ok (.lcmp, 1) := by decide +kernel
theorem d_D_meet_369 : decode c_D_meet 369 = .ok (.ifCond .ne 6, 3) := by decide +kernel
theorem d_D_meet_372 : decode c_D_meet 372 = .ok (.goto 60, 3) := by decide +kernel
theorem d_D_meet_375 : decode c_D_meet 375 = .ok (.aload_n 0, 1) := by decide +kernel
theorem d_D_meet_376 : decode c_D_meet 376 = .ok (.getfield 60, 3) := by decide +kernel
theorem d_D_meet_379 : decode c_D_meet 379 = .ok (.bipush 48, 2) := by decide +kernel
theorem d_D_meet_381 : decode c_D_meet 381 = .ok (.iload_n 1, 1) := by decide +kernel
theorem d_D_meet_382 : decode c_D_meet 382 = .ok (.imul, 1) := by decide +kernel
theorem d_D_meet_383 : decode c_D_meet 383 = .ok (.iload_n 3, 1) := by decide +kernel
theorem d_D_meet_384 : decode c_D_meet 384 = .ok (.iadd, 1) := by decide +kernel
theorem d_D_meet_385 : decode c_D_meet 385 = .ok (.iaload, 1) := by decide +kernel
theorem d_D_meet_386 : decode c_D_meet 386 = .ok (.aload_n 0, 1) := by decide +kernel
theorem d_D_meet_387 : decode c_D_meet 387 = .ok (.getfield 85, 3) := by decide +kernel
theorem d_D_meet_390 : decode c_D_meet 390 = .ok (.iload_n 3, 1) := by decide +kernel
theorem d_D_meet_391 : decode c_D_meet 391 = .ok (.iaload, 1) := by decide +kernel
theorem d_D_meet_392 : decode c_D_meet 392 = .ok (.ior, 1) := by decide +kernel
theorem d_D_meet_393 : decode c_D_meet 393 = .ok (.istore 4, 2) := by decide +kernel
theorem d_D_meet_395 : decode c_D_meet 395 = .ok (.iload_n 2, 1) := by decide +kernel
theorem d_D_meet_396 : decode c_D_meet 396 = .ok (.iload 4, 2) := by decide +kernel
theorem d_D_meet_398 : decode c_D_meet 398 = .ok (.aload_n 0, 1) := by decide +kernel
theorem d_D_meet_399 : decode c_D_meet 399 = .ok (.getfield 60, 3) := by decide +kernel
theorem d_D_meet_402 : decode c_D_meet 402 = .ok (.bipush 48, 2) := by decide +kernel
theorem d_D_meet_404 : decode c_D_meet 404 = .ok (.iload_n 1, 1) := by decide +kernel
theorem d_D_meet_405 : decode c_D_meet 405 = .ok (.imul, 1) := by decide +kernel
theorem d_D_meet_406 : decode c_D_meet 406 = .ok (.iload_n 3, 1) := by decide +kernel
theorem d_D_meet_407 : decode c_D_meet 407 = .ok (.iadd, 1) := by decide +kernel
theorem d_D_meet_408 : decode c_D_meet 408 = .ok (.iaload, 1) := by decide +kernel
theorem d_D_meet_409 : decode c_D_meet 409 = .ok (.if_icmp .eq 7, 3) := by decide +kernel
theorem d_D_meet_412 : decode c_D_meet 412 = .ok (.iconst 1, 1) := by decide +kernel
theorem d_D_meet_413 : decode c_D_meet 413 = .ok (.goto 4, 3) := by decide +kernel
theorem d_D_meet_416 : decode c_D_meet 416 = .ok (.iconst 0, 1) := by decide +kernel
theorem d_D_meet_417 : decode c_D_meet 417 = .ok (.ior, 1) := by decide +kernel
theorem d_D_meet_418 : decode c_D_meet 418 = .ok (.istore_n 2, 1) := by decide +kernel
theorem d_D_meet_419 : decode c_D_meet 419 = .ok (.aload_n 0, 1) := by decide +kernel
theorem d_D_meet_420 : decode c_D_meet 420 = .ok (.getfield 60, 3) := by decide +kernel
theorem d_D_meet_423 : decode c_D_meet 423 = .ok (.bipush 48, 2) := by decide +kernel
theorem d_D_meet_425 : decode c_D_meet 425 = .ok (.iload_n 1, 1) := by decide +kernel
theorem d_D_meet_426 : decode c_D_meet 426 = .ok (.imul, 1) := by decide +kernel
theorem d_D_meet_427 : decode c_D_meet 427 = .ok (.iload_n 3, 1) := by decide +kernel
theorem d_D_meet_428 : decode c_D_meet 428 = .ok (.iadd, 1) := by decide +kernel
theorem d_D_meet_429 : decode c_D_meet 429 = .ok (.iload 4, 2) := by decide +kernel
theorem d_D_meet_431 : decode c_D_meet 431 = .ok (.iastore, 1) := by decide +kernel
theorem d_D_meet_432 : decode c_D_meet 432 = .ok (.iinc 3 1, 3) := by decide +kernel
theorem d_D_meet_435 : decode c_D_meet 435 = .ok (.goto (-84), 3) := by decide +kernel
theorem d_D_meet_438 : decode c_D_meet 438 = .ok (.iload_n 2, 1) := by decide +kernel
theorem d_D_meet_439 : decode c_D_meet 439 = .ok (.ifCond .eq 10, 3) := by decide +kernel
theorem d_D_meet_442 : decode c_D_meet 442 = .ok (.aload_n 0, 1) := by decide +kernel
theorem d_D_meet_443 : decode c_D_meet 443 = .ok (.getfield 48, 3) := by decide +kernel
theorem d_D_meet_446 : decode c_D_meet 446 = .ok (.iload_n 1, 1) := by decide +kernel
theorem d_D_meet_447 : decode c_D_meet 447 = .ok (.iconst 1, 1) := by decide +kernel
theorem d_D_meet_448 : decode c_D_meet 448 = .ok (.bastore, 1) := by decide +kernel
theorem d_D_meet_449 : decode c_D_meet 449 = .ok (.return_, 1) := by decide +kernel
theorem d_D_hasRaw_0 : decode c_D_hasRaw 0 = .ok (.iconst 0, 1) := by decide +kernel
theorem d_D_hasRaw_1 : decode c_D_hasRaw 1 = .ok (.istore_n 2, 1) := by decide +kernel
theorem d_D_hasRaw_2 : decode c_D_hasRaw 2 = .ok (.iload_n 2, 1) := by decide +kernel
theorem d_D_hasRaw_3 : decode c_D_hasRaw 3 = .ok (.bipush 12, 2) := by decide +kernel
theorem d_D_hasRaw_5 : decode c_D_hasRaw 5 = .ok (.if_icmp .ge 29, 3) := by decide +kernel
theorem d_D_hasRaw_8 : decode c_D_hasRaw 8 = .ok (.aload_n 0, 1) := by decide +kernel
theorem d_D_hasRaw_9 : decode c_D_hasRaw 9 = .ok (.getfield 79, 3) := by decide +kernel
theorem d_D_hasRaw_12 : decode c_D_hasRaw 12 = .ok (.iload_n 2, 1) := by decide +kernel
theorem d_D_hasRaw_13 : decode c_D_hasRaw 13 = .ok (.iaload, 1) := by decide +kernel
theorem d_D_hasRaw_14 : decode c_D_hasRaw 14 = .ok (.sipush 1000, 3) := by decide +kernel
theorem d_D_hasRaw_17 : decode c_D_hasRaw 17 = .ok (.sipush 1099, 3) := by decide +kernel
theorem d_D_hasRaw_20 : decode c_D_hasRaw 20 = .ok (.invokestatic 91, 3) := by decide +kernel
theorem d_D_hasRaw_23 : decode c_D_hasRaw 23 = .ok (.ifCond .eq 5, 3) := by decide +kernel
theorem d_D_hasRaw_26 : decode c_D_hasRaw 26 = .ok (.iconst 1, 1) := by decide +kernel
theorem d_D_hasRaw_27 : decode c_D_hasRaw 27 = .ok (.ireturn, 1) := by decide +kernel
theorem d_D_hasRaw_28 : decode c_D_hasRaw 28 = .ok (.iinc 2 1, 3) := by decide +kernel
theorem d_D_hasRaw_31 : decode c_D_hasRaw 31 = .ok (.goto (-29), 3) := by decide +kernel
theorem d_D_hasRaw_34 : decode c_D_hasRaw 34 = .ok (.iconst 0, 1) := by decide +kernel
theorem d_D_hasRaw_35 : decode c_D_hasRaw 35 = .ok (.istore_n 2, 1) := by decide +kernel
theorem d_D_hasRaw_36 : decode c_D_hasRaw 36 = .ok (.iload_n 2, 1) := by decide +kernel
theorem d_D_hasRaw_37 : decode c_D_hasRaw 37 = .ok (.aload_n 0, 1) := by decide +kernel
theorem d_D_hasRaw_38 : decode c_D_hasRaw 38 = .ok (.getfield 166, 3) := by decide +kernel
theorem d_D_hasRaw_41 : decode c_D_hasRaw 41 = .ok (.if_icmp .ge 33, 3) := by decide +kernel
theorem d_D_hasRaw_44 : decode c_D_hasRaw 44 = .ok (.iload_n 1, 1) := by decide +kernel
theorem d_D_hasRaw_45 : decode c_D_hasRaw 45 = .ok (.ifCond .eq 29, 3) := by decide +kernel
theorem d_D_hasRaw_48 : decode c_D_hasRaw 48 = .ok (.aload_n 0, 1) := by decide +kernel
theorem d_D_hasRaw_49 : decode c_D_hasRaw 49 = .ok (.getfield 82, 3) := by decide +kernel
theorem d_D_hasRaw_52 : decode c_D_hasRaw 52 = .ok (.iload_n 2, 1) := by decide +kernel
theorem d_D_hasRaw_53 : decode c_D_hasRaw 53 = .ok (.iaload, 1) := by decide +kernel
theorem d_D_hasRaw_54 : decode c_D_hasRaw 54 = .ok (.sipush 1000, 3) := by decide +kernel
theorem d_D_hasRaw_57 : decode c_D_hasRaw 57 = .ok (.sipush 1099, 3) := by decide +kernel
theorem d_D_hasRaw_60 : decode c_D_hasRaw 60 = .ok (.invokestatic 91, 3) := by decide +kernel
theorem d_D_hasRaw_63 : decode c_D_hasRaw 63 = .ok (.ifCond .eq 5, 3) := by decide +kernel
theorem d_D_hasRaw_66 : decode c_D_hasRaw 66 = .ok (.iconst 1, 1) := by decide +kernel
theorem d_D_hasRaw_67 : decode c_D_hasRaw 67 = .ok (.ireturn, 1) := by decide +kernel
theorem d_D_hasRaw_68 : decode c_D_hasRaw 68 = .ok (.iinc 2 1, 3) := by decide +kernel
theorem d_D_hasRaw_71 : decode c_D_hasRaw 71 = .ok (.goto (-35), 3) := by decide +kernel
theorem d_D_hasRaw_74 : decode c_D_hasRaw 74 = .ok (.iconst 0, 1) := by decide +kernel
theorem d_D_hasRaw_75 : decode c_D_hasRaw 75 = .ok (.ireturn, 1) := by decide +kernel
theorem d_D_go_0 : decode c_D_go 0 = .ok (.aload_n 0, 1) := by decide +kernel
theorem d_D_go_1 : decode c_D_go 1 = .ok (.getfield 130, 3) := by decide +kernel
theorem d_D_go_4 : decode c_D_go 4 = .ok (.ifCond .le 4, 3) := by decide +kernel
theorem d_D_go_7 : decode c_D_go 7 = .ok (.return_, 1) := by decide +kernel
theorem d_D_go_8 : decode c_D_go 8 = .ok (.iload_n 2, 1) := by decide +kernel
theorem d_D_go_9 : decode c_D_go 9 = .ok (.aload_n 0, 1) := by decide +kernel
theorem d_D_go_10 : decode c_D_go 10 = .ok (.getfield 118, 3) := by decide +kernel
theorem d_D_go_13 : decode c_D_go 13 = .ok (.if_icmp .lt 10, 3) := by decide +kernel
theorem d_D_go_16 : decode c_D_go 16 = .ok (.aload_n 0, 1) := by decide +kernel
theorem d_D_go_17 : decode c_D_go 17 = .ok (.iconst 5, 1) := by decide +kernel
theorem d_D_go_18 : decode c_D_go 18 = .ok (.iload_n 1, 1) := by decide +kernel
theorem d_D_go_19 : decode c_D_go 19 = .ok (.invokevirtual 133, 3) := by decide +kernel
theorem d_D_go_22 : decode c_D_go 22 = .ok (.return_, 1) := by decide +kernel
theorem d_D_go_23 : decode c_D_go 23 = .ok (.iload_n 2, 1) := by decide +kernel
theorem d_D_go_24 : decode c_D_go 24 = .ok (.iload_n 1, 1) := by decide +kernel
theorem d_D_go_25 : decode c_D_go 25 = .ok (.if_icmp .gt 19, 3) := by decide +kernel
theorem d_D_go_28 : decode c_D_go 28 = .ok (.aload_n 0, 1) := by decide +kernel
theorem d_D_go_29 : decode c_D_go 29 = .ok (.iconst 1, 1) := by decide +kernel
theorem d_D_go_30 : decode c_D_go 30 = .ok (.invokevirtual 179, 3) := by decide +kernel
theorem d_D_go_33 : decode c_D_go 33 = .ok (.ifCond .eq 11, 3) := by decide +kernel
theorem d_D_go_36 : decode c_D_go 36 = .ok (.aload_n 0, 1) := by decide +kernel
theorem d_D_go_37 : decode c_D_go 37 = .ok (.bipush 8, 2) := by decide +kernel
theorem d_D_go_39 : decode c_D_go 39 = .ok (.iload_n 1, 1) := by decide +kernel
theorem d_D_go_40 : decode c_D_go 40 = .ok (.invokevirtual 133, 3) := by decide +kernel
theorem d_D_go_43 : decode c_D_go 43 = .ok (.return_, 1) := by decide +kernel
theorem d_D_go_44 : decode c_D_go 44 = .ok (.aload_n 0, 1) := by decide +kernel
theorem d_D_go_45 : decode c_D_go 45 = .ok (.iload_n 2, 1) := by decide +kernel
theorem d_D_go_46 : decode c_D_go 46 = .ok (.invokevirtual 172, 3) := by decide +kernel
theorem d_D_go_49 : decode c_D_go 49 = .ok (.return_, 1) := by decide +kernel
end
section
theorem d_D_copyOut_0 : decode c_D_copyOut 0 = .ok (.iconst 0, 1) := by decide +kernel
theorem d_D_copyOut_1 : decode c_D_copyOut 1 = .ok (.istore_n 1, 1) := by decide +kernel
theorem d_D_copyOut_2 : decode c_D_copyOut 2 = .ok (.iload_n 1, 1) := by decide +kernel
theorem d_D_copyOut_3 : decode c_D_copyOut 3 = .ok (.bipush 12, 2) := by decide +kernel
theorem d_D_copyOut_5 : decode c_D_copyOut 5 = .ok (.if_icmp .ge 21, 3) := by decide +kernel
theorem d_D_copyOut_8 : decode c_D_copyOut 8 = .ok (.aload_n 0, 1) := by decide +kernel
theorem d_D_copyOut_9 : decode c_D_copyOut 9 = .ok (.getfield 79, 3) := by decide +kernel
theorem d_D_copyOut_12 : decode c_D_copyOut 12 = .ok (.iload_n 1, 1) := by decide +kernel
theorem d_D_copyOut_13 : decode c_D_copyOut 13 = .ok (.aload_n 0, 1) := by decide +kernel
theorem d_D_copyOut_14 : decode c_D_copyOut 14 = .ok (.getfield 70, 3) := by decide +kernel
theorem d_D_copyOut_17 : decode c_D_copyOut 17 = .ok (.iload_n 1, 1) := by decide +kernel
theorem d_D_copyOut_18 : decode c_D_copyOut 18 = .ok (.iaload, 1) := by decide +kernel
theorem d_D_copyOut_19 : decode c_D_copyOut 19 = .ok (.iastore, 1) := by decide +kernel
theorem d_D_copyOut_20 : decode c_D_copyOut 20 = .ok (.iinc 1 1, 3) := by decide +kernel
theorem d_D_copyOut_23 : decode c_D_copyOut 23 = .ok (.goto (-21), 3) := by decide +kernel
theorem d_D_copyOut_26 : decode c_D_copyOut 26 = .ok (.iconst 0, 1) := by decide +kernel
theorem d_D_copyOut_27 : decode c_D_copyOut 27 = .ok (.istore_n 1, 1) := by decide +kernel
theorem d_D_copyOut_28 : decode c_D_copyOut 28 = .ok (.iload_n 1, 1) := by decide +kernel
theorem d_D_copyOut_29 : decode c_D_copyOut 29 = .ok (.aload_n 0, 1) := by decide +kernel
theorem d_D_copyOut_30 : decode c_D_copyOut 30 = .ok (.getfield 183, 3) := by decide +kernel
theorem d_D_copyOut_33 : decode c_D_copyOut 33 = .ok (.if_icmp .ge 21, 3) := by decide +kernel
theorem d_D_copyOut_36 : decode c_D_copyOut 36 = .ok (.aload_n 0, 1) := by decide +kernel
theorem d_D_copyOut_37 : decode c_D_copyOut 37 = .ok (.getfield 82, 3) := by decide +kernel
theorem d_D_copyOut_40 : decode c_D_copyOut 40 = .ok (.iload_n 1, 1) := by decide +kernel
theorem d_D_copyOut_41 : decode c_D_copyOut 41 = .ok (.aload_n 0, 1) := by decide +kernel
theorem d_D_copyOut_42 : decode c_D_copyOut 42 = .ok (.getfield 73, 3) := by decide +kernel
theorem d_D_copyOut_45 : decode c_D_copyOut 45 = .ok (.iload_n 1, 1) := by decide +kernel
theorem d_D_copyOut_46 : decode c_D_copyOut 46 = .ok (.iaload, 1) := by decide +kernel
theorem d_D_copyOut_47 : decode c_D_copyOut 47 = .ok (.iastore, 1) := by decide +kernel
theorem d_D_copyOut_48 : decode c_D_copyOut 48 = .ok (.iinc 1 1, 3) := by decide +kernel
theorem d_D_copyOut_51 : decode c_D_copyOut 51 = .ok (.goto (-23), 3) := by decide +kernel
theorem d_D_copyOut_54 : decode c_D_copyOut 54 = .ok (.iconst 0, 1) := by decide +kernel
theorem d_D_copyOut_55 : decode c_D_copyOut 55 = .ok (.istore_n 1, 1) := by decide +kernel
theorem d_D_copyOut_56 : decode c_D_copyOut 56 = .ok (.iload_n 1, 1) := by decide +kernel
theorem d_D_copyOut_57 : decode c_D_copyOut 57 = .ok (.bipush 48, 2) := by decide +kernel
theorem d_D_copyOut_59 : decode c_D_copyOut 59 = .ok (.if_icmp .ge 21, 3) := by decide +kernel
theorem d_D_copyOut_62 : decode c_D_copyOut 62 = .ok (.aload_n 0, 1) := by decide +kernel
theorem d_D_copyOut_63 : decode c_D_copyOut 63 = .ok (.getfield 85, 3) := by decide +kernel
theorem d_D_copyOut_66 : decode c_D_copyOut 66 = .ok (.iload_n 1, 1) := by decide +kernel
theorem d_D_copyOut_67 : decode c_D_copyOut 67 = .ok (.aload_n 0, 1) := by decide +kernel
theorem d_D_copyOut_68 : decode c_D_copyOut 68 = .ok (.getfield 76, 3) := by decide +kernel
theorem d_D_copyOut_71 : decode c_D_copyOut 71 = .ok (.iload_n 1, 1) := by decide +kernel
theorem d_D_copyOut_72 : decode c_D_copyOut 72 = .ok (.iaload, 1) := by decide +kernel
theorem d_D_copyOut_73 : decode c_D_copyOut 73 = .ok (.iastore, 1) := by decide +kernel
theorem d_D_copyOut_74 : decode c_D_copyOut 74 = .ok (.iinc 1 1, 3) := by decide +kernel
theorem d_D_copyOut_77 : decode c_D_copyOut 77 = .ok (.goto (-21), 3) := by decide +kernel
theorem d_D_copyOut_80 : decode c_D_copyOut 80 = .ok (.aload_n 0, 1) := by decide +kernel
theorem d_D_copyOut_81 : decode c_D_copyOut 81 = .ok (.aload_n 0, 1) := by decide +kernel
theorem d_D_copyOut_82 : decode c_D_copyOut 82 = .ok (.getfield 183, 3) := by decide +kernel
theorem d_D_copyOut_85 : decode c_D_copyOut 85 = .ok (.putfield 166, 3) := by decide +kernel
theorem d_D_copyOut_88 : decode c_D_copyOut 88 = .ok (.aload_n 0, 1) := by decide +kernel
theorem d_D_copyOut_89 : decode c_D_copyOut 89 = .ok (.aload_n 0, 1) := by decide +kernel
theorem d_D_copyOut_90 : decode c_D_copyOut 90 = .ok (.getfield 186, 3) := by decide +kernel
theorem d_D_copyOut_93 : decode c_D_copyOut 93 = .ok (.putfield 169, 3) := by decide +kernel
theorem d_D_copyOut_96 : decode c_D_copyOut 96 = .ok (.return_, 1) := by decide +kernel
theorem d_D_lookAt_0 : decode c_D_lookAt 0 = .ok (.aload_n 0, 1) := by decide +kernel
theorem d_D_lookAt_1 : decode c_D_lookAt 1 = .ok (.dup, 1) := by decide +kernel
theorem d_D_lookAt_2 : decode c_D_lookAt 2 = .ok (.getfield 143, 3) := by decide +kernel
theorem d_D_lookAt_5 : decode c_D_lookAt 5 = .ok (.iconst 1, 1) := by decide +kernel
theorem d_D_lookAt_6 : decode c_D_lookAt 6 = .ok (.iadd, 1) := by decide +kernel
theorem d_D_lookAt_7 : decode c_D_lookAt 7 = .ok (.putfield 143, 3) := by decide +kernel
theorem d_D_lookAt_10 : decode c_D_lookAt 10 = .ok (.aload_n 0, 1) := by decide +kernel
theorem d_D_lookAt_11 : decode c_D_lookAt 11 = .ok (.getfield 48, 3) := by decide +kernel
theorem d_D_lookAt_14 : decode c_D_lookAt 14 = .ok (.iload_n 1, 1) := by decide +kernel
theorem d_D_lookAt_15 : decode c_D_lookAt 15 = .ok (.iconst 0, 1) := by decide +kernel
theorem d_D_lookAt_16 : decode c_D_lookAt 16 = .ok (.bastore, 1) := by decide +kernel
theorem d_D_lookAt_17 : decode c_D_lookAt 17 = .ok (.aload_n 0, 1) := by decide +kernel
theorem d_D_lookAt_18 : decode c_D_lookAt 18 = .ok (.iconst 0, 1) := by decide +kernel
theorem d_D_lookAt_19 : decode c_D_lookAt 19 = .ok (.putfield 189, 3) := by decide +kernel
theorem d_D_lookAt_22 : decode c_D_lookAt 22 = .ok (.aload_n 0, 1) := by decide +kernel
theorem d_D_lookAt_23 : decode c_D_lookAt 23 = .ok (.aload_n 0, 1) := by decide +kernel
theorem d_D_lookAt_24 : decode c_D_lookAt 24 = .ok (.getfield 57, 3) := by decide +kernel
theorem d_D_lookAt_27 : decode c_D_lookAt 27 = .ok (.iload_n 1, 1) := by decide +kernel
theorem d_D_lookAt_28 : decode c_D_lookAt 28 = .ok (.iaload, 1) := by decide +kernel
theorem d_D_lookAt_29 : decode c_D_lookAt 29 = .ok (.putfield 183, 3) := by decide +kernel
theorem d_D_lookAt_32 : decode c_D_lookAt 32 = .ok (.aload_n 0, 1) := by decide +kernel
theorem d_D_lookAt_33 : decode c_D_lookAt 33 = .ok (.aload_n 0, 1) := by decide +kernel
theorem d_D_lookAt_34 : decode c_D_lookAt 34 = .ok (.getfield 63, 3) := by decide +kernel
theorem d_D_lookAt_37 : decode c_D_lookAt 37 = .ok (.iload_n 1, 1) := by decide +kernel
theorem d_D_lookAt_38 : decode c_D_lookAt 38 = .ok (.laload, 1) := by decide +kernel
theorem d_D_lookAt_39 : decode c_D_lookAt 39 = .ok (.putfield 186, 3) := by decide +kernel
theorem d_D_lookAt_42 : decode c_D_lookAt 42 = .ok (.iconst 0, 1) := by decide +kernel
theorem d_D_lookAt_43 : decode c_D_lookAt 43 = .ok (.istore_n 2, 1) := by decide +kernel
theorem d_D_lookAt_44 : decode c_D_lookAt 44 = .ok (.iload_n 2, 1) := by decide +kernel
theorem d_D_lookAt_45 : decode c_D_lookAt 45 = .ok (.bipush 12, 2) := by decide +kernel
theorem d_D_lookAt_47 : decode c_D_lookAt 47 = .ok (.if_icmp .ge 26, 3) := by decide +kernel
theorem d_D_lookAt_50 : decode c_D_lookAt 50 = .ok (.aload_n 0, 1) := by decide +kernel
theorem d_D_lookAt_51 : decode c_D_lookAt 51 = .ok (.getfield 70, 3) := by decide +kernel
theorem d_D_lookAt_54 : decode c_D_lookAt 54 = .ok (.iload_n 2, 1) := by decide +kernel
theorem d_D_lookAt_55 : decode c_D_lookAt 55 = .ok (.aload_n 0, 1) := by decide +kernel
theorem d_D_lookAt_56 : decode c_D_lookAt 56 = .ok (.getfield 51, 3) := by decide +kernel
theorem d_D_lookAt_59 : decode c_D_lookAt 59 = .ok (.bipush 12, 2) := by decide +kernel
theorem d_D_lookAt_61 : decode c_D_lookAt 61 = .ok (.iload_n 1, 1) := by decide +kernel
theorem d_D_lookAt_62 : decode c_D_lookAt 62 = .ok (.imul, 1) := by decide +kernel
theorem d_D_lookAt_63 : decode c_D_lookAt 63 = .ok (.iload_n 2, 1) := by decide +kernel
theorem d_D_lookAt_64 : decode c_D_lookAt 64 = .ok (.iadd, 1) := by decide +kernel
theorem d_D_lookAt_65 : decode c_D_lookAt 65 = .ok (.iaload, 1) := by decide +kernel
theorem d_D_lookAt_66 : decode c_D_lookAt 66 = .ok (.iastore, 1) := by decide +kernel
theorem d_D_lookAt_67 : decode c_D_lookAt 67 = .ok (.iinc 2 1, 3) := by decide +kernel
theorem d_D_lookAt_70 : decode c_D_lookAt 70 = .ok (.goto (-26), 3) := by decide +kernel
theorem d_D_lookAt_73 : decode c_D_lookAt 73 = .ok (.iconst 0, 1) := by decide +kernel
theorem d_D_lookAt_74 : decode c_D_lookAt 74 = .ok (.istore_n 2, 1) := by decide +kernel
theorem d_D_lookAt_75 : decode c_D_lookAt 75 = .ok (.iload_n 2, 1) := by decide +kernel
theorem d_D_lookAt_76 : decode c_D_lookAt 76 = .ok (.aload_n 0, 1) := by decide +kernel
theorem d_D_lookAt_77 : decode c_D_lookAt 77 = .ok (.getfield 183, 3) := by decide +kernel
theorem d_D_lookAt_80 : decode c_D_lookAt 80 = .ok (.if_icmp .ge 52, 3) := by decide +kernel
theorem d_D_lookAt_83 : decode c_D_lookAt 83 = .ok (.aload_n 0, 1) := by decide +kernel
theorem d_D_lookAt_84 : decode c_D_lookAt 84 = .ok (.getfield 73, 3) := by decide +kernel
theorem d_D_lookAt_87 : decode c_D_lookAt 87 = .ok (.iload_n 2, 1) := by decide +kernel
theorem d_D_lookAt_88 : decode c_D_lookAt 88 = .ok (.aload_n 0, 1) := by decide +kernel
theorem d_D_lookAt_89 : decode c_D_lookAt 89 = .ok (.getfield 54, 3) := by decide +kernel
theorem d_D_lookAt_92 : decode c_D_lookAt 92 = .ok (.bipush 12, 2) := by decide +kernel
theorem d_D_lookAt_94 : decode c_D_lookAt 94 = .ok (.iload_n 1, 1) := by decide +kernel
theorem d_D_lookAt_95 : decode c_D_lookAt 95 = .ok (.imul, 1) := by decide +kernel
theorem d_D_lookAt_96 : decode c_D_lookAt 96 = .ok (.iload_n 2, 1) := by decide +kernel
theorem d_D_lookAt_97 : decode c_D_lookAt 97 = .ok (.iadd, 1) := by decide +kernel
theorem d_D_lookAt_98 : decode c_D_lookAt 98 = .ok (.iaload, 1) := by decide +kernel
theorem d_D_lookAt_99 : decode c_D_lookAt 99 = .ok (.iastore, 1) := by decide +kernel
theorem d_D_lookAt_100 : decode c_D_lookAt 100 = .ok (.aload_n 0, 1) := by decide +kernel
theorem d_D_lookAt_101 : decode c_D_lookAt 101 = .ok (.dup, 1) := by decide +kernel
theorem d_D_lookAt_102 : decode c_D_lookAt 102 = .ok (.getfield 189, 3) := by decide +kernel
theorem d_D_lookAt_105 : decode c_D_lookAt 105 = .ok (.aload_n 0, 1) := by decide +kernel
theorem d_D_lookAt_106 : decode c_D_lookAt 106 = .ok (.getfield 73, 3) := by decide +kernel
theorem d_D_lookAt_109 : decode c_D_lookAt 109 = .ok (.iload_n 2, 1) := by decide +kernel
theorem d_D_lookAt_110 : decode c_D_lookAt 110 = .ok (.iaload, 1) := by decide +kernel
theorem d_D_lookAt_111 : decode c_D_lookAt 111 = .ok (.invokestatic 140, 3) := by decide +kernel
theorem d_D_lookAt_114 : decode c_D_lookAt 114 = .ok (.ifCond .eq 7, 3) := by decide +kernel
theorem d_D_lookAt_117 : decode c_D_lookAt 117 = .ok (.iconst 2, 1) := by decide +kernel
theorem d_D_lookAt_118 : decode c_D_lookAt 118 = .ok (.goto 4, 3) := by decide +kernel
theorem d_D_lookAt_121 : decode c_D_lookAt 121 = .ok (.iconst 1, 1) := by decide +kernel
theorem d_D_lookAt_122 : decode c_D_lookAt 122 = .ok (.iadd, 1) := by decide +kernel
theorem d_D_lookAt_123 : decode c_D_lookAt 123 = .ok (.putfield 189, 3) := by decide +kernel
theorem d_D_lookAt_126 : decode c_D_lookAt 126 = .ok (.iinc 2 1, 3) := by decide +kernel
theorem d_D_lookAt_129 : decode c_D_lookAt 129 = .ok (.goto (-54), 3) := by decide +kernel
theorem d_D_lookAt_132 : decode c_D_lookAt 132 = .ok (.iconst 0, 1) := by decide +kernel
theorem d_D_lookAt_133 : decode c_D_lookAt 133 = .ok (.istore_n 2, 1) := by decide +kernel
theorem d_D_lookAt_134 : decode c_D_lookAt 134 = .ok (.iload_n 2, 1) := by decide +kernel
theorem d_D_lookAt_135 : decode c_D_lookAt 135 = .ok (.bipush 48, 2) := by decide +kernel
theorem d_D_lookAt_137 : decode c_D_lookAt 137 = .ok (.if_icmp .ge 26, 3) := by decide +kernel
theorem d_D_lookAt_140 : decode c_D_lookAt 140 = .ok (.aload_n 0, 1) := by decide +kernel
theorem d_D_lookAt_141 : decode c_D_lookAt 141 = .ok (.getfield 76, 3) := by decide +kernel
theorem d_D_lookAt_144 : decode c_D_lookAt 144 = .ok (.iload_n 2, 1) := by decide +kernel
theorem d_D_lookAt_145 : decode c_D_lookAt 145 = .ok (.aload_n 0, 1) := by decide +kernel
theorem d_D_lookAt_146 : decode c_D_lookAt 146 = .ok (.getfield 60, 3) := by decide +kernel
theorem d_D_lookAt_149 : decode c_D_lookAt 149 = .ok (.bipush 48, 2) := by decide +kernel
theorem d_D_lookAt_151 : decode c_D_lookAt 151 = .ok (.iload_n 1, 1) := by decide +kernel
theorem d_D_lookAt_152 : decode c_D_lookAt 152 = .ok (.imul, 1) := by decide +kernel
theorem d_D_lookAt_153 : decode c_D_lookAt 153 = .ok (.iload_n 2, 1) := by decide +kernel
theorem d_D_lookAt_154 : decode c_D_lookAt 154 = .ok (.iadd, 1) := by decide +kernel
theorem d_D_lookAt_155 : decode c_D_lookAt 155 = .ok (.iaload, 1) := by decide +kernel
theorem d_D_lookAt_156 : decode c_D_lookAt 156 = .ok (.iastore, 1) := by decide +kernel
theorem d_D_lookAt_157 : decode c_D_lookAt 157 = .ok (.iinc 2 1, 3) := by decide +kernel
theorem d_D_lookAt_160 : decode c_D_lookAt 160 = .ok (.goto (-26), 3) := by decide +kernel
theorem d_D_lookAt_163 : decode c_D_lookAt 163 = .ok (.iconst 0, 1) := by decide +kernel
theorem d_D_lookAt_164 : decode c_D_lookAt 164 = .ok (.istore_n 2, 1) := by decide +kernel
theorem d_D_lookAt_165 : decode c_D_lookAt 165 = .ok (.iload_n 2, 1) := by decide +kernel
theorem d_D_lookAt_166 : decode c_D_lookAt 166 = .ok (.aload_n 0, 1) := by decide +kernel
theorem d_D_lookAt_167 : decode c_D_lookAt 167 = .ok (.getfield 121, 3) := by decide +kernel
theorem d_D_lookAt_170 : decode c_D_lookAt 170 = .ok (.if_icmp .ge 105, 3) := by decide +kernel
theorem d_D_lookAt_173 : decode c_D_lookAt 173 = .ok (.aload_n 0, 1) := by decide +kernel
theorem d_D_lookAt_174 : decode c_D_lookAt 174 = .ok (.getfield 130, 3) := by decide +kernel
theorem d_D_lookAt_177 : decode c_D_lookAt 177 = .ok (.ifCond .ne 98, 3) := by decide +kernel
theorem d_D_lookAt_180 : decode c_D_lookAt 180 = .ok (.iload_n 1, 1) := by decide +kernel
theorem d_D_lookAt_181 : decode c_D_lookAt 181 = .ok (.aload_n 0, 1) := by decide +kernel
theorem d_D_lookAt_182 : decode c_D_lookAt 182 = .ok (.getfield 30, 3) := by decide +kernel
theorem d_D_lookAt_185 : decode c_D_lookAt 185 = .ok (.iload_n 2, 1) := by decide +kernel
theorem d_D_lookAt_186 : decode c_D_lookAt 186 = .ok (.iaload, 1) := by decide +kernel
theorem d_D_lookAt_187 : decode c_D_lookAt 187 = .ok (.if_icmp .lt 82, 3) := by decide +kernel
theorem d_D_lookAt_190 : decode c_D_lookAt 190 = .ok (.iload_n 1, 1) := by decide +kernel
theorem d_D_lookAt_191 : decode c_D_lookAt 191 = .ok (.aload_n 0, 1) := by decide +kernel
theorem d_D_lookAt_192 : decode c_D_lookAt 192 = .ok (.getfield 33, 3) := by decide +kernel
theorem d_D_lookAt_195 : decode c_D_lookAt 195 = .ok (.iload_n 2, 1) := by decide +kernel
theorem d_D_lookAt_196 : decode c_D_lookAt 196 = .ok (.iaload, 1) := by decide +kernel
theorem d_D_lookAt_197 : decode c_D_lookAt 197 = .ok (.if_icmp .ge 72, 3) := by decide +kernel
theorem d_D_lookAt_200 : decode c_D_lookAt 200 = .ok (.aload_n 0, 1) := by decide +kernel
theorem d_D_lookAt_201 : decode c_D_lookAt 201 = .ok (.invokevirtual 192, 3) := by decide +kernel
theorem d_D_lookAt_204 : decode c_D_lookAt 204 = .ok (.aload_n 0, 1) := by decide +kernel
theorem d_D_lookAt_205 : decode c_D_lookAt 205 = .ok (.iconst 1, 1) := by decide +kernel
theorem d_D_lookAt_206 : decode c_D_lookAt 206 = .ok (.putfield 166, 3) := by decide +kernel
theorem d_D_lookAt_209 : decode c_D_lookAt 209 = .ok (.aload_n 0, 1) := by decide +kernel
theorem d_D_lookAt_210 : decode c_D_lookAt 210 = .ok (.getfield 82, 3) := by decide +kernel
theorem d_D_lookAt_213 : decode c_D_lookAt 213 = .ok (.iconst 0, 1) := by decide +kernel
theorem d_D_lookAt_214 : decode c_D_lookAt 214 = .ok (.bipush 16, 2) := by decide +kernel
theorem d_D_lookAt_216 : decode c_D_lookAt 216 = .ok (.aload_n 0, 1) := by decide +kernel
theorem d_D_lookAt_217 : decode c_D_lookAt 217 = .ok (.getfield 39, 3) := by decide +kernel
theorem d_D_lookAt_220 : decode c_D_lookAt 220 = .ok (.iload_n 2, 1) := by decide +kernel
theorem d_D_lookAt_221 : decode c_D_lookAt 221 = .ok (.iaload, 1) := by decide +kernel
theorem d_D_lookAt_222 : decode c_D_lookAt 222 = .ok (.iadd, 1) := by decide +kernel
theorem d_D_lookAt_223 : decode c_D_lookAt 223 = .ok (.iastore, 1) := by decide +kernel
theorem d_D_lookAt_224 : decode c_D_lookAt 224 = .ok (.aload_n 0, 1) := by decide +kernel
theorem d_D_lookAt_225 : decode c_D_lookAt 225 = .ok (.iconst 0, 1) := by decide +kernel
theorem d_D_lookAt_226 : decode c_D_lookAt 226 = .ok (.invokevirtual 179, 3) := by decide +kernel
theorem d_D_lookAt_229 : decode c_D_lookAt 229 = .ok (.ifCond .eq 10, 3) := by decide +kernel
theorem d_D_lookAt_232 : decode c_D_lookAt 232 = .ok (.aload_n 0, 1) := by decide +kernel
theorem d_D_lookAt_233 : decode c_D_lookAt 233 = .ok (.bipush 8, 2) := by decide +kernel
theorem d_D_lookAt_235 : decode c_D_lookAt 235 = .ok (.iload_n 1, 1) := by decide +kernel
theorem d_D_lookAt_236 : decode c_D_lookAt 236 = .ok (.invokevirtual 133, 3) := by decide +kernel
theorem d_D_lookAt_239 : decode c_D_lookAt 239 = .ok (.aload_n 0, 1) := by decide +kernel
theorem d_D_lookAt_240 : decode c_D_lookAt 240 = .ok (.getfield 115, 3) := by decide +kernel
theorem d_D_lookAt_243 : decode c_D_lookAt 243 = .ok (.ifCond .ne 9, 3) := by decide +kernel
theorem d_D_lookAt_246 : decode c_D_lookAt 246 = .ok (.aload_n 0, 1) := by decide +kernel
theorem d_D_lookAt_247 : decode c_D_lookAt 247 = .ok (.iconst 3, 1) := by decide +kernel
theorem d_D_lookAt_248 : decode c_D_lookAt 248 = .ok (.iload_n 1, 1) := by decide +kernel
theorem d_D_lookAt_249 : decode c_D_lookAt 249 = .ok (.invokevirtual 133, 3) := by decide +kernel
theorem d_D_lookAt_252 : decode c_D_lookAt 252 = .ok (.aload_n 0, 1) := by decide +kernel
theorem d_D_lookAt_253 : decode c_D_lookAt 253 = .ok (.getfield 130, 3) := by decide +kernel
theorem d_D_lookAt_256 : decode c_D_lookAt 256 = .ok (.ifCond .ne 13, 3) := by decide +kernel
theorem d_D_lookAt_259 : decode c_D_lookAt 259 = .ok (.aload_n 0, 1) := by decide +kernel
theorem d_D_lookAt_260 : decode c_D_lookAt 260 = .ok (.aload_n 0, 1) := by decide +kernel
theorem d_D_lookAt_261 : decode c_D_lookAt 261 = .ok (.getfield 36, 3) := by decide +kernel
theorem d_D_lookAt_264 : decode c_D_lookAt 264 = .ok (.iload_n 2, 1) := by decide +kernel
theorem d_D_lookAt_265 : decode c_D_lookAt 265 = .ok (.iaload, 1) := by decide +kernel
theorem d_D_lookAt_266 : decode c_D_lookAt 266 = .ok (.invokevirtual 172, 3) := by decide +kernel
theorem d_D_lookAt_269 : decode c_D_lookAt 269 = .ok (.iinc 2 1, 3) := by decide +kernel
theorem d_D_lookAt_272 : decode c_D_lookAt 272 = .ok (.goto (-107), 3) := by decide +kernel
theorem d_D_lookAt_275 : decode c_D_lookAt 275 = .ok (.aload_n 0, 1) := by decide +kernel
theorem d_D_lookAt_276 : decode c_D_lookAt 276 = .ok (.getfield 130, 3) := by decide +kernel
theorem d_D_lookAt_279 : decode c_D_lookAt 279 = .ok (.ifCond .le 4, 3) := by decide +kernel
theorem d_D_lookAt_282 : decode c_D_lookAt 282 = .ok (.return_, 1) := by decide +kernel
theorem d_D_lookAt_283 : decode c_D_lookAt 283 = .ok (.aload_n 0, 1) := by decide +kernel
theorem d_D_lookAt_284 : decode c_D_lookAt 284 = .ok (.getfield 21, 3) := by decide +kernel
theorem d_D_lookAt_287 : decode c_D_lookAt 287 = .ok (.iload_n 1, 1) := by decide +kernel
theorem d_D_lookAt_288 : decode c_D_lookAt 288 = .ok (.iaload, 1) := by decide +kernel
theorem d_D_lookAt_289 : decode c_D_lookAt 289 = .ok (.istore_n 2, 1) := by decide +kernel
theorem d_D_lookAt_290 : decode c_D_lookAt 290 = .ok (.aload_n 0, 1) := by decide +kernel
theorem d_D_lookAt_291 : decode c_D_lookAt 291 = .ok (.getfield 24, 3) := by decide +kernel
theorem d_D_lookAt_294 : decode c_D_lookAt 294 = .ok (.iload_n 1, 1) := by decide +kernel
theorem d_D_lookAt_295 : decode c_D_lookAt 295 = .ok (.iaload, 1) := by decide +kernel
theorem d_D_lookAt_296 : decode c_D_lookAt 296 = .ok (.istore_n 3, 1) := by decide +kernel
theorem d_D_lookAt_297 : decode c_D_lookAt 297 = .ok (.aload_n 0, 1) := by decide +kernel
theorem d_D_lookAt_298 : decode c_D_lookAt 298 = .ok (.getfield 27, 3) := by decide +kernel
theorem d_D_lookAt_301 : decode c_D_lookAt 301 = .ok (.iload_n 1, 1) := by decide +kernel
theorem d_D_lookAt_302 : decode c_D_lookAt 302 = .ok (.iaload, 1) := by decide +kernel
theorem d_D_lookAt_303 : decode c_D_lookAt 303 = .ok (.istore 4, 2) := by decide +kernel
theorem d_D_lookAt_305 : decode c_D_lookAt 305 = .ok (.iload_n 2, 1) := by decide +kernel
theorem d_D_lookAt_306 : decode c_D_lookAt 306 = .ok (.bipush 16, 2) := by decide +kernel
theorem d_D_lookAt_308 : decode c_D_lookAt 308 = .ok (.if_icmp .ne 10, 3) := by decide +kernel
theorem d_D_lookAt_311 : decode c_D_lookAt 311 = .ok (.aload_n 0, 1) := by decide +kernel
theorem d_D_lookAt_312 : decode c_D_lookAt 312 = .ok (.iload_n 1, 1) := by decide +kernel
theorem d_D_lookAt_313 : decode c_D_lookAt 313 = .ok (.iload_n 3, 1) := by decide +kernel
theorem d_D_lookAt_314 : decode c_D_lookAt 314 = .ok (.invokevirtual 195, 3) := by decide +kernel
theorem d_D_lookAt_317 : decode c_D_lookAt 317 = .ok (.return_, 1) := by decide +kernel
theorem d_D_lookAt_318 : decode c_D_lookAt 318 = .ok (.iload_n 2, 1) := by decide +kernel
theorem d_D_lookAt_319 : decode c_D_lookAt 319 = .ok (.bipush 9, 2) := by decide +kernel
theorem d_D_lookAt_321 : decode c_D_lookAt 321 = .ok (.if_icmp .ge 12, 3) := by decide +kernel
theorem d_D_lookAt_324 : decode c_D_lookAt 324 = .ok (.aload_n 0, 1) := by decide +kernel
theorem d_D_lookAt_325 : decode c_D_lookAt 325 = .ok (.iload_n 2, 1) := by decide +kernel
theorem d_D_lookAt_326 : decode c_D_lookAt 326 = .ok (.iload_n 3, 1) := by decide +kernel
theorem d_D_lookAt_327 : decode c_D_lookAt 327 = .ok (.invokevirtual 198, 3) := by decide +kernel
theorem d_D_lookAt_330 : decode c_D_lookAt 330 = .ok (.goto 29, 3) := by decide +kernel
theorem d_D_lookAt_333 : decode c_D_lookAt 333 = .ok (.iload_n 2, 1) := by decide +kernel
theorem d_D_lookAt_334 : decode c_D_lookAt 334 = .ok (.bipush 20, 2) := by decide +kernel
theorem d_D_lookAt_336 : decode c_D_lookAt 336 = .ok (.if_icmp .ge 14, 3) := by decide +kernel
theorem d_D_lookAt_339 : decode c_D_lookAt 339 = .ok (.aload_n 0, 1) := by decide +kernel
theorem d_D_lookAt_340 : decode c_D_lookAt 340 = .ok (.iload_n 2, 1) := by decide +kernel
theorem d_D_lookAt_341 : decode c_D_lookAt 341 = .ok (.iload_n 3, 1) := by decide +kernel
theorem d_D_lookAt_342 : decode c_D_lookAt 342 = .ok (.iload 4, 2) := by decide +kernel
theorem d_D_lookAt_344 : decode c_D_lookAt 344 = .ok (.invokevirtual 201, 3) := by decide +kernel
theorem d_D_lookAt_347 : decode c_D_lookAt 347 = .ok (.goto 12, 3) := by decide +kernel
theorem d_D_lookAt_350 : decode c_D_lookAt 350 = .ok (.aload_n 0, 1) := by decide +kernel
theorem d_D_lookAt_351 : decode c_D_lookAt 351 = .ok (.iload_n 1, 1) := by decide +kernel
theorem d_D_lookAt_352 : decode c_D_lookAt 352 = .ok (.iload_n 2, 1) := by decide +kernel
theorem d_D_lookAt_353 : decode c_D_lookAt 353 = .ok (.iload_n 3, 1) := by decide +kernel
theorem d_D_lookAt_354 : decode c_D_lookAt 354 = .ok (.iload 4, 2) := by decide +kernel
theorem d_D_lookAt_356 : decode c_D_lookAt 356 = .ok (.invokevirtual 204, 3) := by decide +kernel
theorem d_D_lookAt_359 : decode c_D_lookAt 359 = .ok (.istore 5, 2) := by decide +kernel
theorem d_D_lookAt_361 : decode c_D_lookAt 361 = .ok (.iload 5, 2) := by decide +kernel
theorem d_D_lookAt_363 : decode c_D_lookAt 363 = .ok (.ifCond .ne 10, 3) := by decide +kernel
theorem d_D_lookAt_366 : decode c_D_lookAt 366 = .ok (.aload_n 0, 1) := by decide +kernel
theorem d_D_lookAt_367 : decode c_D_lookAt 367 = .ok (.iconst 2, 1) := by decide +kernel
theorem d_D_lookAt_368 : decode c_D_lookAt 368 = .ok (.iload_n 1, 1) := by decide +kernel
theorem d_D_lookAt_369 : decode c_D_lookAt 369 = .ok (.invokevirtual 133, 3) := by decide +kernel
theorem d_D_lookAt_372 : decode c_D_lookAt 372 = .ok (.return_, 1) := by decide +kernel
theorem d_D_lookAt_373 : decode c_D_lookAt 373 = .ok (.iload_n 2, 1) := by decide +kernel
theorem d_D_lookAt_374 : decode c_D_lookAt 374 = .ok (.bipush 15, 2) := by decide +kernel
theorem d_D_lookAt_376 : decode c_D_lookAt 376 = .ok (.if_icmp .ne 11, 3) := by decide +kernel
theorem d_D_lookAt_379 : decode c_D_lookAt 379 = .ok (.aload_n 0, 1) := by decide +kernel
theorem d_D_lookAt_380 : decode c_D_lookAt 380 = .ok (.iload_n 1, 1) := by decide +kernel
theorem d_D_lookAt_381 : decode c_D_lookAt 381 = .ok (.iload 4, 2) := by decide +kernel
theorem d_D_lookAt_383 : decode c_D_lookAt 383 = .ok (.invokevirtual 208, 3) := by decide +kernel
theorem d_D_lookAt_386 : decode c_D_lookAt 386 = .ok (.return_, 1) := by decide +kernel
theorem d_D_lookAt_387 : decode c_D_lookAt 387 = .ok (.aload_n 0, 1) := by decide +kernel
theorem d_D_lookAt_388 : decode c_D_lookAt 388 = .ok (.getfield 189, 3) := by decide +kernel
theorem d_D_lookAt_391 : decode c_D_lookAt 391 = .ok (.aload_n 0, 1) := by decide +kernel
theorem d_D_lookAt_392 : decode c_D_lookAt 392 = .ok (.getfield 115, 3) := by decide +kernel
theorem d_D_lookAt_395 : decode c_D_lookAt 395 = .ok (.if_icmp .le 10, 3) := by decide +kernel
theorem d_D_lookAt_398 : decode c_D_lookAt 398 = .ok (.aload_n 0, 1) := by decide +kernel
theorem d_D_lookAt_399 : decode c_D_lookAt 399 = .ok (.iconst 3, 1) := by decide +kernel
theorem d_D_lookAt_400 : decode c_D_lookAt 400 = .ok (.iload_n 1, 1) := by decide +kernel
theorem d_D_lookAt_401 : decode c_D_lookAt 401 = .ok (.invokevirtual 133, 3) := by decide +kernel
theorem d_D_lookAt_404 : decode c_D_lookAt 404 = .ok (.return_, 1) := by decide +kernel
theorem d_D_lookAt_405 : decode c_D_lookAt 405 = .ok (.aload_n 0, 1) := by decide +kernel
theorem d_D_lookAt_406 : decode c_D_lookAt 406 = .ok (.invokevirtual 192, 3) := by decide +kernel
theorem d_D_lookAt_409 : decode c_D_lookAt 409 = .ok (.iload_n 2, 1) := by decide +kernel
theorem d_D_lookAt_410 : decode c_D_lookAt 410 = .ok (.bipush 14, 2) := by decide +kernel
theorem d_D_lookAt_412 : decode c_D_lookAt 412 = .ok (.if_icmp .eq 22, 3) := by decide +kernel
theorem d_D_lookAt_415 : decode c_D_lookAt 415 = .ok (.iload_n 2, 1) := by decide +kernel
theorem d_D_lookAt_416 : decode c_D_lookAt 416 = .ok (.bipush 17, 2) := by decide +kernel
theorem d_D_lookAt_418 : decode c_D_lookAt 418 = .ok (.bipush 19, 2) := by decide +kernel
theorem d_D_lookAt_420 : decode c_D_lookAt 420 = .ok (.invokestatic 91, 3) := by decide +kernel
theorem d_D_lookAt_423 : decode c_D_lookAt 423 = .ok (.ifCond .ne 11, 3) := by decide +kernel
theorem d_D_lookAt_426 : decode c_D_lookAt 426 = .ok (.aload_n 0, 1) := by decide +kernel
theorem d_D_lookAt_427 : decode c_D_lookAt 427 = .ok (.iload_n 1, 1) := by decide +kernel
theorem d_D_lookAt_428 : decode c_D_lookAt 428 = .ok (.iload_n 1, 1) := by decide +kernel
theorem d_D_lookAt_429 : decode c_D_lookAt 429 = .ok (.iconst 1, 1) := by decide +kernel
theorem d_D_lookAt_430 : decode c_D_lookAt 430 = .ok (.iadd, 1) := by decide +kernel
theorem d_D_lookAt_431 : decode c_D_lookAt 431 = .ok (.invokevirtual 211, 3) := by decide +kernel
theorem d_D_lookAt_434 : decode c_D_lookAt 434 = .ok (.iload_n 2, 1) := by decide +kernel
theorem d_D_lookAt_435 : decode c_D_lookAt 435 = .ok (.bipush 17, 2) := by decide +kernel
theorem d_D_lookAt_437 : decode c_D_lookAt 437 = .ok (.if_icmp .ne 9, 3) := by decide +kernel
theorem d_D_lookAt_440 : decode c_D_lookAt 440 = .ok (.aload_n 0, 1) := by decide +kernel
theorem d_D_lookAt_441 : decode c_D_lookAt 441 = .ok (.iload_n 1, 1) := by decide +kernel
theorem d_D_lookAt_442 : decode c_D_lookAt 442 = .ok (.iload_n 3, 1) := by decide +kernel
theorem d_D_lookAt_443 : decode c_D_lookAt 443 = .ok (.invokevirtual 211, 3) := by decide +kernel
theorem d_D_lookAt_446 : decode c_D_lookAt 446 = .ok (.iload_n 2, 1) := by decide +kernel
theorem d_D_lookAt_447 : decode c_D_lookAt 447 = .ok (.bipush 12, 2) := by decide +kernel
theorem d_D_lookAt_449 : decode c_D_lookAt 449 = .ok (.bipush 14, 2) := by decide +kernel
theorem d_D_lookAt_451 : decode c_D_lookAt 451 = .ok (.invokestatic 91, 3) := by decide +kernel
theorem d_D_lookAt_454 : decode c_D_lookAt 454 = .ok (.ifCond .ne 9, 3) := by decide +kernel
theorem d_D_lookAt_457 : decode c_D_lookAt 457 = .ok (.iload_n 2, 1) := by decide +kernel
theorem d_D_lookAt_458 : decode c_D_lookAt 458 = .ok (.bipush 17, 2) := by decide +kernel
theorem d_D_lookAt_460 : decode c_D_lookAt 460 = .ok (.if_icmp .ne 10, 3) := by decide +kernel
theorem d_D_lookAt_463 : decode c_D_lookAt 463 = .ok (.aload_n 0, 1) := by decide +kernel
theorem d_D_lookAt_464 : decode c_D_lookAt 464 = .ok (.iload_n 1, 1) := by decide +kernel
theorem d_D_lookAt_465 : decode c_D_lookAt 465 = .ok (.iload 4, 2) := by decide +kernel
theorem d_D_lookAt_467 : decode c_D_lookAt 467 = .ok (.invokevirtual 211, 3) := by decide +kernel
theorem d_D_lookAt_470 : decode c_D_lookAt 470 = .ok (.return_, 1) := by decide +kernel
theorem d_D_top_0 : decode c_D_top 0 = .ok (.aload_n 0, 1) := by decide +kernel
theorem d_D_top_1 : decode c_D_top 1 = .ok (.getfield 183, 3) := by decide +kernel
theorem d_D_top_4 : decode c_D_top 4 = .ok (.iload_n 1, 1) := by decide +kernel
theorem d_D_top_5 : decode c_D_top 5 = .ok (.if_icmp .le 19, 3) := by decide +kernel
theorem d_D_top_8 : decode c_D_top 8 = .ok (.aload_n 0, 1) := by decide +kernel
theorem d_D_top_9 : decode c_D_top 9 = .ok (.getfield 73, 3) := by decide +kernel
theorem d_D_top_12 : decode c_D_top 12 = .ok (.aload_n 0, 1) := by decide +kernel
theorem d_D_top_13 : decode c_D_top 13 = .ok (.getfield 183, 3) := by decide +kernel
theorem d_D_top_16 : decode c_D_top 16 = .ok (.iconst 1, 1) := by decide +kernel
theorem d_D_top_17 : decode c_D_top 17 = .ok (.isub, 1) := by decide +kernel
theorem d_D_top_18 : decode c_D_top 18 = .ok (.iload_n 1, 1) := by decide +kernel
theorem d_D_top_19 : decode c_D_top 19 = .ok (.isub, 1) := by decide +kernel
theorem d_D_top_20 : decode c_D_top 20 = .ok (.iaload, 1) := by decide +kernel
theorem d_D_top_21 : decode c_D_top 21 = .ok (.goto 4, 3) := by decide +kernel
theorem d_D_top_24 : decode c_D_top 24 = .ok (.iconst (-1), 1) := by decide +kernel
theorem d_D_top_25 : decode c_D_top 25 = .ok (.ireturn, 1) := by decide +kernel
theorem d_D_drop_0 : decode c_D_drop 0 = .ok (.aload_n 0, 1) := by decide +kernel
theorem d_D_drop_1 : decode c_D_drop 1 = .ok (.dup, 1) := by decide +kernel
theorem d_D_drop_2 : decode c_D_drop 2 = .ok (.getfield 183, 3) := by decide +kernel
theorem d_D_drop_5 : decode c_D_drop 5 = .ok (.iconst 1, 1) := by decide +kernel
theorem d_D_drop_6 : decode c_D_drop 6 = .ok (.isub, 1) := by decide +kernel
theorem d_D_drop_7 : decode c_D_drop 7 = .ok (.putfield 183, 3) := by decide +kernel
theorem d_D_drop_10 : decode c_D_drop 10 = .ok (.aload_n 0, 1) := by decide +kernel
theorem d_D_drop_11 : decode c_D_drop 11 = .ok (.dup, 1) := by decide +kernel
theorem d_D_drop_12 : decode c_D_drop 12 = .ok (.getfield 189, 3) := by decide +kernel
theorem d_D_drop_15 : decode c_D_drop 15 = .ok (.aload_n 0, 1) := by decide +kernel
theorem d_D_drop_16 : decode c_D_drop 16 = .ok (.getfield 73, 3) := by decide +kernel
theorem d_D_drop_19 : decode c_D_drop 19 = .ok (.aload_n 0, 1) := by decide +kernel
theorem d_D_drop_20 : decode c_D_drop 20 = .ok (.getfield 183, 3) := by decide +kernel
theorem d_D_drop_23 : decode c_D_drop 23 = .ok (.iaload, 1) := by decide +kernel
theorem d_D_drop_24 : decode c_D_drop 24 = .ok (.invokestatic 140, 3) := by decide +kernel
theorem d_D_drop_27 : decode c_D_drop 27 = .ok (.ifCond .eq 7, 3) := by decide +kernel
theorem d_D_drop_30 : decode c_D_drop 30 = .ok (.iconst 2, 1) := by decide +kernel
theorem d_D_drop_31 : decode c_D_drop 31 = .ok (.goto 4, 3) := by decide +kernel
theorem d_D_drop_34 : decode c_D_drop 34 = .ok (.iconst 1, 1) := by decide +kernel
theorem d_D_drop_35 : decode c_D_drop 35 = .ok (.isub, 1) := by decide +kernel
theorem d_D_drop_36 : decode c_D_drop 36 = .ok (.putfield 189, 3) := by decide +kernel
theorem d_D_drop_39 : decode c_D_drop 39 = .ok (.return_, 1) := by decide +kernel
theorem d_D_put_0 : decode c_D_put 0 = .ok (.aload_n 0, 1) := by decide +kernel
theorem d_D_put_1 : decode c_D_put 1 = .ok (.getfield 73, 3) := by decide +kernel
theorem d_D_put_4 : decode c_D_put 4 = .ok (.aload_n 0, 1) := by decide +kernel
theorem d_D_put_5 : decode c_D_put 5 = .ok (.getfield 183, 3) := by decide +kernel
theorem d_D_put_8 : decode c_D_put 8 = .ok (.iload_n 1, 1) := by decide +kernel
theorem d_D_put_9 : decode c_D_put 9 = .ok (.iastore, 1) := by decide +kernel
theorem d_D_put_10 : decode c_D_put 10 = .ok (.aload_n 0, 1) := by decide +kernel
theorem d_D_put_11 : decode c_D_put 11 = .ok (.dup, 1) := by decide +kernel
theorem d_D_put_12 : decode c_D_put 12 = .ok (.getfield 183, 3) := by decide +kernel
theorem d_D_put_15 : decode c_D_put 15 = .ok (.iconst 1, 1) := by decide +kernel
theorem d_D_put_16 : decode c_D_put 16 = .ok (.iadd, 1) := by decide +kernel
theorem d_D_put_17 : decode c_D_put 17 = .ok (.putfield 183, 3) := by decide +kernel
theorem d_D_put_20 : decode c_D_put 20 = .ok (.aload_n 0, 1) := by decide +kernel
theorem d_D_put_21 : decode c_D_put 21 = .ok (.dup, 1) := by decide +kernel
theorem d_D_put_22 : decode c_D_put 22 = .ok (.getfield 189, 3) := by decide +kernel
theorem d_D_put_25 : decode c_D_put 25 = .ok (.iload_n 1, 1) := by decide +kernel
theorem d_D_put_26 : decode c_D_put 26 = .ok (.invokestatic 140, 3) := by decide +kernel
theorem d_D_put_29 : decode c_D_put 29 = .ok (.ifCond .eq 7, 3) := by decide +kernel
theorem d_D_put_32 : decode c_D_put 32 = .ok (.iconst 2, 1) := by decide +kernel
theorem d_D_put_33 : decode c_D_put 33 = .ok (.goto 4, 3) := by decide +kernel
theorem d_D_put_36 : decode c_D_put 36 = .ok (.iconst 1, 1) := by decide +kernel
theorem d_D_put_37 : decode c_D_put 37 = .ok (.iadd, 1) := by decide +kernel
theorem d_D_put_38 : decode c_D_put 38 = .ok (.putfield 189, 3) := by decide +kernel
theorem d_D_put_41 : decode c_D_put 41 = .ok (.iconst 1, 1) := by decide +kernel
theorem d_D_put_42 : decode c_D_put 42 = .ok (.ireturn, 1) := by decide +kernel
theorem d_D_takes_0 : decode c_D_takes 0 = .ok (.aload_n 0, 1) := by decide +kernel
theorem d_D_takes_1 : decode c_D_takes 1 = .ok (.getfield 183, 3) := by decide +kernel
theorem d_D_takes_4 : decode c_D_takes 4 = .ok (.ifCond .eq 12, 3) := by decide +kernel
theorem d_D_takes_7 : decode c_D_takes 7 = .ok (.aload_n 0, 1) := by decide +kernel
theorem d_D_takes_8 : decode c_D_takes 8 = .ok (.iconst 0, 1) := by decide +kernel
theorem d_D_takes_9 : decode c_D_takes 9 = .ok (.invokevirtual 214, 3) := by decide +kernel
theorem d_D_takes_12 : decode c_D_takes 12 = .ok (.iload_n 1, 1) := by decide +kernel
theorem d_D_takes_13 : decode c_D_takes 13 = .ok (.if_icmp .eq 5, 3) := by decide +kernel
theorem d_D_takes_16 : decode c_D_takes 16 = .ok (.iconst 0, 1) := by decide +kernel
theorem d_D_takes_17 : decode c_D_takes 17 = .ok (.ireturn, 1) := by decide +kernel
theorem d_D_takes_18 : decode c_D_takes 18 = .ok (.aload_n 0, 1) := by decide +kernel
theorem d_D_takes_19 : decode c_D_takes 19 = .ok (.invokevirtual 218, 3) := by decide +kernel
theorem d_D_takes_22 : decode c_D_takes 22 = .ok (.iconst 1, 1) := by decide +kernel
theorem d_D_takes_23 : decode c_D_takes 23 = .ok (.ireturn, 1) := by decide +kernel
theorem d_D_takesFor_0 : decode c_D_takesFor 0 = .ok (.aload_n 0, 1) := by decide +kernel
theorem d_D_takesFor_1 : decode c_D_takesFor 1 = .ok (.getfield 183, 3) := by decide +kernel
theorem d_D_takesFor_4 : decode c_D_takesFor 4 = .ok (.ifCond .eq 16, 3) := by decide +kernel
theorem d_D_takesFor_7 : decode c_D_takesFor 7 = .ok (.aload_n 0, 1) := by decide +kernel
theorem d_D_takesFor_8 : decode c_D_takesFor 8 = .ok (.aload_n 0, 1) := by decide +kernel
theorem d_D_takesFor_9 : decode c_D_takesFor 9 = .ok (.iconst 0, 1) := by decide +kernel
theorem d_D_takesFor_10 : decode c_D_takesFor 10 = .ok (.invokevirtual 214, 3) := by decide +kernel
theorem d_D_takesFor_13 : decode c_D_takesFor 13 = .ok (.iload_n 1, 1) := by decide +kernel
theorem d_D_takesFor_14 : decode c_D_takesFor 14 = .ok (.invokevirtual 221, 3) := by decide +kernel
theorem d_D_takesFor_17 : decode c_D_takesFor 17 = .ok (.ifCond .ne 5, 3) := by decide +kernel
theorem d_D_takesFor_20 : decode c_D_takesFor 20 = .ok (.iconst 0, 1) := by decide +kernel
theorem d_D_takesFor_21 : decode c_D_takesFor 21 = .ok (.ireturn, 1) := by decide +kernel
theorem d_D_takesFor_22 : decode c_D_takesFor 22 = .ok (.aload_n 0, 1) := by decide +kernel
theorem d_D_takesFor_23 : decode c_D_takesFor 23 = .ok (.invokevirtual 218, 3) := by decide +kernel
theorem d_D_takesFor_26 : decode c_D_takesFor 26 = .ok (.iconst 1, 1) := by decide +kernel
theorem d_D_takesFor_27 : decode c_D_takesFor 27 = .ok (.ireturn, 1) := by decide +kernel
theorem d_D_takesRef_0 : decode c_D_takesRef 0 = .ok (.aload_n 0, 1) := by decide +kernel
theorem d_D_takesRef_1 : decode c_D_takesRef 1 = .ok (.getfield 183, 3) := by decide +kernel
theorem d_D_takesRef_4 : decode c_D_takesRef 4 = .ok (.ifCond .eq 24, 3) := by decide +kernel
theorem d_D_takesRef_7 : decode c_D_takesRef 7 = .ok (.aload_n 0, 1) := by decide +kernel
theorem d_D_takesRef_8 : decode c_D_takesRef 8 = .ok (.iconst 0, 1) := by decide +kernel
theorem d_D_takesRef_9 : decode c_D_takesRef 9 = .ok (.invokevirtual 214, 3) := by decide +kernel
theorem d_D_takesRef_12 : decode c_D_takesRef 12 = .ok (.iconst 5, 1) := by decide +kernel
theorem d_D_takesRef_13 : decode c_D_takesRef 13 = .ok (.if_icmp .eq 17, 3) := by decide +kernel
theorem d_D_takesRef_16 : decode c_D_takesRef 16 = .ok (.aload_n 0, 1) := by decide +kernel
theorem d_D_takesRef_17 : decode c_D_takesRef 17 = .ok (.aload_n 0, 1) := by decide +kernel
theorem d_D_takesRef_18 : decode c_D_takesRef 18 = .ok (.iconst 0, 1) := by decide +kernel
theorem d_D_takesRef_19 : decode c_D_takesRef 19 = .ok (.invokevirtual 214, 3) := by decide +kernel
theorem d_D_takesRef_22 : decode c_D_takesRef 22 = .ok (.invokevirtual 99, 3) := by decide +kernel
theorem d_D_takesRef_25 : decode c_D_takesRef 25 = .ok (.ifCond .ne 5, 3) := by decide +kernel
theorem d_D_takesRef_28 : decode c_D_takesRef 28 = .ok (.iconst 0, 1) := by decide +kernel
theorem d_D_takesRef_29 : decode c_D_takesRef 29 = .ok (.ireturn, 1) := by decide +kernel
theorem d_D_takesRef_30 : decode c_D_takesRef 30 = .ok (.aload_n 0, 1) := by decide +kernel
theorem d_D_takesRef_31 : decode c_D_takesRef 31 = .ok (.invokevirtual 218, 3) := by decide +kernel
theorem d_D_takesRef_34 : decode c_D_takesRef 34 = .ok (.iconst 1, 1) := by decide +kernel
theorem d_D_takesRef_35 : decode c_D_takesRef 35 = .ok (.ireturn, 1) := by decide +kernel
theorem d_D_takesRow_0 : decode c_D_takesRow 0 = .ok (.aload_n 0, 1) := by decide +kernel
theorem d_D_takesRow_1 : decode c_D_takesRow 1 = .ok (.iload_n 1, 1) := by decide +kernel
theorem d_D_takesRow_2 : decode c_D_takesRow 2 = .ok (.invokevirtual 224, 3) := by decide +kernel
theorem d_D_takesRow_5 : decode c_D_takesRow 5 = .ok (.ifCond .ne 11, 3) := by decide +kernel
theorem d_D_takesRow_8 : decode c_D_takesRow 8 = .ok (.aload_n 0, 1) := by decide +kernel
theorem d_D_takesRow_9 : decode c_D_takesRow 9 = .ok (.iconst 5, 1) := by decide +kernel
theorem d_D_takesRow_10 : decode c_D_takesRow 10 = .ok (.invokevirtual 224, 3) := by decide +kernel
theorem d_D_takesRow_13 : decode c_D_takesRow 13 = .ok (.ifCond .eq 7, 3) := by decide +kernel
theorem d_D_takesRow_16 : decode c_D_takesRow 16 = .ok (.iconst 1, 1) := by decide +kernel
theorem d_D_takesRow_17 : decode c_D_takesRow 17 = .ok (.goto 4, 3) := by decide +kernel
theorem d_D_takesRow_20 : decode c_D_takesRow 20 = .ok (.iconst 0, 1) := by decide +kernel
theorem d_D_takesRow_21 : decode c_D_takesRow 21 = .ok (.ireturn, 1) := by decide +kernel
theorem d_D_single_0 : decode c_D_single 0 = .ok (.aload_n 0, 1) := by decide +kernel
theorem d_D_single_1 : decode c_D_single 1 = .ok (.getfield 183, 3) := by decide +kernel
theorem d_D_single_4 : decode c_D_single 4 = .ok (.iload_n 1, 1) := by decide +kernel
theorem d_D_single_5 : decode c_D_single 5 = .ok (.if_icmp .le 26, 3) := by decide +kernel
theorem d_D_single_8 : decode c_D_single 8 = .ok (.aload_n 0, 1) := by decide +kernel
theorem d_D_single_9 : decode c_D_single 9 = .ok (.getfield 73, 3) := by decide +kernel
theorem d_D_single_12 : decode c_D_single 12 = .ok (.aload_n 0, 1) := by decide +kernel
theorem d_D_single_13 : decode c_D_single 13 = .ok (.getfield 183, 3) := by decide +kernel
theorem d_D_single_16 : decode c_D_single 16 = .ok (.iconst 1, 1) := by decide +kernel
theorem d_D_single_17 : decode c_D_single 17 = .ok (.isub, 1) := by decide +kernel
theorem d_D_single_18 : decode c_D_single 18 = .ok (.iload_n 1, 1) := by decide +kernel
theorem d_D_single_19 : decode c_D_single 19 = .ok (.isub, 1) := by decide +kernel
theorem d_D_single_20 : decode c_D_single 20 = .ok (.iaload, 1) := by decide +kernel
theorem d_D_single_21 : decode c_D_single 21 = .ok (.invokestatic 140, 3) := by decide +kernel
theorem d_D_single_24 : decode c_D_single 24 = .ok (.ifCond .ne 7, 3) := by decide +kernel
theorem d_D_single_27 : decode c_D_single 27 = .ok (.iconst 1, 1) := by decide +kernel
theorem d_D_single_28 : decode c_D_single 28 = .ok (.goto 4, 3) := by decide +kernel
theorem d_D_single_31 : decode c_D_single 31 = .ok (.iconst 0, 1) := by decide +kernel
theorem d_D_single_32 : decode c_D_single 32 = .ok (.ireturn, 1) := by decide +kernel
theorem d_D_touches_0 : decode c_D_touches 0 = .ok (.iconst 0, 1) := by decide +kernel
theorem d_D_touches_1 : decode c_D_touches 1 = .ok (.istore_n 3, 1) := by decide +kernel
theorem d_D_touches_2 : decode c_D_touches 2 = .ok (.iload_n 3, 1) := by decide +kernel
theorem d_D_touches_3 : decode c_D_touches 3 = .ok (.bipush 48, 2) := by decide +kernel
theorem d_D_touches_5 : decode c_D_touches 5 = .ok (.if_icmp .ge 49, 3) := by decide +kernel
theorem d_D_touches_8 : decode c_D_touches 8 = .ok (.aload_n 0, 1) := by decide +kernel
theorem d_D_touches_9 : decode c_D_touches 9 = .ok (.getfield 186, 3) := by decide +kernel
theorem d_D_touches_12 : decode c_D_touches 12 = .ok (.iload_n 3, 1) := by decide +kernel
theorem d_D_touches_13 : decode c_D_touches 13 = .ok (.lshr, 1) := by decide +kernel
theorem d_D_touches_14 : decode c_D_touches 14 = .ok (.lconst 1, 1) := by decide +kernel
theorem d_D_touches_15 : decode c_D_touches 15 = .ok (.land, 1) := by decide +kernel
theorem d_D_touches_16 : decode c_D_touches 16 = .ok (.lconst 1, 1) := by decide +kernel
theorem d_D_touches_17 : decode c_D_touches 17 = .ok (.lcmp, 1) := by decide +kernel
theorem d_D_touches_18 : decode c_D_touches 18 = .ok (.ifCond .ne 30, 3) := by decide +kernel
theorem d_D_touches_21 : decode c_D_touches 21 = .ok (.aload_n 0, 1) := by decide +kernel
theorem d_D_touches_22 : decode c_D_touches 22 = .ok (.getfield 76, 3) := by decide +kernel
theorem d_D_touches_25 : decode c_D_touches 25 = .ok (.iload_n 3, 1) := by decide +kernel
theorem d_D_touches_26 : decode c_D_touches 26 = .ok (.dup2, 1) := by decide +kernel
theorem d_D_touches_27 : decode c_D_touches 27 = .ok (.iaload, 1) := by decide +kernel
theorem d_D_touches_28 : decode c_D_touches 28 = .ok (.iconst 1, 1) := by decide +kernel
theorem d_D_touches_29 : decode c_D_touches 29 = .ok (.iload_n 1, 1) := by decide +kernel
theorem d_D_touches_30 : decode c_D_touches 30 = .ok (.ishl, 1) := by decide +kernel
theorem d_D_touches_31 : decode c_D_touches 31 = .ok (.iload_n 2, 1) := by decide +kernel
theorem d_D_touches_32 : decode c_D_touches 32 = .ok (.invokestatic 140, 3) := by decide +kernel
theorem d_D_touches_35 : decode c_D_touches 35 = .ok (.ifCond .eq 9, 3) := by decide +kernel
theorem d_D_touches_38 : decode c_D_touches 38 = .ok (.iconst 2, 1) := by decide +kernel
theorem d_D_touches_39 : decode c_D_touches 39 = .ok (.iload_n 1, 1) := by decide +kernel
theorem d_D_touches_40 : decode c_D_touches 40 = .ok (.ishl, 1) := by decide +kernel
theorem d_D_touches_41 : decode c_D_touches 41 = .ok (.goto 4, 3) := by decide +kernel
theorem d_D_touches_44 : decode c_D_touches 44 = .ok (.iconst 0, 1) := by decide +kernel
theorem d_D_touches_45 : decode c_D_touches 45 = .ok (.ior, 1) := by decide +kernel
theorem d_D_touches_46 : decode c_D_touches 46 = .ok (.ior, 1) := by decide +kernel
theorem d_D_touches_47 : decode c_D_touches 47 = .ok (.iastore, 1) := by decide +kernel
theorem d_D_touches_48 : decode c_D_touches 48 = .ok (.iinc 3 1, 3) := by decide +kernel
theorem d_D_touches_51 : decode c_D_touches 51 = .ok (.goto (-49), 3) := by decide +kernel
theorem d_D_touches_54 : decode c_D_touches 54 = .ok (.return_, 1) := by decide +kernel
theorem d_D_moves_0 : decode c_D_moves 0 = .ok (.iload_n 1, 1) := by decide +kernel
theorem d_D_moves_1 : decode c_D_moves 1 = .ok (.tableswitch 310 0 7 #[47, 49, 55, 104, 196, 212, 238, 238], 47) := by decide +kernel
theorem d_D_moves_48 : decode c_D_moves 48 = .ok (.iconst 1, 1) := by decide +kernel
theorem d_D_moves_49 : decode c_D_moves 49 = .ok (.ireturn, 1) := by decide +kernel
theorem d_D_moves_50 : decode c_D_moves 50 = .ok (.aload_n 0, 1) := by decide +kernel
theorem d_D_moves_51 : decode c_D_moves 51 = .ok (.iload_n 2, 1) := by decide +kernel
theorem d_D_moves_52 : decode c_D_moves 52 = .ok (.invokevirtual 227, 3) := by decide +kernel
theorem d_D_moves_55 : decode c_D_moves 55 = .ok (.ireturn, 1) := by decide +kernel
theorem d_D_moves_56 : decode c_D_moves 56 = .ok (.aload_n 0, 1) := by decide +kernel
theorem d_D_moves_57 : decode c_D_moves 57 = .ok (.getfield 70, 3) := by decide +kernel
theorem d_D_moves_60 : decode c_D_moves 60 = .ok (.iload_n 2, 1) := by decide +kernel
theorem d_D_moves_61 : decode c_D_moves 61 = .ok (.iaload, 1) := by decide +kernel
theorem d_D_moves_62 : decode c_D_moves 62 = .ok (.istore_n 3, 1) := by decide +kernel
theorem d_D_moves_63 : decode c_D_moves 63 = .ok (.iload_n 3, 1) := by decide +kernel
theorem d_D_moves_64 : decode c_D_moves 64 = .ok (.ifCond .eq 27, 3) := by decide +kernel
theorem d_D_moves_67 : decode c_D_moves 67 = .ok (.iload_n 3, 1) := by decide +kernel
theorem d_D_moves_68 : decode c_D_moves 68 = .ok (.sipush 2000, 3) := by decide +kernel
theorem d_D_moves_71 : decode c_D_moves 71 = .ok (.if_icmp .ge 20, 3) := by decide +kernel
theorem d_D_moves_74 : decode c_D_moves 74 = .ok (.iload_n 3, 1) := by decide +kernel
theorem d_D_moves_75 : decode c_D_moves 75 = .ok (.invokestatic 140, 3) := by decide +kernel
theorem d_D_moves_78 : decode c_D_moves 78 = .ok (.ifCond .eq 15, 3) := by decide +kernel
theorem d_D_moves_81 : decode c_D_moves 81 = .ok (.iload_n 2, 1) := by decide +kernel
theorem d_D_moves_82 : decode c_D_moves 82 = .ok (.iconst 1, 1) := by decide +kernel
theorem d_D_moves_83 : decode c_D_moves 83 = .ok (.iadd, 1) := by decide +kernel
theorem d_D_moves_84 : decode c_D_moves 84 = .ok (.aload_n 0, 1) := by decide +kernel
theorem d_D_moves_85 : decode c_D_moves 85 = .ok (.getfield 112, 3) := by decide +kernel
theorem d_D_moves_88 : decode c_D_moves 88 = .ok (.if_icmp .lt 5, 3) := by decide +kernel
theorem d_D_moves_91 : decode c_D_moves 91 = .ok (.iconst 0, 1) := by decide +kernel
theorem d_D_moves_92 : decode c_D_moves 92 = .ok (.ireturn, 1) := by decide +kernel
theorem d_D_moves_93 : decode c_D_moves 93 = .ok (.aload_n 0, 1) := by decide +kernel
theorem d_D_moves_94 : decode c_D_moves 94 = .ok (.iload_n 2, 1) := by decide +kernel
theorem d_D_moves_95 : decode c_D_moves 95 = .ok (.iload_n 3, 1) := by decide +kernel
theorem d_D_moves_96 : decode c_D_moves 96 = .ok (.invokevirtual 230, 3) := by decide +kernel
theorem d_D_moves_99 : decode c_D_moves 99 = .ok (.aload_n 0, 1) := by decide +kernel
theorem d_D_moves_100 : decode c_D_moves 100 = .ok (.iload_n 3, 1) := by decide +kernel
theorem d_D_moves_101 : decode c_D_moves 101 = .ok (.invokevirtual 227, 3) := by decide +kernel
theorem d_D_moves_104 : decode c_D_moves 104 = .ok (.ireturn, 1) := by decide +kernel
theorem d_D_moves_105 : decode c_D_moves 105 = .ok (.aload_n 0, 1) := by decide +kernel
theorem d_D_moves_106 : decode c_D_moves 106 = .ok (.iconst 0, 1) := by decide +kernel
theorem d_D_moves_107 : decode c_D_moves 107 = .ok (.invokevirtual 214, 3) := by decide +kernel
theorem d_D_moves_110 : decode c_D_moves 110 = .ok (.istore_n 3, 1) := by decide +kernel
theorem d_D_moves_111 : decode c_D_moves 111 = .ok (.iload_n 3, 1) := by decide +kernel
theorem d_D_moves_112 : decode c_D_moves 112 = .ok (.iconst 1, 1) := by decide +kernel
theorem d_D_moves_113 : decode c_D_moves 113 = .ok (.if_icmp .lt 20, 3) := by decide +kernel
theorem d_D_moves_116 : decode c_D_moves 116 = .ok (.iload_n 3, 1) := by decide +kernel
theorem d_D_moves_117 : decode c_D_moves 117 = .ok (.invokestatic 140, 3) := by decide +kernel
theorem d_D_moves_120 : decode c_D_moves 120 = .ok (.ifCond .eq 15, 3) := by decide +kernel
theorem d_D_moves_123 : decode c_D_moves 123 = .ok (.iload_n 2, 1) := by decide +kernel
theorem d_D_moves_124 : decode c_D_moves 124 = .ok (.iconst 1, 1) := by decide +kernel
theorem d_D_moves_125 : decode c_D_moves 125 = .ok (.iadd, 1) := by decide +kernel
theorem d_D_moves_126 : decode c_D_moves 126 = .ok (.aload_n 0, 1) := by decide +kernel
theorem d_D_moves_127 : decode c_D_moves 127 = .ok (.getfield 112, 3) := by decide +kernel
theorem d_D_moves_130 : decode c_D_moves 130 = .ok (.if_icmp .lt 5, 3) := by decide +kernel
theorem d_D_moves_133 : decode c_D_moves 133 = .ok (.iconst 0, 1) := by decide +kernel
theorem d_D_moves_134 : decode c_D_moves 134 = .ok (.ireturn, 1) := by decide +kernel
theorem d_D_moves_135 : decode c_D_moves 135 = .ok (.aload_n 0, 1) := by decide +kernel
theorem d_D_moves_136 : decode c_D_moves 136 = .ok (.invokevirtual 218, 3) := by decide +kernel
theorem d_D_moves_139 : decode c_D_moves 139 = .ok (.aload_n 0, 1) := by decide +kernel
theorem d_D_moves_140 : decode c_D_moves 140 = .ok (.iload_n 2, 1) := by decide +kernel
theorem d_D_moves_141 : decode c_D_moves 141 = .ok (.iload_n 3, 1) := by decide +kernel
theorem d_D_moves_142 : decode c_D_moves 142 = .ok (.invokevirtual 230, 3) := by decide +kernel
theorem d_D_moves_145 : decode c_D_moves 145 = .ok (.iload_n 2, 1) := by decide +kernel
theorem d_D_moves_146 : decode c_D_moves 146 = .ok (.ifCond .le 26, 3) := by decide +kernel
theorem d_D_moves_149 : decode c_D_moves 149 = .ok (.aload_n 0, 1) := by decide +kernel
theorem d_D_moves_150 : decode c_D_moves 150 = .ok (.getfield 70, 3) := by decide +kernel
theorem d_D_moves_153 : decode c_D_moves 153 = .ok (.iload_n 2, 1) := by decide +kernel
theorem d_D_moves_154 : decode c_D_moves 154 = .ok (.iconst 1, 1) := by decide +kernel
theorem d_D_moves_155 : decode c_D_moves 155 = .ok (.isub, 1) := by decide +kernel
theorem d_D_moves_156 : decode c_D_moves 156 = .ok (.iaload, 1) := by decide +kernel
theorem d_D_moves_157 : decode c_D_moves 157 = .ok (.invokestatic 140, 3) := by decide +kernel
theorem d_D_moves_160 : decode c_D_moves 160 = .ok (.ifCond .eq 12, 3) := by decide +kernel
theorem d_D_moves_163 : decode c_D_moves 163 = .ok (.aload_n 0, 1) := by decide +kernel
theorem d_D_moves_164 : decode c_D_moves 164 = .ok (.getfield 70, 3) := by decide +kernel
theorem d_D_moves_167 : decode c_D_moves 167 = .ok (.iload_n 2, 1) := by decide +kernel
theorem d_D_moves_168 : decode c_D_moves 168 = .ok (.iconst 1, 1) := by decide +kernel
theorem d_D_moves_169 : decode c_D_moves 169 = .ok (.isub, 1) := by decide +kernel
theorem d_D_moves_170 : decode c_D_moves 170 = .ok (.iconst 0, 1) := by decide +kernel
theorem d_D_moves_171 : decode c_D_moves 171 = .ok (.iastore, 1) := by decide +kernel
theorem d_D_moves_172 : decode c_D_moves 172 = .ok (.aload_n 0, 1) := by decide +kernel
theorem d_D_moves_173 : decode c_D_moves 173 = .ok (.getfield 70, 3) := by decide +kernel
theorem d_D_moves_176 : decode c_D_moves 176 = .ok (.iload_n 2, 1) := by decide +kernel
theorem d_D_moves_177 : decode c_D_moves 177 = .ok (.iload_n 3, 1) := by decide +kernel
theorem d_D_moves_178 : decode c_D_moves 178 = .ok (.iastore, 1) := by decide +kernel
theorem d_D_moves_179 : decode c_D_moves 179 = .ok (.iload_n 3, 1) := by decide +kernel
theorem d_D_moves_180 : decode c_D_moves 180 = .ok (.invokestatic 140, 3) := by decide +kernel
theorem d_D_moves_183 : decode c_D_moves 183 = .ok (.ifCond .eq 12, 3) := by decide +kernel
theorem d_D_moves_186 : decode c_D_moves 186 = .ok (.aload_n 0, 1) := by decide +kernel
theorem d_D_moves_187 : decode c_D_moves 187 = .ok (.getfield 70, 3) := by decide +kernel
theorem d_D_moves_190 : decode c_D_moves 190 = .ok (.iload_n 2, 1) := by decide +kernel
theorem d_D_moves_191 : decode c_D_moves 191 = .ok (.iconst 1, 1) := by decide +kernel
theorem d_D_moves_192 : decode c_D_moves 192 = .ok (.iadd, 1) := by decide +kernel
theorem d_D_moves_193 : decode c_D_moves 193 = .ok (.iconst 0, 1) := by decide +kernel
theorem d_D_moves_194 : decode c_D_moves 194 = .ok (.iastore, 1) := by decide +kernel
theorem d_D_moves_195 : decode c_D_moves 195 = .ok (.iconst 1, 1) := by decide +kernel
theorem d_D_moves_196 : decode c_D_moves 196 = .ok (.ireturn, 1) := by decide +kernel
theorem d_D_moves_197 : decode c_D_moves 197 = .ok (.aload_n 0, 1) := by decide +kernel
theorem d_D_moves_198 : decode c_D_moves 198 = .ok (.iconst 0, 1) := by decide +kernel
theorem d_D_moves_199 : decode c_D_moves 199 = .ok (.invokevirtual 233, 3) := by decide +kernel
theorem d_D_moves_202 : decode c_D_moves 202 = .ok (.ifCond .ne 5, 3) := by decide +kernel
theorem d_D_moves_205 : decode c_D_moves 205 = .ok (.iconst 0, 1) := by decide +kernel
theorem d_D_moves_206 : decode c_D_moves 206 = .ok (.ireturn, 1) := by decide +kernel
theorem d_D_moves_207 : decode c_D_moves 207 = .ok (.aload_n 0, 1) := by decide +kernel
theorem d_D_moves_208 : decode c_D_moves 208 = .ok (.invokevirtual 218, 3) := by decide +kernel
theorem d_D_moves_211 : decode c_D_moves 211 = .ok (.iconst 1, 1) := by decide +kernel
theorem d_D_moves_212 : decode c_D_moves 212 = .ok (.ireturn, 1) := by decide +kernel
theorem d_D_moves_213 : decode c_D_moves 213 = .ok (.aload_n 0, 1) := by decide +kernel
theorem d_D_moves_214 : decode c_D_moves 214 = .ok (.iconst 0, 1) := by decide +kernel
theorem d_D_moves_215 : decode c_D_moves 215 = .ok (.invokevirtual 233, 3) := by decide +kernel
theorem d_D_moves_218 : decode c_D_moves 218 = .ok (.ifCond .eq 19, 3) := by decide +kernel
theorem d_D_moves_221 : decode c_D_moves 221 = .ok (.aload_n 0, 1) := by decide +kernel
theorem d_D_moves_222 : decode c_D_moves 222 = .ok (.aload_n 0, 1) := by decide +kernel
theorem d_D_moves_223 : decode c_D_moves 223 = .ok (.iconst 0, 1) := by decide +kernel
theorem d_D_moves_224 : decode c_D_moves 224 = .ok (.invokevirtual 214, 3) := by decide +kernel
theorem d_D_moves_227 : decode c_D_moves 227 = .ok (.invokevirtual 227, 3) := by decide +kernel
theorem d_D_moves_230 : decode c_D_moves 230 = .ok (.ifCond .eq 7, 3) := by decide +kernel
theorem d_D_moves_233 : decode c_D_moves 233 = .ok (.iconst 1, 1) := by decide +kernel
theorem d_D_moves_234 : decode c_D_moves 234 = .ok (.goto 4, 3) := by decide +kernel
theorem d_D_moves_237 : decode c_D_moves 237 = .ok (.iconst 0, 1) := by decide +kernel
theorem d_D_moves_238 : decode c_D_moves 238 = .ok (.ireturn, 1) := by decide +kernel
theorem d_D_moves_239 : decode c_D_moves 239 = .ok (.aload_n 0, 1) := by decide +kernel
theorem d_D_moves_240 : decode c_D_moves 240 = .ok (.iconst 0, 1) := by decide +kernel
theorem d_D_moves_241 : decode c_D_moves 241 = .ok (.invokevirtual 233, 3) := by decide +kernel
theorem d_D_moves_244 : decode c_D_moves 244 = .ok (.ifCond .eq 11, 3) := by decide +kernel
theorem d_D_moves_247 : decode c_D_moves 247 = .ok (.aload_n 0, 1) := by decide +kernel
theorem d_D_moves_248 : decode c_D_moves 248 = .ok (.iconst 1, 1) := by decide +kernel
theorem d_D_moves_249 : decode c_D_moves 249 = .ok (.invokevirtual 233, 3) := by decide +kernel
theorem d_D_moves_252 : decode c_D_moves 252 = .ok (.ifCond .ne 5, 3) := by decide +kernel
theorem d_D_moves_255 : decode c_D_moves 255 = .ok (.iconst 0, 1) := by decide +kernel
theorem d_D_moves_256 : decode c_D_moves 256 = .ok (.ireturn, 1) := by decide +kernel
theorem d_D_moves_257 : decode c_D_moves 257 = .ok (.aload_n 0, 1) := by decide +kernel
theorem d_D_moves_258 : decode c_D_moves 258 = .ok (.iconst 0, 1) := by decide +kernel
theorem d_D_moves_259 : decode c_D_moves 259 = .ok (.invokevirtual 214, 3) := by decide +kernel
theorem d_D_moves_262 : decode c_D_moves 262 = .ok (.istore_n 3, 1) := by decide +kernel
theorem d_D_moves_263 : decode c_D_moves 263 = .ok (.aload_n 0, 1) := by decide +kernel
theorem d_D_moves_264 : decode c_D_moves 264 = .ok (.iconst 1, 1) := by decide +kernel
theorem d_D_moves_265 : decode c_D_moves 265 = .ok (.invokevirtual 214, 3) := by decide +kernel
theorem d_D_moves_268 : decode c_D_moves 268 = .ok (.istore 4, 2) := by decide +kernel
theorem d_D_moves_270 : decode c_D_moves 270 = .ok (.aload_n 0, 1) := by decide +kernel
theorem d_D_moves_271 : decode c_D_moves 271 = .ok (.invokevirtual 218, 3) := by decide +kernel
theorem d_D_moves_274 : decode c_D_moves 274 = .ok (.aload_n 0, 1) := by decide +kernel
theorem d_D_moves_275 : decode c_D_moves 275 = .ok (.invokevirtual 218, 3) := by decide +kernel
theorem d_D_moves_278 : decode c_D_moves 278 = .ok (.aload_n 0, 1) := by decide +kernel
theorem d_D_moves_279 : decode c_D_moves 279 = .ok (.iload_n 3, 1) := by decide +kernel
theorem d_D_moves_280 : decode c_D_moves 280 = .ok (.invokevirtual 227, 3) := by decide +kernel
theorem d_D_moves_283 : decode c_D_moves 283 = .ok (.pop, 1) := by decide +kernel
theorem d_D_moves_284 : decode c_D_moves 284 = .ok (.aload_n 0, 1) := by decide +kernel
theorem d_D_moves_285 : decode c_D_moves 285 = .ok (.iload 4, 2) := by decide +kernel
theorem d_D_moves_287 : decode c_D_moves 287 = .ok (.invokevirtual 227, 3) := by decide +kernel
theorem d_D_moves_290 : decode c_D_moves 290 = .ok (.pop, 1) := by decide +kernel
theorem d_D_moves_291 : decode c_D_moves 291 = .ok (.iload_n 1, 1) := by decide +kernel
theorem d_D_moves_292 : decode c_D_moves 292 = .ok (.bipush 7, 2) := by decide +kernel
theorem d_D_moves_294 : decode c_D_moves 294 = .ok (.if_icmp .eq 11, 3) := by decide +kernel
theorem d_D_moves_297 : decode c_D_moves 297 = .ok (.aload_n 0, 1) := by decide +kernel
theorem d_D_moves_298 : decode c_D_moves 298 = .ok (.iload_n 3, 1) := by decide +kernel
theorem d_D_moves_299 : decode c_D_moves 299 = .ok (.invokevirtual 227, 3) := by decide +kernel
theorem d_D_moves_302 : decode c_D_moves 302 = .ok (.ifCond .eq 7, 3) := by decide +kernel
theorem d_D_moves_305 : decode c_D_moves 305 = .ok (.iconst 1, 1) := by decide +kernel
theorem d_D_moves_306 : decode c_D_moves 306 = .ok (.goto 4, 3) := by decide +kernel
theorem d_D_moves_309 : decode c_D_moves 309 = .ok (.iconst 0, 1) := by decide +kernel
theorem d_D_moves_310 : decode c_D_moves 310 = .ok (.ireturn, 1) := by decide +kernel
theorem d_D_moves_311 : decode c_D_moves 311 = .ok (.aload_n 0, 1) := by decide +kernel
theorem d_D_moves_312 : decode c_D_moves 312 = .ok (.getfield 183, 3) := by decide +kernel
theorem d_D_moves_315 : decode c_D_moves 315 = .ok (.ifCond .le 21, 3) := by decide +kernel
theorem d_D_moves_318 : decode c_D_moves 318 = .ok (.aload_n 0, 1) := by decide +kernel
theorem d_D_moves_319 : decode c_D_moves 319 = .ok (.iconst 0, 1) := by decide +kernel
theorem d_D_moves_320 : decode c_D_moves 320 = .ok (.invokevirtual 233, 3) := by decide +kernel
theorem d_D_moves_323 : decode c_D_moves 323 = .ok (.ifCond .ne 13, 3) := by decide +kernel
theorem d_D_moves_326 : decode c_D_moves 326 = .ok (.aload_n 0, 1) := by decide +kernel
theorem d_D_moves_327 : decode c_D_moves 327 = .ok (.aload_n 0, 1) := by decide +kernel
theorem d_D_moves_328 : decode c_D_moves 328 = .ok (.iconst 0, 1) := by decide +kernel
theorem d_D_moves_329 : decode c_D_moves 329 = .ok (.invokevirtual 214, 3) := by decide +kernel
theorem d_D_moves_332 : decode c_D_moves 332 = .ok (.invokevirtual 227, 3) := by decide +kernel
theorem d_D_moves_335 : decode c_D_moves 335 = .ok (.ireturn, 1) := by decide +kernel
theorem d_D_moves_336 : decode c_D_moves 336 = .ok (.aload_n 0, 1) := by decide +kernel
theorem d_D_moves_337 : decode c_D_moves 337 = .ok (.iconst 0, 1) := by decide +kernel
theorem d_D_moves_338 : decode c_D_moves 338 = .ok (.invokevirtual 233, 3) := by decide +kernel
theorem d_D_moves_341 : decode c_D_moves 341 = .ok (.ifCond .eq 11, 3) := by decide +kernel
theorem d_D_moves_344 : decode c_D_moves 344 = .ok (.aload_n 0, 1) := by decide +kernel
theorem d_D_moves_345 : decode c_D_moves 345 = .ok (.iconst 1, 1) := by decide +kernel
theorem d_D_moves_346 : decode c_D_moves 346 = .ok (.invokevirtual 233, 3) := by decide +kernel
theorem d_D_moves_349 : decode c_D_moves 349 = .ok (.ifCond .ne 5, 3) := by decide +kernel
theorem d_D_moves_352 : decode c_D_moves 352 = .ok (.iconst 0, 1) := by decide +kernel
theorem d_D_moves_353 : decode c_D_moves 353 = .ok (.ireturn, 1) := by decide +kernel
theorem d_D_moves_354 : decode c_D_moves 354 = .ok (.aload_n 0, 1) := by decide +kernel
theorem d_D_moves_355 : decode c_D_moves 355 = .ok (.iconst 1, 1) := by decide +kernel
theorem d_D_moves_356 : decode c_D_moves 356 = .ok (.invokevirtual 214, 3) := by decide +kernel
theorem d_D_moves_359 : decode c_D_moves 359 = .ok (.istore_n 3, 1) := by decide +kernel
theorem d_D_moves_360 : decode c_D_moves 360 = .ok (.aload_n 0, 1) := by decide +kernel
theorem d_D_moves_361 : decode c_D_moves 361 = .ok (.iconst 0, 1) := by decide +kernel
theorem d_D_moves_362 : decode c_D_moves 362 = .ok (.invokevirtual 214, 3) := by decide +kernel
theorem d_D_moves_365 : decode c_D_moves 365 = .ok (.istore 4, 2) := by decide +kernel
theorem d_D_moves_367 : decode c_D_moves 367 = .ok (.aload_n 0, 1) := by decide +kernel
theorem d_D_moves_368 : decode c_D_moves 368 = .ok (.iload_n 3, 1) := by decide +kernel
theorem d_D_moves_369 : decode c_D_moves 369 = .ok (.invokevirtual 227, 3) := by decide +kernel
theorem d_D_moves_372 : decode c_D_moves 372 = .ok (.pop, 1) := by decide +kernel
theorem d_D_moves_373 : decode c_D_moves 373 = .ok (.aload_n 0, 1) := by decide +kernel
theorem d_D_moves_374 : decode c_D_moves 374 = .ok (.iload 4, 2) := by decide +kernel
theorem d_D_moves_376 : decode c_D_moves 376 = .ok (.invokevirtual 227, 3) := by decide +kernel
theorem d_D_moves_379 : decode c_D_moves 379 = .ok (.ireturn, 1) := by decide +kernel
theorem d_D_flows_0 : decode c_D_flows 0 = .ok (.iload_n 1, 1) := by decide +kernel
theorem d_D_flows_1 : decode c_D_flows 1 = .ok (.tableswitch 183 9 19 #[59, 89, 111, 141, 147, 183, 183, 183, 141, 152, 176], 59) := by decide +kernel
theorem d_D_flows_60 : decode c_D_flows 60 = .ok (.aload_n 0, 1) := by decide +kernel
theorem d_D_flows_61 : decode c_D_flows 61 = .ok (.iload_n 2, 1) := by decide +kernel
theorem d_D_flows_62 : decode c_D_flows 62 = .ok (.invokevirtual 224, 3) := by decide +kernel
theorem d_D_flows_65 : decode c_D_flows 65 = .ok (.ifCond .eq 23, 3) := by decide +kernel
theorem d_D_flows_68 : decode c_D_flows 68 = .ok (.aload_n 0, 1) := by decide +kernel
theorem d_D_flows_69 : decode c_D_flows 69 = .ok (.iload_n 2, 1) := by decide +kernel
theorem d_D_flows_70 : decode c_D_flows 70 = .ok (.invokevirtual 224, 3) := by decide +kernel
theorem d_D_flows_73 : decode c_D_flows 73 = .ok (.ifCond .eq 15, 3) := by decide +kernel
theorem d_D_flows_76 : decode c_D_flows 76 = .ok (.aload_n 0, 1) := by decide +kernel
theorem d_D_flows_77 : decode c_D_flows 77 = .ok (.iload_n 2, 1) := by decide +kernel
theorem d_D_flows_78 : decode c_D_flows 78 = .ok (.invokevirtual 227, 3) := by decide +kernel
theorem d_D_flows_81 : decode c_D_flows 81 = .ok (.ifCond .eq 7, 3) := by decide +kernel
theorem d_D_flows_84 : decode c_D_flows 84 = .ok (.iconst 1, 1) := by decide +kernel
theorem d_D_flows_85 : decode c_D_flows 85 = .ok (.goto 4, 3) := by decide +kernel
theorem d_D_flows_88 : decode c_D_flows 88 = .ok (.iconst 0, 1) := by decide +kernel
theorem d_D_flows_89 : decode c_D_flows 89 = .ok (.ireturn, 1) := by decide +kernel
theorem d_D_flows_90 : decode c_D_flows 90 = .ok (.aload_n 0, 1) := by decide +kernel
theorem d_D_flows_91 : decode c_D_flows 91 = .ok (.iload_n 2, 1) := by decide +kernel
theorem d_D_flows_92 : decode c_D_flows 92 = .ok (.invokevirtual 224, 3) := by decide +kernel
theorem d_D_flows_95 : decode c_D_flows 95 = .ok (.ifCond .eq 15, 3) := by decide +kernel
theorem d_D_flows_98 : decode c_D_flows 98 = .ok (.aload_n 0, 1) := by decide +kernel
theorem d_D_flows_99 : decode c_D_flows 99 = .ok (.iload_n 3, 1) := by decide +kernel
theorem d_D_flows_100 : decode c_D_flows 100 = .ok (.invokevirtual 227, 3) := by decide +kernel
theorem d_D_flows_103 : decode c_D_flows 103 = .ok (.ifCond .eq 7, 3) := by decide +kernel
theorem d_D_flows_106 : decode c_D_flows 106 = .ok (.iconst 1, 1) := by decide +kernel
theorem d_D_flows_107 : decode c_D_flows 107 = .ok (.goto 4, 3) := by decide +kernel
theorem d_D_flows_110 : decode c_D_flows 110 = .ok (.iconst 0, 1) := by decide +kernel
theorem d_D_flows_111 : decode c_D_flows 111 = .ok (.ireturn, 1) := by decide +kernel
theorem d_D_flows_112 : decode c_D_flows 112 = .ok (.aload_n 0, 1) := by decide +kernel
theorem d_D_flows_113 : decode c_D_flows 113 = .ok (.iload_n 2, 1) := by decide +kernel
theorem d_D_flows_114 : decode c_D_flows 114 = .ok (.invokevirtual 224, 3) := by decide +kernel
theorem d_D_flows_117 : decode c_D_flows 117 = .ok (.ifCond .eq 23, 3) := by decide +kernel
theorem d_D_flows_120 : decode c_D_flows 120 = .ok (.aload_n 0, 1) := by decide +kernel
theorem d_D_flows_121 : decode c_D_flows 121 = .ok (.iload_n 2, 1) := by decide +kernel
theorem d_D_flows_122 : decode c_D_flows 122 = .ok (.invokevirtual 224, 3) := by decide +kernel
theorem d_D_flows_125 : decode c_D_flows 125 = .ok (.ifCond .eq 15, 3) := by decide +kernel
theorem d_D_flows_128 : decode c_D_flows 128 = .ok (.aload_n 0, 1) := by decide +kernel
theorem d_D_flows_129 : decode c_D_flows 129 = .ok (.iconst 1, 1) := by decide +kernel
theorem d_D_flows_130 : decode c_D_flows 130 = .ok (.invokevirtual 227, 3) := by decide +kernel
theorem d_D_flows_133 : decode c_D_flows 133 = .ok (.ifCond .eq 7, 3) := by decide +kernel
theorem d_D_flows_136 : decode c_D_flows 136 = .ok (.iconst 1, 1) := by decide +kernel
theorem d_D_flows_137 : decode c_D_flows 137 = .ok (.goto 4, 3) := by decide +kernel
theorem d_D_flows_140 : decode c_D_flows 140 = .ok (.iconst 0, 1) := by decide +kernel
theorem d_D_flows_141 : decode c_D_flows 141 = .ok (.ireturn, 1) := by decide +kernel
theorem d_D_flows_142 : decode c_D_flows 142 = .ok (.aload_n 0, 1) := by decide +kernel
theorem d_D_flows_143 : decode c_D_flows 143 = .ok (.iconst 1, 1) := by decide +kernel
theorem d_D_flows_144 : decode c_D_flows 144 = .ok (.invokevirtual 224, 3) := by decide +kernel
theorem d_D_flows_147 : decode c_D_flows 147 = .ok (.ireturn, 1) := by decide +kernel
theorem d_D_flows_148 : decode c_D_flows 148 = .ok (.aload_n 0, 1) := by decide +kernel
theorem d_D_flows_149 : decode c_D_flows 149 = .ok (.invokevirtual 236, 3) := by decide +kernel
theorem d_D_flows_152 : decode c_D_flows 152 = .ok (.ireturn, 1) := by decide +kernel
theorem d_D_flows_153 : decode c_D_flows 153 = .ok (.aload_n 0, 1) := by decide +kernel
theorem d_D_flows_154 : decode c_D_flows 154 = .ok (.getfield 109, 3) := by decide +kernel
theorem d_D_flows_157 : decode c_D_flows 157 = .ok (.ifCond .eq 14, 3) := by decide +kernel
theorem d_D_flows_160 : decode c_D_flows 160 = .ok (.aload_n 0, 1) := by decide +kernel
theorem d_D_flows_161 : decode c_D_flows 161 = .ok (.aload_n 0, 1) := by decide +kernel
theorem d_D_flows_162 : decode c_D_flows 162 = .ok (.getfield 109, 3) := by decide +kernel
theorem d_D_flows_165 : decode c_D_flows 165 = .ok (.invokevirtual 240, 3) := by decide +kernel
theorem d_D_flows_168 : decode c_D_flows 168 = .ok (.ifCond .eq 7, 3) := by decide +kernel
theorem d_D_flows_171 : decode c_D_flows 171 = .ok (.iconst 1, 1) := by decide +kernel
theorem d_D_flows_172 : decode c_D_flows 172 = .ok (.goto 4, 3) := by decide +kernel
theorem d_D_flows_175 : decode c_D_flows 175 = .ok (.iconst 0, 1) := by decide +kernel
theorem d_D_flows_176 : decode c_D_flows 176 = .ok (.ireturn, 1) := by decide +kernel
theorem d_D_flows_177 : decode c_D_flows 177 = .ok (.aload_n 0, 1) := by decide +kernel
theorem d_D_flows_178 : decode c_D_flows 178 = .ok (.bipush 17, 2) := by decide +kernel
theorem d_D_flows_180 : decode c_D_flows 180 = .ok (.invokevirtual 240, 3) := by decide +kernel
theorem d_D_flows_183 : decode c_D_flows 183 = .ok (.ireturn, 1) := by decide +kernel
theorem d_D_flows_184 : decode c_D_flows 184 = .ok (.iconst 1, 1) := by decide +kernel
theorem d_D_flows_185 : decode c_D_flows 185 = .ok (.ireturn, 1) := by decide +kernel
end
section
theorem d_D_objects_0 : decode c_D_objects 0 = .ok (.aload_n 0, 1) := by decide +kernel
theorem d_D_objects_1 : decode c_D_objects 1 = .ok (.iconst 0, 1) := by decide +kernel
theorem d_D_objects_2 : decode c_D_objects 2 = .ok (.invokevirtual 214, 3) := by decide +kernel
theorem d_D_objects_5 : decode c_D_objects 5 = .ok (.istore 5, 2) := by decide +kernel
theorem d_D_objects_7 : decode c_D_objects 7 = .ok (.iload_n 2, 1) := by decide +kernel
theorem d_D_objects_8 : decode c_D_objects 8 = .ok (.tableswitch 498 20 29 #[56, 140, 257, 283, 309, 332, 353, 378, 421, 464], 56) := by decide +kernel
theorem d_D_objects_64 : decode c_D_objects 64 = .ok (.iconst 0, 1) := by decide +kernel
theorem d_D_objects_65 : decode c_D_objects 65 = .ok (.istore 6, 2) := by decide +kernel
theorem d_D_objects_67 : decode c_D_objects 67 = .ok (.iload 6, 2) := by decide +kernel
theorem d_D_objects_69 : decode c_D_objects 69 = .ok (.aload_n 0, 1) := by decide +kernel
theorem d_D_objects_70 : decode c_D_objects 70 = .ok (.getfield 183, 3) := by decide +kernel
theorem d_D_objects_73 : decode c_D_objects 73 = .ok (.if_icmp .ge 26, 3) := by decide +kernel
theorem d_D_objects_76 : decode c_D_objects 76 = .ok (.aload_n 0, 1) := by decide +kernel
theorem d_D_objects_77 : decode c_D_objects 77 = .ok (.getfield 73, 3) := by decide +kernel
theorem d_D_objects_80 : decode c_D_objects 80 = .ok (.iload 6, 2) := by decide +kernel
theorem d_D_objects_82 : decode c_D_objects 82 = .ok (.iaload, 1) := by decide +kernel
theorem d_D_objects_83 : decode c_D_objects 83 = .ok (.sipush 1000, 3) := by decide +kernel
theorem d_D_objects_86 : decode c_D_objects 86 = .ok (.iload_n 1, 1) := by decide +kernel
theorem d_D_objects_87 : decode c_D_objects 87 = .ok (.iadd, 1) := by decide +kernel
theorem d_D_objects_88 : decode c_D_objects 88 = .ok (.if_icmp .ne 5, 3) := by decide +kernel
theorem d_D_objects_91 : decode c_D_objects 91 = .ok (.iconst 0, 1) := by decide +kernel
theorem d_D_objects_92 : decode c_D_objects 92 = .ok (.ireturn, 1) := by decide +kernel
theorem d_D_objects_93 : decode c_D_objects 93 = .ok (.iinc 6 1, 3) := by decide +kernel
theorem d_D_objects_96 : decode c_D_objects 96 = .ok (.goto (-29), 3) := by decide +kernel
theorem d_D_objects_99 : decode c_D_objects 99 = .ok (.iconst 0, 1) := by decide +kernel
theorem d_D_objects_100 : decode c_D_objects 100 = .ok (.istore 6, 2) := by decide +kernel
theorem d_D_objects_102 : decode c_D_objects 102 = .ok (.iload 6, 2) := by decide +kernel
theorem d_D_objects_104 : decode c_D_objects 104 = .ok (.bipush 12, 2) := by decide +kernel
theorem d_D_objects_106 : decode c_D_objects 106 = .ok (.if_icmp .ge 32, 3) := by decide +kernel
theorem d_D_objects_109 : decode c_D_objects 109 = .ok (.aload_n 0, 1) := by decide +kernel
theorem d_D_objects_110 : decode c_D_objects 110 = .ok (.getfield 70, 3) := by decide +kernel
theorem d_D_objects_113 : decode c_D_objects 113 = .ok (.iload 6, 2) := by decide +kernel
theorem d_D_objects_115 : decode c_D_objects 115 = .ok (.iaload, 1) := by decide +kernel
theorem d_D_objects_116 : decode c_D_objects 116 = .ok (.sipush 1000, 3) := by decide +kernel
theorem d_D_objects_119 : decode c_D_objects 119 = .ok (.iload_n 1, 1) := by decide +kernel
theorem d_D_objects_120 : decode c_D_objects 120 = .ok (.iadd, 1) := by decide +kernel
theorem d_D_objects_121 : decode c_D_objects 121 = .ok (.if_icmp .ne 11, 3) := by decide +kernel
theorem d_D_objects_124 : decode c_D_objects 124 = .ok (.aload_n 0, 1) := by decide +kernel
theorem d_D_objects_125 : decode c_D_objects 125 = .ok (.getfield 70, 3) := by decide +kernel
theorem d_D_objects_128 : decode c_D_objects 128 = .ok (.iload 6, 2) := by decide +kernel
theorem d_D_objects_130 : decode c_D_objects 130 = .ok (.iconst 0, 1) := by decide +kernel
theorem d_D_objects_131 : decode c_D_objects 131 = .ok (.iastore, 1) := by decide +kernel
theorem d_D_objects_132 : decode c_D_objects 132 = .ok (.iinc 6 1, 3) := by decide +kernel
theorem d_D_objects_135 : decode c_D_objects 135 = .ok (.goto (-33), 3) := by decide +kernel
theorem d_D_objects_138 : decode c_D_objects 138 = .ok (.aload_n 0, 1) := by decide +kernel
theorem d_D_objects_139 : decode c_D_objects 139 = .ok (.sipush 1000, 3) := by decide +kernel
theorem d_D_objects_142 : decode c_D_objects 142 = .ok (.iload_n 1, 1) := by decide +kernel
theorem d_D_objects_143 : decode c_D_objects 143 = .ok (.iadd, 1) := by decide +kernel
theorem d_D_objects_144 : decode c_D_objects 144 = .ok (.invokevirtual 227, 3) := by decide +kernel
theorem d_D_objects_147 : decode c_D_objects 147 = .ok (.ireturn, 1) := by decide +kernel
theorem d_D_objects_148 : decode c_D_objects 148 = .ok (.iload 5, 2) := by decide +kernel
theorem d_D_objects_150 : decode c_D_objects 150 = .ok (.sipush 1000, 3) := by decide +kernel
theorem d_D_objects_153 : decode c_D_objects 153 = .ok (.sipush 1047, 3) := by decide +kernel
theorem d_D_objects_156 : decode c_D_objects 156 = .ok (.invokestatic 91, 3) := by decide +kernel
theorem d_D_objects_159 : decode c_D_objects 159 = .ok (.ifCond .eq 18, 3) := by decide +kernel
theorem d_D_objects_162 : decode c_D_objects 162 = .ok (.aload_n 0, 1) := by decide +kernel
theorem d_D_objects_163 : decode c_D_objects 163 = .ok (.getfield 24, 3) := by decide +kernel
theorem d_D_objects_166 : decode c_D_objects 166 = .ok (.iload 5, 2) := by decide +kernel
theorem d_D_objects_168 : decode c_D_objects 168 = .ok (.sipush 1000, 3) := by decide +kernel
theorem d_D_objects_171 : decode c_D_objects 171 = .ok (.isub, 1) := by decide +kernel
theorem d_D_objects_172 : decode c_D_objects 172 = .ok (.iaload, 1) := by decide +kernel
theorem d_D_objects_173 : decode c_D_objects 173 = .ok (.iload_n 3, 1) := by decide +kernel
theorem d_D_objects_174 : decode c_D_objects 174 = .ok (.if_icmp .eq 5, 3) := by decide +kernel
theorem d_D_objects_177 : decode c_D_objects 177 = .ok (.iconst 0, 1) := by decide +kernel
theorem d_D_objects_178 : decode c_D_objects 178 = .ok (.ireturn, 1) := by decide +kernel
theorem d_D_objects_179 : decode c_D_objects 179 = .ok (.aload_n 0, 1) := by decide +kernel
theorem d_D_objects_180 : decode c_D_objects 180 = .ok (.invokevirtual 218, 3) := by decide +kernel
theorem d_D_objects_183 : decode c_D_objects 183 = .ok (.iconst 0, 1) := by decide +kernel
theorem d_D_objects_184 : decode c_D_objects 184 = .ok (.istore 6, 2) := by decide +kernel
theorem d_D_objects_186 : decode c_D_objects 186 = .ok (.iload 6, 2) := by decide +kernel
theorem d_D_objects_188 : decode c_D_objects 188 = .ok (.aload_n 0, 1) := by decide +kernel
theorem d_D_objects_189 : decode c_D_objects 189 = .ok (.getfield 183, 3) := by decide +kernel
theorem d_D_objects_192 : decode c_D_objects 192 = .ok (.if_icmp .ge 32, 3) := by decide +kernel
theorem d_D_objects_195 : decode c_D_objects 195 = .ok (.aload_n 0, 1) := by decide +kernel
theorem d_D_objects_196 : decode c_D_objects 196 = .ok (.getfield 73, 3) := by decide +kernel
theorem d_D_objects_199 : decode c_D_objects 199 = .ok (.iload 6, 2) := by decide +kernel
theorem d_D_objects_201 : decode c_D_objects 201 = .ok (.iaload, 1) := by decide +kernel
theorem d_D_objects_202 : decode c_D_objects 202 = .ok (.iload 5, 2) := by decide +kernel
theorem d_D_objects_204 : decode c_D_objects 204 = .ok (.if_icmp .ne 14, 3) := by decide +kernel
theorem d_D_objects_207 : decode c_D_objects 207 = .ok (.aload_n 0, 1) := by decide +kernel
theorem d_D_objects_208 : decode c_D_objects 208 = .ok (.getfield 73, 3) := by decide +kernel
theorem d_D_objects_211 : decode c_D_objects 211 = .ok (.iload 6, 2) := by decide +kernel
theorem d_D_objects_213 : decode c_D_objects 213 = .ok (.bipush 16, 2) := by decide +kernel
theorem d_D_objects_215 : decode c_D_objects 215 = .ok (.iload_n 3, 1) := by decide +kernel
theorem d_D_objects_216 : decode c_D_objects 216 = .ok (.iadd, 1) := by decide +kernel
theorem d_D_objects_217 : decode c_D_objects 217 = .ok (.iastore, 1) := by decide +kernel
theorem d_D_objects_218 : decode c_D_objects 218 = .ok (.iinc 6 1, 3) := by decide +kernel
theorem d_D_objects_221 : decode c_D_objects 221 = .ok (.goto (-35), 3) := by decide +kernel
theorem d_D_objects_224 : decode c_D_objects 224 = .ok (.iconst 0, 1) := by decide +kernel
theorem d_D_objects_225 : decode c_D_objects 225 = .ok (.istore 6, 2) := by decide +kernel
theorem d_D_objects_227 : decode c_D_objects 227 = .ok (.iload 6, 2) := by decide +kernel
theorem d_D_objects_229 : decode c_D_objects 229 = .ok (.bipush 12, 2) := by decide +kernel
theorem d_D_objects_231 : decode c_D_objects 231 = .ok (.if_icmp .ge 32, 3) := by decide +kernel
theorem d_D_objects_234 : decode c_D_objects 234 = .ok (.aload_n 0, 1) := by decide +kernel
theorem d_D_objects_235 : decode c_D_objects 235 = .ok (.getfield 70, 3) := by decide +kernel
theorem d_D_objects_238 : decode c_D_objects 238 = .ok (.iload 6, 2) := by decide +kernel
theorem d_D_objects_240 : decode c_D_objects 240 = .ok (.iaload, 1) := by decide +kernel
theorem d_D_objects_241 : decode c_D_objects 241 = .ok (.iload 5, 2) := by decide +kernel
theorem d_D_objects_243 : decode c_D_objects 243 = .ok (.if_icmp .ne 14, 3) := by decide +kernel
theorem d_D_objects_246 : decode c_D_objects 246 = .ok (.aload_n 0, 1) := by decide +kernel
theorem d_D_objects_247 : decode c_D_objects 247 = .ok (.getfield 70, 3) := by decide +kernel
theorem d_D_objects_250 : decode c_D_objects 250 = .ok (.iload 6, 2) := by decide +kernel
theorem d_D_objects_252 : decode c_D_objects 252 = .ok (.bipush 16, 2) := by decide +kernel
theorem d_D_objects_254 : decode c_D_objects 254 = .ok (.iload_n 3, 1) := by decide +kernel
theorem d_D_objects_255 : decode c_D_objects 255 = .ok (.iadd, 1) := by decide +kernel
theorem d_D_objects_256 : decode c_D_objects 256 = .ok (.iastore, 1) := by decide +kernel
theorem d_D_objects_257 : decode c_D_objects 257 = .ok (.iinc 6 1, 3) := by decide +kernel
theorem d_D_objects_260 : decode c_D_objects 260 = .ok (.goto (-33), 3) := by decide +kernel
theorem d_D_objects_263 : decode c_D_objects 263 = .ok (.iconst 1, 1) := by decide +kernel
theorem d_D_objects_264 : decode c_D_objects 264 = .ok (.ireturn, 1) := by decide +kernel
theorem d_D_objects_265 : decode c_D_objects 265 = .ok (.aload_n 0, 1) := by decide +kernel
theorem d_D_objects_266 : decode c_D_objects 266 = .ok (.bipush 16, 2) := by decide +kernel
theorem d_D_objects_268 : decode c_D_objects 268 = .ok (.iload_n 3, 1) := by decide +kernel
theorem d_D_objects_269 : decode c_D_objects 269 = .ok (.iadd, 1) := by decide +kernel
theorem d_D_objects_270 : decode c_D_objects 270 = .ok (.invokevirtual 240, 3) := by decide +kernel
theorem d_D_objects_273 : decode c_D_objects 273 = .ok (.ifCond .eq 16, 3) := by decide +kernel
theorem d_D_objects_276 : decode c_D_objects 276 = .ok (.aload_n 0, 1) := by decide +kernel
theorem d_D_objects_277 : decode c_D_objects 277 = .ok (.iload 4, 2) := by decide +kernel
theorem d_D_objects_279 : decode c_D_objects 279 = .ok (.invokevirtual 227, 3) := by decide +kernel
theorem d_D_objects_282 : decode c_D_objects 282 = .ok (.ifCond .eq 7, 3) := by decide +kernel
theorem d_D_objects_285 : decode c_D_objects 285 = .ok (.iconst 1, 1) := by decide +kernel
theorem d_D_objects_286 : decode c_D_objects 286 = .ok (.goto 4, 3) := by decide +kernel
theorem d_D_objects_289 : decode c_D_objects 289 = .ok (.iconst 0, 1) := by decide +kernel
theorem d_D_objects_290 : decode c_D_objects 290 = .ok (.ireturn, 1) := by decide +kernel
theorem d_D_objects_291 : decode c_D_objects 291 = .ok (.aload_n 0, 1) := by decide +kernel
theorem d_D_objects_292 : decode c_D_objects 292 = .ok (.iload 4, 2) := by decide +kernel
theorem d_D_objects_294 : decode c_D_objects 294 = .ok (.invokevirtual 240, 3) := by decide +kernel
theorem d_D_objects_297 : decode c_D_objects 297 = .ok (.ifCond .eq 18, 3) := by decide +kernel
theorem d_D_objects_300 : decode c_D_objects 300 = .ok (.aload_n 0, 1) := by decide +kernel
theorem d_D_objects_301 : decode c_D_objects 301 = .ok (.bipush 16, 2) := by decide +kernel
theorem d_D_objects_303 : decode c_D_objects 303 = .ok (.iload_n 3, 1) := by decide +kernel
theorem d_D_objects_304 : decode c_D_objects 304 = .ok (.iadd, 1) := by decide +kernel
theorem d_D_objects_305 : decode c_D_objects 305 = .ok (.invokevirtual 240, 3) := by decide +kernel
theorem d_D_objects_308 : decode c_D_objects 308 = .ok (.ifCond .eq 7, 3) := by decide +kernel
theorem d_D_objects_311 : decode c_D_objects 311 = .ok (.iconst 1, 1) := by decide +kernel
theorem d_D_objects_312 : decode c_D_objects 312 = .ok (.goto 4, 3) := by decide +kernel
theorem d_D_objects_315 : decode c_D_objects 315 = .ok (.iconst 0, 1) := by decide +kernel
theorem d_D_objects_316 : decode c_D_objects 316 = .ok (.ireturn, 1) := by decide +kernel
theorem d_D_objects_317 : decode c_D_objects 317 = .ok (.aload_n 0, 1) := by decide +kernel
theorem d_D_objects_318 : decode c_D_objects 318 = .ok (.iload_n 3, 1) := by decide +kernel
theorem d_D_objects_319 : decode c_D_objects 319 = .ok (.invokevirtual 240, 3) := by decide +kernel
theorem d_D_objects_322 : decode c_D_objects 322 = .ok (.ifCond .eq 16, 3) := by decide +kernel
theorem d_D_objects_325 : decode c_D_objects 325 = .ok (.aload_n 0, 1) := by decide +kernel
theorem d_D_objects_326 : decode c_D_objects 326 = .ok (.iload 4, 2) := by decide +kernel
theorem d_D_objects_328 : decode c_D_objects 328 = .ok (.invokevirtual 227, 3) := by decide +kernel
theorem d_D_objects_331 : decode c_D_objects 331 = .ok (.ifCond .eq 7, 3) := by decide +kernel
theorem d_D_objects_334 : decode c_D_objects 334 = .ok (.iconst 1, 1) := by decide +kernel
theorem d_D_objects_335 : decode c_D_objects 335 = .ok (.goto 4, 3) := by decide +kernel
theorem d_D_objects_338 : decode c_D_objects 338 = .ok (.iconst 0, 1) := by decide +kernel
theorem d_D_objects_339 : decode c_D_objects 339 = .ok (.ireturn, 1) := by decide +kernel
theorem d_D_objects_340 : decode c_D_objects 340 = .ok (.aload_n 0, 1) := by decide +kernel
theorem d_D_objects_341 : decode c_D_objects 341 = .ok (.invokevirtual 236, 3) := by decide +kernel
theorem d_D_objects_344 : decode c_D_objects 344 = .ok (.ifCond .eq 15, 3) := by decide +kernel
theorem d_D_objects_347 : decode c_D_objects 347 = .ok (.aload_n 0, 1) := by decide +kernel
theorem d_D_objects_348 : decode c_D_objects 348 = .ok (.iload_n 3, 1) := by decide +kernel
theorem d_D_objects_349 : decode c_D_objects 349 = .ok (.invokevirtual 227, 3) := by decide +kernel
theorem d_D_objects_352 : decode c_D_objects 352 = .ok (.ifCond .eq 7, 3) := by decide +kernel
theorem d_D_objects_355 : decode c_D_objects 355 = .ok (.iconst 1, 1) := by decide +kernel
theorem d_D_objects_356 : decode c_D_objects 356 = .ok (.goto 4, 3) := by decide +kernel
theorem d_D_objects_359 : decode c_D_objects 359 = .ok (.iconst 0, 1) := by decide +kernel
theorem d_D_objects_360 : decode c_D_objects 360 = .ok (.ireturn, 1) := by decide +kernel
theorem d_D_objects_361 : decode c_D_objects 361 = .ok (.aload_n 0, 1) := by decide +kernel
theorem d_D_objects_362 : decode c_D_objects 362 = .ok (.iconst 1, 1) := by decide +kernel
theorem d_D_objects_363 : decode c_D_objects 363 = .ok (.invokevirtual 224, 3) := by decide +kernel
theorem d_D_objects_366 : decode c_D_objects 366 = .ok (.ifCond .eq 18, 3) := by decide +kernel
theorem d_D_objects_369 : decode c_D_objects 369 = .ok (.aload_n 0, 1) := by decide +kernel
theorem d_D_objects_370 : decode c_D_objects 370 = .ok (.bipush 64, 2) := by decide +kernel
theorem d_D_objects_372 : decode c_D_objects 372 = .ok (.iload_n 3, 1) := by decide +kernel
theorem d_D_objects_373 : decode c_D_objects 373 = .ok (.iadd, 1) := by decide +kernel
theorem d_D_objects_374 : decode c_D_objects 374 = .ok (.invokevirtual 227, 3) := by decide +kernel
theorem d_D_objects_377 : decode c_D_objects 377 = .ok (.ifCond .eq 7, 3) := by decide +kernel
theorem d_D_objects_380 : decode c_D_objects 380 = .ok (.iconst 1, 1) := by decide +kernel
theorem d_D_objects_381 : decode c_D_objects 381 = .ok (.goto 4, 3) := by decide +kernel
theorem d_D_objects_384 : decode c_D_objects 384 = .ok (.iconst 0, 1) := by decide +kernel
theorem d_D_objects_385 : decode c_D_objects 385 = .ok (.ireturn, 1) := by decide +kernel
theorem d_D_objects_386 : decode c_D_objects 386 = .ok (.aload_n 0, 1) := by decide +kernel
theorem d_D_objects_387 : decode c_D_objects 387 = .ok (.iconst 1, 1) := by decide +kernel
theorem d_D_objects_388 : decode c_D_objects 388 = .ok (.invokevirtual 224, 3) := by decide +kernel
theorem d_D_objects_391 : decode c_D_objects 391 = .ok (.ifCond .eq 36, 3) := by decide +kernel
theorem d_D_objects_394 : decode c_D_objects 394 = .ok (.aload_n 0, 1) := by decide +kernel
theorem d_D_objects_395 : decode c_D_objects 395 = .ok (.iload_n 3, 1) := by decide +kernel
theorem d_D_objects_396 : decode c_D_objects 396 = .ok (.invokevirtual 243, 3) := by decide +kernel
theorem d_D_objects_399 : decode c_D_objects 399 = .ok (.ifCond .eq 28, 3) := by decide +kernel
theorem d_D_objects_402 : decode c_D_objects 402 = .ok (.aload_n 0, 1) := by decide +kernel
theorem d_D_objects_403 : decode c_D_objects 403 = .ok (.iload_n 3, 1) := by decide +kernel
theorem d_D_objects_404 : decode c_D_objects 404 = .ok (.bipush 76, 2) := by decide +kernel
theorem d_D_objects_406 : decode c_D_objects 406 = .ok (.if_icmp .ne 7, 3) := by decide +kernel
theorem d_D_objects_409 : decode c_D_objects 409 = .ok (.iconst 1, 1) := by decide +kernel
theorem d_D_objects_410 : decode c_D_objects 410 = .ok (.goto 7, 3) := by decide +kernel
theorem d_D_objects_413 : decode c_D_objects 413 = .ok (.iload_n 3, 1) := by decide +kernel
theorem d_D_objects_414 : decode c_D_objects 414 = .ok (.bipush 64, 2) := by decide +kernel
theorem d_D_objects_416 : decode c_D_objects 416 = .ok (.isub, 1) := by decide +kernel
theorem d_D_objects_417 : decode c_D_objects 417 = .ok (.invokevirtual 227, 3) := by decide +kernel
theorem d_D_objects_420 : decode c_D_objects 420 = .ok (.ifCond .eq 7, 3) := by decide +kernel
theorem d_D_objects_423 : decode c_D_objects 423 = .ok (.iconst 1, 1) := by decide +kernel
theorem d_D_objects_424 : decode c_D_objects 424 = .ok (.goto 4, 3) := by decide +kernel
theorem d_D_objects_427 : decode c_D_objects 427 = .ok (.iconst 0, 1) := by decide +kernel
theorem d_D_objects_428 : decode c_D_objects 428 = .ok (.ireturn, 1) := by decide +kernel
theorem d_D_objects_429 : decode c_D_objects 429 = .ok (.aload_n 0, 1) := by decide +kernel
theorem d_D_objects_430 : decode c_D_objects 430 = .ok (.iload_n 3, 1) := by decide +kernel
theorem d_D_objects_431 : decode c_D_objects 431 = .ok (.bipush 76, 2) := by decide +kernel
theorem d_D_objects_433 : decode c_D_objects 433 = .ok (.if_icmp .ne 7, 3) := by decide +kernel
theorem d_D_objects_436 : decode c_D_objects 436 = .ok (.iconst 1, 1) := by decide +kernel
theorem d_D_objects_437 : decode c_D_objects 437 = .ok (.goto 7, 3) := by decide +kernel
theorem d_D_objects_440 : decode c_D_objects 440 = .ok (.iload_n 3, 1) := by decide +kernel
theorem d_D_objects_441 : decode c_D_objects 441 = .ok (.bipush 64, 2) := by decide +kernel
theorem d_D_objects_443 : decode c_D_objects 443 = .ok (.isub, 1) := by decide +kernel
theorem d_D_objects_444 : decode c_D_objects 444 = .ok (.invokevirtual 240, 3) := by decide +kernel
theorem d_D_objects_447 : decode c_D_objects 447 = .ok (.ifCond .eq 23, 3) := by decide +kernel
theorem d_D_objects_450 : decode c_D_objects 450 = .ok (.aload_n 0, 1) := by decide +kernel
theorem d_D_objects_451 : decode c_D_objects 451 = .ok (.iconst 1, 1) := by decide +kernel
theorem d_D_objects_452 : decode c_D_objects 452 = .ok (.invokevirtual 224, 3) := by decide +kernel
theorem d_D_objects_455 : decode c_D_objects 455 = .ok (.ifCond .eq 15, 3) := by decide +kernel
theorem d_D_objects_458 : decode c_D_objects 458 = .ok (.aload_n 0, 1) := by decide +kernel
theorem d_D_objects_459 : decode c_D_objects 459 = .ok (.iload_n 3, 1) := by decide +kernel
theorem d_D_objects_460 : decode c_D_objects 460 = .ok (.invokevirtual 243, 3) := by decide +kernel
theorem d_D_objects_463 : decode c_D_objects 463 = .ok (.ifCond .eq 7, 3) := by decide +kernel
theorem d_D_objects_466 : decode c_D_objects 466 = .ok (.iconst 1, 1) := by decide +kernel
theorem d_D_objects_467 : decode c_D_objects 467 = .ok (.goto 4, 3) := by decide +kernel
theorem d_D_objects_470 : decode c_D_objects 470 = .ok (.iconst 0, 1) := by decide +kernel
theorem d_D_objects_471 : decode c_D_objects 471 = .ok (.ireturn, 1) := by decide +kernel
theorem d_D_objects_472 : decode c_D_objects 472 = .ok (.iload 5, 2) := by decide +kernel
theorem d_D_objects_474 : decode c_D_objects 474 = .ok (.iconst 5, 1) := by decide +kernel
theorem d_D_objects_475 : decode c_D_objects 475 = .ok (.if_icmp .eq 21, 3) := by decide +kernel
theorem d_D_objects_478 : decode c_D_objects 478 = .ok (.iload 5, 2) := by decide +kernel
theorem d_D_objects_480 : decode c_D_objects 480 = .ok (.bipush 64, 2) := by decide +kernel
theorem d_D_objects_482 : decode c_D_objects 482 = .ok (.if_icmp .lt 12, 3) := by decide +kernel
theorem d_D_objects_485 : decode c_D_objects 485 = .ok (.aload_n 0, 1) := by decide +kernel
theorem d_D_objects_486 : decode c_D_objects 486 = .ok (.iload 5, 2) := by decide +kernel
theorem d_D_objects_488 : decode c_D_objects 488 = .ok (.invokevirtual 99, 3) := by decide +kernel
theorem d_D_objects_491 : decode c_D_objects 491 = .ok (.ifCond .ne 5, 3) := by decide +kernel
theorem d_D_objects_494 : decode c_D_objects 494 = .ok (.iconst 0, 1) := by decide +kernel
theorem d_D_objects_495 : decode c_D_objects 495 = .ok (.ireturn, 1) := by decide +kernel
theorem d_D_objects_496 : decode c_D_objects 496 = .ok (.aload_n 0, 1) := by decide +kernel
theorem d_D_objects_497 : decode c_D_objects 497 = .ok (.invokevirtual 218, 3) := by decide +kernel
theorem d_D_objects_500 : decode c_D_objects 500 = .ok (.aload_n 0, 1) := by decide +kernel
theorem d_D_objects_501 : decode c_D_objects 501 = .ok (.iconst 1, 1) := by decide +kernel
theorem d_D_objects_502 : decode c_D_objects 502 = .ok (.invokevirtual 227, 3) := by decide +kernel
theorem d_D_objects_505 : decode c_D_objects 505 = .ok (.ireturn, 1) := by decide +kernel
theorem d_D_objects_506 : decode c_D_objects 506 = .ok (.aload_n 0, 1) := by decide +kernel
theorem d_D_objects_507 : decode c_D_objects 507 = .ok (.iload_n 3, 1) := by decide +kernel
theorem d_D_objects_508 : decode c_D_objects 508 = .ok (.iconst 1, 1) := by decide +kernel
theorem d_D_objects_509 : decode c_D_objects 509 = .ok (.invokevirtual 230, 3) := by decide +kernel
theorem d_D_objects_512 : decode c_D_objects 512 = .ok (.aload_n 0, 1) := by decide +kernel
theorem d_D_objects_513 : decode c_D_objects 513 = .ok (.getfield 70, 3) := by decide +kernel
theorem d_D_objects_516 : decode c_D_objects 516 = .ok (.iload_n 3, 1) := by decide +kernel
theorem d_D_objects_517 : decode c_D_objects 517 = .ok (.iaload, 1) := by decide +kernel
theorem d_D_objects_518 : decode c_D_objects 518 = .ok (.iconst 1, 1) := by decide +kernel
theorem d_D_objects_519 : decode c_D_objects 519 = .ok (.if_icmp .ne 7, 3) := by decide +kernel
theorem d_D_objects_522 : decode c_D_objects 522 = .ok (.iconst 1, 1) := by decide +kernel
theorem d_D_objects_523 : decode c_D_objects 523 = .ok (.goto 4, 3) := by decide +kernel
theorem d_D_objects_526 : decode c_D_objects 526 = .ok (.iconst 0, 1) := by decide +kernel
theorem d_D_objects_527 : decode c_D_objects 527 = .ok (.ireturn, 1) := by decide +kernel
theorem d_D_enters_0 : decode c_D_enters 0 = .ok (.aload_n 0, 1) := by decide +kernel
theorem d_D_enters_1 : decode c_D_enters 1 = .ok (.getfield 186, 3) := by decide +kernel
theorem d_D_enters_4 : decode c_D_enters 4 = .ok (.iload_n 2, 1) := by decide +kernel
theorem d_D_enters_5 : decode c_D_enters 5 = .ok (.lshr, 1) := by decide +kernel
theorem d_D_enters_6 : decode c_D_enters 6 = .ok (.lconst 1, 1) := by decide +kernel
theorem d_D_enters_7 : decode c_D_enters 7 = .ok (.land, 1) := by decide +kernel
theorem d_D_enters_8 : decode c_D_enters 8 = .ok (.lconst 1, 1) := by decide +kernel
theorem d_D_enters_9 : decode c_D_enters 9 = .ok (.lcmp, 1) := by decide +kernel
theorem d_D_enters_10 : decode c_D_enters 10 = .ok (.ifCond .ne 11, 3) := by decide +kernel
theorem d_D_enters_13 : decode c_D_enters 13 = .ok (.aload_n 0, 1) := by decide +kernel
theorem d_D_enters_14 : decode c_D_enters 14 = .ok (.bipush 6, 2) := by decide +kernel
theorem d_D_enters_16 : decode c_D_enters 16 = .ok (.iload_n 1, 1) := by decide +kernel
theorem d_D_enters_17 : decode c_D_enters 17 = .ok (.invokevirtual 133, 3) := by decide +kernel
theorem d_D_enters_20 : decode c_D_enters 20 = .ok (.return_, 1) := by decide +kernel
theorem d_D_enters_21 : decode c_D_enters 21 = .ok (.aload_n 0, 1) := by decide +kernel
theorem d_D_enters_22 : decode c_D_enters 22 = .ok (.sipush 2000, 3) := by decide +kernel
theorem d_D_enters_25 : decode c_D_enters 25 = .ok (.iload_n 2, 1) := by decide +kernel
theorem d_D_enters_26 : decode c_D_enters 26 = .ok (.iadd, 1) := by decide +kernel
theorem d_D_enters_27 : decode c_D_enters 27 = .ok (.invokevirtual 227, 3) := by decide +kernel
theorem d_D_enters_30 : decode c_D_enters 30 = .ok (.pop, 1) := by decide +kernel
theorem d_D_enters_31 : decode c_D_enters 31 = .ok (.aload_n 0, 1) := by decide +kernel
theorem d_D_enters_32 : decode c_D_enters 32 = .ok (.getfield 189, 3) := by decide +kernel
theorem d_D_enters_35 : decode c_D_enters 35 = .ok (.aload_n 0, 1) := by decide +kernel
theorem d_D_enters_36 : decode c_D_enters 36 = .ok (.getfield 115, 3) := by decide +kernel
theorem d_D_enters_39 : decode c_D_enters 39 = .ok (.if_icmp .le 10, 3) := by decide +kernel
theorem d_D_enters_42 : decode c_D_enters 42 = .ok (.aload_n 0, 1) := by decide +kernel
theorem d_D_enters_43 : decode c_D_enters 43 = .ok (.iconst 3, 1) := by decide +kernel
theorem d_D_enters_44 : decode c_D_enters 44 = .ok (.iload_n 1, 1) := by decide +kernel
theorem d_D_enters_45 : decode c_D_enters 45 = .ok (.invokevirtual 133, 3) := by decide +kernel
theorem d_D_enters_48 : decode c_D_enters 48 = .ok (.return_, 1) := by decide +kernel
theorem d_D_enters_49 : decode c_D_enters 49 = .ok (.aload_n 0, 1) := by decide +kernel
theorem d_D_enters_50 : decode c_D_enters 50 = .ok (.invokevirtual 192, 3) := by decide +kernel
theorem d_D_enters_53 : decode c_D_enters 53 = .ok (.aload_n 0, 1) := by decide +kernel
theorem d_D_enters_54 : decode c_D_enters 54 = .ok (.dup, 1) := by decide +kernel
theorem d_D_enters_55 : decode c_D_enters 55 = .ok (.getfield 169, 3) := by decide +kernel
theorem d_D_enters_58 : decode c_D_enters 58 = .ok (.lconst 1, 1) := by decide +kernel
theorem d_D_enters_59 : decode c_D_enters 59 = .ok (.iload_n 2, 1) := by decide +kernel
theorem d_D_enters_60 : decode c_D_enters 60 = .ok (.lshl, 1) := by decide +kernel
theorem d_D_enters_61 : decode c_D_enters 61 = .ok (.lor, 1) := by decide +kernel
theorem d_D_enters_62 : decode c_D_enters 62 = .ok (.putfield 169, 3) := by decide +kernel
theorem d_D_enters_65 : decode c_D_enters 65 = .ok (.aload_n 0, 1) := by decide +kernel
theorem d_D_enters_66 : decode c_D_enters 66 = .ok (.getfield 85, 3) := by decide +kernel
theorem d_D_enters_69 : decode c_D_enters 69 = .ok (.iload_n 2, 1) := by decide +kernel
theorem d_D_enters_70 : decode c_D_enters 70 = .ok (.iconst 0, 1) := by decide +kernel
theorem d_D_enters_71 : decode c_D_enters 71 = .ok (.iastore, 1) := by decide +kernel
theorem d_D_enters_72 : decode c_D_enters 72 = .ok (.aload_n 0, 1) := by decide +kernel
theorem d_D_enters_73 : decode c_D_enters 73 = .ok (.iload_n 1, 1) := by decide +kernel
theorem d_D_enters_74 : decode c_D_enters 74 = .ok (.iload_n 2, 1) := by decide +kernel
theorem d_D_enters_75 : decode c_D_enters 75 = .ok (.invokevirtual 211, 3) := by decide +kernel
theorem d_D_enters_78 : decode c_D_enters 78 = .ok (.iconst 0, 1) := by decide +kernel
theorem d_D_enters_79 : decode c_D_enters 79 = .ok (.istore_n 3, 1) := by decide +kernel
theorem d_D_enters_80 : decode c_D_enters 80 = .ok (.iload_n 3, 1) := by decide +kernel
theorem d_D_enters_81 : decode c_D_enters 81 = .ok (.aload_n 0, 1) := by decide +kernel
theorem d_D_enters_82 : decode c_D_enters 82 = .ok (.getfield 118, 3) := by decide +kernel
theorem d_D_enters_85 : decode c_D_enters 85 = .ok (.if_icmp .ge 58, 3) := by decide +kernel
theorem d_D_enters_88 : decode c_D_enters 88 = .ok (.aload_n 0, 1) := by decide +kernel
theorem d_D_enters_89 : decode c_D_enters 89 = .ok (.getfield 130, 3) := by decide +kernel
theorem d_D_enters_92 : decode c_D_enters 92 = .ok (.ifCond .ne 51, 3) := by decide +kernel
theorem d_D_enters_95 : decode c_D_enters 95 = .ok (.aload_n 0, 1) := by decide +kernel
theorem d_D_enters_96 : decode c_D_enters 96 = .ok (.getfield 21, 3) := by decide +kernel
theorem d_D_enters_99 : decode c_D_enters 99 = .ok (.iload_n 3, 1) := by decide +kernel
theorem d_D_enters_100 : decode c_D_enters 100 = .ok (.iaload, 1) := by decide +kernel
theorem d_D_enters_101 : decode c_D_enters 101 = .ok (.bipush 16, 2) := by decide +kernel
theorem d_D_enters_103 : decode c_D_enters 103 = .ok (.if_icmp .ne 34, 3) := by decide +kernel
theorem d_D_enters_106 : decode c_D_enters 106 = .ok (.aload_n 0, 1) := by decide +kernel
theorem d_D_enters_107 : decode c_D_enters 107 = .ok (.getfield 45, 3) := by decide +kernel
theorem d_D_enters_110 : decode c_D_enters 110 = .ok (.iload_n 3, 1) := by decide +kernel
theorem d_D_enters_111 : decode c_D_enters 111 = .ok (.baload, 1) := by decide +kernel
theorem d_D_enters_112 : decode c_D_enters 112 = .ok (.ifCond .eq 25, 3) := by decide +kernel
theorem d_D_enters_115 : decode c_D_enters 115 = .ok (.aload_n 0, 1) := by decide +kernel
theorem d_D_enters_116 : decode c_D_enters 116 = .ok (.getfield 67, 3) := by decide +kernel
theorem d_D_enters_119 : decode c_D_enters 119 = .ok (.iload_n 3, 1) := by decide +kernel
theorem d_D_enters_120 : decode c_D_enters 120 = .ok (.laload, 1) := by decide +kernel
theorem d_D_enters_121 : decode c_D_enters 121 = .ok (.iload_n 2, 1) := by decide +kernel
theorem d_D_enters_122 : decode c_D_enters 122 = .ok (.lshr, 1) := by decide +kernel
theorem d_D_enters_123 : decode c_D_enters 123 = .ok (.lconst 1, 1) := by decide +kernel
theorem d_D_enters_124 : decode c_D_enters 124 = .ok (.land, 1) := by decide +kernel
theorem d_D_enters_125 : decode c_D_enters 125 = .ok (.lconst 1, 1) := by decide +kernel
theorem d_D_enters_126 : decode c_D_enters 126 = .ok (.lcmp, 1) := by decide +kernel
theorem d_D_enters_127 : decode c_D_enters 127 = .ok (.ifCond .ne 10, 3) := by decide +kernel
theorem d_D_enters_130 : decode c_D_enters 130 = .ok (.aload_n 0, 1) := by decide +kernel
theorem d_D_enters_131 : decode c_D_enters 131 = .ok (.getfield 48, 3) := by decide +kernel
theorem d_D_enters_134 : decode c_D_enters 134 = .ok (.iload_n 3, 1) := by decide +kernel
theorem d_D_enters_135 : decode c_D_enters 135 = .ok (.iconst 1, 1) := by decide +kernel
theorem d_D_enters_136 : decode c_D_enters 136 = .ok (.bastore, 1) := by decide +kernel
theorem d_D_enters_137 : decode c_D_enters 137 = .ok (.iinc 3 1, 3) := by decide +kernel
theorem d_D_enters_140 : decode c_D_enters 140 = .ok (.goto (-60), 3) := by decide +kernel
theorem d_D_enters_143 : decode c_D_enters 143 = .ok (.return_, 1) := by decide +kernel
theorem d_D_back_0 : decode c_D_back 0 = .ok (.aload_n 0, 1) := by decide +kernel
theorem d_D_back_1 : decode c_D_back 1 = .ok (.getfield 70, 3) := by decide +kernel
theorem d_D_back_4 : decode c_D_back 4 = .ok (.iload_n 2, 1) := by decide +kernel
theorem d_D_back_5 : decode c_D_back 5 = .ok (.iaload, 1) := by decide +kernel
theorem d_D_back_6 : decode c_D_back 6 = .ok (.sipush 2000, 3) := by decide +kernel
theorem d_D_back_9 : decode c_D_back 9 = .ok (.isub, 1) := by decide +kernel
theorem d_D_back_10 : decode c_D_back 10 = .ok (.istore_n 3, 1) := by decide +kernel
theorem d_D_back_11 : decode c_D_back 11 = .ok (.iload_n 3, 1) := by decide +kernel
theorem d_D_back_12 : decode c_D_back 12 = .ok (.ifCond .ge 10, 3) := by decide +kernel
theorem d_D_back_15 : decode c_D_back 15 = .ok (.aload_n 0, 1) := by decide +kernel
theorem d_D_back_16 : decode c_D_back 16 = .ok (.iconst 2, 1) := by decide +kernel
theorem d_D_back_17 : decode c_D_back 17 = .ok (.iload_n 1, 1) := by decide +kernel
theorem d_D_back_18 : decode c_D_back 18 = .ok (.invokevirtual 133, 3) := by decide +kernel
theorem d_D_back_21 : decode c_D_back 21 = .ok (.return_, 1) := by decide +kernel
theorem d_D_back_22 : decode c_D_back 22 = .ok (.aload_n 0, 1) := by decide +kernel
theorem d_D_back_23 : decode c_D_back 23 = .ok (.getfield 186, 3) := by decide +kernel
theorem d_D_back_26 : decode c_D_back 26 = .ok (.iload_n 3, 1) := by decide +kernel
theorem d_D_back_27 : decode c_D_back 27 = .ok (.lshr, 1) := by decide +kernel
theorem d_D_back_28 : decode c_D_back 28 = .ok (.lconst 1, 1) := by decide +kernel
theorem d_D_back_29 : decode c_D_back 29 = .ok (.land, 1) := by decide +kernel
theorem d_D_back_30 : decode c_D_back 30 = .ok (.lconst 0, 1) := by decide +kernel
theorem d_D_back_31 : decode c_D_back 31 = .ok (.lcmp, 1) := by decide +kernel
theorem d_D_back_32 : decode c_D_back 32 = .ok (.ifCond .ne 11, 3) := by decide +kernel
theorem d_D_back_35 : decode c_D_back 35 = .ok (.aload_n 0, 1) := by decide +kernel
theorem d_D_back_36 : decode c_D_back 36 = .ok (.bipush 7, 2) := by decide +kernel
theorem d_D_back_38 : decode c_D_back 38 = .ok (.iload_n 1, 1) := by decide +kernel
theorem d_D_back_39 : decode c_D_back 39 = .ok (.invokevirtual 133, 3) := by decide +kernel
theorem d_D_back_42 : decode c_D_back 42 = .ok (.return_, 1) := by decide +kernel
theorem d_D_back_43 : decode c_D_back 43 = .ok (.aload_n 0, 1) := by decide +kernel
theorem d_D_back_44 : decode c_D_back 44 = .ok (.iload_n 2, 1) := by decide +kernel
theorem d_D_back_45 : decode c_D_back 45 = .ok (.iconst 0, 1) := by decide +kernel
theorem d_D_back_46 : decode c_D_back 46 = .ok (.invokevirtual 230, 3) := by decide +kernel
theorem d_D_back_49 : decode c_D_back 49 = .ok (.aload_n 0, 1) := by decide +kernel
theorem d_D_back_50 : decode c_D_back 50 = .ok (.getfield 67, 3) := by decide +kernel
theorem d_D_back_53 : decode c_D_back 53 = .ok (.iload_n 1, 1) := by decide +kernel
theorem d_D_back_54 : decode c_D_back 54 = .ok (.dup2, 1) := by decide +kernel
theorem d_D_back_55 : decode c_D_back 55 = .ok (.laload, 1) := by decide +kernel
theorem d_D_back_56 : decode c_D_back 56 = .ok (.lconst 1, 1) := by decide +kernel
theorem d_D_back_57 : decode c_D_back 57 = .ok (.iload_n 3, 1) := by decide +kernel
theorem d_D_back_58 : decode c_D_back 58 = .ok (.lshl, 1) := by decide +kernel
theorem d_D_back_59 : decode c_D_back 59 = .ok (.lor, 1) := by decide +kernel
theorem d_D_back_60 : decode c_D_back 60 = .ok (.lastore, 1) := by decide +kernel
theorem d_D_back_61 : decode c_D_back 61 = .ok (.iconst 0, 1) := by decide +kernel
theorem d_D_back_62 : decode c_D_back 62 = .ok (.istore 4, 2) := by decide +kernel
theorem d_D_back_64 : decode c_D_back 64 = .ok (.iload 4, 2) := by decide +kernel
theorem d_D_back_66 : decode c_D_back 66 = .ok (.aload_n 0, 1) := by decide +kernel
theorem d_D_back_67 : decode c_D_back 67 = .ok (.getfield 118, 3) := by decide +kernel
theorem d_D_back_70 : decode c_D_back 70 = .ok (.if_icmp .ge 276, 3) := by decide +kernel
theorem d_D_back_73 : decode c_D_back 73 = .ok (.aload_n 0, 1) := by decide +kernel
theorem d_D_back_74 : decode c_D_back 74 = .ok (.getfield 130, 3) := by decide +kernel
theorem d_D_back_77 : decode c_D_back 77 = .ok (.ifCond .ne 269, 3) := by decide +kernel
theorem d_D_back_80 : decode c_D_back 80 = .ok (.aload_n 0, 1) := by decide +kernel
theorem d_D_back_81 : decode c_D_back 81 = .ok (.getfield 21, 3) := by decide +kernel
theorem d_D_back_84 : decode c_D_back 84 = .ok (.iload 4, 2) := by decide +kernel
theorem d_D_back_86 : decode c_D_back 86 = .ok (.iaload, 1) := by decide +kernel
theorem d_D_back_87 : decode c_D_back 87 = .ok (.bipush 15, 2) := by decide +kernel
theorem d_D_back_89 : decode c_D_back 89 = .ok (.if_icmp .ne 251, 3) := by decide +kernel
theorem d_D_back_92 : decode c_D_back 92 = .ok (.aload_n 0, 1) := by decide +kernel
theorem d_D_back_93 : decode c_D_back 93 = .ok (.getfield 27, 3) := by decide +kernel
theorem d_D_back_96 : decode c_D_back 96 = .ok (.iload 4, 2) := by decide +kernel
theorem d_D_back_98 : decode c_D_back 98 = .ok (.iaload, 1) := by decide +kernel
theorem d_D_back_99 : decode c_D_back 99 = .ok (.iload_n 3, 1) := by decide +kernel
theorem d_D_back_100 : decode c_D_back 100 = .ok (.if_icmp .ne 240, 3) := by decide +kernel
theorem d_D_back_103 : decode c_D_back 103 = .ok (.aload_n 0, 1) := by decide +kernel
theorem d_D_back_104 : decode c_D_back 104 = .ok (.getfield 45, 3) := by decide +kernel
theorem d_D_back_107 : decode c_D_back 107 = .ok (.iload 4, 2) := by decide +kernel
theorem d_D_back_109 : decode c_D_back 109 = .ok (.baload, 1) := by decide +kernel
theorem d_D_back_110 : decode c_D_back 110 = .ok (.ifCond .ne 6, 3) := by decide +kernel
theorem d_D_back_113 : decode c_D_back 113 = .ok (.goto 227, 3) := by decide +kernel
theorem d_D_back_116 : decode c_D_back 116 = .ok (.iconst 0, 1) := by decide +kernel
theorem d_D_back_117 : decode c_D_back 117 = .ok (.istore 5, 2) := by decide +kernel
theorem d_D_back_119 : decode c_D_back 119 = .ok (.iload 5, 2) := by decide +kernel
theorem d_D_back_121 : decode c_D_back 121 = .ok (.bipush 12, 2) := by decide +kernel
theorem d_D_back_123 : decode c_D_back 123 = .ok (.if_icmp .ge 77, 3) := by decide +kernel
theorem d_D_back_126 : decode c_D_back 126 = .ok (.aload_n 0, 1) := by decide +kernel
theorem d_D_back_127 : decode c_D_back 127 = .ok (.getfield 79, 3) := by decide +kernel
theorem d_D_back_130 : decode c_D_back 130 = .ok (.iload 5, 2) := by decide +kernel
theorem d_D_back_132 : decode c_D_back 132 = .ok (.aload_n 0, 1) := by decide +kernel
theorem d_D_back_133 : decode c_D_back 133 = .ok (.getfield 76, 3) := by decide +kernel
theorem d_D_back_136 : decode c_D_back 136 = .ok (.iload_n 3, 1) := by decide +kernel
theorem d_D_back_137 : decode c_D_back 137 = .ok (.iaload, 1) := by decide +kernel
theorem d_D_back_138 : decode c_D_back 138 = .ok (.iload 5, 2) := by decide +kernel
theorem d_D_back_140 : decode c_D_back 140 = .ok (.ishr, 1) := by decide +kernel
theorem d_D_back_141 : decode c_D_back 141 = .ok (.iconst 1, 1) := by decide +kernel
theorem d_D_back_142 : decode c_D_back 142 = .ok (.iand, 1) := by decide +kernel
theorem d_D_back_143 : decode c_D_back 143 = .ok (.iconst 1, 1) := by decide +kernel
theorem d_D_back_144 : decode c_D_back 144 = .ok (.if_icmp .ne 13, 3) := by decide +kernel
theorem d_D_back_147 : decode c_D_back 147 = .ok (.aload_n 0, 1) := by decide +kernel
theorem d_D_back_148 : decode c_D_back 148 = .ok (.getfield 70, 3) := by decide +kernel
theorem d_D_back_151 : decode c_D_back 151 = .ok (.iload 5, 2) := by decide +kernel
theorem d_D_back_153 : decode c_D_back 153 = .ok (.iaload, 1) := by decide +kernel
theorem d_D_back_154 : decode c_D_back 154 = .ok (.goto 16, 3) := by decide +kernel
theorem d_D_back_157 : decode c_D_back 157 = .ok (.aload_n 0, 1) := by decide +kernel
theorem d_D_back_158 : decode c_D_back 158 = .ok (.getfield 51, 3) := by decide +kernel
theorem d_D_back_161 : decode c_D_back 161 = .ok (.bipush 12, 2) := by decide +kernel
theorem d_D_back_163 : decode c_D_back 163 = .ok (.iload 4, 2) := by decide +kernel
theorem d_D_back_165 : decode c_D_back 165 = .ok (.imul, 1) := by decide +kernel
theorem d_D_back_166 : decode c_D_back 166 = .ok (.iload 5, 2) := by decide +kernel
theorem d_D_back_168 : decode c_D_back 168 = .ok (.iadd, 1) := by decide +kernel
theorem d_D_back_169 : decode c_D_back 169 = .ok (.iaload, 1) := by decide +kernel
theorem d_D_back_170 : decode c_D_back 170 = .ok (.iastore, 1) := by decide +kernel
theorem d_D_back_171 : decode c_D_back 171 = .ok (.aload_n 0, 1) := by decide +kernel
theorem d_D_back_172 : decode c_D_back 172 = .ok (.getfield 79, 3) := by decide +kernel
theorem d_D_back_175 : decode c_D_back 175 = .ok (.iload 5, 2) := by decide +kernel
theorem d_D_back_177 : decode c_D_back 177 = .ok (.iaload, 1) := by decide +kernel
theorem d_D_back_178 : decode c_D_back 178 = .ok (.sipush 2000, 3) := by decide +kernel
theorem d_D_back_181 : decode c_D_back 181 = .ok (.iload_n 3, 1) := by decide +kernel
theorem d_D_back_182 : decode c_D_back 182 = .ok (.iadd, 1) := by decide +kernel
theorem d_D_back_183 : decode c_D_back 183 = .ok (.if_icmp .ne 11, 3) := by decide +kernel
theorem d_D_back_186 : decode c_D_back 186 = .ok (.aload_n 0, 1) := by decide +kernel
theorem d_D_back_187 : decode c_D_back 187 = .ok (.getfield 79, 3) := by decide +kernel
theorem d_D_back_190 : decode c_D_back 190 = .ok (.iload 5, 2) := by decide +kernel
theorem d_D_back_192 : decode c_D_back 192 = .ok (.iconst 0, 1) := by decide +kernel
theorem d_D_back_193 : decode c_D_back 193 = .ok (.iastore, 1) := by decide +kernel
theorem d_D_back_194 : decode c_D_back 194 = .ok (.iinc 5 1, 3) := by decide +kernel
theorem d_D_back_197 : decode c_D_back 197 = .ok (.goto (-78), 3) := by decide +kernel
theorem d_D_back_200 : decode c_D_back 200 = .ok (.iconst 0, 1) := by decide +kernel
theorem d_D_back_201 : decode c_D_back 201 = .ok (.istore 5, 2) := by decide +kernel
theorem d_D_back_203 : decode c_D_back 203 = .ok (.iload 5, 2) := by decide +kernel
theorem d_D_back_205 : decode c_D_back 205 = .ok (.aload_n 0, 1) := by decide +kernel
theorem d_D_back_206 : decode c_D_back 206 = .ok (.getfield 183, 3) := by decide +kernel
theorem d_D_back_209 : decode c_D_back 209 = .ok (.if_icmp .ge 42, 3) := by decide +kernel
theorem d_D_back_212 : decode c_D_back 212 = .ok (.aload_n 0, 1) := by decide +kernel
theorem d_D_back_213 : decode c_D_back 213 = .ok (.getfield 82, 3) := by decide +kernel
theorem d_D_back_216 : decode c_D_back 216 = .ok (.iload 5, 2) := by decide +kernel
theorem d_D_back_218 : decode c_D_back 218 = .ok (.aload_n 0, 1) := by decide +kernel
theorem d_D_back_219 : decode c_D_back 219 = .ok (.getfield 73, 3) := by decide +kernel
theorem d_D_back_222 : decode c_D_back 222 = .ok (.iload 5, 2) := by decide +kernel
theorem d_D_back_224 : decode c_D_back 224 = .ok (.iaload, 1) := by decide +kernel
theorem d_D_back_225 : decode c_D_back 225 = .ok (.sipush 2000, 3) := by decide +kernel
theorem d_D_back_228 : decode c_D_back 228 = .ok (.iload_n 3, 1) := by decide +kernel
theorem d_D_back_229 : decode c_D_back 229 = .ok (.iadd, 1) := by decide +kernel
theorem d_D_back_230 : decode c_D_back 230 = .ok (.if_icmp .ne 7, 3) := by decide +kernel
theorem d_D_back_233 : decode c_D_back 233 = .ok (.iconst 0, 1) := by decide +kernel
theorem d_D_back_234 : decode c_D_back 234 = .ok (.goto 10, 3) := by decide +kernel
theorem d_D_back_237 : decode c_D_back 237 = .ok (.aload_n 0, 1) := by decide +kernel
theorem d_D_back_238 : decode c_D_back 238 = .ok (.getfield 73, 3) := by decide +kernel
theorem d_D_back_241 : decode c_D_back 241 = .ok (.iload 5, 2) := by decide +kernel
theorem d_D_back_243 : decode c_D_back 243 = .ok (.iaload, 1) := by decide +kernel
theorem d_D_back_244 : decode c_D_back 244 = .ok (.iastore, 1) := by decide +kernel
theorem d_D_back_245 : decode c_D_back 245 = .ok (.iinc 5 1, 3) := by decide +kernel
theorem d_D_back_248 : decode c_D_back 248 = .ok (.goto (-45), 3) := by decide +kernel
theorem d_D_back_251 : decode c_D_back 251 = .ok (.aload_n 0, 1) := by decide +kernel
theorem d_D_back_252 : decode c_D_back 252 = .ok (.aload_n 0, 1) := by decide +kernel
theorem d_D_back_253 : decode c_D_back 253 = .ok (.getfield 183, 3) := by decide +kernel
theorem d_D_back_256 : decode c_D_back 256 = .ok (.putfield 166, 3) := by decide +kernel
theorem d_D_back_259 : decode c_D_back 259 = .ok (.aload_n 0, 1) := by decide +kernel
theorem d_D_back_260 : decode c_D_back 260 = .ok (.aload_n 0, 1) := by decide +kernel
theorem d_D_back_261 : decode c_D_back 261 = .ok (.getfield 63, 3) := by decide +kernel
theorem d_D_back_264 : decode c_D_back 264 = .ok (.iload 4, 2) := by decide +kernel
theorem d_D_back_266 : decode c_D_back 266 = .ok (.laload, 1) := by decide +kernel
theorem d_D_back_267 : decode c_D_back 267 = .ok (.putfield 169, 3) := by decide +kernel
theorem d_D_back_270 : decode c_D_back 270 = .ok (.iconst 0, 1) := by decide +kernel
theorem d_D_back_271 : decode c_D_back 271 = .ok (.istore 5, 2) := by decide +kernel
theorem d_D_back_273 : decode c_D_back 273 = .ok (.iload 5, 2) := by decide +kernel
theorem d_D_back_275 : decode c_D_back 275 = .ok (.bipush 48, 2) := by decide +kernel
theorem d_D_back_277 : decode c_D_back 277 = .ok (.if_icmp .ge 54, 3) := by decide +kernel
theorem d_D_back_280 : decode c_D_back 280 = .ok (.aload_n 0, 1) := by decide +kernel
theorem d_D_back_281 : decode c_D_back 281 = .ok (.getfield 85, 3) := by decide +kernel
theorem d_D_back_284 : decode c_D_back 284 = .ok (.iload 5, 2) := by decide +kernel
theorem d_D_back_286 : decode c_D_back 286 = .ok (.aload_n 0, 1) := by decide +kernel
theorem d_D_back_287 : decode c_D_back 287 = .ok (.getfield 169, 3) := by decide +kernel
theorem d_D_back_290 : decode c_D_back 290 = .ok (.iload 5, 2) := by decide +kernel
theorem d_D_back_292 : decode c_D_back 292 = .ok (.lshr, 1) := by decide +kernel
theorem d_D_back_293 : decode c_D_back 293 = .ok (.lconst 1, 1) := by decide +kernel
theorem d_D_back_294 : decode c_D_back 294 = .ok (.land, 1) := by decide +kernel
theorem d_D_back_295 : decode c_D_back 295 = .ok (.lconst 1, 1) := by decide +kernel
theorem d_D_back_296 : decode c_D_back 296 = .ok (.lcmp, 1) := by decide +kernel
theorem d_D_back_297 : decode c_D_back 297 = .ok (.ifCond .ne 26, 3) := by decide +kernel
theorem d_D_back_300 : decode c_D_back 300 = .ok (.aload_n 0, 1) := by decide +kernel
theorem d_D_back_301 : decode c_D_back 301 = .ok (.getfield 60, 3) := by decide +kernel
theorem d_D_back_304 : decode c_D_back 304 = .ok (.bipush 48, 2) := by decide +kernel
theorem d_D_back_306 : decode c_D_back 306 = .ok (.iload 4, 2) := by decide +kernel
theorem d_D_back_308 : decode c_D_back 308 = .ok (.imul, 1) := by decide +kernel
theorem d_D_back_309 : decode c_D_back 309 = .ok (.iload 5, 2) := by decide +kernel
theorem d_D_back_311 : decode c_D_back 311 = .ok (.iadd, 1) := by decide +kernel
theorem d_D_back_312 : decode c_D_back 312 = .ok (.iaload, 1) := by decide +kernel
theorem d_D_back_313 : decode c_D_back 313 = .ok (.aload_n 0, 1) := by decide +kernel
theorem d_D_back_314 : decode c_D_back 314 = .ok (.getfield 76, 3) := by decide +kernel
theorem d_D_back_317 : decode c_D_back 317 = .ok (.iload_n 3, 1) := by decide +kernel
theorem d_D_back_318 : decode c_D_back 318 = .ok (.iaload, 1) := by decide +kernel
theorem d_D_back_319 : decode c_D_back 319 = .ok (.ior, 1) := by decide +kernel
theorem d_D_back_320 : decode c_D_back 320 = .ok (.goto 4, 3) := by decide +kernel
theorem d_D_back_323 : decode c_D_back 323 = .ok (.iconst 0, 1) := by decide +kernel
theorem d_D_back_324 : decode c_D_back 324 = .ok (.iastore, 1) := by decide +kernel
theorem d_D_back_325 : decode c_D_back 325 = .ok (.iinc 5 1, 3) := by decide +kernel
theorem d_D_back_328 : decode c_D_back 328 = .ok (.goto (-55), 3) := by decide +kernel
theorem d_D_back_331 : decode c_D_back 331 = .ok (.aload_n 0, 1) := by decide +kernel
theorem d_D_back_332 : decode c_D_back 332 = .ok (.iload_n 1, 1) := by decide +kernel
theorem d_D_back_333 : decode c_D_back 333 = .ok (.iload 4, 2) := by decide +kernel
theorem d_D_back_335 : decode c_D_back 335 = .ok (.iconst 1, 1) := by decide +kernel
theorem d_D_back_336 : decode c_D_back 336 = .ok (.iadd, 1) := by decide +kernel
theorem d_D_back_337 : decode c_D_back 337 = .ok (.invokevirtual 211, 3) := by decide +kernel
theorem d_D_back_340 : decode c_D_back 340 = .ok (.iinc 4 1, 3) := by decide +kernel
theorem d_D_back_343 : decode c_D_back 343 = .ok (.goto (-279), 3) := by decide +kernel
theorem d_D_back_346 : decode c_D_back 346 = .ok (.return_, 1) := by decide +kernel
theorem d_D_place_0 : decode c_D_place 0 = .ok (.aload_n 0, 1) := by decide +kernel
theorem d_D_place_1 : decode c_D_place 1 = .ok (.getfield 130, 3) := by decide +kernel
theorem d_D_place_4 : decode c_D_place 4 = .ok (.ifCond .ne 7, 3) := by decide +kernel
theorem d_D_place_7 : decode c_D_place 7 = .ok (.iconst (-1), 1) := by decide +kernel
theorem d_D_place_8 : decode c_D_place 8 = .ok (.goto 7, 3) := by decide +kernel
theorem d_D_place_11 : decode c_D_place 11 = .ok (.aload_n 0, 1) := by decide +kernel
theorem d_D_place_12 : decode c_D_place 12 = .ok (.getfield 88, 3) := by decide +kernel
theorem d_D_place_15 : decode c_D_place 15 = .ok (.ireturn, 1) := by decide +kernel
theorem d_D_state_0 : decode c_D_state 0 = .ok (.iload_n 1, 1) := by decide +kernel
theorem d_D_state_1 : decode c_D_state 1 = .ok (.iconst 0, 1) := by decide +kernel
theorem d_D_state_2 : decode c_D_state 2 = .ok (.bipush 47, 2) := by decide +kernel
theorem d_D_state_4 : decode c_D_state 4 = .ok (.invokestatic 91, 3) := by decide +kernel
theorem d_D_state_7 : decode c_D_state 7 = .ok (.ifCond .eq 12, 3) := by decide +kernel
theorem d_D_state_10 : decode c_D_state 10 = .ok (.aload_n 0, 1) := by decide +kernel
theorem d_D_state_11 : decode c_D_state 11 = .ok (.getfield 45, 3) := by decide +kernel
theorem d_D_state_14 : decode c_D_state 14 = .ok (.iload_n 1, 1) := by decide +kernel
theorem d_D_state_15 : decode c_D_state 15 = .ok (.baload, 1) := by decide +kernel
theorem d_D_state_16 : decode c_D_state 16 = .ok (.ifCond .ne 5, 3) := by decide +kernel
theorem d_D_state_19 : decode c_D_state 19 = .ok (.iconst (-1), 1) := by decide +kernel
theorem d_D_state_20 : decode c_D_state 20 = .ok (.ireturn, 1) := by decide +kernel
theorem d_D_state_21 : decode c_D_state 21 = .ok (.iload_n 2, 1) := by decide +kernel
theorem d_D_state_22 : decode c_D_state 22 = .ok (.iconst 0, 1) := by decide +kernel
theorem d_D_state_23 : decode c_D_state 23 = .ok (.bipush 11, 2) := by decide +kernel
theorem d_D_state_25 : decode c_D_state 25 = .ok (.invokestatic 91, 3) := by decide +kernel
theorem d_D_state_28 : decode c_D_state 28 = .ok (.ifCond .eq 15, 3) := by decide +kernel
theorem d_D_state_31 : decode c_D_state 31 = .ok (.aload_n 0, 1) := by decide +kernel
theorem d_D_state_32 : decode c_D_state 32 = .ok (.getfield 51, 3) := by decide +kernel
theorem d_D_state_35 : decode c_D_state 35 = .ok (.bipush 12, 2) := by decide +kernel
theorem d_D_state_37 : decode c_D_state 37 = .ok (.iload_n 1, 1) := by decide +kernel
theorem d_D_state_38 : decode c_D_state 38 = .ok (.imul, 1) := by decide +kernel
theorem d_D_state_39 : decode c_D_state 39 = .ok (.iload_n 2, 1) := by decide +kernel
theorem d_D_state_40 : decode c_D_state 40 = .ok (.iadd, 1) := by decide +kernel
theorem d_D_state_41 : decode c_D_state 41 = .ok (.iaload, 1) := by decide +kernel
theorem d_D_state_42 : decode c_D_state 42 = .ok (.ireturn, 1) := by decide +kernel
theorem d_D_state_43 : decode c_D_state 43 = .ok (.iload_n 2, 1) := by decide +kernel
theorem d_D_state_44 : decode c_D_state 44 = .ok (.bipush 16, 2) := by decide +kernel
theorem d_D_state_46 : decode c_D_state 46 = .ok (.bipush 27, 2) := by decide +kernel
theorem d_D_state_48 : decode c_D_state 48 = .ok (.invokestatic 91, 3) := by decide +kernel
theorem d_D_state_51 : decode c_D_state 51 = .ok (.ifCond .eq 35, 3) := by decide +kernel
theorem d_D_state_54 : decode c_D_state 54 = .ok (.iload_n 2, 1) := by decide +kernel
theorem d_D_state_55 : decode c_D_state 55 = .ok (.bipush 16, 2) := by decide +kernel
theorem d_D_state_57 : decode c_D_state 57 = .ok (.isub, 1) := by decide +kernel
theorem d_D_state_58 : decode c_D_state 58 = .ok (.aload_n 0, 1) := by decide +kernel
theorem d_D_state_59 : decode c_D_state 59 = .ok (.getfield 57, 3) := by decide +kernel
theorem d_D_state_62 : decode c_D_state 62 = .ok (.iload_n 1, 1) := by decide +kernel
theorem d_D_state_63 : decode c_D_state 63 = .ok (.iaload, 1) := by decide +kernel
theorem d_D_state_64 : decode c_D_state 64 = .ok (.if_icmp .ge 20, 3) := by decide +kernel
theorem d_D_state_67 : decode c_D_state 67 = .ok (.aload_n 0, 1) := by decide +kernel
theorem d_D_state_68 : decode c_D_state 68 = .ok (.getfield 54, 3) := by decide +kernel
theorem d_D_state_71 : decode c_D_state 71 = .ok (.bipush 12, 2) := by decide +kernel
theorem d_D_state_73 : decode c_D_state 73 = .ok (.iload_n 1, 1) := by decide +kernel
theorem d_D_state_74 : decode c_D_state 74 = .ok (.imul, 1) := by decide +kernel
theorem d_D_state_75 : decode c_D_state 75 = .ok (.iload_n 2, 1) := by decide +kernel
theorem d_D_state_76 : decode c_D_state 76 = .ok (.iadd, 1) := by decide +kernel
theorem d_D_state_77 : decode c_D_state 77 = .ok (.bipush 16, 2) := by decide +kernel
theorem d_D_state_79 : decode c_D_state 79 = .ok (.isub, 1) := by decide +kernel
theorem d_D_state_80 : decode c_D_state 80 = .ok (.iaload, 1) := by decide +kernel
theorem d_D_state_81 : decode c_D_state 81 = .ok (.goto 4, 3) := by decide +kernel
theorem d_D_state_84 : decode c_D_state 84 = .ok (.iconst (-1), 1) := by decide +kernel
theorem d_D_state_85 : decode c_D_state 85 = .ok (.ireturn, 1) := by decide +kernel
theorem d_D_state_86 : decode c_D_state 86 = .ok (.iconst 0, 1) := by decide +kernel
theorem d_D_state_87 : decode c_D_state 87 = .ok (.istore_n 3, 1) := by decide +kernel
theorem d_D_state_88 : decode c_D_state 88 = .ok (.iconst 0, 1) := by decide +kernel
theorem d_D_state_89 : decode c_D_state 89 = .ok (.istore 4, 2) := by decide +kernel
theorem d_D_state_91 : decode c_D_state 91 = .ok (.iload 4, 2) := by decide +kernel
theorem d_D_state_93 : decode c_D_state 93 = .ok (.bipush 48, 2) := by decide +kernel
theorem d_D_state_95 : decode c_D_state 95 = .ok (.if_icmp .ge 75, 3) := by decide +kernel
theorem d_D_state_98 : decode c_D_state 98 = .ok (.aload_n 0, 1) := by decide +kernel
theorem d_D_state_99 : decode c_D_state 99 = .ok (.getfield 63, 3) := by decide +kernel
theorem d_D_state_102 : decode c_D_state 102 = .ok (.iload_n 1, 1) := by decide +kernel
theorem d_D_state_103 : decode c_D_state 103 = .ok (.laload, 1) := by decide +kernel
theorem d_D_state_104 : decode c_D_state 104 = .ok (.iload 4, 2) := by decide +kernel
theorem d_D_state_106 : decode c_D_state 106 = .ok (.lshr, 1) := by decide +kernel
theorem d_D_state_107 : decode c_D_state 107 = .ok (.lconst 1, 1) := by decide +kernel
theorem d_D_state_108 : decode c_D_state 108 = .ok (.land, 1) := by decide +kernel
theorem d_D_state_109 : decode c_D_state 109 = .ok (.lconst 0, 1) := by decide +kernel
theorem d_D_state_110 : decode c_D_state 110 = .ok (.lcmp, 1) := by decide +kernel
theorem d_D_state_111 : decode c_D_state 111 = .ok (.ifCond .ne 6, 3) := by decide +kernel
theorem d_D_state_114 : decode c_D_state 114 = .ok (.goto 50, 3) := by decide +kernel
theorem d_D_state_117 : decode c_D_state 117 = .ok (.iload_n 2, 1) := by decide +kernel
theorem d_D_state_118 : decode c_D_state 118 = .ok (.bipush 34, 2) := by decide +kernel
theorem d_D_state_120 : decode c_D_state 120 = .ok (.iload_n 3, 1) := by decide +kernel
theorem d_D_state_121 : decode c_D_state 121 = .ok (.iadd, 1) := by decide +kernel
theorem d_D_state_122 : decode c_D_state 122 = .ok (.if_icmp .ne 12, 3) := by decide +kernel
theorem d_D_state_125 : decode c_D_state 125 = .ok (.iload_n 3, 1) := by decide +kernel
theorem d_D_state_126 : decode c_D_state 126 = .ok (.bipush 6, 2) := by decide +kernel
theorem d_D_state_128 : decode c_D_state 128 = .ok (.if_icmp .ge 6, 3) := by decide +kernel
theorem d_D_state_131 : decode c_D_state 131 = .ok (.iload 4, 2) := by decide +kernel
theorem d_D_state_133 : decode c_D_state 133 = .ok (.ireturn, 1) := by decide +kernel
theorem d_D_state_134 : decode c_D_state 134 = .ok (.iload_n 2, 1) := by decide +kernel
theorem d_D_state_135 : decode c_D_state 135 = .ok (.bipush 40, 2) := by decide +kernel
theorem d_D_state_137 : decode c_D_state 137 = .ok (.iload_n 3, 1) := by decide +kernel
theorem d_D_state_138 : decode c_D_state 138 = .ok (.iadd, 1) := by decide +kernel
theorem d_D_state_139 : decode c_D_state 139 = .ok (.if_icmp .ne 22, 3) := by decide +kernel
theorem d_D_state_142 : decode c_D_state 142 = .ok (.iload_n 3, 1) := by decide +kernel
theorem d_D_state_143 : decode c_D_state 143 = .ok (.bipush 6, 2) := by decide +kernel
theorem d_D_state_145 : decode c_D_state 145 = .ok (.if_icmp .ge 16, 3) := by decide +kernel
theorem d_D_state_148 : decode c_D_state 148 = .ok (.aload_n 0, 1) := by decide +kernel
theorem d_D_state_149 : decode c_D_state 149 = .ok (.getfield 60, 3) := by decide +kernel
theorem d_D_state_152 : decode c_D_state 152 = .ok (.bipush 48, 2) := by decide +kernel
theorem d_D_state_154 : decode c_D_state 154 = .ok (.iload_n 1, 1) := by decide +kernel
theorem d_D_state_155 : decode c_D_state 155 = .ok (.imul, 1) := by decide +kernel
theorem d_D_state_156 : decode c_D_state 156 = .ok (.iload 4, 2) := by decide +kernel
theorem d_D_state_158 : decode c_D_state 158 = .ok (.iadd, 1) := by decide +kernel
theorem d_D_state_159 : decode c_D_state 159 = .ok (.iaload, 1) := by decide +kernel
theorem d_D_state_160 : decode c_D_state 160 = .ok (.ireturn, 1) := by decide +kernel
theorem d_D_state_161 : decode c_D_state 161 = .ok (.iinc 3 1, 3) := by decide +kernel
theorem d_D_state_164 : decode c_D_state 164 = .ok (.iinc 4 1, 3) := by decide +kernel
theorem d_D_state_167 : decode c_D_state 167 = .ok (.goto (-76), 3) := by decide +kernel
theorem d_D_state_170 : decode c_D_state 170 = .ok (.iload_n 2, 1) := by decide +kernel
theorem d_D_state_171 : decode c_D_state 171 = .ok (.bipush 32, 2) := by decide +kernel
theorem d_D_state_173 : decode c_D_state 173 = .ok (.if_icmp .ne 12, 3) := by decide +kernel
theorem d_D_state_176 : decode c_D_state 176 = .ok (.aload_n 0, 1) := by decide +kernel
theorem d_D_state_177 : decode c_D_state 177 = .ok (.getfield 57, 3) := by decide +kernel
theorem d_D_state_180 : decode c_D_state 180 = .ok (.iload_n 1, 1) := by decide +kernel
theorem d_D_state_181 : decode c_D_state 181 = .ok (.iaload, 1) := by decide +kernel
theorem d_D_state_182 : decode c_D_state 182 = .ok (.goto 14, 3) := by decide +kernel
theorem d_D_state_185 : decode c_D_state 185 = .ok (.iload_n 2, 1) := by decide +kernel
theorem d_D_state_186 : decode c_D_state 186 = .ok (.bipush 33, 2) := by decide +kernel
theorem d_D_state_188 : decode c_D_state 188 = .ok (.if_icmp .ne 7, 3) := by decide +kernel
theorem d_D_state_191 : decode c_D_state 191 = .ok (.iload_n 3, 1) := by decide +kernel
theorem d_D_state_192 : decode c_D_state 192 = .ok (.goto 4, 3) := by decide +kernel
theorem d_D_state_195 : decode c_D_state 195 = .ok (.iconst (-1), 1) := by decide +kernel
theorem d_D_state_196 : decode c_D_state 196 = .ok (.ireturn, 1) := by decide +kernel
theorem d_D_join_0 : decode c_D_join 0 = .ok (.iload_n 1, 1) := by decide +kernel
theorem d_D_join_1 : decode c_D_join 1 = .ok (.iconst 0, 1) := by decide +kernel
theorem d_D_join_2 : decode c_D_join 2 = .ok (.iconst 5, 1) := by decide +kernel
theorem d_D_join_3 : decode c_D_join 3 = .ok (.invokestatic 91, 3) := by decide +kernel
theorem d_D_join_6 : decode c_D_join 6 = .ok (.ifCond .ne 11, 3) := by decide +kernel
theorem d_D_join_9 : decode c_D_join 9 = .ok (.aload_n 0, 1) := by decide +kernel
theorem d_D_join_10 : decode c_D_join 10 = .ok (.iload_n 1, 1) := by decide +kernel
theorem d_D_join_11 : decode c_D_join 11 = .ok (.invokevirtual 99, 3) := by decide +kernel
theorem d_D_join_14 : decode c_D_join 14 = .ok (.ifCond .eq 20, 3) := by decide +kernel
theorem d_D_join_17 : decode c_D_join 17 = .ok (.iload_n 2, 1) := by decide +kernel
theorem d_D_join_18 : decode c_D_join 18 = .ok (.iconst 0, 1) := by decide +kernel
theorem d_D_join_19 : decode c_D_join 19 = .ok (.iconst 5, 1) := by decide +kernel
theorem d_D_join_20 : decode c_D_join 20 = .ok (.invokestatic 91, 3) := by decide +kernel
theorem d_D_join_23 : decode c_D_join 23 = .ok (.ifCond .ne 15, 3) := by decide +kernel
theorem d_D_join_26 : decode c_D_join 26 = .ok (.aload_n 0, 1) := by decide +kernel
theorem d_D_join_27 : decode c_D_join 27 = .ok (.iload_n 2, 1) := by decide +kernel
theorem d_D_join_28 : decode c_D_join 28 = .ok (.invokevirtual 99, 3) := by decide +kernel
theorem d_D_join_31 : decode c_D_join 31 = .ok (.ifCond .ne 7, 3) := by decide +kernel
theorem d_D_join_34 : decode c_D_join 34 = .ok (.iconst (-1), 1) := by decide +kernel
theorem d_D_join_35 : decode c_D_join 35 = .ok (.goto 9, 3) := by decide +kernel
theorem d_D_join_38 : decode c_D_join 38 = .ok (.aload_n 0, 1) := by decide +kernel
theorem d_D_join_39 : decode c_D_join 39 = .ok (.iload_n 1, 1) := by decide +kernel
theorem d_D_join_40 : decode c_D_join 40 = .ok (.iload_n 2, 1) := by decide +kernel
theorem d_D_join_41 : decode c_D_join 41 = .ok (.invokevirtual 175, 3) := by decide +kernel
theorem d_D_join_44 : decode c_D_join 44 = .ok (.ireturn, 1) := by decide +kernel
theorem d_D_goes_0 : decode c_D_goes 0 = .ok (.iload_n 1, 1) := by decide +kernel
theorem d_D_goes_1 : decode c_D_goes 1 = .ok (.iconst 0, 1) := by decide +kernel
theorem d_D_goes_2 : decode c_D_goes 2 = .ok (.iconst 5, 1) := by decide +kernel
theorem d_D_goes_3 : decode c_D_goes 3 = .ok (.invokestatic 91, 3) := by decide +kernel
theorem d_D_goes_6 : decode c_D_goes 6 = .ok (.ifCond .ne 11, 3) := by decide +kernel
theorem d_D_goes_9 : decode c_D_goes 9 = .ok (.aload_n 0, 1) := by decide +kernel
theorem d_D_goes_10 : decode c_D_goes 10 = .ok (.iload_n 1, 1) := by decide +kernel
theorem d_D_goes_11 : decode c_D_goes 11 = .ok (.invokevirtual 99, 3) := by decide +kernel
theorem d_D_goes_14 : decode c_D_goes 14 = .ok (.ifCond .eq 20, 3) := by decide +kernel
theorem d_D_goes_17 : decode c_D_goes 17 = .ok (.iload_n 2, 1) := by decide +kernel
theorem d_D_goes_18 : decode c_D_goes 18 = .ok (.iconst 0, 1) := by decide +kernel
theorem d_D_goes_19 : decode c_D_goes 19 = .ok (.iconst 5, 1) := by decide +kernel
theorem d_D_goes_20 : decode c_D_goes 20 = .ok (.invokestatic 91, 3) := by decide +kernel
theorem d_D_goes_23 : decode c_D_goes 23 = .ok (.ifCond .ne 15, 3) := by decide +kernel
theorem d_D_goes_26 : decode c_D_goes 26 = .ok (.aload_n 0, 1) := by decide +kernel
theorem d_D_goes_27 : decode c_D_goes 27 = .ok (.iload_n 2, 1) := by decide +kernel
theorem d_D_goes_28 : decode c_D_goes 28 = .ok (.invokevirtual 99, 3) := by decide +kernel
theorem d_D_goes_31 : decode c_D_goes 31 = .ok (.ifCond .ne 7, 3) := by decide +kernel
theorem d_D_goes_34 : decode c_D_goes 34 = .ok (.iconst (-1), 1) := by decide +kernel
theorem d_D_goes_35 : decode c_D_goes 35 = .ok (.goto 17, 3) := by decide +kernel
theorem d_D_goes_38 : decode c_D_goes 38 = .ok (.aload_n 0, 1) := by decide +kernel
theorem d_D_goes_39 : decode c_D_goes 39 = .ok (.iload_n 1, 1) := by decide +kernel
theorem d_D_goes_40 : decode c_D_goes 40 = .ok (.iload_n 2, 1) := by decide +kernel
theorem d_D_goes_41 : decode c_D_goes 41 = .ok (.invokevirtual 221, 3) := by decide +kernel
theorem d_D_goes_44 : decode c_D_goes 44 = .ok (.ifCond .eq 7, 3) := by decide +kernel
theorem d_D_goes_47 : decode c_D_goes 47 = .ok (.iconst 1, 1) := by decide +kernel
theorem d_D_goes_48 : decode c_D_goes 48 = .ok (.goto 4, 3) := by decide +kernel
theorem d_D_goes_51 : decode c_D_goes 51 = .ok (.iconst 0, 1) := by decide +kernel
theorem d_D_goes_52 : decode c_D_goes 52 = .ok (.ireturn, 1) := by decide +kernel
theorem d_D_count_0 : decode c_D_count 0 = .ok (.iconst 0, 1) := by decide +kernel
theorem d_D_count_1 : decode c_D_count 1 = .ok (.istore_n 2, 1) := by decide +kernel
theorem d_D_count_2 : decode c_D_count 2 = .ok (.iconst 0, 1) := by decide +kernel
theorem d_D_count_3 : decode c_D_count 3 = .ok (.istore_n 3, 1) := by decide +kernel
theorem d_D_count_4 : decode c_D_count 4 = .ok (.iload_n 3, 1) := by decide +kernel
theorem d_D_count_5 : decode c_D_count 5 = .ok (.bipush 48, 2) := by decide +kernel
theorem d_D_count_7 : decode c_D_count 7 = .ok (.if_icmp .ge 21, 3) := by decide +kernel
theorem d_D_count_10 : decode c_D_count 10 = .ok (.iload_n 2, 1) := by decide +kernel
theorem d_D_count_11 : decode c_D_count 11 = .ok (.aload_n 0, 1) := by decide +kernel
theorem d_D_count_12 : decode c_D_count 12 = .ok (.getfield 162, 3) := by decide +kernel
theorem d_D_count_15 : decode c_D_count 15 = .ok (.iload_n 3, 1) := by decide +kernel
theorem d_D_count_16 : decode c_D_count 16 = .ok (.lshr, 1) := by decide +kernel
theorem d_D_count_17 : decode c_D_count 17 = .ok (.lconst 1, 1) := by decide +kernel
theorem d_D_count_18 : decode c_D_count 18 = .ok (.land, 1) := by decide +kernel
theorem d_D_count_19 : decode c_D_count 19 = .ok (.l2i, 1) := by decide +kernel
theorem d_D_count_20 : decode c_D_count 20 = .ok (.iadd, 1) := by decide +kernel
theorem d_D_count_21 : decode c_D_count 21 = .ok (.istore_n 2, 1) := by decide +kernel
theorem d_D_count_22 : decode c_D_count 22 = .ok (.iinc 3 1, 3) := by decide +kernel
theorem d_D_count_25 : decode c_D_count 25 = .ok (.goto (-21), 3) := by decide +kernel
theorem d_D_count_28 : decode c_D_count 28 = .ok (.iload_n 1, 1) := by decide +kernel
theorem d_D_count_29 : decode c_D_count 29 = .ok (.tableswitch 84 0 7 #[47, 52, 57, 62, 67, 72, 77, 82], 47) := by decide +kernel
theorem d_D_count_76 : decode c_D_count 76 = .ok (.aload_n 0, 1) := by decide +kernel
theorem d_D_count_77 : decode c_D_count 77 = .ok (.getfield 17, 3) := by decide +kernel
theorem d_D_count_80 : decode c_D_count 80 = .ok (.ireturn, 1) := by decide +kernel
theorem d_D_count_81 : decode c_D_count 81 = .ok (.aload_n 0, 1) := by decide +kernel
theorem d_D_count_82 : decode c_D_count 82 = .ok (.getfield 118, 3) := by decide +kernel
theorem d_D_count_85 : decode c_D_count 85 = .ok (.ireturn, 1) := by decide +kernel
theorem d_D_count_86 : decode c_D_count 86 = .ok (.aload_n 0, 1) := by decide +kernel
theorem d_D_count_87 : decode c_D_count 87 = .ok (.getfield 121, 3) := by decide +kernel
theorem d_D_count_90 : decode c_D_count 90 = .ok (.ireturn, 1) := by decide +kernel
theorem d_D_count_91 : decode c_D_count 91 = .ok (.aload_n 0, 1) := by decide +kernel
theorem d_D_count_92 : decode c_D_count 92 = .ok (.getfield 124, 3) := by decide +kernel
theorem d_D_count_95 : decode c_D_count 95 = .ok (.ireturn, 1) := by decide +kernel
theorem d_D_count_96 : decode c_D_count 96 = .ok (.aload_n 0, 1) := by decide +kernel
theorem d_D_count_97 : decode c_D_count 97 = .ok (.getfield 143, 3) := by decide +kernel
theorem d_D_count_100 : decode c_D_count 100 = .ok (.ireturn, 1) := by decide +kernel
theorem d_D_count_101 : decode c_D_count 101 = .ok (.aload_n 0, 1) := by decide +kernel
theorem d_D_count_102 : decode c_D_count 102 = .ok (.getfield 159, 3) := by decide +kernel
theorem d_D_count_105 : decode c_D_count 105 = .ok (.ireturn, 1) := by decide +kernel
theorem d_D_count_106 : decode c_D_count 106 = .ok (.aload_n 0, 1) := by decide +kernel
theorem d_D_count_107 : decode c_D_count 107 = .ok (.getfield 156, 3) := by decide +kernel
theorem d_D_count_110 : decode c_D_count 110 = .ok (.ireturn, 1) := by decide +kernel
theorem d_D_count_111 : decode c_D_count 111 = .ok (.iload_n 2, 1) := by decide +kernel
theorem d_D_count_112 : decode c_D_count 112 = .ok (.ireturn, 1) := by decide +kernel
theorem d_D_count_113 : decode c_D_count 113 = .ok (.iconst (-1), 1) := by decide +kernel
theorem d_D_count_114 : decode c_D_count 114 = .ok (.ireturn, 1) := by decide +kernel
theorem d_W_init_0 : decode c_W_init 0 = .ok (.aload_n 0, 1) := by decide +kernel
theorem d_W_init_1 : decode c_W_init 1 = .ok (.invokespecial 3, 3) := by decide +kernel
theorem d_W_init_4 : decode c_W_init 4 = .ok (.aload_n 0, 1) := by decide +kernel
theorem d_W_init_5 : decode c_W_init 5 = .ok (.bipush 48, 2) := by decide +kernel
theorem d_W_init_7 : decode c_W_init 7 = .ok (.anewarray 9, 3) := by decide +kernel
theorem d_W_init_10 : decode c_W_init 10 = .ok (.putfield 11, 3) := by decide +kernel
theorem d_W_init_13 : decode c_W_init 13 = .ok (.aload_n 0, 1) := by decide +kernel
theorem d_W_init_14 : decode c_W_init 14 = .ok (.bipush 48, 2) := by decide +kernel
theorem d_W_init_16 : decode c_W_init 16 = .ok (.newarray .boolean, 2) := by decide +kernel
theorem d_W_init_18 : decode c_W_init 18 = .ok (.putfield 17, 3) := by decide +kernel
theorem d_W_init_21 : decode c_W_init 21 = .ok (.aload_n 0, 1) := by decide +kernel
theorem d_W_init_22 : decode c_W_init 22 = .ok (.bipush 48, 2) := by decide +kernel
theorem d_W_init_24 : decode c_W_init 24 = .ok (.newarray .boolean, 2) := by decide +kernel
theorem d_W_init_26 : decode c_W_init 26 = .ok (.putfield 21, 3) := by decide +kernel
theorem d_W_init_29 : decode c_W_init 29 = .ok (.aload_n 0, 1) := by decide +kernel
theorem d_W_init_30 : decode c_W_init 30 = .ok (.bipush 48, 2) := by decide +kernel
theorem d_W_init_32 : decode c_W_init 32 = .ok (.newarray .long, 2) := by decide +kernel
theorem d_W_init_34 : decode c_W_init 34 = .ok (.putfield 24, 3) := by decide +kernel
theorem d_W_init_37 : decode c_W_init 37 = .ok (.aload_n 0, 1) := by decide +kernel
theorem d_W_init_38 : decode c_W_init 38 = .ok (.new 9, 3) := by decide +kernel
theorem d_W_init_41 : decode c_W_init 41 = .ok (.dup, 1) := by decide +kernel
theorem d_W_init_42 : decode c_W_init 42 = .ok (.invokespecial 28, 3) := by decide +kernel
theorem d_W_init_45 : decode c_W_init 45 = .ok (.putfield 29, 3) := by decide +kernel
theorem d_W_init_48 : decode c_W_init 48 = .ok (.aload_n 0, 1) := by decide +kernel
theorem d_W_init_49 : decode c_W_init 49 = .ok (.new 9, 3) := by decide +kernel
theorem d_W_init_52 : decode c_W_init 52 = .ok (.dup, 1) := by decide +kernel
theorem d_W_init_53 : decode c_W_init 53 = .ok (.invokespecial 28, 3) := by decide +kernel
theorem d_W_init_56 : decode c_W_init 56 = .ok (.putfield 33, 3) := by decide +kernel
theorem d_W_init_59 : decode c_W_init 59 = .ok (.aload_n 0, 1) := by decide +kernel
theorem d_W_init_60 : decode c_W_init 60 = .ok (.aload_n 1, 1) := by decide +kernel
theorem d_W_init_61 : decode c_W_init 61 = .ok (.putfield 36, 3) := by decide +kernel
theorem d_W_init_64 : decode c_W_init 64 = .ok (.aload_n 0, 1) := by decide +kernel
theorem d_W_init_65 : decode c_W_init 65 = .ok (.aload_n 2, 1) := by decide +kernel
theorem d_W_init_66 : decode c_W_init 66 = .ok (.putfield 40, 3) := by decide +kernel
theorem d_W_init_69 : decode c_W_init 69 = .ok (.iconst 0, 1) := by decide +kernel
theorem d_W_init_70 : decode c_W_init 70 = .ok (.istore_n 3, 1) := by decide +kernel
theorem d_W_init_71 : decode c_W_init 71 = .ok (.iload_n 3, 1) := by decide +kernel
theorem d_W_init_72 : decode c_W_init 72 = .ok (.bipush 48, 2) := by decide +kernel
theorem d_W_init_74 : decode c_W_init 74 = .ok (.if_icmp .ge 22, 3) := by decide +kernel
theorem d_W_init_77 : decode c_W_init 77 = .ok (.aload_n 0, 1) := by decide +kernel
theorem d_W_init_78 : decode c_W_init 78 = .ok (.getfield 11, 3) := by decide +kernel
theorem d_W_init_81 : decode c_W_init 81 = .ok (.iload_n 3, 1) := by decide +kernel
theorem d_W_init_82 : decode c_W_init 82 = .ok (.new 9, 3) := by decide +kernel
theorem d_W_init_85 : decode c_W_init 85 = .ok (.dup, 1) := by decide +kernel
theorem d_W_init_86 : decode c_W_init 86 = .ok (.invokespecial 28, 3) := by decide +kernel
theorem d_W_init_89 : decode c_W_init 89 = .ok (.aastore, 1) := by decide +kernel
theorem d_W_init_90 : decode c_W_init 90 = .ok (.iinc 3 1, 3) := by decide +kernel
theorem d_W_init_93 : decode c_W_init 93 = .ok (.goto (-22), 3) := by decide +kernel
theorem d_W_init_96 : decode c_W_init 96 = .ok (.return_, 1) := by decide +kernel
theorem d_W_forget_0 : decode c_W_forget 0 = .ok (.aload_n 0, 1) := by decide +kernel
theorem d_W_forget_1 : decode c_W_forget 1 = .ok (.getfield 24, 3) := by decide +kernel
theorem d_W_forget_4 : decode c_W_forget 4 = .ok (.lconst 0, 1) := by decide +kernel
theorem d_W_forget_5 : decode c_W_forget 5 = .ok (.invokestatic 44, 3) := by decide +kernel
theorem d_W_forget_8 : decode c_W_forget 8 = .ok (.iconst 0, 1) := by decide +kernel
theorem d_W_forget_9 : decode c_W_forget 9 = .ok (.istore_n 1, 1) := by decide +kernel
theorem d_W_forget_10 : decode c_W_forget 10 = .ok (.iload_n 1, 1) := by decide +kernel
theorem d_W_forget_11 : decode c_W_forget 11 = .ok (.bipush 48, 2) := by decide +kernel
theorem d_W_forget_13 : decode c_W_forget 13 = .ok (.if_icmp .ge 23, 3) := by decide +kernel
theorem d_W_forget_16 : decode c_W_forget 16 = .ok (.aload_n 0, 1) := by decide +kernel
theorem d_W_forget_17 : decode c_W_forget 17 = .ok (.getfield 17, 3) := by decide +kernel
theorem d_W_forget_20 : decode c_W_forget 20 = .ok (.iload_n 1, 1) := by decide +kernel
theorem d_W_forget_21 : decode c_W_forget 21 = .ok (.iconst 0, 1) := by decide +kernel
theorem d_W_forget_22 : decode c_W_forget 22 = .ok (.bastore, 1) := by decide +kernel
theorem d_W_forget_23 : decode c_W_forget 23 = .ok (.aload_n 0, 1) := by decide +kernel
theorem d_W_forget_24 : decode c_W_forget 24 = .ok (.getfield 21, 3) := by decide +kernel
theorem d_W_forget_27 : decode c_W_forget 27 = .ok (.iload_n 1, 1) := by decide +kernel
theorem d_W_forget_28 : decode c_W_forget 28 = .ok (.iconst 0, 1) := by decide +kernel
theorem d_W_forget_29 : decode c_W_forget 29 = .ok (.bastore, 1) := by decide +kernel
theorem d_W_forget_30 : decode c_W_forget 30 = .ok (.iinc 1 1, 3) := by decide +kernel
theorem d_W_forget_33 : decode c_W_forget 33 = .ok (.goto (-23), 3) := by decide +kernel
theorem d_W_forget_36 : decode c_W_forget 36 = .ok (.aload_n 0, 1) := by decide +kernel
theorem d_W_forget_37 : decode c_W_forget 37 = .ok (.iconst 0, 1) := by decide +kernel
theorem d_W_forget_38 : decode c_W_forget 38 = .ok (.putfield 50, 3) := by decide +kernel
theorem d_W_forget_41 : decode c_W_forget 41 = .ok (.aload_n 0, 1) := by decide +kernel
theorem d_W_forget_42 : decode c_W_forget 42 = .ok (.iconst 0, 1) := by decide +kernel
theorem d_W_forget_43 : decode c_W_forget 43 = .ok (.putfield 54, 3) := by decide +kernel
theorem d_W_forget_46 : decode c_W_forget 46 = .ok (.aload_n 0, 1) := by decide +kernel
theorem d_W_forget_47 : decode c_W_forget 47 = .ok (.lconst 0, 1) := by decide +kernel
theorem d_W_forget_48 : decode c_W_forget 48 = .ok (.putfield 57, 3) := by decide +kernel
theorem d_W_forget_51 : decode c_W_forget 51 = .ok (.return_, 1) := by decide +kernel
theorem d_W_run_0 : decode c_W_run 0 = .ok (.aload_n 0, 1) := by decide +kernel
theorem d_W_run_1 : decode c_W_run 1 = .ok (.getfield 33, 3) := by decide +kernel
theorem d_W_run_4 : decode c_W_run 4 = .ok (.aload_n 0, 1) := by decide +kernel
theorem d_W_run_5 : decode c_W_run 5 = .ok (.getfield 40, 3) := by decide +kernel
theorem d_W_run_8 : decode c_W_run 8 = .ok (.invokevirtual 61, 3) := by decide +kernel
theorem d_W_run_11 : decode c_W_run 11 = .ok (.aload_n 0, 1) := by decide +kernel
theorem d_W_run_12 : decode c_W_run 12 = .ok (.iconst (-1), 1) := by decide +kernel
theorem d_W_run_13 : decode c_W_run 13 = .ok (.iconst 0, 1) := by decide +kernel
theorem d_W_run_14 : decode c_W_run 14 = .ok (.aload_n 0, 1) := by decide +kernel
theorem d_W_run_15 : decode c_W_run 15 = .ok (.getfield 33, 3) := by decide +kernel
theorem d_W_run_18 : decode c_W_run 18 = .ok (.invokevirtual 65, 3) := by decide +kernel
theorem d_W_run_21 : decode c_W_run 21 = .ok (.istore_n 1, 1) := by decide +kernel
theorem d_W_run_22 : decode c_W_run 22 = .ok (.iconst 0, 1) := by decide +kernel
theorem d_W_run_23 : decode c_W_run 23 = .ok (.istore_n 2, 1) := by decide +kernel
theorem d_W_run_24 : decode c_W_run 24 = .ok (.iload_n 1, 1) := by decide +kernel
theorem d_W_run_25 : decode c_W_run 25 = .ok (.ifCond .ne 48, 3) := by decide +kernel
theorem d_W_run_28 : decode c_W_run 28 = .ok (.iload_n 2, 1) := by decide +kernel
theorem d_W_run_29 : decode c_W_run 29 = .ok (.aload_n 0, 1) := by decide +kernel
theorem d_W_run_30 : decode c_W_run 30 = .ok (.getfield 40, 3) := by decide +kernel
theorem d_W_run_33 : decode c_W_run 33 = .ok (.getfield 69, 3) := by decide +kernel
theorem d_W_run_36 : decode c_W_run 36 = .ok (.if_icmp .ge 37, 3) := by decide +kernel
theorem d_W_run_39 : decode c_W_run 39 = .ok (.aload_n 0, 1) := by decide +kernel
theorem d_W_run_40 : decode c_W_run 40 = .ok (.getfield 50, 3) := by decide +kernel
theorem d_W_run_43 : decode c_W_run 43 = .ok (.sipush 2999, 3) := by decide +kernel
theorem d_W_run_46 : decode c_W_run 46 = .ok (.if_icmp .ge 27, 3) := by decide +kernel
theorem d_W_run_49 : decode c_W_run 49 = .ok (.aload_n 0, 1) := by decide +kernel
theorem d_W_run_50 : decode c_W_run 50 = .ok (.dup, 1) := by decide +kernel
theorem d_W_run_51 : decode c_W_run 51 = .ok (.getfield 50, 3) := by decide +kernel
theorem d_W_run_54 : decode c_W_run 54 = .ok (.iconst 1, 1) := by decide +kernel
theorem d_W_run_55 : decode c_W_run 55 = .ok (.iadd, 1) := by decide +kernel
theorem d_W_run_56 : decode c_W_run 56 = .ok (.putfield 50, 3) := by decide +kernel
theorem d_W_run_59 : decode c_W_run 59 = .ok (.aload_n 0, 1) := by decide +kernel
theorem d_W_run_60 : decode c_W_run 60 = .ok (.iload_n 2, 1) := by decide +kernel
theorem d_W_run_61 : decode c_W_run 61 = .ok (.invokevirtual 74, 3) := by decide +kernel
theorem d_W_run_64 : decode c_W_run 64 = .ok (.istore_n 1, 1) := by decide +kernel
theorem d_W_run_65 : decode c_W_run 65 = .ok (.aload_n 0, 1) := by decide +kernel
theorem d_W_run_66 : decode c_W_run 66 = .ok (.invokevirtual 78, 3) := by decide +kernel
theorem d_W_run_69 : decode c_W_run 69 = .ok (.istore_n 2, 1) := by decide +kernel
theorem d_W_run_70 : decode c_W_run 70 = .ok (.goto (-46), 3) := by decide +kernel
theorem d_W_run_73 : decode c_W_run 73 = .ok (.iload_n 1, 1) := by decide +kernel
theorem d_W_run_74 : decode c_W_run 74 = .ok (.ifCond .ne 22, 3) := by decide +kernel
theorem d_W_run_77 : decode c_W_run 77 = .ok (.iload_n 2, 1) := by decide +kernel
theorem d_W_run_78 : decode c_W_run 78 = .ok (.aload_n 0, 1) := by decide +kernel
theorem d_W_run_79 : decode c_W_run 79 = .ok (.getfield 40, 3) := by decide +kernel
theorem d_W_run_82 : decode c_W_run 82 = .ok (.getfield 69, 3) := by decide +kernel
theorem d_W_run_85 : decode c_W_run 85 = .ok (.if_icmp .ge 11, 3) := by decide +kernel
theorem d_W_run_88 : decode c_W_run 88 = .ok (.aload_n 0, 1) := by decide +kernel
theorem d_W_run_89 : decode c_W_run 89 = .ok (.iload_n 2, 1) := by decide +kernel
theorem d_W_run_90 : decode c_W_run 90 = .ok (.putfield 82, 3) := by decide +kernel
theorem d_W_run_93 : decode c_W_run 93 = .ok (.bipush 9, 2) := by decide +kernel
theorem d_W_run_95 : decode c_W_run 95 = .ok (.ireturn, 1) := by decide +kernel
theorem d_W_run_96 : decode c_W_run 96 = .ok (.iload_n 1, 1) := by decide +kernel
theorem d_W_run_97 : decode c_W_run 97 = .ok (.ireturn, 1) := by decide +kernel
end
section
theorem d_W_findChanged_0 : decode c_W_findChanged 0 = .ok (.iconst 0, 1) := by decide +kernel
theorem d_W_findChanged_1 : decode c_W_findChanged 1 = .ok (.istore_n 1, 1) := by decide +kernel
theorem d_W_findChanged_2 : decode c_W_findChanged 2 = .ok (.iload_n 1, 1) := by decide +kernel
theorem d_W_findChanged_3 : decode c_W_findChanged 3 = .ok (.aload_n 0, 1) := by decide +kernel
theorem d_W_findChanged_4 : decode c_W_findChanged 4 = .ok (.getfield 40, 3) := by decide +kernel
theorem d_W_findChanged_7 : decode c_W_findChanged 7 = .ok (.getfield 69, 3) := by decide +kernel
theorem d_W_findChanged_10 : decode c_W_findChanged 10 = .ok (.if_icmp .ge 20, 3) := by decide +kernel
theorem d_W_findChanged_13 : decode c_W_findChanged 13 = .ok (.aload_n 0, 1) := by decide +kernel
theorem d_W_findChanged_14 : decode c_W_findChanged 14 = .ok (.getfield 21, 3) := by decide +kernel
theorem d_W_findChanged_17 : decode c_W_findChanged 17 = .ok (.iload_n 1, 1) := by decide +kernel
theorem d_W_findChanged_18 : decode c_W_findChanged 18 = .ok (.baload, 1) := by decide +kernel
theorem d_W_findChanged_19 : decode c_W_findChanged 19 = .ok (.ifCond .eq 5, 3) := by decide +kernel
theorem d_W_findChanged_22 : decode c_W_findChanged 22 = .ok (.iload_n 1, 1) := by decide +kernel
theorem d_W_findChanged_23 : decode c_W_findChanged 23 = .ok (.ireturn, 1) := by decide +kernel
theorem d_W_findChanged_24 : decode c_W_findChanged 24 = .ok (.iinc 1 1, 3) := by decide +kernel
theorem d_W_findChanged_27 : decode c_W_findChanged 27 = .ok (.goto (-25), 3) := by decide +kernel
theorem d_W_findChanged_30 : decode c_W_findChanged 30 = .ok (.aload_n 0, 1) := by decide +kernel
theorem d_W_findChanged_31 : decode c_W_findChanged 31 = .ok (.getfield 40, 3) := by decide +kernel
theorem d_W_findChanged_34 : decode c_W_findChanged 34 = .ok (.getfield 69, 3) := by decide +kernel
theorem d_W_findChanged_37 : decode c_W_findChanged 37 = .ok (.ireturn, 1) := by decide +kernel
theorem d_W_look_0 : decode c_W_look 0 = .ok (.aload_n 0, 1) := by decide +kernel
theorem d_W_look_1 : decode c_W_look 1 = .ok (.getfield 21, 3) := by decide +kernel
theorem d_W_look_4 : decode c_W_look 4 = .ok (.iload_n 1, 1) := by decide +kernel
theorem d_W_look_5 : decode c_W_look 5 = .ok (.iconst 0, 1) := by decide +kernel
theorem d_W_look_6 : decode c_W_look 6 = .ok (.bastore, 1) := by decide +kernel
theorem d_W_look_7 : decode c_W_look 7 = .ok (.aload_n 0, 1) := by decide +kernel
theorem d_W_look_8 : decode c_W_look 8 = .ok (.iload_n 1, 1) := by decide +kernel
theorem d_W_look_9 : decode c_W_look 9 = .ok (.putfield 82, 3) := by decide +kernel
theorem d_W_look_12 : decode c_W_look 12 = .ok (.aload_n 0, 1) := by decide +kernel
theorem d_W_look_13 : decode c_W_look 13 = .ok (.iload_n 1, 1) := by decide +kernel
theorem d_W_look_14 : decode c_W_look 14 = .ok (.invokevirtual 85, 3) := by decide +kernel
theorem d_W_look_17 : decode c_W_look 17 = .ok (.istore_n 2, 1) := by decide +kernel
theorem d_W_look_18 : decode c_W_look 18 = .ok (.iload_n 2, 1) := by decide +kernel
theorem d_W_look_19 : decode c_W_look 19 = .ok (.ifCond .eq 5, 3) := by decide +kernel
theorem d_W_look_22 : decode c_W_look 22 = .ok (.iload_n 2, 1) := by decide +kernel
theorem d_W_look_23 : decode c_W_look 23 = .ok (.ireturn, 1) := by decide +kernel
theorem d_W_look_24 : decode c_W_look 24 = .ok (.aload_n 0, 1) := by decide +kernel
theorem d_W_look_25 : decode c_W_look 25 = .ok (.getfield 29, 3) := by decide +kernel
theorem d_W_look_28 : decode c_W_look 28 = .ok (.aload_n 0, 1) := by decide +kernel
theorem d_W_look_29 : decode c_W_look 29 = .ok (.getfield 11, 3) := by decide +kernel
theorem d_W_look_32 : decode c_W_look 32 = .ok (.iload_n 1, 1) := by decide +kernel
theorem d_W_look_33 : decode c_W_look 33 = .ok (.aaload, 1) := by decide +kernel
theorem d_W_look_34 : decode c_W_look 34 = .ok (.invokevirtual 88, 3) := by decide +kernel
theorem d_W_look_37 : decode c_W_look 37 = .ok (.aload_n 0, 1) := by decide +kernel
theorem d_W_look_38 : decode c_W_look 38 = .ok (.iload_n 1, 1) := by decide +kernel
theorem d_W_look_39 : decode c_W_look 39 = .ok (.invokevirtual 92, 3) := by decide +kernel
theorem d_W_look_42 : decode c_W_look 42 = .ok (.istore_n 2, 1) := by decide +kernel
theorem d_W_look_43 : decode c_W_look 43 = .ok (.iload_n 2, 1) := by decide +kernel
theorem d_W_look_44 : decode c_W_look 44 = .ok (.ifCond .eq 5, 3) := by decide +kernel
theorem d_W_look_47 : decode c_W_look 47 = .ok (.iload_n 2, 1) := by decide +kernel
theorem d_W_look_48 : decode c_W_look 48 = .ok (.ireturn, 1) := by decide +kernel
theorem d_W_look_49 : decode c_W_look 49 = .ok (.aload_n 0, 1) := by decide +kernel
theorem d_W_look_50 : decode c_W_look 50 = .ok (.getfield 40, 3) := by decide +kernel
theorem d_W_look_53 : decode c_W_look 53 = .ok (.getfield 95, 3) := by decide +kernel
theorem d_W_look_56 : decode c_W_look 56 = .ok (.iload_n 1, 1) := by decide +kernel
theorem d_W_look_57 : decode c_W_look 57 = .ok (.iaload, 1) := by decide +kernel
theorem d_W_look_58 : decode c_W_look 58 = .ok (.bipush 16, 2) := by decide +kernel
theorem d_W_look_60 : decode c_W_look 60 = .ok (.if_icmp .ne 11, 3) := by decide +kernel
theorem d_W_look_63 : decode c_W_look 63 = .ok (.aload_n 0, 1) := by decide +kernel
theorem d_W_look_64 : decode c_W_look 64 = .ok (.iload_n 1, 1) := by decide +kernel
theorem d_W_look_65 : decode c_W_look 65 = .ok (.invokevirtual 99, 3) := by decide +kernel
theorem d_W_look_68 : decode c_W_look 68 = .ok (.goto 8, 3) := by decide +kernel
theorem d_W_look_71 : decode c_W_look 71 = .ok (.aload_n 0, 1) := by decide +kernel
theorem d_W_look_72 : decode c_W_look 72 = .ok (.iload_n 1, 1) := by decide +kernel
theorem d_W_look_73 : decode c_W_look 73 = .ok (.invokevirtual 102, 3) := by decide +kernel
theorem d_W_look_76 : decode c_W_look 76 = .ok (.ireturn, 1) := by decide +kernel
theorem d_W_meetHandlers_0 : decode c_W_meetHandlers 0 = .ok (.iconst 0, 1) := by decide +kernel
theorem d_W_meetHandlers_1 : decode c_W_meetHandlers 1 = .ok (.istore_n 2, 1) := by decide +kernel
theorem d_W_meetHandlers_2 : decode c_W_meetHandlers 2 = .ok (.iload_n 2, 1) := by decide +kernel
theorem d_W_meetHandlers_3 : decode c_W_meetHandlers 3 = .ok (.aload_n 0, 1) := by decide +kernel
theorem d_W_meetHandlers_4 : decode c_W_meetHandlers 4 = .ok (.getfield 40, 3) := by decide +kernel
theorem d_W_meetHandlers_7 : decode c_W_meetHandlers 7 = .ok (.getfield 105, 3) := by decide +kernel
theorem d_W_meetHandlers_10 : decode c_W_meetHandlers 10 = .ok (.if_icmp .ge 101, 3) := by decide +kernel
theorem d_W_meetHandlers_13 : decode c_W_meetHandlers 13 = .ok (.aload_n 0, 1) := by decide +kernel
theorem d_W_meetHandlers_14 : decode c_W_meetHandlers 14 = .ok (.getfield 40, 3) := by decide +kernel
theorem d_W_meetHandlers_17 : decode c_W_meetHandlers 17 = .ok (.iload_n 2, 1) := by decide +kernel
theorem d_W_meetHandlers_18 : decode c_W_meetHandlers 18 = .ok (.iload_n 1, 1) := by decide +kernel
theorem d_W_meetHandlers_19 : decode c_W_meetHandlers 19 = .ok (.invokevirtual 108, 3) := by decide +kernel
theorem d_W_meetHandlers_22 : decode c_W_meetHandlers 22 = .ok (.ifCond .ne 6, 3) := by decide +kernel
theorem d_W_meetHandlers_25 : decode c_W_meetHandlers 25 = .ok (.goto 80, 3) := by decide +kernel
theorem d_W_meetHandlers_28 : decode c_W_meetHandlers 28 = .ok (.aload_n 0, 1) := by decide +kernel
theorem d_W_meetHandlers_29 : decode c_W_meetHandlers 29 = .ok (.getfield 11, 3) := by decide +kernel
theorem d_W_meetHandlers_32 : decode c_W_meetHandlers 32 = .ok (.iload_n 1, 1) := by decide +kernel
theorem d_W_meetHandlers_33 : decode c_W_meetHandlers 33 = .ok (.aaload, 1) := by decide +kernel
theorem d_W_meetHandlers_34 : decode c_W_meetHandlers 34 = .ok (.invokevirtual 112, 3) := by decide +kernel
theorem d_W_meetHandlers_37 : decode c_W_meetHandlers 37 = .ok (.ifCond .eq 6, 3) := by decide +kernel
theorem d_W_meetHandlers_40 : decode c_W_meetHandlers 40 = .ok (.bipush 8, 2) := by decide +kernel
theorem d_W_meetHandlers_42 : decode c_W_meetHandlers 42 = .ok (.ireturn, 1) := by decide +kernel
theorem d_W_meetHandlers_43 : decode c_W_meetHandlers 43 = .ok (.aload_n 0, 1) := by decide +kernel
theorem d_W_meetHandlers_44 : decode c_W_meetHandlers 44 = .ok (.getfield 40, 3) := by decide +kernel
theorem d_W_meetHandlers_47 : decode c_W_meetHandlers 47 = .ok (.getfield 116, 3) := by decide +kernel
theorem d_W_meetHandlers_50 : decode c_W_meetHandlers 50 = .ok (.ifCond .ne 5, 3) := by decide +kernel
theorem d_W_meetHandlers_53 : decode c_W_meetHandlers 53 = .ok (.iconst 3, 1) := by decide +kernel
theorem d_W_meetHandlers_54 : decode c_W_meetHandlers 54 = .ok (.ireturn, 1) := by decide +kernel
theorem d_W_meetHandlers_55 : decode c_W_meetHandlers 55 = .ok (.aload_n 0, 1) := by decide +kernel
theorem d_W_meetHandlers_56 : decode c_W_meetHandlers 56 = .ok (.getfield 33, 3) := by decide +kernel
theorem d_W_meetHandlers_59 : decode c_W_meetHandlers 59 = .ok (.aload_n 0, 1) := by decide +kernel
theorem d_W_meetHandlers_60 : decode c_W_meetHandlers 60 = .ok (.getfield 11, 3) := by decide +kernel
theorem d_W_meetHandlers_63 : decode c_W_meetHandlers 63 = .ok (.iload_n 1, 1) := by decide +kernel
theorem d_W_meetHandlers_64 : decode c_W_meetHandlers 64 = .ok (.aaload, 1) := by decide +kernel
theorem d_W_meetHandlers_65 : decode c_W_meetHandlers 65 = .ok (.bipush 16, 2) := by decide +kernel
theorem d_W_meetHandlers_67 : decode c_W_meetHandlers 67 = .ok (.aload_n 0, 1) := by decide +kernel
theorem d_W_meetHandlers_68 : decode c_W_meetHandlers 68 = .ok (.getfield 40, 3) := by decide +kernel
theorem d_W_meetHandlers_71 : decode c_W_meetHandlers 71 = .ok (.getfield 119, 3) := by decide +kernel
theorem d_W_meetHandlers_74 : decode c_W_meetHandlers 74 = .ok (.iload_n 2, 1) := by decide +kernel
theorem d_W_meetHandlers_75 : decode c_W_meetHandlers 75 = .ok (.iaload, 1) := by decide +kernel
theorem d_W_meetHandlers_76 : decode c_W_meetHandlers 76 = .ok (.iadd, 1) := by decide +kernel
theorem d_W_meetHandlers_77 : decode c_W_meetHandlers 77 = .ok (.invokevirtual 122, 3) := by decide +kernel
theorem d_W_meetHandlers_80 : decode c_W_meetHandlers 80 = .ok (.aload_n 0, 1) := by decide +kernel
theorem d_W_meetHandlers_81 : decode c_W_meetHandlers 81 = .ok (.iconst (-1), 1) := by decide +kernel
theorem d_W_meetHandlers_82 : decode c_W_meetHandlers 82 = .ok (.aload_n 0, 1) := by decide +kernel
theorem d_W_meetHandlers_83 : decode c_W_meetHandlers 83 = .ok (.getfield 40, 3) := by decide +kernel
theorem d_W_meetHandlers_86 : decode c_W_meetHandlers 86 = .ok (.getfield 126, 3) := by decide +kernel
theorem d_W_meetHandlers_89 : decode c_W_meetHandlers 89 = .ok (.iload_n 2, 1) := by decide +kernel
theorem d_W_meetHandlers_90 : decode c_W_meetHandlers 90 = .ok (.iaload, 1) := by decide +kernel
theorem d_W_meetHandlers_91 : decode c_W_meetHandlers 91 = .ok (.aload_n 0, 1) := by decide +kernel
theorem d_W_meetHandlers_92 : decode c_W_meetHandlers 92 = .ok (.getfield 33, 3) := by decide +kernel
theorem d_W_meetHandlers_95 : decode c_W_meetHandlers 95 = .ok (.invokevirtual 65, 3) := by decide +kernel
theorem d_W_meetHandlers_98 : decode c_W_meetHandlers 98 = .ok (.istore_n 3, 1) := by decide +kernel
theorem d_W_meetHandlers_99 : decode c_W_meetHandlers 99 = .ok (.iload_n 3, 1) := by decide +kernel
theorem d_W_meetHandlers_100 : decode c_W_meetHandlers 100 = .ok (.ifCond .eq 5, 3) := by decide +kernel
theorem d_W_meetHandlers_103 : decode c_W_meetHandlers 103 = .ok (.iload_n 3, 1) := by decide +kernel
theorem d_W_meetHandlers_104 : decode c_W_meetHandlers 104 = .ok (.ireturn, 1) := by decide +kernel
theorem d_W_meetHandlers_105 : decode c_W_meetHandlers 105 = .ok (.iinc 2 1, 3) := by decide +kernel
theorem d_W_meetHandlers_108 : decode c_W_meetHandlers 108 = .ok (.goto (-106), 3) := by decide +kernel
theorem d_W_meetHandlers_111 : decode c_W_meetHandlers 111 = .ok (.iconst 0, 1) := by decide +kernel
theorem d_W_meetHandlers_112 : decode c_W_meetHandlers 112 = .ok (.ireturn, 1) := by decide +kernel
theorem d_W_meet_0 : decode c_W_meet 0 = .ok (.iload_n 2, 1) := by decide +kernel
theorem d_W_meet_1 : decode c_W_meet 1 = .ok (.aload_n 0, 1) := by decide +kernel
theorem d_W_meet_2 : decode c_W_meet 2 = .ok (.getfield 40, 3) := by decide +kernel
theorem d_W_meet_5 : decode c_W_meet 5 = .ok (.getfield 69, 3) := by decide +kernel
theorem d_W_meet_8 : decode c_W_meet 8 = .ok (.if_icmp .lt 5, 3) := by decide +kernel
theorem d_W_meet_11 : decode c_W_meet 11 = .ok (.iconst 5, 1) := by decide +kernel
theorem d_W_meet_12 : decode c_W_meet 12 = .ok (.ireturn, 1) := by decide +kernel
theorem d_W_meet_13 : decode c_W_meet 13 = .ok (.iload_n 2, 1) := by decide +kernel
theorem d_W_meet_14 : decode c_W_meet 14 = .ok (.iload_n 1, 1) := by decide +kernel
theorem d_W_meet_15 : decode c_W_meet 15 = .ok (.if_icmp .gt 13, 3) := by decide +kernel
theorem d_W_meet_18 : decode c_W_meet 18 = .ok (.aload_n 3, 1) := by decide +kernel
theorem d_W_meet_19 : decode c_W_meet 19 = .ok (.invokevirtual 129, 3) := by decide +kernel
theorem d_W_meet_22 : decode c_W_meet 22 = .ok (.ifCond .eq 6, 3) := by decide +kernel
theorem d_W_meet_25 : decode c_W_meet 25 = .ok (.bipush 8, 2) := by decide +kernel
theorem d_W_meet_27 : decode c_W_meet 27 = .ok (.ireturn, 1) := by decide +kernel
theorem d_W_meet_28 : decode c_W_meet 28 = .ok (.aload_n 0, 1) := by decide +kernel
theorem d_W_meet_29 : decode c_W_meet 29 = .ok (.getfield 17, 3) := by decide +kernel
theorem d_W_meet_32 : decode c_W_meet 32 = .ok (.iload_n 2, 1) := by decide +kernel
theorem d_W_meet_33 : decode c_W_meet 33 = .ok (.baload, 1) := by decide +kernel
theorem d_W_meet_34 : decode c_W_meet 34 = .ok (.ifCond .ne 11, 3) := by decide +kernel
theorem d_W_meet_37 : decode c_W_meet 37 = .ok (.aload_n 0, 1) := by decide +kernel
theorem d_W_meet_38 : decode c_W_meet 38 = .ok (.iload_n 2, 1) := by decide +kernel
theorem d_W_meet_39 : decode c_W_meet 39 = .ok (.aload_n 3, 1) := by decide +kernel
theorem d_W_meet_40 : decode c_W_meet 40 = .ok (.invokevirtual 132, 3) := by decide +kernel
theorem d_W_meet_43 : decode c_W_meet 43 = .ok (.iconst 0, 1) := by decide +kernel
theorem d_W_meet_44 : decode c_W_meet 44 = .ok (.ireturn, 1) := by decide +kernel
theorem d_W_meet_45 : decode c_W_meet 45 = .ok (.aload_n 0, 1) := by decide +kernel
theorem d_W_meet_46 : decode c_W_meet 46 = .ok (.getfield 11, 3) := by decide +kernel
theorem d_W_meet_49 : decode c_W_meet 49 = .ok (.iload_n 2, 1) := by decide +kernel
theorem d_W_meet_50 : decode c_W_meet 50 = .ok (.aaload, 1) := by decide +kernel
theorem d_W_meet_51 : decode c_W_meet 51 = .ok (.getfield 136, 3) := by decide +kernel
theorem d_W_meet_54 : decode c_W_meet 54 = .ok (.aload_n 3, 1) := by decide +kernel
theorem d_W_meet_55 : decode c_W_meet 55 = .ok (.getfield 136, 3) := by decide +kernel
theorem d_W_meet_58 : decode c_W_meet 58 = .ok (.if_icmp .eq 10, 3) := by decide +kernel
theorem d_W_meet_61 : decode c_W_meet 61 = .ok (.aload_n 0, 1) := by decide +kernel
theorem d_W_meet_62 : decode c_W_meet 62 = .ok (.iload_n 2, 1) := by decide +kernel
theorem d_W_meet_63 : decode c_W_meet 63 = .ok (.putfield 82, 3) := by decide +kernel
theorem d_W_meet_66 : decode c_W_meet 66 = .ok (.iconst 4, 1) := by decide +kernel
theorem d_W_meet_67 : decode c_W_meet 67 = .ok (.ireturn, 1) := by decide +kernel
theorem d_W_meet_68 : decode c_W_meet 68 = .ok (.aload_n 0, 1) := by decide +kernel
theorem d_W_meet_69 : decode c_W_meet 69 = .ok (.getfield 11, 3) := by decide +kernel
theorem d_W_meet_72 : decode c_W_meet 72 = .ok (.iload_n 2, 1) := by decide +kernel
theorem d_W_meet_73 : decode c_W_meet 73 = .ok (.aaload, 1) := by decide +kernel
theorem d_W_meet_74 : decode c_W_meet 74 = .ok (.aload_n 3, 1) := by decide +kernel
theorem d_W_meet_75 : decode c_W_meet 75 = .ok (.aload_n 0, 1) := by decide +kernel
theorem d_W_meet_76 : decode c_W_meet 76 = .ok (.getfield 36, 3) := by decide +kernel
theorem d_W_meet_79 : decode c_W_meet 79 = .ok (.invokevirtual 139, 3) := by decide +kernel
theorem d_W_meet_82 : decode c_W_meet 82 = .ok (.ifCond .eq 10, 3) := by decide +kernel
theorem d_W_meet_85 : decode c_W_meet 85 = .ok (.aload_n 0, 1) := by decide +kernel
theorem d_W_meet_86 : decode c_W_meet 86 = .ok (.getfield 21, 3) := by decide +kernel
theorem d_W_meet_89 : decode c_W_meet 89 = .ok (.iload_n 2, 1) := by decide +kernel
theorem d_W_meet_90 : decode c_W_meet 90 = .ok (.iconst 1, 1) := by decide +kernel
theorem d_W_meet_91 : decode c_W_meet 91 = .ok (.bastore, 1) := by decide +kernel
theorem d_W_meet_92 : decode c_W_meet 92 = .ok (.iconst 0, 1) := by decide +kernel
theorem d_W_meet_93 : decode c_W_meet 93 = .ok (.ireturn, 1) := by decide +kernel
theorem d_W_reach_0 : decode c_W_reach 0 = .ok (.aload_n 0, 1) := by decide +kernel
theorem d_W_reach_1 : decode c_W_reach 1 = .ok (.getfield 11, 3) := by decide +kernel
theorem d_W_reach_4 : decode c_W_reach 4 = .ok (.iload_n 1, 1) := by decide +kernel
theorem d_W_reach_5 : decode c_W_reach 5 = .ok (.aaload, 1) := by decide +kernel
theorem d_W_reach_6 : decode c_W_reach 6 = .ok (.aload_n 2, 1) := by decide +kernel
theorem d_W_reach_7 : decode c_W_reach 7 = .ok (.invokevirtual 88, 3) := by decide +kernel
theorem d_W_reach_10 : decode c_W_reach 10 = .ok (.aload_n 0, 1) := by decide +kernel
theorem d_W_reach_11 : decode c_W_reach 11 = .ok (.getfield 17, 3) := by decide +kernel
theorem d_W_reach_14 : decode c_W_reach 14 = .ok (.iload_n 1, 1) := by decide +kernel
theorem d_W_reach_15 : decode c_W_reach 15 = .ok (.iconst 1, 1) := by decide +kernel
theorem d_W_reach_16 : decode c_W_reach 16 = .ok (.bastore, 1) := by decide +kernel
theorem d_W_reach_17 : decode c_W_reach 17 = .ok (.aload_n 0, 1) := by decide +kernel
theorem d_W_reach_18 : decode c_W_reach 18 = .ok (.getfield 21, 3) := by decide +kernel
theorem d_W_reach_21 : decode c_W_reach 21 = .ok (.iload_n 1, 1) := by decide +kernel
theorem d_W_reach_22 : decode c_W_reach 22 = .ok (.iconst 1, 1) := by decide +kernel
theorem d_W_reach_23 : decode c_W_reach 23 = .ok (.bastore, 1) := by decide +kernel
theorem d_W_reach_24 : decode c_W_reach 24 = .ok (.aload_n 0, 1) := by decide +kernel
theorem d_W_reach_25 : decode c_W_reach 25 = .ok (.dup, 1) := by decide +kernel
theorem d_W_reach_26 : decode c_W_reach 26 = .ok (.getfield 54, 3) := by decide +kernel
theorem d_W_reach_29 : decode c_W_reach 29 = .ok (.iconst 1, 1) := by decide +kernel
theorem d_W_reach_30 : decode c_W_reach 30 = .ok (.iadd, 1) := by decide +kernel
theorem d_W_reach_31 : decode c_W_reach 31 = .ok (.putfield 54, 3) := by decide +kernel
theorem d_W_reach_34 : decode c_W_reach 34 = .ok (.aload_n 0, 1) := by decide +kernel
theorem d_W_reach_35 : decode c_W_reach 35 = .ok (.getfield 40, 3) := by decide +kernel
theorem d_W_reach_38 : decode c_W_reach 38 = .ok (.getfield 95, 3) := by decide +kernel
theorem d_W_reach_41 : decode c_W_reach 41 = .ok (.iload_n 1, 1) := by decide +kernel
theorem d_W_reach_42 : decode c_W_reach 42 = .ok (.iaload, 1) := by decide +kernel
theorem d_W_reach_43 : decode c_W_reach 43 = .ok (.bipush 15, 2) := by decide +kernel
theorem d_W_reach_45 : decode c_W_reach 45 = .ok (.if_icmp .ne 23, 3) := by decide +kernel
theorem d_W_reach_48 : decode c_W_reach 48 = .ok (.aload_n 0, 1) := by decide +kernel
theorem d_W_reach_49 : decode c_W_reach 49 = .ok (.dup, 1) := by decide +kernel
theorem d_W_reach_50 : decode c_W_reach 50 = .ok (.getfield 57, 3) := by decide +kernel
theorem d_W_reach_53 : decode c_W_reach 53 = .ok (.lconst 1, 1) := by decide +kernel
theorem d_W_reach_54 : decode c_W_reach 54 = .ok (.aload_n 0, 1) := by decide +kernel
theorem d_W_reach_55 : decode c_W_reach 55 = .ok (.getfield 40, 3) := by decide +kernel
theorem d_W_reach_58 : decode c_W_reach 58 = .ok (.getfield 143, 3) := by decide +kernel
theorem d_W_reach_61 : decode c_W_reach 61 = .ok (.iload_n 1, 1) := by decide +kernel
theorem d_W_reach_62 : decode c_W_reach 62 = .ok (.iaload, 1) := by decide +kernel
theorem d_W_reach_63 : decode c_W_reach 63 = .ok (.lshl, 1) := by decide +kernel
theorem d_W_reach_64 : decode c_W_reach 64 = .ok (.lor, 1) := by decide +kernel
theorem d_W_reach_65 : decode c_W_reach 65 = .ok (.putfield 57, 3) := by decide +kernel
theorem d_W_reach_68 : decode c_W_reach 68 = .ok (.return_, 1) := by decide +kernel
theorem d_W_leave_0 : decode c_W_leave 0 = .ok (.aload_n 0, 1) := by decide +kernel
theorem d_W_leave_1 : decode c_W_leave 1 = .ok (.getfield 40, 3) := by decide +kernel
theorem d_W_leave_4 : decode c_W_leave 4 = .ok (.getfield 143, 3) := by decide +kernel
theorem d_W_leave_7 : decode c_W_leave 7 = .ok (.iload_n 1, 1) := by decide +kernel
theorem d_W_leave_8 : decode c_W_leave 8 = .ok (.iaload, 1) := by decide +kernel
theorem d_W_leave_9 : decode c_W_leave 9 = .ok (.istore_n 2, 1) := by decide +kernel
theorem d_W_leave_10 : decode c_W_leave 10 = .ok (.aload_n 0, 1) := by decide +kernel
theorem d_W_leave_11 : decode c_W_leave 11 = .ok (.getfield 40, 3) := by decide +kernel
theorem d_W_leave_14 : decode c_W_leave 14 = .ok (.getfield 95, 3) := by decide +kernel
theorem d_W_leave_17 : decode c_W_leave 17 = .ok (.iload_n 1, 1) := by decide +kernel
theorem d_W_leave_18 : decode c_W_leave 18 = .ok (.iaload, 1) := by decide +kernel
theorem d_W_leave_19 : decode c_W_leave 19 = .ok (.tableswitch 146 12 19 #[76, 76, 47, 58, 146, 108, 45, 45], 45) := by decide +kernel
theorem d_W_leave_64 : decode c_W_leave 64 = .ok (.iconst 0, 1) := by decide +kernel
theorem d_W_leave_65 : decode c_W_leave 65 = .ok (.ireturn, 1) := by decide +kernel
theorem d_W_leave_66 : decode c_W_leave 66 = .ok (.aload_n 0, 1) := by decide +kernel
theorem d_W_leave_67 : decode c_W_leave 67 = .ok (.iload_n 1, 1) := by decide +kernel
theorem d_W_leave_68 : decode c_W_leave 68 = .ok (.iload_n 2, 1) := by decide +kernel
theorem d_W_leave_69 : decode c_W_leave 69 = .ok (.aload_n 0, 1) := by decide +kernel
theorem d_W_leave_70 : decode c_W_leave 70 = .ok (.getfield 29, 3) := by decide +kernel
theorem d_W_leave_73 : decode c_W_leave 73 = .ok (.invokevirtual 65, 3) := by decide +kernel
theorem d_W_leave_76 : decode c_W_leave 76 = .ok (.ireturn, 1) := by decide +kernel
theorem d_W_leave_77 : decode c_W_leave 77 = .ok (.aload_n 0, 1) := by decide +kernel
theorem d_W_leave_78 : decode c_W_leave 78 = .ok (.iload_n 1, 1) := by decide +kernel
theorem d_W_leave_79 : decode c_W_leave 79 = .ok (.iload_n 2, 1) := by decide +kernel
theorem d_W_leave_80 : decode c_W_leave 80 = .ok (.aload_n 0, 1) := by decide +kernel
theorem d_W_leave_81 : decode c_W_leave 81 = .ok (.getfield 29, 3) := by decide +kernel
theorem d_W_leave_84 : decode c_W_leave 84 = .ok (.invokevirtual 65, 3) := by decide +kernel
theorem d_W_leave_87 : decode c_W_leave 87 = .ok (.istore_n 3, 1) := by decide +kernel
theorem d_W_leave_88 : decode c_W_leave 88 = .ok (.aload_n 0, 1) := by decide +kernel
theorem d_W_leave_89 : decode c_W_leave 89 = .ok (.iload_n 2, 1) := by decide +kernel
theorem d_W_leave_90 : decode c_W_leave 90 = .ok (.invokevirtual 146, 3) := by decide +kernel
theorem d_W_leave_93 : decode c_W_leave 93 = .ok (.iload_n 3, 1) := by decide +kernel
theorem d_W_leave_94 : decode c_W_leave 94 = .ok (.ireturn, 1) := by decide +kernel
theorem d_W_leave_95 : decode c_W_leave 95 = .ok (.aload_n 0, 1) := by decide +kernel
theorem d_W_leave_96 : decode c_W_leave 96 = .ok (.iload_n 1, 1) := by decide +kernel
theorem d_W_leave_97 : decode c_W_leave 97 = .ok (.iload_n 1, 1) := by decide +kernel
theorem d_W_leave_98 : decode c_W_leave 98 = .ok (.iconst 1, 1) := by decide +kernel
theorem d_W_leave_99 : decode c_W_leave 99 = .ok (.iadd, 1) := by decide +kernel
theorem d_W_leave_100 : decode c_W_leave 100 = .ok (.aload_n 0, 1) := by decide +kernel
theorem d_W_leave_101 : decode c_W_leave 101 = .ok (.getfield 29, 3) := by decide +kernel
theorem d_W_leave_104 : decode c_W_leave 104 = .ok (.invokevirtual 65, 3) := by decide +kernel
theorem d_W_leave_107 : decode c_W_leave 107 = .ok (.istore_n 3, 1) := by decide +kernel
theorem d_W_leave_108 : decode c_W_leave 108 = .ok (.iload_n 3, 1) := by decide +kernel
theorem d_W_leave_109 : decode c_W_leave 109 = .ok (.ifCond .ne 16, 3) := by decide +kernel
theorem d_W_leave_112 : decode c_W_leave 112 = .ok (.aload_n 0, 1) := by decide +kernel
theorem d_W_leave_113 : decode c_W_leave 113 = .ok (.iload_n 1, 1) := by decide +kernel
theorem d_W_leave_114 : decode c_W_leave 114 = .ok (.iload_n 2, 1) := by decide +kernel
theorem d_W_leave_115 : decode c_W_leave 115 = .ok (.aload_n 0, 1) := by decide +kernel
theorem d_W_leave_116 : decode c_W_leave 116 = .ok (.getfield 29, 3) := by decide +kernel
theorem d_W_leave_119 : decode c_W_leave 119 = .ok (.invokevirtual 65, 3) := by decide +kernel
theorem d_W_leave_122 : decode c_W_leave 122 = .ok (.goto 4, 3) := by decide +kernel
theorem d_W_leave_125 : decode c_W_leave 125 = .ok (.iload_n 3, 1) := by decide +kernel
theorem d_W_leave_126 : decode c_W_leave 126 = .ok (.ireturn, 1) := by decide +kernel
theorem d_W_leave_127 : decode c_W_leave 127 = .ok (.aload_n 0, 1) := by decide +kernel
theorem d_W_leave_128 : decode c_W_leave 128 = .ok (.iload_n 1, 1) := by decide +kernel
theorem d_W_leave_129 : decode c_W_leave 129 = .ok (.aload_n 0, 1) := by decide +kernel
theorem d_W_leave_130 : decode c_W_leave 130 = .ok (.getfield 40, 3) := by decide +kernel
theorem d_W_leave_133 : decode c_W_leave 133 = .ok (.getfield 150, 3) := by decide +kernel
theorem d_W_leave_136 : decode c_W_leave 136 = .ok (.iload_n 1, 1) := by decide +kernel
theorem d_W_leave_137 : decode c_W_leave 137 = .ok (.iaload, 1) := by decide +kernel
theorem d_W_leave_138 : decode c_W_leave 138 = .ok (.aload_n 0, 1) := by decide +kernel
theorem d_W_leave_139 : decode c_W_leave 139 = .ok (.getfield 29, 3) := by decide +kernel
theorem d_W_leave_142 : decode c_W_leave 142 = .ok (.invokevirtual 65, 3) := by decide +kernel
theorem d_W_leave_145 : decode c_W_leave 145 = .ok (.istore_n 3, 1) := by decide +kernel
theorem d_W_leave_146 : decode c_W_leave 146 = .ok (.iload_n 3, 1) := by decide +kernel
theorem d_W_leave_147 : decode c_W_leave 147 = .ok (.ifCond .ne 16, 3) := by decide +kernel
theorem d_W_leave_150 : decode c_W_leave 150 = .ok (.aload_n 0, 1) := by decide +kernel
theorem d_W_leave_151 : decode c_W_leave 151 = .ok (.iload_n 1, 1) := by decide +kernel
theorem d_W_leave_152 : decode c_W_leave 152 = .ok (.iload_n 2, 1) := by decide +kernel
theorem d_W_leave_153 : decode c_W_leave 153 = .ok (.aload_n 0, 1) := by decide +kernel
theorem d_W_leave_154 : decode c_W_leave 154 = .ok (.getfield 29, 3) := by decide +kernel
theorem d_W_leave_157 : decode c_W_leave 157 = .ok (.invokevirtual 65, 3) := by decide +kernel
theorem d_W_leave_160 : decode c_W_leave 160 = .ok (.goto 4, 3) := by decide +kernel
theorem d_W_leave_163 : decode c_W_leave 163 = .ok (.iload_n 3, 1) := by decide +kernel
theorem d_W_leave_164 : decode c_W_leave 164 = .ok (.ireturn, 1) := by decide +kernel
theorem d_W_leave_165 : decode c_W_leave 165 = .ok (.aload_n 0, 1) := by decide +kernel
theorem d_W_leave_166 : decode c_W_leave 166 = .ok (.iload_n 1, 1) := by decide +kernel
theorem d_W_leave_167 : decode c_W_leave 167 = .ok (.iload_n 1, 1) := by decide +kernel
theorem d_W_leave_168 : decode c_W_leave 168 = .ok (.iconst 1, 1) := by decide +kernel
theorem d_W_leave_169 : decode c_W_leave 169 = .ok (.iadd, 1) := by decide +kernel
theorem d_W_leave_170 : decode c_W_leave 170 = .ok (.aload_n 0, 1) := by decide +kernel
theorem d_W_leave_171 : decode c_W_leave 171 = .ok (.getfield 29, 3) := by decide +kernel
theorem d_W_leave_174 : decode c_W_leave 174 = .ok (.invokevirtual 65, 3) := by decide +kernel
theorem d_W_leave_177 : decode c_W_leave 177 = .ok (.ireturn, 1) := by decide +kernel
theorem d_W_wakeReturns_0 : decode c_W_wakeReturns 0 = .ok (.iconst 0, 1) := by decide +kernel
theorem d_W_wakeReturns_1 : decode c_W_wakeReturns 1 = .ok (.istore_n 2, 1) := by decide +kernel
theorem d_W_wakeReturns_2 : decode c_W_wakeReturns 2 = .ok (.iload_n 2, 1) := by decide +kernel
theorem d_W_wakeReturns_3 : decode c_W_wakeReturns 3 = .ok (.aload_n 0, 1) := by decide +kernel
theorem d_W_wakeReturns_4 : decode c_W_wakeReturns 4 = .ok (.getfield 40, 3) := by decide +kernel
theorem d_W_wakeReturns_7 : decode c_W_wakeReturns 7 = .ok (.getfield 69, 3) := by decide +kernel
theorem d_W_wakeReturns_10 : decode c_W_wakeReturns 10 = .ok (.if_icmp .ge 31, 3) := by decide +kernel
theorem d_W_wakeReturns_13 : decode c_W_wakeReturns 13 = .ok (.aload_n 0, 1) := by decide +kernel
theorem d_W_wakeReturns_14 : decode c_W_wakeReturns 14 = .ok (.getfield 24, 3) := by decide +kernel
theorem d_W_wakeReturns_17 : decode c_W_wakeReturns 17 = .ok (.iload_n 2, 1) := by decide +kernel
theorem d_W_wakeReturns_18 : decode c_W_wakeReturns 18 = .ok (.laload, 1) := by decide +kernel
theorem d_W_wakeReturns_19 : decode c_W_wakeReturns 19 = .ok (.iload_n 1, 1) := by decide +kernel
theorem d_W_wakeReturns_20 : decode c_W_wakeReturns 20 = .ok (.lshr, 1) := by decide +kernel
theorem d_W_wakeReturns_21 : decode c_W_wakeReturns 21 = .ok (.lconst 1, 1) := by decide +kernel
theorem d_W_wakeReturns_22 : decode c_W_wakeReturns 22 = .ok (.land, 1) := by decide +kernel
theorem d_W_wakeReturns_23 : decode c_W_wakeReturns 23 = .ok (.lconst 0, 1) := by decide +kernel
theorem d_W_wakeReturns_24 : decode c_W_wakeReturns 24 = .ok (.lcmp, 1) := by decide +kernel
theorem d_W_wakeReturns_25 : decode c_W_wakeReturns 25 = .ok (.ifCond .eq 10, 3) := by decide +kernel
theorem d_W_wakeReturns_28 : decode c_W_wakeReturns 28 = .ok (.aload_n 0, 1) := by decide +kernel
theorem d_W_wakeReturns_29 : decode c_W_wakeReturns 29 = .ok (.getfield 21, 3) := by decide +kernel
theorem d_W_wakeReturns_32 : decode c_W_wakeReturns 32 = .ok (.iload_n 2, 1) := by decide +kernel
theorem d_W_wakeReturns_33 : decode c_W_wakeReturns 33 = .ok (.iconst 1, 1) := by decide +kernel
theorem d_W_wakeReturns_34 : decode c_W_wakeReturns 34 = .ok (.bastore, 1) := by decide +kernel
theorem d_W_wakeReturns_35 : decode c_W_wakeReturns 35 = .ok (.iinc 2 1, 3) := by decide +kernel
theorem d_W_wakeReturns_38 : decode c_W_wakeReturns 38 = .ok (.goto (-36), 3) := by decide +kernel
theorem d_W_wakeReturns_41 : decode c_W_wakeReturns 41 = .ok (.return_, 1) := by decide +kernel
theorem d_W_comeBack_0 : decode c_W_comeBack 0 = .ok (.aload_n 0, 1) := by decide +kernel
theorem d_W_comeBack_1 : decode c_W_comeBack 1 = .ok (.getfield 29, 3) := by decide +kernel
theorem d_W_comeBack_4 : decode c_W_comeBack 4 = .ok (.getfield 153, 3) := by decide +kernel
theorem d_W_comeBack_7 : decode c_W_comeBack 7 = .ok (.aload_n 0, 1) := by decide +kernel
theorem d_W_comeBack_8 : decode c_W_comeBack 8 = .ok (.getfield 40, 3) := by decide +kernel
theorem d_W_comeBack_11 : decode c_W_comeBack 11 = .ok (.getfield 150, 3) := by decide +kernel
theorem d_W_comeBack_14 : decode c_W_comeBack 14 = .ok (.iload_n 1, 1) := by decide +kernel
theorem d_W_comeBack_15 : decode c_W_comeBack 15 = .ok (.iaload, 1) := by decide +kernel
theorem d_W_comeBack_16 : decode c_W_comeBack 16 = .ok (.iaload, 1) := by decide +kernel
theorem d_W_comeBack_17 : decode c_W_comeBack 17 = .ok (.sipush 2000, 3) := by decide +kernel
theorem d_W_comeBack_20 : decode c_W_comeBack 20 = .ok (.isub, 1) := by decide +kernel
theorem d_W_comeBack_21 : decode c_W_comeBack 21 = .ok (.istore_n 2, 1) := by decide +kernel
theorem d_W_comeBack_22 : decode c_W_comeBack 22 = .ok (.iconst 0, 1) := by decide +kernel
theorem d_W_comeBack_23 : decode c_W_comeBack 23 = .ok (.istore_n 3, 1) := by decide +kernel
theorem d_W_comeBack_24 : decode c_W_comeBack 24 = .ok (.iload_n 3, 1) := by decide +kernel
theorem d_W_comeBack_25 : decode c_W_comeBack 25 = .ok (.aload_n 0, 1) := by decide +kernel
theorem d_W_comeBack_26 : decode c_W_comeBack 26 = .ok (.getfield 40, 3) := by decide +kernel
theorem d_W_comeBack_29 : decode c_W_comeBack 29 = .ok (.getfield 69, 3) := by decide +kernel
theorem d_W_comeBack_32 : decode c_W_comeBack 32 = .ok (.if_icmp .ge 88, 3) := by decide +kernel
theorem d_W_comeBack_35 : decode c_W_comeBack 35 = .ok (.aload_n 0, 1) := by decide +kernel
theorem d_W_comeBack_36 : decode c_W_comeBack 36 = .ok (.getfield 17, 3) := by decide +kernel
theorem d_W_comeBack_39 : decode c_W_comeBack 39 = .ok (.iload_n 3, 1) := by decide +kernel
theorem d_W_comeBack_40 : decode c_W_comeBack 40 = .ok (.baload, 1) := by decide +kernel
theorem d_W_comeBack_41 : decode c_W_comeBack 41 = .ok (.ifCond .eq 73, 3) := by decide +kernel
theorem d_W_comeBack_44 : decode c_W_comeBack 44 = .ok (.aload_n 0, 1) := by decide +kernel
theorem d_W_comeBack_45 : decode c_W_comeBack 45 = .ok (.getfield 40, 3) := by decide +kernel
theorem d_W_comeBack_48 : decode c_W_comeBack 48 = .ok (.getfield 95, 3) := by decide +kernel
theorem d_W_comeBack_51 : decode c_W_comeBack 51 = .ok (.iload_n 3, 1) := by decide +kernel
theorem d_W_comeBack_52 : decode c_W_comeBack 52 = .ok (.iaload, 1) := by decide +kernel
theorem d_W_comeBack_53 : decode c_W_comeBack 53 = .ok (.bipush 15, 2) := by decide +kernel
theorem d_W_comeBack_55 : decode c_W_comeBack 55 = .ok (.if_icmp .ne 59, 3) := by decide +kernel
theorem d_W_comeBack_58 : decode c_W_comeBack 58 = .ok (.aload_n 0, 1) := by decide +kernel
theorem d_W_comeBack_59 : decode c_W_comeBack 59 = .ok (.getfield 40, 3) := by decide +kernel
theorem d_W_comeBack_62 : decode c_W_comeBack 62 = .ok (.getfield 143, 3) := by decide +kernel
theorem d_W_comeBack_65 : decode c_W_comeBack 65 = .ok (.iload_n 3, 1) := by decide +kernel
theorem d_W_comeBack_66 : decode c_W_comeBack 66 = .ok (.iaload, 1) := by decide +kernel
theorem d_W_comeBack_67 : decode c_W_comeBack 67 = .ok (.iload_n 2, 1) := by decide +kernel
theorem d_W_comeBack_68 : decode c_W_comeBack 68 = .ok (.if_icmp .eq 6, 3) := by decide +kernel
theorem d_W_comeBack_71 : decode c_W_comeBack 71 = .ok (.goto 43, 3) := by decide +kernel
theorem d_W_comeBack_74 : decode c_W_comeBack 74 = .ok (.aload_n 0, 1) := by decide +kernel
theorem d_W_comeBack_75 : decode c_W_comeBack 75 = .ok (.getfield 33, 3) := by decide +kernel
theorem d_W_comeBack_78 : decode c_W_comeBack 78 = .ok (.aload_n 0, 1) := by decide +kernel
theorem d_W_comeBack_79 : decode c_W_comeBack 79 = .ok (.getfield 29, 3) := by decide +kernel
theorem d_W_comeBack_82 : decode c_W_comeBack 82 = .ok (.aload_n 0, 1) := by decide +kernel
theorem d_W_comeBack_83 : decode c_W_comeBack 83 = .ok (.getfield 11, 3) := by decide +kernel
theorem d_W_comeBack_86 : decode c_W_comeBack 86 = .ok (.iload_n 3, 1) := by decide +kernel
theorem d_W_comeBack_87 : decode c_W_comeBack 87 = .ok (.aaload, 1) := by decide +kernel
theorem d_W_comeBack_88 : decode c_W_comeBack 88 = .ok (.iload_n 2, 1) := by decide +kernel
theorem d_W_comeBack_89 : decode c_W_comeBack 89 = .ok (.invokevirtual 156, 3) := by decide +kernel
theorem d_W_comeBack_92 : decode c_W_comeBack 92 = .ok (.aload_n 0, 1) := by decide +kernel
theorem d_W_comeBack_93 : decode c_W_comeBack 93 = .ok (.iload_n 1, 1) := by decide +kernel
theorem d_W_comeBack_94 : decode c_W_comeBack 94 = .ok (.iload_n 3, 1) := by decide +kernel
theorem d_W_comeBack_95 : decode c_W_comeBack 95 = .ok (.iconst 1, 1) := by decide +kernel
theorem d_W_comeBack_96 : decode c_W_comeBack 96 = .ok (.iadd, 1) := by decide +kernel
theorem d_W_comeBack_97 : decode c_W_comeBack 97 = .ok (.aload_n 0, 1) := by decide +kernel
theorem d_W_comeBack_98 : decode c_W_comeBack 98 = .ok (.getfield 33, 3) := by decide +kernel
theorem d_W_comeBack_101 : decode c_W_comeBack 101 = .ok (.invokevirtual 65, 3) := by decide +kernel
theorem d_W_comeBack_104 : decode c_W_comeBack 104 = .ok (.istore 4, 2) := by decide +kernel
theorem d_W_comeBack_106 : decode c_W_comeBack 106 = .ok (.iload 4, 2) := by decide +kernel
theorem d_W_comeBack_108 : decode c_W_comeBack 108 = .ok (.ifCond .eq 6, 3) := by decide +kernel
theorem d_W_comeBack_111 : decode c_W_comeBack 111 = .ok (.iload 4, 2) := by decide +kernel
theorem d_W_comeBack_113 : decode c_W_comeBack 113 = .ok (.ireturn, 1) := by decide +kernel
theorem d_W_comeBack_114 : decode c_W_comeBack 114 = .ok (.iinc 3 1, 3) := by decide +kernel
theorem d_W_comeBack_117 : decode c_W_comeBack 117 = .ok (.goto (-93), 3) := by decide +kernel
theorem d_W_comeBack_120 : decode c_W_comeBack 120 = .ok (.iconst 0, 1) := by decide +kernel
theorem d_W_comeBack_121 : decode c_W_comeBack 121 = .ok (.ireturn, 1) := by decide +kernel
theorem d_W_perform_0 : decode c_W_perform 0 = .ok (.aload_n 0, 1) := by decide +kernel
theorem d_W_perform_1 : decode c_W_perform 1 = .ok (.getfield 40, 3) := by decide +kernel
theorem d_W_perform_4 : decode c_W_perform 4 = .ok (.getfield 150, 3) := by decide +kernel
theorem d_W_perform_7 : decode c_W_perform 7 = .ok (.iload_n 1, 1) := by decide +kernel
theorem d_W_perform_8 : decode c_W_perform 8 = .ok (.iaload, 1) := by decide +kernel
theorem d_W_perform_9 : decode c_W_perform 9 = .ok (.istore_n 2, 1) := by decide +kernel
theorem d_W_perform_10 : decode c_W_perform 10 = .ok (.aload_n 0, 1) := by decide +kernel
theorem d_W_perform_11 : decode c_W_perform 11 = .ok (.getfield 40, 3) := by decide +kernel
theorem d_W_perform_14 : decode c_W_perform 14 = .ok (.getfield 143, 3) := by decide +kernel
theorem d_W_perform_17 : decode c_W_perform 17 = .ok (.iload_n 1, 1) := by decide +kernel
theorem d_W_perform_18 : decode c_W_perform 18 = .ok (.iaload, 1) := by decide +kernel
theorem d_W_perform_19 : decode c_W_perform 19 = .ok (.istore_n 3, 1) := by decide +kernel
theorem d_W_perform_20 : decode c_W_perform 20 = .ok (.aload_n 0, 1) := by decide +kernel
theorem d_W_perform_21 : decode c_W_perform 21 = .ok (.getfield 40, 3) := by decide +kernel
theorem d_W_perform_24 : decode c_W_perform 24 = .ok (.getfield 95, 3) := by decide +kernel
theorem d_W_perform_27 : decode c_W_perform 27 = .ok (.iload_n 1, 1) := by decide +kernel
theorem d_W_perform_28 : decode c_W_perform 28 = .ok (.iaload, 1) := by decide +kernel
theorem d_W_perform_29 : decode c_W_perform 29 = .ok (.istore 4, 2) := by decide +kernel
theorem d_W_perform_31 : decode c_W_perform 31 = .ok (.iload 4, 2) := by decide +kernel
theorem d_W_perform_33 : decode c_W_perform 33 = .ok (.tableswitch 218 1 30 #[167, 135, 141, 160, 160, 160, 160, 160, 167, 167, 167, 176, 176, 218, 183, 153, 176, 176, 176, 189, 195, 201, 201, 201, 201, 210, 210, 210, 210, 147], 135) := by decide +kernel
theorem d_W_perform_168 : decode c_W_perform 168 = .ok (.aload_n 0, 1) := by decide +kernel
theorem d_W_perform_169 : decode c_W_perform 169 = .ok (.iload_n 2, 1) := by decide +kernel
theorem d_W_perform_170 : decode c_W_perform 170 = .ok (.invokevirtual 159, 3) := by decide +kernel
theorem d_W_perform_173 : decode c_W_perform 173 = .ok (.ireturn, 1) := by decide +kernel
theorem d_W_perform_174 : decode c_W_perform 174 = .ok (.aload_n 0, 1) := by decide +kernel
theorem d_W_perform_175 : decode c_W_perform 175 = .ok (.iload_n 2, 1) := by decide +kernel
theorem d_W_perform_176 : decode c_W_perform 176 = .ok (.invokevirtual 162, 3) := by decide +kernel
theorem d_W_perform_179 : decode c_W_perform 179 = .ok (.ireturn, 1) := by decide +kernel
theorem d_W_perform_180 : decode c_W_perform 180 = .ok (.aload_n 0, 1) := by decide +kernel
theorem d_W_perform_181 : decode c_W_perform 181 = .ok (.iload_n 2, 1) := by decide +kernel
theorem d_W_perform_182 : decode c_W_perform 182 = .ok (.invokevirtual 165, 3) := by decide +kernel
theorem d_W_perform_185 : decode c_W_perform 185 = .ok (.ireturn, 1) := by decide +kernel
theorem d_W_perform_186 : decode c_W_perform 186 = .ok (.aload_n 0, 1) := by decide +kernel
theorem d_W_perform_187 : decode c_W_perform 187 = .ok (.iload_n 1, 1) := by decide +kernel
theorem d_W_perform_188 : decode c_W_perform 188 = .ok (.iload_n 2, 1) := by decide +kernel
theorem d_W_perform_189 : decode c_W_perform 189 = .ok (.invokevirtual 168, 3) := by decide +kernel
theorem d_W_perform_192 : decode c_W_perform 192 = .ok (.ireturn, 1) := by decide +kernel
theorem d_W_perform_193 : decode c_W_perform 193 = .ok (.aload_n 0, 1) := by decide +kernel
theorem d_W_perform_194 : decode c_W_perform 194 = .ok (.iload 4, 2) := by decide +kernel
theorem d_W_perform_196 : decode c_W_perform 196 = .ok (.invokevirtual 172, 3) := by decide +kernel
theorem d_W_perform_199 : decode c_W_perform 199 = .ok (.ireturn, 1) := by decide +kernel
theorem d_W_perform_200 : decode c_W_perform 200 = .ok (.aload_n 0, 1) := by decide +kernel
theorem d_W_perform_201 : decode c_W_perform 201 = .ok (.iload 4, 2) := by decide +kernel
theorem d_W_perform_203 : decode c_W_perform 203 = .ok (.iload_n 2, 1) := by decide +kernel
theorem d_W_perform_204 : decode c_W_perform 204 = .ok (.iload_n 3, 1) := by decide +kernel
theorem d_W_perform_205 : decode c_W_perform 205 = .ok (.invokevirtual 175, 3) := by decide +kernel
theorem d_W_perform_208 : decode c_W_perform 208 = .ok (.ireturn, 1) := by decide +kernel
theorem d_W_perform_209 : decode c_W_perform 209 = .ok (.aload_n 0, 1) := by decide +kernel
theorem d_W_perform_210 : decode c_W_perform 210 = .ok (.iload 4, 2) := by decide +kernel
theorem d_W_perform_212 : decode c_W_perform 212 = .ok (.invokevirtual 179, 3) := by decide +kernel
theorem d_W_perform_215 : decode c_W_perform 215 = .ok (.ireturn, 1) := by decide +kernel
theorem d_W_perform_216 : decode c_W_perform 216 = .ok (.aload_n 0, 1) := by decide +kernel
theorem d_W_perform_217 : decode c_W_perform 217 = .ok (.iload_n 3, 1) := by decide +kernel
theorem d_W_perform_218 : decode c_W_perform 218 = .ok (.invokevirtual 182, 3) := by decide +kernel
theorem d_W_perform_221 : decode c_W_perform 221 = .ok (.ireturn, 1) := by decide +kernel
theorem d_W_perform_222 : decode c_W_perform 222 = .ok (.aload_n 0, 1) := by decide +kernel
theorem d_W_perform_223 : decode c_W_perform 223 = .ok (.iload_n 1, 1) := by decide +kernel
theorem d_W_perform_224 : decode c_W_perform 224 = .ok (.invokevirtual 185, 3) := by decide +kernel
theorem d_W_perform_227 : decode c_W_perform 227 = .ok (.ireturn, 1) := by decide +kernel
theorem d_W_perform_228 : decode c_W_perform 228 = .ok (.aload_n 0, 1) := by decide +kernel
theorem d_W_perform_229 : decode c_W_perform 229 = .ok (.iload_n 2, 1) := by decide +kernel
theorem d_W_perform_230 : decode c_W_perform 230 = .ok (.invokevirtual 188, 3) := by decide +kernel
theorem d_W_perform_233 : decode c_W_perform 233 = .ok (.ireturn, 1) := by decide +kernel
theorem d_W_perform_234 : decode c_W_perform 234 = .ok (.aload_n 0, 1) := by decide +kernel
theorem d_W_perform_235 : decode c_W_perform 235 = .ok (.iload 4, 2) := by decide +kernel
theorem d_W_perform_237 : decode c_W_perform 237 = .ok (.iload_n 2, 1) := by decide +kernel
theorem d_W_perform_238 : decode c_W_perform 238 = .ok (.iload_n 3, 1) := by decide +kernel
theorem d_W_perform_239 : decode c_W_perform 239 = .ok (.invokevirtual 191, 3) := by decide +kernel
theorem d_W_perform_242 : decode c_W_perform 242 = .ok (.ireturn, 1) := by decide +kernel
theorem d_W_perform_243 : decode c_W_perform 243 = .ok (.aload_n 0, 1) := by decide +kernel
theorem d_W_perform_244 : decode c_W_perform 244 = .ok (.iload 4, 2) := by decide +kernel
theorem d_W_perform_246 : decode c_W_perform 246 = .ok (.iload_n 2, 1) := by decide +kernel
theorem d_W_perform_247 : decode c_W_perform 247 = .ok (.invokevirtual 194, 3) := by decide +kernel
theorem d_W_perform_250 : decode c_W_perform 250 = .ok (.ireturn, 1) := by decide +kernel
theorem d_W_perform_251 : decode c_W_perform 251 = .ok (.iconst 0, 1) := by decide +kernel
theorem d_W_perform_252 : decode c_W_perform 252 = .ok (.ireturn, 1) := by decide +kernel
theorem d_W_takeIf_0 : decode c_W_takeIf 0 = .ok (.iload_n 1, 1) := by decide +kernel
theorem d_W_takeIf_1 : decode c_W_takeIf 1 = .ok (.ifCond .ne 5, 3) := by decide +kernel
theorem d_W_takeIf_4 : decode c_W_takeIf 4 = .ok (.iconst 2, 1) := by decide +kernel
theorem d_W_takeIf_5 : decode c_W_takeIf 5 = .ok (.ireturn, 1) := by decide +kernel
theorem d_W_takeIf_6 : decode c_W_takeIf 6 = .ok (.aload_n 0, 1) := by decide +kernel
theorem d_W_takeIf_7 : decode c_W_takeIf 7 = .ok (.getfield 29, 3) := by decide +kernel
theorem d_W_takeIf_10 : decode c_W_takeIf 10 = .ok (.iload_n 2, 1) := by decide +kernel
theorem d_W_takeIf_11 : decode c_W_takeIf 11 = .ok (.invokevirtual 197, 3) := by decide +kernel
theorem d_W_takeIf_14 : decode c_W_takeIf 14 = .ok (.iconst 0, 1) := by decide +kernel
theorem d_W_takeIf_15 : decode c_W_takeIf 15 = .ok (.ireturn, 1) := by decide +kernel
theorem d_W_exchangeIf_0 : decode c_W_exchangeIf 0 = .ok (.iload_n 1, 1) := by decide +kernel
theorem d_W_exchangeIf_1 : decode c_W_exchangeIf 1 = .ok (.ifCond .ne 5, 3) := by decide +kernel
theorem d_W_exchangeIf_4 : decode c_W_exchangeIf 4 = .ok (.iconst 2, 1) := by decide +kernel
theorem d_W_exchangeIf_5 : decode c_W_exchangeIf 5 = .ok (.ireturn, 1) := by decide +kernel
theorem d_W_exchangeIf_6 : decode c_W_exchangeIf 6 = .ok (.aload_n 0, 1) := by decide +kernel
theorem d_W_exchangeIf_7 : decode c_W_exchangeIf 7 = .ok (.getfield 29, 3) := by decide +kernel
theorem d_W_exchangeIf_10 : decode c_W_exchangeIf 10 = .ok (.iload_n 2, 1) := by decide +kernel
theorem d_W_exchangeIf_11 : decode c_W_exchangeIf 11 = .ok (.invokevirtual 197, 3) := by decide +kernel
theorem d_W_exchangeIf_14 : decode c_W_exchangeIf 14 = .ok (.aload_n 0, 1) := by decide +kernel
theorem d_W_exchangeIf_15 : decode c_W_exchangeIf 15 = .ok (.getfield 29, 3) := by decide +kernel
theorem d_W_exchangeIf_18 : decode c_W_exchangeIf 18 = .ok (.iload_n 3, 1) := by decide +kernel
theorem d_W_exchangeIf_19 : decode c_W_exchangeIf 19 = .ok (.aload_n 0, 1) := by decide +kernel
theorem d_W_exchangeIf_20 : decode c_W_exchangeIf 20 = .ok (.getfield 40, 3) := by decide +kernel
theorem d_W_exchangeIf_23 : decode c_W_exchangeIf 23 = .ok (.getfield 116, 3) := by decide +kernel
theorem d_W_exchangeIf_26 : decode c_W_exchangeIf 26 = .ok (.invokevirtual 200, 3) := by decide +kernel
theorem d_W_exchangeIf_29 : decode c_W_exchangeIf 29 = .ok (.ireturn, 1) := by decide +kernel
theorem d_W_fitsLocal_0 : decode c_W_fitsLocal 0 = .ok (.iload_n 1, 1) := by decide +kernel
theorem d_W_fitsLocal_1 : decode c_W_fitsLocal 1 = .ok (.iload_n 2, 1) := by decide +kernel
theorem d_W_fitsLocal_2 : decode c_W_fitsLocal 2 = .ok (.invokestatic 203, 3) := by decide +kernel
theorem d_W_fitsLocal_5 : decode c_W_fitsLocal 5 = .ok (.iadd, 1) := by decide +kernel
theorem d_W_fitsLocal_6 : decode c_W_fitsLocal 6 = .ok (.aload_n 0, 1) := by decide +kernel
theorem d_W_fitsLocal_7 : decode c_W_fitsLocal 7 = .ok (.getfield 40, 3) := by decide +kernel
theorem d_W_fitsLocal_10 : decode c_W_fitsLocal 10 = .ok (.getfield 206, 3) := by decide +kernel
theorem d_W_fitsLocal_13 : decode c_W_fitsLocal 13 = .ok (.if_icmp .gt 7, 3) := by decide +kernel
theorem d_W_fitsLocal_16 : decode c_W_fitsLocal 16 = .ok (.iconst 1, 1) := by decide +kernel
theorem d_W_fitsLocal_17 : decode c_W_fitsLocal 17 = .ok (.goto 4, 3) := by decide +kernel
theorem d_W_fitsLocal_20 : decode c_W_fitsLocal 20 = .ok (.iconst 0, 1) := by decide +kernel
theorem d_W_fitsLocal_21 : decode c_W_fitsLocal 21 = .ok (.ireturn, 1) := by decide +kernel
theorem d_W_load_0 : decode c_W_load 0 = .ok (.aload_n 0, 1) := by decide +kernel
theorem d_W_load_1 : decode c_W_load 1 = .ok (.getfield 29, 3) := by decide +kernel
theorem d_W_load_4 : decode c_W_load 4 = .ok (.getfield 153, 3) := by decide +kernel
theorem d_W_load_7 : decode c_W_load 7 = .ok (.iload_n 1, 1) := by decide +kernel
theorem d_W_load_8 : decode c_W_load 8 = .ok (.iaload, 1) := by decide +kernel
theorem d_W_load_9 : decode c_W_load 9 = .ok (.istore_n 2, 1) := by decide +kernel
theorem d_W_load_10 : decode c_W_load 10 = .ok (.iload_n 2, 1) := by decide +kernel
theorem d_W_load_11 : decode c_W_load 11 = .ok (.ifCond .eq 19, 3) := by decide +kernel
theorem d_W_load_14 : decode c_W_load 14 = .ok (.iload_n 2, 1) := by decide +kernel
theorem d_W_load_15 : decode c_W_load 15 = .ok (.invokestatic 208, 3) := by decide +kernel
theorem d_W_load_18 : decode c_W_load 18 = .ok (.ifCond .ne 12, 3) := by decide +kernel
theorem d_W_load_21 : decode c_W_load 21 = .ok (.aload_n 0, 1) := by decide +kernel
theorem d_W_load_22 : decode c_W_load 22 = .ok (.iload_n 1, 1) := by decide +kernel
theorem d_W_load_23 : decode c_W_load 23 = .ok (.iload_n 2, 1) := by decide +kernel
theorem d_W_load_24 : decode c_W_load 24 = .ok (.invokevirtual 212, 3) := by decide +kernel
theorem d_W_load_27 : decode c_W_load 27 = .ok (.ifCond .ne 5, 3) := by decide +kernel
theorem d_W_load_30 : decode c_W_load 30 = .ok (.iconst 2, 1) := by decide +kernel
theorem d_W_load_31 : decode c_W_load 31 = .ok (.ireturn, 1) := by decide +kernel
theorem d_W_load_32 : decode c_W_load 32 = .ok (.aload_n 0, 1) := by decide +kernel
theorem d_W_load_33 : decode c_W_load 33 = .ok (.getfield 29, 3) := by decide +kernel
theorem d_W_load_36 : decode c_W_load 36 = .ok (.iload_n 1, 1) := by decide +kernel
theorem d_W_load_37 : decode c_W_load 37 = .ok (.iload_n 2, 1) := by decide +kernel
theorem d_W_load_38 : decode c_W_load 38 = .ok (.invokevirtual 215, 3) := by decide +kernel
theorem d_W_load_41 : decode c_W_load 41 = .ok (.aload_n 0, 1) := by decide +kernel
theorem d_W_load_42 : decode c_W_load 42 = .ok (.getfield 29, 3) := by decide +kernel
theorem d_W_load_45 : decode c_W_load 45 = .ok (.iload_n 2, 1) := by decide +kernel
theorem d_W_load_46 : decode c_W_load 46 = .ok (.aload_n 0, 1) := by decide +kernel
theorem d_W_load_47 : decode c_W_load 47 = .ok (.getfield 40, 3) := by decide +kernel
theorem d_W_load_50 : decode c_W_load 50 = .ok (.getfield 116, 3) := by decide +kernel
theorem d_W_load_53 : decode c_W_load 53 = .ok (.invokevirtual 200, 3) := by decide +kernel
theorem d_W_load_56 : decode c_W_load 56 = .ok (.ireturn, 1) := by decide +kernel
theorem d_W_store_0 : decode c_W_store 0 = .ok (.aload_n 0, 1) := by decide +kernel
theorem d_W_store_1 : decode c_W_store 1 = .ok (.getfield 29, 3) := by decide +kernel
theorem d_W_store_4 : decode c_W_store 4 = .ok (.iconst 0, 1) := by decide +kernel
theorem d_W_store_5 : decode c_W_store 5 = .ok (.invokevirtual 219, 3) := by decide +kernel
theorem d_W_store_8 : decode c_W_store 8 = .ok (.istore_n 2, 1) := by decide +kernel
theorem d_W_store_9 : decode c_W_store 9 = .ok (.iload_n 2, 1) := by decide +kernel
theorem d_W_store_10 : decode c_W_store 10 = .ok (.iconst (-1), 1) := by decide +kernel
theorem d_W_store_11 : decode c_W_store 11 = .ok (.if_icmp .eq 16, 3) := by decide +kernel
theorem d_W_store_14 : decode c_W_store 14 = .ok (.iload_n 2, 1) := by decide +kernel
theorem d_W_store_15 : decode c_W_store 15 = .ok (.ifCond .eq 12, 3) := by decide +kernel
theorem d_W_store_18 : decode c_W_store 18 = .ok (.aload_n 0, 1) := by decide +kernel
theorem d_W_store_19 : decode c_W_store 19 = .ok (.iload_n 1, 1) := by decide +kernel
theorem d_W_store_20 : decode c_W_store 20 = .ok (.iload_n 2, 1) := by decide +kernel
theorem d_W_store_21 : decode c_W_store 21 = .ok (.invokevirtual 212, 3) := by decide +kernel
theorem d_W_store_24 : decode c_W_store 24 = .ok (.ifCond .ne 5, 3) := by decide +kernel
theorem d_W_store_27 : decode c_W_store 27 = .ok (.iconst 2, 1) := by decide +kernel
theorem d_W_store_28 : decode c_W_store 28 = .ok (.ireturn, 1) := by decide +kernel
theorem d_W_store_29 : decode c_W_store 29 = .ok (.aload_n 0, 1) := by decide +kernel
theorem d_W_store_30 : decode c_W_store 30 = .ok (.getfield 29, 3) := by decide +kernel
theorem d_W_store_33 : decode c_W_store 33 = .ok (.iconst 1, 1) := by decide +kernel
theorem d_W_store_34 : decode c_W_store 34 = .ok (.invokevirtual 197, 3) := by decide +kernel
theorem d_W_store_37 : decode c_W_store 37 = .ok (.aload_n 0, 1) := by decide +kernel
theorem d_W_store_38 : decode c_W_store 38 = .ok (.getfield 29, 3) := by decide +kernel
theorem d_W_store_41 : decode c_W_store 41 = .ok (.iload_n 1, 1) := by decide +kernel
theorem d_W_store_42 : decode c_W_store 42 = .ok (.iload_n 2, 1) := by decide +kernel
theorem d_W_store_43 : decode c_W_store 43 = .ok (.invokevirtual 222, 3) := by decide +kernel
theorem d_W_store_46 : decode c_W_store 46 = .ok (.aload_n 0, 1) := by decide +kernel
theorem d_W_store_47 : decode c_W_store 47 = .ok (.getfield 29, 3) := by decide +kernel
theorem d_W_store_50 : decode c_W_store 50 = .ok (.iload_n 1, 1) := by decide +kernel
theorem d_W_store_51 : decode c_W_store 51 = .ok (.iload_n 2, 1) := by decide +kernel
theorem d_W_store_52 : decode c_W_store 52 = .ok (.invokevirtual 215, 3) := by decide +kernel
theorem d_W_store_55 : decode c_W_store 55 = .ok (.iconst 0, 1) := by decide +kernel
theorem d_W_store_56 : decode c_W_store 56 = .ok (.ireturn, 1) := by decide +kernel
theorem d_W_increase_0 : decode c_W_increase 0 = .ok (.aload_n 0, 1) := by decide +kernel
theorem d_W_increase_1 : decode c_W_increase 1 = .ok (.getfield 29, 3) := by decide +kernel
theorem d_W_increase_4 : decode c_W_increase 4 = .ok (.getfield 153, 3) := by decide +kernel
theorem d_W_increase_7 : decode c_W_increase 7 = .ok (.iload_n 1, 1) := by decide +kernel
theorem d_W_increase_8 : decode c_W_increase 8 = .ok (.iaload, 1) := by decide +kernel
theorem d_W_increase_9 : decode c_W_increase 9 = .ok (.iconst 1, 1) := by decide +kernel
theorem d_W_increase_10 : decode c_W_increase 10 = .ok (.if_icmp .eq 5, 3) := by decide +kernel
theorem d_W_increase_13 : decode c_W_increase 13 = .ok (.iconst 2, 1) := by decide +kernel
theorem d_W_increase_14 : decode c_W_increase 14 = .ok (.ireturn, 1) := by decide +kernel
theorem d_W_increase_15 : decode c_W_increase 15 = .ok (.aload_n 0, 1) := by decide +kernel
theorem d_W_increase_16 : decode c_W_increase 16 = .ok (.getfield 29, 3) := by decide +kernel
theorem d_W_increase_19 : decode c_W_increase 19 = .ok (.iload_n 1, 1) := by decide +kernel
theorem d_W_increase_20 : decode c_W_increase 20 = .ok (.iconst 1, 1) := by decide +kernel
theorem d_W_increase_21 : decode c_W_increase 21 = .ok (.invokevirtual 215, 3) := by decide +kernel
theorem d_W_increase_24 : decode c_W_increase 24 = .ok (.iconst 0, 1) := by decide +kernel
theorem d_W_increase_25 : decode c_W_increase 25 = .ok (.ireturn, 1) := by decide +kernel
theorem d_W_prepareReturn_0 : decode c_W_prepareReturn 0 = .ok (.aload_n 0, 1) := by decide +kernel
theorem d_W_prepareReturn_1 : decode c_W_prepareReturn 1 = .ok (.getfield 29, 3) := by decide +kernel
theorem d_W_prepareReturn_4 : decode c_W_prepareReturn 4 = .ok (.getfield 153, 3) := by decide +kernel
theorem d_W_prepareReturn_7 : decode c_W_prepareReturn 7 = .ok (.iload_n 2, 1) := by decide +kernel
theorem d_W_prepareReturn_8 : decode c_W_prepareReturn 8 = .ok (.iaload, 1) := by decide +kernel
theorem d_W_prepareReturn_9 : decode c_W_prepareReturn 9 = .ok (.istore_n 3, 1) := by decide +kernel
theorem d_W_prepareReturn_10 : decode c_W_prepareReturn 10 = .ok (.iload_n 3, 1) := by decide +kernel
theorem d_W_prepareReturn_11 : decode c_W_prepareReturn 11 = .ok (.invokestatic 208, 3) := by decide +kernel
theorem d_W_prepareReturn_14 : decode c_W_prepareReturn 14 = .ok (.ifCond .ne 5, 3) := by decide +kernel
theorem d_W_prepareReturn_17 : decode c_W_prepareReturn 17 = .ok (.iconst 2, 1) := by decide +kernel
theorem d_W_prepareReturn_18 : decode c_W_prepareReturn 18 = .ok (.ireturn, 1) := by decide +kernel
theorem d_W_prepareReturn_19 : decode c_W_prepareReturn 19 = .ok (.iload_n 3, 1) := by decide +kernel
theorem d_W_prepareReturn_20 : decode c_W_prepareReturn 20 = .ok (.sipush 2000, 3) := by decide +kernel
theorem d_W_prepareReturn_23 : decode c_W_prepareReturn 23 = .ok (.isub, 1) := by decide +kernel
theorem d_W_prepareReturn_24 : decode c_W_prepareReturn 24 = .ok (.istore 4, 2) := by decide +kernel
theorem d_W_prepareReturn_26 : decode c_W_prepareReturn 26 = .ok (.aload_n 0, 1) := by decide +kernel
theorem d_W_prepareReturn_27 : decode c_W_prepareReturn 27 = .ok (.getfield 29, 3) := by decide +kernel
theorem d_W_prepareReturn_30 : decode c_W_prepareReturn 30 = .ok (.iload 4, 2) := by decide +kernel
theorem d_W_prepareReturn_32 : decode c_W_prepareReturn 32 = .ok (.invokevirtual 224, 3) := by decide +kernel
theorem d_W_prepareReturn_35 : decode c_W_prepareReturn 35 = .ok (.ifCond .ne 6, 3) := by decide +kernel
theorem d_W_prepareReturn_38 : decode c_W_prepareReturn 38 = .ok (.bipush 7, 2) := by decide +kernel
theorem d_W_prepareReturn_40 : decode c_W_prepareReturn 40 = .ok (.ireturn, 1) := by decide +kernel
theorem d_W_prepareReturn_41 : decode c_W_prepareReturn 41 = .ok (.aload_n 0, 1) := by decide +kernel
theorem d_W_prepareReturn_42 : decode c_W_prepareReturn 42 = .ok (.getfield 29, 3) := by decide +kernel
theorem d_W_prepareReturn_45 : decode c_W_prepareReturn 45 = .ok (.iload_n 2, 1) := by decide +kernel
theorem d_W_prepareReturn_46 : decode c_W_prepareReturn 46 = .ok (.iload_n 3, 1) := by decide +kernel
theorem d_W_prepareReturn_47 : decode c_W_prepareReturn 47 = .ok (.invokevirtual 215, 3) := by decide +kernel
theorem d_W_prepareReturn_50 : decode c_W_prepareReturn 50 = .ok (.aload_n 0, 1) := by decide +kernel
theorem d_W_prepareReturn_51 : decode c_W_prepareReturn 51 = .ok (.getfield 24, 3) := by decide +kernel
theorem d_W_prepareReturn_54 : decode c_W_prepareReturn 54 = .ok (.iload_n 1, 1) := by decide +kernel
theorem d_W_prepareReturn_55 : decode c_W_prepareReturn 55 = .ok (.dup2, 1) := by decide +kernel
theorem d_W_prepareReturn_56 : decode c_W_prepareReturn 56 = .ok (.laload, 1) := by decide +kernel
theorem d_W_prepareReturn_57 : decode c_W_prepareReturn 57 = .ok (.lconst 1, 1) := by decide +kernel
theorem d_W_prepareReturn_58 : decode c_W_prepareReturn 58 = .ok (.iload 4, 2) := by decide +kernel
theorem d_W_prepareReturn_60 : decode c_W_prepareReturn 60 = .ok (.lshl, 1) := by decide +kernel
theorem d_W_prepareReturn_61 : decode c_W_prepareReturn 61 = .ok (.lor, 1) := by decide +kernel
theorem d_W_prepareReturn_62 : decode c_W_prepareReturn 62 = .ok (.lastore, 1) := by decide +kernel
theorem d_W_prepareReturn_63 : decode c_W_prepareReturn 63 = .ok (.iconst 0, 1) := by decide +kernel
theorem d_W_prepareReturn_64 : decode c_W_prepareReturn 64 = .ok (.ireturn, 1) := by decide +kernel
theorem d_W_enterSub_0 : decode c_W_enterSub 0 = .ok (.aload_n 0, 1) := by decide +kernel
theorem d_W_enterSub_1 : decode c_W_enterSub 1 = .ok (.getfield 29, 3) := by decide +kernel
theorem d_W_enterSub_4 : decode c_W_enterSub 4 = .ok (.iload_n 1, 1) := by decide +kernel
theorem d_W_enterSub_5 : decode c_W_enterSub 5 = .ok (.invokevirtual 224, 3) := by decide +kernel
theorem d_W_enterSub_8 : decode c_W_enterSub 8 = .ok (.ifCond .eq 6, 3) := by decide +kernel
theorem d_W_enterSub_11 : decode c_W_enterSub 11 = .ok (.bipush 6, 2) := by decide +kernel
theorem d_W_enterSub_13 : decode c_W_enterSub 13 = .ok (.ireturn, 1) := by decide +kernel
theorem d_W_enterSub_14 : decode c_W_enterSub 14 = .ok (.aload_n 0, 1) := by decide +kernel
theorem d_W_enterSub_15 : decode c_W_enterSub 15 = .ok (.getfield 29, 3) := by decide +kernel
theorem d_W_enterSub_18 : decode c_W_enterSub 18 = .ok (.iload_n 1, 1) := by decide +kernel
theorem d_W_enterSub_19 : decode c_W_enterSub 19 = .ok (.invokevirtual 227, 3) := by decide +kernel
theorem d_W_enterSub_22 : decode c_W_enterSub 22 = .ok (.aload_n 0, 1) := by decide +kernel
theorem d_W_enterSub_23 : decode c_W_enterSub 23 = .ok (.getfield 29, 3) := by decide +kernel
theorem d_W_enterSub_26 : decode c_W_enterSub 26 = .ok (.sipush 2000, 3) := by decide +kernel
theorem d_W_enterSub_29 : decode c_W_enterSub 29 = .ok (.iload_n 1, 1) := by decide +kernel
theorem d_W_enterSub_30 : decode c_W_enterSub 30 = .ok (.iadd, 1) := by decide +kernel
theorem d_W_enterSub_31 : decode c_W_enterSub 31 = .ok (.aload_n 0, 1) := by decide +kernel
theorem d_W_enterSub_32 : decode c_W_enterSub 32 = .ok (.getfield 40, 3) := by decide +kernel
theorem d_W_enterSub_35 : decode c_W_enterSub 35 = .ok (.getfield 116, 3) := by decide +kernel
theorem d_W_enterSub_38 : decode c_W_enterSub 38 = .ok (.invokevirtual 200, 3) := by decide +kernel
theorem d_W_enterSub_41 : decode c_W_enterSub 41 = .ok (.ireturn, 1) := by decide +kernel
theorem d_W_shuffle_0 : decode c_W_shuffle 0 = .ok (.aload_n 0, 1) := by decide +kernel
theorem d_W_shuffle_1 : decode c_W_shuffle 1 = .ok (.getfield 29, 3) := by decide +kernel
theorem d_W_shuffle_4 : decode c_W_shuffle 4 = .ok (.iconst 0, 1) := by decide +kernel
theorem d_W_shuffle_5 : decode c_W_shuffle 5 = .ok (.invokevirtual 219, 3) := by decide +kernel
theorem d_W_shuffle_8 : decode c_W_shuffle 8 = .ok (.istore_n 2, 1) := by decide +kernel
theorem d_W_shuffle_9 : decode c_W_shuffle 9 = .ok (.iload_n 1, 1) := by decide +kernel
theorem d_W_shuffle_10 : decode c_W_shuffle 10 = .ok (.bipush 8, 2) := by decide +kernel
theorem d_W_shuffle_12 : decode c_W_shuffle 12 = .ok (.if_icmp .ne 26, 3) := by decide +kernel
theorem d_W_shuffle_15 : decode c_W_shuffle 15 = .ok (.iload_n 2, 1) := by decide +kernel
theorem d_W_shuffle_16 : decode c_W_shuffle 16 = .ok (.invokestatic 230, 3) := by decide +kernel
theorem d_W_shuffle_19 : decode c_W_shuffle 19 = .ok (.ifCond .eq 19, 3) := by decide +kernel
theorem d_W_shuffle_22 : decode c_W_shuffle 22 = .ok (.aload_n 0, 1) := by decide +kernel
theorem d_W_shuffle_23 : decode c_W_shuffle 23 = .ok (.getfield 29, 3) := by decide +kernel
theorem d_W_shuffle_26 : decode c_W_shuffle 26 = .ok (.iload_n 2, 1) := by decide +kernel
theorem d_W_shuffle_27 : decode c_W_shuffle 27 = .ok (.aload_n 0, 1) := by decide +kernel
theorem d_W_shuffle_28 : decode c_W_shuffle 28 = .ok (.getfield 40, 3) := by decide +kernel
theorem d_W_shuffle_31 : decode c_W_shuffle 31 = .ok (.getfield 116, 3) := by decide +kernel
theorem d_W_shuffle_34 : decode c_W_shuffle 34 = .ok (.invokevirtual 200, 3) := by decide +kernel
theorem d_W_shuffle_37 : decode c_W_shuffle 37 = .ok (.ireturn, 1) := by decide +kernel
theorem d_W_shuffle_38 : decode c_W_shuffle 38 = .ok (.aload_n 0, 1) := by decide +kernel
theorem d_W_shuffle_39 : decode c_W_shuffle 39 = .ok (.getfield 29, 3) := by decide +kernel
theorem d_W_shuffle_42 : decode c_W_shuffle 42 = .ok (.iconst 0, 1) := by decide +kernel
theorem d_W_shuffle_43 : decode c_W_shuffle 43 = .ok (.invokevirtual 233, 3) := by decide +kernel
theorem d_W_shuffle_46 : decode c_W_shuffle 46 = .ok (.ifCond .ne 5, 3) := by decide +kernel
theorem d_W_shuffle_49 : decode c_W_shuffle 49 = .ok (.iconst 2, 1) := by decide +kernel
theorem d_W_shuffle_50 : decode c_W_shuffle 50 = .ok (.ireturn, 1) := by decide +kernel
theorem d_W_shuffle_51 : decode c_W_shuffle 51 = .ok (.iload_n 1, 1) := by decide +kernel
theorem d_W_shuffle_52 : decode c_W_shuffle 52 = .ok (.iconst 4, 1) := by decide +kernel
theorem d_W_shuffle_53 : decode c_W_shuffle 53 = .ok (.if_icmp .ne 10, 3) := by decide +kernel
theorem d_W_shuffle_56 : decode c_W_shuffle 56 = .ok (.aload_n 0, 1) := by decide +kernel
theorem d_W_shuffle_57 : decode c_W_shuffle 57 = .ok (.iconst 1, 1) := by decide +kernel
theorem d_W_shuffle_58 : decode c_W_shuffle 58 = .ok (.iconst 1, 1) := by decide +kernel
theorem d_W_shuffle_59 : decode c_W_shuffle 59 = .ok (.invokevirtual 236, 3) := by decide +kernel
theorem d_W_shuffle_62 : decode c_W_shuffle 62 = .ok (.ireturn, 1) := by decide +kernel
theorem d_W_shuffle_63 : decode c_W_shuffle 63 = .ok (.iload_n 1, 1) := by decide +kernel
theorem d_W_shuffle_64 : decode c_W_shuffle 64 = .ok (.iconst 5, 1) := by decide +kernel
theorem d_W_shuffle_65 : decode c_W_shuffle 65 = .ok (.if_icmp .ne 19, 3) := by decide +kernel
theorem d_W_shuffle_68 : decode c_W_shuffle 68 = .ok (.aload_n 0, 1) := by decide +kernel
theorem d_W_shuffle_69 : decode c_W_shuffle 69 = .ok (.getfield 29, 3) := by decide +kernel
theorem d_W_shuffle_72 : decode c_W_shuffle 72 = .ok (.iload_n 2, 1) := by decide +kernel
theorem d_W_shuffle_73 : decode c_W_shuffle 73 = .ok (.aload_n 0, 1) := by decide +kernel
theorem d_W_shuffle_74 : decode c_W_shuffle 74 = .ok (.getfield 40, 3) := by decide +kernel
theorem d_W_shuffle_77 : decode c_W_shuffle 77 = .ok (.getfield 116, 3) := by decide +kernel
theorem d_W_shuffle_80 : decode c_W_shuffle 80 = .ok (.invokevirtual 200, 3) := by decide +kernel
theorem d_W_shuffle_83 : decode c_W_shuffle 83 = .ok (.ireturn, 1) := by decide +kernel
theorem d_W_shuffle_84 : decode c_W_shuffle 84 = .ok (.aload_n 0, 1) := by decide +kernel
theorem d_W_shuffle_85 : decode c_W_shuffle 85 = .ok (.getfield 29, 3) := by decide +kernel
theorem d_W_shuffle_88 : decode c_W_shuffle 88 = .ok (.iconst 1, 1) := by decide +kernel
theorem d_W_shuffle_89 : decode c_W_shuffle 89 = .ok (.invokevirtual 233, 3) := by decide +kernel
theorem d_W_shuffle_92 : decode c_W_shuffle 92 = .ok (.ifCond .ne 5, 3) := by decide +kernel
theorem d_W_shuffle_95 : decode c_W_shuffle 95 = .ok (.iconst 2, 1) := by decide +kernel
theorem d_W_shuffle_96 : decode c_W_shuffle 96 = .ok (.ireturn, 1) := by decide +kernel
theorem d_W_shuffle_97 : decode c_W_shuffle 97 = .ok (.aload_n 0, 1) := by decide +kernel
theorem d_W_shuffle_98 : decode c_W_shuffle 98 = .ok (.getfield 29, 3) := by decide +kernel
theorem d_W_shuffle_101 : decode c_W_shuffle 101 = .ok (.iconst 1, 1) := by decide +kernel
theorem d_W_shuffle_102 : decode c_W_shuffle 102 = .ok (.invokevirtual 219, 3) := by decide +kernel
theorem d_W_shuffle_105 : decode c_W_shuffle 105 = .ok (.istore_n 3, 1) := by decide +kernel
theorem d_W_shuffle_106 : decode c_W_shuffle 106 = .ok (.iload_n 1, 1) := by decide +kernel
theorem d_W_shuffle_107 : decode c_W_shuffle 107 = .ok (.bipush 8, 2) := by decide +kernel
theorem d_W_shuffle_109 : decode c_W_shuffle 109 = .ok (.if_icmp .ne 10, 3) := by decide +kernel
theorem d_W_shuffle_112 : decode c_W_shuffle 112 = .ok (.aload_n 0, 1) := by decide +kernel
theorem d_W_shuffle_113 : decode c_W_shuffle 113 = .ok (.iload_n 3, 1) := by decide +kernel
theorem d_W_shuffle_114 : decode c_W_shuffle 114 = .ok (.iload_n 2, 1) := by decide +kernel
theorem d_W_shuffle_115 : decode c_W_shuffle 115 = .ok (.invokevirtual 240, 3) := by decide +kernel
theorem d_W_shuffle_118 : decode c_W_shuffle 118 = .ok (.ireturn, 1) := by decide +kernel
theorem d_W_shuffle_119 : decode c_W_shuffle 119 = .ok (.aload_n 0, 1) := by decide +kernel
theorem d_W_shuffle_120 : decode c_W_shuffle 120 = .ok (.getfield 29, 3) := by decide +kernel
theorem d_W_shuffle_123 : decode c_W_shuffle 123 = .ok (.iconst 2, 1) := by decide +kernel
theorem d_W_shuffle_124 : decode c_W_shuffle 124 = .ok (.invokevirtual 197, 3) := by decide +kernel
theorem d_W_shuffle_127 : decode c_W_shuffle 127 = .ok (.aload_n 0, 1) := by decide +kernel
theorem d_W_shuffle_128 : decode c_W_shuffle 128 = .ok (.iload_n 2, 1) := by decide +kernel
theorem d_W_shuffle_129 : decode c_W_shuffle 129 = .ok (.iload_n 3, 1) := by decide +kernel
theorem d_W_shuffle_130 : decode c_W_shuffle 130 = .ok (.invokevirtual 240, 3) := by decide +kernel
theorem d_W_shuffle_133 : decode c_W_shuffle 133 = .ok (.istore 4, 2) := by decide +kernel
theorem d_W_shuffle_135 : decode c_W_shuffle 135 = .ok (.iload 4, 2) := by decide +kernel
theorem d_W_shuffle_137 : decode c_W_shuffle 137 = .ok (.ifCond .ne 27, 3) := by decide +kernel
theorem d_W_shuffle_140 : decode c_W_shuffle 140 = .ok (.iload_n 1, 1) := by decide +kernel
theorem d_W_shuffle_141 : decode c_W_shuffle 141 = .ok (.bipush 6, 2) := by decide +kernel
theorem d_W_shuffle_143 : decode c_W_shuffle 143 = .ok (.if_icmp .ne 21, 3) := by decide +kernel
theorem d_W_shuffle_146 : decode c_W_shuffle 146 = .ok (.aload_n 0, 1) := by decide +kernel
theorem d_W_shuffle_147 : decode c_W_shuffle 147 = .ok (.getfield 29, 3) := by decide +kernel
theorem d_W_shuffle_150 : decode c_W_shuffle 150 = .ok (.iload_n 2, 1) := by decide +kernel
theorem d_W_shuffle_151 : decode c_W_shuffle 151 = .ok (.aload_n 0, 1) := by decide +kernel
theorem d_W_shuffle_152 : decode c_W_shuffle 152 = .ok (.getfield 40, 3) := by decide +kernel
theorem d_W_shuffle_155 : decode c_W_shuffle 155 = .ok (.getfield 116, 3) := by decide +kernel
theorem d_W_shuffle_158 : decode c_W_shuffle 158 = .ok (.invokevirtual 200, 3) := by decide +kernel
theorem d_W_shuffle_161 : decode c_W_shuffle 161 = .ok (.goto 5, 3) := by decide +kernel
theorem d_W_shuffle_164 : decode c_W_shuffle 164 = .ok (.iload 4, 2) := by decide +kernel
theorem d_W_shuffle_166 : decode c_W_shuffle 166 = .ok (.ireturn, 1) := by decide +kernel
theorem d_W_pushBoth_0 : decode c_W_pushBoth 0 = .ok (.aload_n 0, 1) := by decide +kernel
theorem d_W_pushBoth_1 : decode c_W_pushBoth 1 = .ok (.getfield 29, 3) := by decide +kernel
theorem d_W_pushBoth_4 : decode c_W_pushBoth 4 = .ok (.iload_n 1, 1) := by decide +kernel
theorem d_W_pushBoth_5 : decode c_W_pushBoth 5 = .ok (.aload_n 0, 1) := by decide +kernel
theorem d_W_pushBoth_6 : decode c_W_pushBoth 6 = .ok (.getfield 40, 3) := by decide +kernel
theorem d_W_pushBoth_9 : decode c_W_pushBoth 9 = .ok (.getfield 116, 3) := by decide +kernel
theorem d_W_pushBoth_12 : decode c_W_pushBoth 12 = .ok (.invokevirtual 200, 3) := by decide +kernel
theorem d_W_pushBoth_15 : decode c_W_pushBoth 15 = .ok (.istore_n 3, 1) := by decide +kernel
theorem d_W_pushBoth_16 : decode c_W_pushBoth 16 = .ok (.iload_n 3, 1) := by decide +kernel
theorem d_W_pushBoth_17 : decode c_W_pushBoth 17 = .ok (.ifCond .ne 21, 3) := by decide +kernel
theorem d_W_pushBoth_20 : decode c_W_pushBoth 20 = .ok (.aload_n 0, 1) := by decide +kernel
theorem d_W_pushBoth_21 : decode c_W_pushBoth 21 = .ok (.getfield 29, 3) := by decide +kernel
theorem d_W_pushBoth_24 : decode c_W_pushBoth 24 = .ok (.iload_n 2, 1) := by decide +kernel
theorem d_W_pushBoth_25 : decode c_W_pushBoth 25 = .ok (.aload_n 0, 1) := by decide +kernel
theorem d_W_pushBoth_26 : decode c_W_pushBoth 26 = .ok (.getfield 40, 3) := by decide +kernel
theorem d_W_pushBoth_29 : decode c_W_pushBoth 29 = .ok (.getfield 116, 3) := by decide +kernel
theorem d_W_pushBoth_32 : decode c_W_pushBoth 32 = .ok (.invokevirtual 200, 3) := by decide +kernel
theorem d_W_pushBoth_35 : decode c_W_pushBoth 35 = .ok (.goto 4, 3) := by decide +kernel
theorem d_W_pushBoth_38 : decode c_W_pushBoth 38 = .ok (.iload_n 3, 1) := by decide +kernel
theorem d_W_pushBoth_39 : decode c_W_pushBoth 39 = .ok (.ireturn, 1) := by decide +kernel
theorem d_W_calculate_0 : decode c_W_calculate 0 = .ok (.iload_n 1, 1) := by decide +kernel
theorem d_W_calculate_1 : decode c_W_calculate 1 = .ok (.iconst 1, 1) := by decide +kernel
theorem d_W_calculate_2 : decode c_W_calculate 2 = .ok (.if_icmp .ne 19, 3) := by decide +kernel
theorem d_W_calculate_5 : decode c_W_calculate 5 = .ok (.aload_n 0, 1) := by decide +kernel
theorem d_W_calculate_6 : decode c_W_calculate 6 = .ok (.getfield 29, 3) := by decide +kernel
theorem d_W_calculate_9 : decode c_W_calculate 9 = .ok (.iload_n 2, 1) := by decide +kernel
theorem d_W_calculate_10 : decode c_W_calculate 10 = .ok (.aload_n 0, 1) := by decide +kernel
theorem d_W_calculate_11 : decode c_W_calculate 11 = .ok (.getfield 40, 3) := by decide +kernel
theorem d_W_calculate_14 : decode c_W_calculate 14 = .ok (.getfield 116, 3) := by decide +kernel
theorem d_W_calculate_17 : decode c_W_calculate 17 = .ok (.invokevirtual 200, 3) := by decide +kernel
theorem d_W_calculate_20 : decode c_W_calculate 20 = .ok (.ireturn, 1) := by decide +kernel
theorem d_W_calculate_21 : decode c_W_calculate 21 = .ok (.aload_n 0, 1) := by decide +kernel
theorem d_W_calculate_22 : decode c_W_calculate 22 = .ok (.getfield 29, 3) := by decide +kernel
theorem d_W_calculate_25 : decode c_W_calculate 25 = .ok (.iconst 0, 1) := by decide +kernel
theorem d_W_calculate_26 : decode c_W_calculate 26 = .ok (.invokevirtual 219, 3) := by decide +kernel
theorem d_W_calculate_29 : decode c_W_calculate 29 = .ok (.iload_n 2, 1) := by decide +kernel
theorem d_W_calculate_30 : decode c_W_calculate 30 = .ok (.if_icmp .ne 7, 3) := by decide +kernel
theorem d_W_calculate_33 : decode c_W_calculate 33 = .ok (.iconst 1, 1) := by decide +kernel
theorem d_W_calculate_34 : decode c_W_calculate 34 = .ok (.goto 4, 3) := by decide +kernel
theorem d_W_calculate_37 : decode c_W_calculate 37 = .ok (.iconst 0, 1) := by decide +kernel
theorem d_W_calculate_38 : decode c_W_calculate 38 = .ok (.istore 4, 2) := by decide +kernel
theorem d_W_calculate_40 : decode c_W_calculate 40 = .ok (.iload_n 1, 1) := by decide +kernel
theorem d_W_calculate_41 : decode c_W_calculate 41 = .ok (.bipush 10, 2) := by decide +kernel
theorem d_W_calculate_43 : decode c_W_calculate 43 = .ok (.if_icmp .ne 12, 3) := by decide +kernel
theorem d_W_calculate_46 : decode c_W_calculate 46 = .ok (.aload_n 0, 1) := by decide +kernel
theorem d_W_calculate_47 : decode c_W_calculate 47 = .ok (.iload 4, 2) := by decide +kernel
theorem d_W_calculate_49 : decode c_W_calculate 49 = .ok (.iconst 1, 1) := by decide +kernel
theorem d_W_calculate_50 : decode c_W_calculate 50 = .ok (.iload_n 3, 1) := by decide +kernel
theorem d_W_calculate_51 : decode c_W_calculate 51 = .ok (.invokevirtual 243, 3) := by decide +kernel
theorem d_W_calculate_54 : decode c_W_calculate 54 = .ok (.ireturn, 1) := by decide +kernel
theorem d_W_calculate_55 : decode c_W_calculate 55 = .ok (.aload_n 0, 1) := by decide +kernel
theorem d_W_calculate_56 : decode c_W_calculate 56 = .ok (.iload 4, 2) := by decide +kernel
theorem d_W_calculate_58 : decode c_W_calculate 58 = .ok (.ifCond .eq 19, 3) := by decide +kernel
theorem d_W_calculate_61 : decode c_W_calculate 61 = .ok (.aload_n 0, 1) := by decide +kernel
theorem d_W_calculate_62 : decode c_W_calculate 62 = .ok (.getfield 29, 3) := by decide +kernel
theorem d_W_calculate_65 : decode c_W_calculate 65 = .ok (.iconst 1, 1) := by decide +kernel
theorem d_W_calculate_66 : decode c_W_calculate 66 = .ok (.invokevirtual 219, 3) := by decide +kernel
theorem d_W_calculate_69 : decode c_W_calculate 69 = .ok (.iload_n 2, 1) := by decide +kernel
theorem d_W_calculate_70 : decode c_W_calculate 70 = .ok (.if_icmp .ne 7, 3) := by decide +kernel
theorem d_W_calculate_73 : decode c_W_calculate 73 = .ok (.iconst 1, 1) := by decide +kernel
theorem d_W_calculate_74 : decode c_W_calculate 74 = .ok (.goto 4, 3) := by decide +kernel
theorem d_W_calculate_77 : decode c_W_calculate 77 = .ok (.iconst 0, 1) := by decide +kernel
theorem d_W_calculate_78 : decode c_W_calculate 78 = .ok (.iconst 2, 1) := by decide +kernel
theorem d_W_calculate_79 : decode c_W_calculate 79 = .ok (.iload_n 1, 1) := by decide +kernel
theorem d_W_calculate_80 : decode c_W_calculate 80 = .ok (.bipush 9, 2) := by decide +kernel
theorem d_W_calculate_82 : decode c_W_calculate 82 = .ok (.if_icmp .ne 7, 3) := by decide +kernel
theorem d_W_calculate_85 : decode c_W_calculate 85 = .ok (.iload_n 2, 1) := by decide +kernel
theorem d_W_calculate_86 : decode c_W_calculate 86 = .ok (.goto 4, 3) := by decide +kernel
theorem d_W_calculate_89 : decode c_W_calculate 89 = .ok (.iconst 1, 1) := by decide +kernel
theorem d_W_calculate_90 : decode c_W_calculate 90 = .ok (.invokevirtual 243, 3) := by decide +kernel
theorem d_W_calculate_93 : decode c_W_calculate 93 = .ok (.ireturn, 1) := by decide +kernel
theorem d_W_decide_0 : decode c_W_decide 0 = .ok (.aload_n 0, 1) := by decide +kernel
theorem d_W_decide_1 : decode c_W_decide 1 = .ok (.getfield 29, 3) := by decide +kernel
theorem d_W_decide_4 : decode c_W_decide 4 = .ok (.iconst 0, 1) := by decide +kernel
theorem d_W_decide_5 : decode c_W_decide 5 = .ok (.invokevirtual 219, 3) := by decide +kernel
theorem d_W_decide_8 : decode c_W_decide 8 = .ok (.istore_n 2, 1) := by decide +kernel
theorem d_W_decide_9 : decode c_W_decide 9 = .ok (.iload_n 1, 1) := by decide +kernel
theorem d_W_decide_10 : decode c_W_decide 10 = .ok (.lookupswitch 99 #[(13, 34), (18, 64), (19, 48)], 34) := by decide +kernel
theorem d_W_decide_44 : decode c_W_decide 44 = .ok (.aload_n 0, 1) := by decide +kernel
theorem d_W_decide_45 : decode c_W_decide 45 = .ok (.aload_n 0, 1) := by decide +kernel
theorem d_W_decide_46 : decode c_W_decide 46 = .ok (.getfield 36, 3) := by decide +kernel
theorem d_W_decide_49 : decode c_W_decide 49 = .ok (.iload_n 2, 1) := by decide +kernel
theorem d_W_decide_50 : decode c_W_decide 50 = .ok (.invokevirtual 247, 3) := by decide +kernel
theorem d_W_decide_53 : decode c_W_decide 53 = .ok (.iconst 1, 1) := by decide +kernel
theorem d_W_decide_54 : decode c_W_decide 54 = .ok (.invokevirtual 236, 3) := by decide +kernel
theorem d_W_decide_57 : decode c_W_decide 57 = .ok (.ireturn, 1) := by decide +kernel
theorem d_W_decide_58 : decode c_W_decide 58 = .ok (.aload_n 0, 1) := by decide +kernel
theorem d_W_decide_59 : decode c_W_decide 59 = .ok (.aload_n 0, 1) := by decide +kernel
theorem d_W_decide_60 : decode c_W_decide 60 = .ok (.getfield 36, 3) := by decide +kernel
theorem d_W_decide_63 : decode c_W_decide 63 = .ok (.iload_n 2, 1) := by decide +kernel
theorem d_W_decide_64 : decode c_W_decide 64 = .ok (.bipush 17, 2) := by decide +kernel
theorem d_W_decide_66 : decode c_W_decide 66 = .ok (.invokevirtual 252, 3) := by decide +kernel
theorem d_W_decide_69 : decode c_W_decide 69 = .ok (.iconst 1, 1) := by decide +kernel
theorem d_W_decide_70 : decode c_W_decide 70 = .ok (.invokevirtual 236, 3) := by decide +kernel
theorem d_W_decide_73 : decode c_W_decide 73 = .ok (.ireturn, 1) := by decide +kernel
theorem d_W_decide_74 : decode c_W_decide 74 = .ok (.aload_n 0, 1) := by decide +kernel
theorem d_W_decide_75 : decode c_W_decide 75 = .ok (.getfield 40, 3) := by decide +kernel
theorem d_W_decide_78 : decode c_W_decide 78 = .ok (.getfield 255, 3) := by decide +kernel
theorem d_W_decide_81 : decode c_W_decide 81 = .ok (.ifCond .ne 7, 3) := by decide +kernel
theorem d_W_decide_84 : decode c_W_decide 84 = .ok (.iconst 0, 1) := by decide +kernel
theorem d_W_decide_85 : decode c_W_decide 85 = .ok (.goto 23, 3) := by decide +kernel
theorem d_W_decide_88 : decode c_W_decide 88 = .ok (.aload_n 0, 1) := by decide +kernel
theorem d_W_decide_89 : decode c_W_decide 89 = .ok (.aload_n 0, 1) := by decide +kernel
theorem d_W_decide_90 : decode c_W_decide 90 = .ok (.getfield 36, 3) := by decide +kernel
theorem d_W_decide_93 : decode c_W_decide 93 = .ok (.iload_n 2, 1) := by decide +kernel
theorem d_W_decide_94 : decode c_W_decide 94 = .ok (.aload_n 0, 1) := by decide +kernel
theorem d_W_decide_95 : decode c_W_decide 95 = .ok (.getfield 40, 3) := by decide +kernel
theorem d_W_decide_98 : decode c_W_decide 98 = .ok (.getfield 255, 3) := by decide +kernel
theorem d_W_decide_101 : decode c_W_decide 101 = .ok (.invokevirtual 252, 3) := by decide +kernel
theorem d_W_decide_104 : decode c_W_decide 104 = .ok (.iconst 1, 1) := by decide +kernel
theorem d_W_decide_105 : decode c_W_decide 105 = .ok (.invokevirtual 236, 3) := by decide +kernel
theorem d_W_decide_108 : decode c_W_decide 108 = .ok (.ireturn, 1) := by decide +kernel
theorem d_W_decide_109 : decode c_W_decide 109 = .ok (.aload_n 0, 1) := by decide +kernel
theorem d_W_decide_110 : decode c_W_decide 110 = .ok (.iload_n 2, 1) := by decide +kernel
theorem d_W_decide_111 : decode c_W_decide 111 = .ok (.iconst 1, 1) := by decide +kernel
theorem d_W_decide_112 : decode c_W_decide 112 = .ok (.if_icmp .ne 7, 3) := by decide +kernel
theorem d_W_decide_115 : decode c_W_decide 115 = .ok (.iconst 1, 1) := by decide +kernel
theorem d_W_decide_116 : decode c_W_decide 116 = .ok (.goto 4, 3) := by decide +kernel
theorem d_W_decide_119 : decode c_W_decide 119 = .ok (.iconst 0, 1) := by decide +kernel
theorem d_W_decide_120 : decode c_W_decide 120 = .ok (.iconst 1, 1) := by decide +kernel
theorem d_W_decide_121 : decode c_W_decide 121 = .ok (.invokevirtual 236, 3) := by decide +kernel
theorem d_W_decide_124 : decode c_W_decide 124 = .ok (.ireturn, 1) := by decide +kernel
theorem d_W_create_0 : decode c_W_create 0 = .ok (.aload_n 0, 1) := by decide +kernel
theorem d_W_create_1 : decode c_W_create 1 = .ok (.getfield 29, 3) := by decide +kernel
theorem d_W_create_4 : decode c_W_create 4 = .ok (.sipush 1000, 3) := by decide +kernel
theorem d_W_create_7 : decode c_W_create 7 = .ok (.iload_n 1, 1) := by decide +kernel
theorem d_W_create_8 : decode c_W_create 8 = .ok (.iadd, 1) := by decide +kernel
theorem d_W_create_9 : decode c_W_create 9 = .ok (.invokevirtual 258, 3) := by decide +kernel
theorem d_W_create_12 : decode c_W_create 12 = .ok (.ifCond .eq 5, 3) := by decide +kernel
theorem d_W_create_15 : decode c_W_create 15 = .ok (.iconst 2, 1) := by decide +kernel
theorem d_W_create_16 : decode c_W_create 16 = .ok (.ireturn, 1) := by decide +kernel
theorem d_W_create_17 : decode c_W_create 17 = .ok (.aload_n 0, 1) := by decide +kernel
theorem d_W_create_18 : decode c_W_create 18 = .ok (.getfield 29, 3) := by decide +kernel
theorem d_W_create_21 : decode c_W_create 21 = .ok (.sipush 1000, 3) := by decide +kernel
theorem d_W_create_24 : decode c_W_create 24 = .ok (.iload_n 1, 1) := by decide +kernel
theorem d_W_create_25 : decode c_W_create 25 = .ok (.iadd, 1) := by decide +kernel
theorem d_W_create_26 : decode c_W_create 26 = .ok (.iconst 0, 1) := by decide +kernel
theorem d_W_create_27 : decode c_W_create 27 = .ok (.invokevirtual 261, 3) := by decide +kernel
theorem d_W_create_30 : decode c_W_create 30 = .ok (.aload_n 0, 1) := by decide +kernel
theorem d_W_create_31 : decode c_W_create 31 = .ok (.getfield 29, 3) := by decide +kernel
theorem d_W_create_34 : decode c_W_create 34 = .ok (.sipush 1000, 3) := by decide +kernel
theorem d_W_create_37 : decode c_W_create 37 = .ok (.iload_n 1, 1) := by decide +kernel
theorem d_W_create_38 : decode c_W_create 38 = .ok (.iadd, 1) := by decide +kernel
theorem d_W_create_39 : decode c_W_create 39 = .ok (.aload_n 0, 1) := by decide +kernel
theorem d_W_create_40 : decode c_W_create 40 = .ok (.getfield 40, 3) := by decide +kernel
theorem d_W_create_43 : decode c_W_create 43 = .ok (.getfield 116, 3) := by decide +kernel
theorem d_W_create_46 : decode c_W_create 46 = .ok (.invokevirtual 200, 3) := by decide +kernel
theorem d_W_create_49 : decode c_W_create 49 = .ok (.ireturn, 1) := by decide +kernel
end
section
theorem d_W_build_0 : decode c_W_build 0 = .ok (.aload_n 0, 1) := by decide +kernel
theorem d_W_build_1 : decode c_W_build 1 = .ok (.getfield 29, 3) := by decide +kernel
theorem d_W_build_4 : decode c_W_build 4 = .ok (.iconst 0, 1) := by decide +kernel
theorem d_W_build_5 : decode c_W_build 5 = .ok (.invokevirtual 219, 3) := by decide +kernel
theorem d_W_build_8 : decode c_W_build 8 = .ok (.istore_n 2, 1) := by decide +kernel
theorem d_W_build_9 : decode c_W_build 9 = .ok (.iload_n 2, 1) := by decide +kernel
theorem d_W_build_10 : decode c_W_build 10 = .ok (.invokestatic 264, 3) := by decide +kernel
theorem d_W_build_13 : decode c_W_build 13 = .ok (.ifCond .eq 20, 3) := by decide +kernel
theorem d_W_build_16 : decode c_W_build 16 = .ok (.aload_n 0, 1) := by decide +kernel
theorem d_W_build_17 : decode c_W_build 17 = .ok (.getfield 40, 3) := by decide +kernel
theorem d_W_build_20 : decode c_W_build 20 = .ok (.getfield 150, 3) := by decide +kernel
theorem d_W_build_23 : decode c_W_build 23 = .ok (.iload_n 2, 1) := by decide +kernel
theorem d_W_build_24 : decode c_W_build 24 = .ok (.sipush 1000, 3) := by decide +kernel
theorem d_W_build_27 : decode c_W_build 27 = .ok (.isub, 1) := by decide +kernel
theorem d_W_build_28 : decode c_W_build 28 = .ok (.iaload, 1) := by decide +kernel
theorem d_W_build_29 : decode c_W_build 29 = .ok (.iload_n 1, 1) := by decide +kernel
theorem d_W_build_30 : decode c_W_build 30 = .ok (.if_icmp .eq 5, 3) := by decide +kernel
theorem d_W_build_33 : decode c_W_build 33 = .ok (.iconst 2, 1) := by decide +kernel
theorem d_W_build_34 : decode c_W_build 34 = .ok (.ireturn, 1) := by decide +kernel
theorem d_W_build_35 : decode c_W_build 35 = .ok (.aload_n 0, 1) := by decide +kernel
theorem d_W_build_36 : decode c_W_build 36 = .ok (.getfield 29, 3) := by decide +kernel
theorem d_W_build_39 : decode c_W_build 39 = .ok (.iconst 1, 1) := by decide +kernel
theorem d_W_build_40 : decode c_W_build 40 = .ok (.invokevirtual 197, 3) := by decide +kernel
theorem d_W_build_43 : decode c_W_build 43 = .ok (.aload_n 0, 1) := by decide +kernel
theorem d_W_build_44 : decode c_W_build 44 = .ok (.getfield 29, 3) := by decide +kernel
theorem d_W_build_47 : decode c_W_build 47 = .ok (.iload_n 2, 1) := by decide +kernel
theorem d_W_build_48 : decode c_W_build 48 = .ok (.bipush 16, 2) := by decide +kernel
theorem d_W_build_50 : decode c_W_build 50 = .ok (.iload_n 1, 1) := by decide +kernel
theorem d_W_build_51 : decode c_W_build 51 = .ok (.iadd, 1) := by decide +kernel
theorem d_W_build_52 : decode c_W_build 52 = .ok (.invokevirtual 261, 3) := by decide +kernel
theorem d_W_build_55 : decode c_W_build 55 = .ok (.iconst 0, 1) := by decide +kernel
theorem d_W_build_56 : decode c_W_build 56 = .ok (.ireturn, 1) := by decide +kernel
theorem d_W_useObject_0 : decode c_W_useObject 0 = .ok (.aload_n 0, 1) := by decide +kernel
theorem d_W_useObject_1 : decode c_W_useObject 1 = .ok (.getfield 29, 3) := by decide +kernel
theorem d_W_useObject_4 : decode c_W_useObject 4 = .ok (.iconst 0, 1) := by decide +kernel
theorem d_W_useObject_5 : decode c_W_useObject 5 = .ok (.invokevirtual 219, 3) := by decide +kernel
theorem d_W_useObject_8 : decode c_W_useObject 8 = .ok (.istore 4, 2) := by decide +kernel
theorem d_W_useObject_10 : decode c_W_useObject 10 = .ok (.iload_n 1, 1) := by decide +kernel
theorem d_W_useObject_11 : decode c_W_useObject 11 = .ok (.tableswitch 108 22 24 #[25, 45, 91], 25) := by decide +kernel
theorem d_W_useObject_36 : decode c_W_useObject 36 = .ok (.aload_n 0, 1) := by decide +kernel
theorem d_W_useObject_37 : decode c_W_useObject 37 = .ok (.aload_n 0, 1) := by decide +kernel
theorem d_W_useObject_38 : decode c_W_useObject 38 = .ok (.getfield 36, 3) := by decide +kernel
theorem d_W_useObject_41 : decode c_W_useObject 41 = .ok (.iload 4, 2) := by decide +kernel
theorem d_W_useObject_43 : decode c_W_useObject 43 = .ok (.bipush 16, 2) := by decide +kernel
theorem d_W_useObject_45 : decode c_W_useObject 45 = .ok (.iload_n 2, 1) := by decide +kernel
theorem d_W_useObject_46 : decode c_W_useObject 46 = .ok (.iadd, 1) := by decide +kernel
theorem d_W_useObject_47 : decode c_W_useObject 47 = .ok (.invokevirtual 252, 3) := by decide +kernel
theorem d_W_useObject_50 : decode c_W_useObject 50 = .ok (.iconst 1, 1) := by decide +kernel
theorem d_W_useObject_51 : decode c_W_useObject 51 = .ok (.iload_n 3, 1) := by decide +kernel
theorem d_W_useObject_52 : decode c_W_useObject 52 = .ok (.invokevirtual 243, 3) := by decide +kernel
theorem d_W_useObject_55 : decode c_W_useObject 55 = .ok (.ireturn, 1) := by decide +kernel
theorem d_W_useObject_56 : decode c_W_useObject 56 = .ok (.aload_n 0, 1) := by decide +kernel
theorem d_W_useObject_57 : decode c_W_useObject 57 = .ok (.aload_n 0, 1) := by decide +kernel
theorem d_W_useObject_58 : decode c_W_useObject 58 = .ok (.getfield 36, 3) := by decide +kernel
theorem d_W_useObject_61 : decode c_W_useObject 61 = .ok (.iload 4, 2) := by decide +kernel
theorem d_W_useObject_63 : decode c_W_useObject 63 = .ok (.iload_n 3, 1) := by decide +kernel
theorem d_W_useObject_64 : decode c_W_useObject 64 = .ok (.invokevirtual 252, 3) := by decide +kernel
theorem d_W_useObject_67 : decode c_W_useObject 67 = .ok (.ifCond .eq 29, 3) := by decide +kernel
theorem d_W_useObject_70 : decode c_W_useObject 70 = .ok (.aload_n 0, 1) := by decide +kernel
theorem d_W_useObject_71 : decode c_W_useObject 71 = .ok (.getfield 36, 3) := by decide +kernel
theorem d_W_useObject_74 : decode c_W_useObject 74 = .ok (.aload_n 0, 1) := by decide +kernel
theorem d_W_useObject_75 : decode c_W_useObject 75 = .ok (.getfield 29, 3) := by decide +kernel
theorem d_W_useObject_78 : decode c_W_useObject 78 = .ok (.iconst 1, 1) := by decide +kernel
theorem d_W_useObject_79 : decode c_W_useObject 79 = .ok (.invokevirtual 219, 3) := by decide +kernel
theorem d_W_useObject_82 : decode c_W_useObject 82 = .ok (.bipush 16, 2) := by decide +kernel
theorem d_W_useObject_84 : decode c_W_useObject 84 = .ok (.iload_n 2, 1) := by decide +kernel
theorem d_W_useObject_85 : decode c_W_useObject 85 = .ok (.iadd, 1) := by decide +kernel
theorem d_W_useObject_86 : decode c_W_useObject 86 = .ok (.invokevirtual 252, 3) := by decide +kernel
theorem d_W_useObject_89 : decode c_W_useObject 89 = .ok (.ifCond .eq 7, 3) := by decide +kernel
theorem d_W_useObject_92 : decode c_W_useObject 92 = .ok (.iconst 1, 1) := by decide +kernel
theorem d_W_useObject_93 : decode c_W_useObject 93 = .ok (.goto 4, 3) := by decide +kernel
theorem d_W_useObject_96 : decode c_W_useObject 96 = .ok (.iconst 0, 1) := by decide +kernel
theorem d_W_useObject_97 : decode c_W_useObject 97 = .ok (.iconst 2, 1) := by decide +kernel
theorem d_W_useObject_98 : decode c_W_useObject 98 = .ok (.invokevirtual 236, 3) := by decide +kernel
theorem d_W_useObject_101 : decode c_W_useObject 101 = .ok (.ireturn, 1) := by decide +kernel
theorem d_W_useObject_102 : decode c_W_useObject 102 = .ok (.aload_n 0, 1) := by decide +kernel
theorem d_W_useObject_103 : decode c_W_useObject 103 = .ok (.aload_n 0, 1) := by decide +kernel
theorem d_W_useObject_104 : decode c_W_useObject 104 = .ok (.getfield 36, 3) := by decide +kernel
theorem d_W_useObject_107 : decode c_W_useObject 107 = .ok (.iload 4, 2) := by decide +kernel
theorem d_W_useObject_109 : decode c_W_useObject 109 = .ok (.iload_n 2, 1) := by decide +kernel
theorem d_W_useObject_110 : decode c_W_useObject 110 = .ok (.invokevirtual 252, 3) := by decide +kernel
theorem d_W_useObject_113 : decode c_W_useObject 113 = .ok (.iconst 1, 1) := by decide +kernel
theorem d_W_useObject_114 : decode c_W_useObject 114 = .ok (.iload_n 3, 1) := by decide +kernel
theorem d_W_useObject_115 : decode c_W_useObject 115 = .ok (.invokevirtual 243, 3) := by decide +kernel
theorem d_W_useObject_118 : decode c_W_useObject 118 = .ok (.ireturn, 1) := by decide +kernel
theorem d_W_useObject_119 : decode c_W_useObject 119 = .ok (.aload_n 0, 1) := by decide +kernel
theorem d_W_useObject_120 : decode c_W_useObject 120 = .ok (.aload_n 0, 1) := by decide +kernel
theorem d_W_useObject_121 : decode c_W_useObject 121 = .ok (.getfield 36, 3) := by decide +kernel
theorem d_W_useObject_124 : decode c_W_useObject 124 = .ok (.iload 4, 2) := by decide +kernel
theorem d_W_useObject_126 : decode c_W_useObject 126 = .ok (.invokevirtual 247, 3) := by decide +kernel
theorem d_W_useObject_129 : decode c_W_useObject 129 = .ok (.iconst 1, 1) := by decide +kernel
theorem d_W_useObject_130 : decode c_W_useObject 130 = .ok (.iload_n 2, 1) := by decide +kernel
theorem d_W_useObject_131 : decode c_W_useObject 131 = .ok (.invokevirtual 243, 3) := by decide +kernel
theorem d_W_useObject_134 : decode c_W_useObject 134 = .ok (.ireturn, 1) := by decide +kernel
theorem d_W_useRow_0 : decode c_W_useRow 0 = .ok (.aload_n 0, 1) := by decide +kernel
theorem d_W_useRow_1 : decode c_W_useRow 1 = .ok (.getfield 29, 3) := by decide +kernel
theorem d_W_useRow_4 : decode c_W_useRow 4 = .ok (.iconst 0, 1) := by decide +kernel
theorem d_W_useRow_5 : decode c_W_useRow 5 = .ok (.invokevirtual 219, 3) := by decide +kernel
theorem d_W_useRow_8 : decode c_W_useRow 8 = .ok (.istore_n 3, 1) := by decide +kernel
theorem d_W_useRow_9 : decode c_W_useRow 9 = .ok (.iload_n 1, 1) := by decide +kernel
theorem d_W_useRow_10 : decode c_W_useRow 10 = .ok (.tableswitch 134 26 28 #[26, 46, 81], 26) := by decide +kernel
theorem d_W_useRow_36 : decode c_W_useRow 36 = .ok (.aload_n 0, 1) := by decide +kernel
theorem d_W_useRow_37 : decode c_W_useRow 37 = .ok (.iload_n 3, 1) := by decide +kernel
theorem d_W_useRow_38 : decode c_W_useRow 38 = .ok (.iconst 1, 1) := by decide +kernel
theorem d_W_useRow_39 : decode c_W_useRow 39 = .ok (.if_icmp .ne 7, 3) := by decide +kernel
theorem d_W_useRow_42 : decode c_W_useRow 42 = .ok (.iconst 1, 1) := by decide +kernel
theorem d_W_useRow_43 : decode c_W_useRow 43 = .ok (.goto 4, 3) := by decide +kernel
theorem d_W_useRow_46 : decode c_W_useRow 46 = .ok (.iconst 0, 1) := by decide +kernel
theorem d_W_useRow_47 : decode c_W_useRow 47 = .ok (.iconst 1, 1) := by decide +kernel
theorem d_W_useRow_48 : decode c_W_useRow 48 = .ok (.iload_n 2, 1) := by decide +kernel
theorem d_W_useRow_49 : decode c_W_useRow 49 = .ok (.bipush 64, 2) := by decide +kernel
theorem d_W_useRow_51 : decode c_W_useRow 51 = .ok (.iadd, 1) := by decide +kernel
theorem d_W_useRow_52 : decode c_W_useRow 52 = .ok (.invokevirtual 243, 3) := by decide +kernel
theorem d_W_useRow_55 : decode c_W_useRow 55 = .ok (.ireturn, 1) := by decide +kernel
theorem d_W_useRow_56 : decode c_W_useRow 56 = .ok (.aload_n 0, 1) := by decide +kernel
theorem d_W_useRow_57 : decode c_W_useRow 57 = .ok (.iload_n 3, 1) := by decide +kernel
theorem d_W_useRow_58 : decode c_W_useRow 58 = .ok (.iconst 1, 1) := by decide +kernel
theorem d_W_useRow_59 : decode c_W_useRow 59 = .ok (.if_icmp .ne 22, 3) := by decide +kernel
theorem d_W_useRow_62 : decode c_W_useRow 62 = .ok (.aload_n 0, 1) := by decide +kernel
theorem d_W_useRow_63 : decode c_W_useRow 63 = .ok (.getfield 29, 3) := by decide +kernel
theorem d_W_useRow_66 : decode c_W_useRow 66 = .ok (.iconst 1, 1) := by decide +kernel
theorem d_W_useRow_67 : decode c_W_useRow 67 = .ok (.invokevirtual 219, 3) := by decide +kernel
theorem d_W_useRow_70 : decode c_W_useRow 70 = .ok (.iload_n 2, 1) := by decide +kernel
theorem d_W_useRow_71 : decode c_W_useRow 71 = .ok (.invokestatic 267, 3) := by decide +kernel
theorem d_W_useRow_74 : decode c_W_useRow 74 = .ok (.ifCond .eq 7, 3) := by decide +kernel
theorem d_W_useRow_77 : decode c_W_useRow 77 = .ok (.iconst 1, 1) := by decide +kernel
theorem d_W_useRow_78 : decode c_W_useRow 78 = .ok (.goto 4, 3) := by decide +kernel
theorem d_W_useRow_81 : decode c_W_useRow 81 = .ok (.iconst 0, 1) := by decide +kernel
theorem d_W_useRow_82 : decode c_W_useRow 82 = .ok (.iconst 2, 1) := by decide +kernel
theorem d_W_useRow_83 : decode c_W_useRow 83 = .ok (.iload_n 2, 1) := by decide +kernel
theorem d_W_useRow_84 : decode c_W_useRow 84 = .ok (.invokestatic 270, 3) := by decide +kernel
theorem d_W_useRow_87 : decode c_W_useRow 87 = .ok (.invokevirtual 243, 3) := by decide +kernel
theorem d_W_useRow_90 : decode c_W_useRow 90 = .ok (.ireturn, 1) := by decide +kernel
theorem d_W_useRow_91 : decode c_W_useRow 91 = .ok (.aload_n 0, 1) := by decide +kernel
theorem d_W_useRow_92 : decode c_W_useRow 92 = .ok (.aload_n 0, 1) := by decide +kernel
theorem d_W_useRow_93 : decode c_W_useRow 93 = .ok (.getfield 36, 3) := by decide +kernel
theorem d_W_useRow_96 : decode c_W_useRow 96 = .ok (.iload_n 3, 1) := by decide +kernel
theorem d_W_useRow_97 : decode c_W_useRow 97 = .ok (.iload_n 2, 1) := by decide +kernel
theorem d_W_useRow_98 : decode c_W_useRow 98 = .ok (.invokestatic 270, 3) := by decide +kernel
theorem d_W_useRow_101 : decode c_W_useRow 101 = .ok (.invokevirtual 252, 3) := by decide +kernel
theorem d_W_useRow_104 : decode c_W_useRow 104 = .ok (.ifCond .eq 34, 3) := by decide +kernel
theorem d_W_useRow_107 : decode c_W_useRow 107 = .ok (.aload_n 0, 1) := by decide +kernel
theorem d_W_useRow_108 : decode c_W_useRow 108 = .ok (.getfield 29, 3) := by decide +kernel
theorem d_W_useRow_111 : decode c_W_useRow 111 = .ok (.iconst 1, 1) := by decide +kernel
theorem d_W_useRow_112 : decode c_W_useRow 112 = .ok (.invokevirtual 219, 3) := by decide +kernel
theorem d_W_useRow_115 : decode c_W_useRow 115 = .ok (.iconst 1, 1) := by decide +kernel
theorem d_W_useRow_116 : decode c_W_useRow 116 = .ok (.if_icmp .ne 22, 3) := by decide +kernel
theorem d_W_useRow_119 : decode c_W_useRow 119 = .ok (.aload_n 0, 1) := by decide +kernel
theorem d_W_useRow_120 : decode c_W_useRow 120 = .ok (.getfield 29, 3) := by decide +kernel
theorem d_W_useRow_123 : decode c_W_useRow 123 = .ok (.iconst 2, 1) := by decide +kernel
theorem d_W_useRow_124 : decode c_W_useRow 124 = .ok (.invokevirtual 219, 3) := by decide +kernel
theorem d_W_useRow_127 : decode c_W_useRow 127 = .ok (.iload_n 2, 1) := by decide +kernel
theorem d_W_useRow_128 : decode c_W_useRow 128 = .ok (.invokestatic 267, 3) := by decide +kernel
theorem d_W_useRow_131 : decode c_W_useRow 131 = .ok (.ifCond .eq 7, 3) := by decide +kernel
theorem d_W_useRow_134 : decode c_W_useRow 134 = .ok (.iconst 1, 1) := by decide +kernel
theorem d_W_useRow_135 : decode c_W_useRow 135 = .ok (.goto 4, 3) := by decide +kernel
theorem d_W_useRow_138 : decode c_W_useRow 138 = .ok (.iconst 0, 1) := by decide +kernel
theorem d_W_useRow_139 : decode c_W_useRow 139 = .ok (.iconst 3, 1) := by decide +kernel
theorem d_W_useRow_140 : decode c_W_useRow 140 = .ok (.invokevirtual 236, 3) := by decide +kernel
theorem d_W_useRow_143 : decode c_W_useRow 143 = .ok (.ireturn, 1) := by decide +kernel
theorem d_W_useRow_144 : decode c_W_useRow 144 = .ok (.aload_n 0, 1) := by decide +kernel
theorem d_W_useRow_145 : decode c_W_useRow 145 = .ok (.iload_n 3, 1) := by decide +kernel
theorem d_W_useRow_146 : decode c_W_useRow 146 = .ok (.iconst 5, 1) := by decide +kernel
theorem d_W_useRow_147 : decode c_W_useRow 147 = .ok (.if_icmp .eq 14, 3) := by decide +kernel
theorem d_W_useRow_150 : decode c_W_useRow 150 = .ok (.aload_n 0, 1) := by decide +kernel
theorem d_W_useRow_151 : decode c_W_useRow 151 = .ok (.getfield 36, 3) := by decide +kernel
theorem d_W_useRow_154 : decode c_W_useRow 154 = .ok (.iload_n 3, 1) := by decide +kernel
theorem d_W_useRow_155 : decode c_W_useRow 155 = .ok (.invokevirtual 273, 3) := by decide +kernel
theorem d_W_useRow_158 : decode c_W_useRow 158 = .ok (.ifCond .eq 7, 3) := by decide +kernel
theorem d_W_useRow_161 : decode c_W_useRow 161 = .ok (.iconst 1, 1) := by decide +kernel
theorem d_W_useRow_162 : decode c_W_useRow 162 = .ok (.goto 4, 3) := by decide +kernel
theorem d_W_useRow_165 : decode c_W_useRow 165 = .ok (.iconst 0, 1) := by decide +kernel
theorem d_W_useRow_166 : decode c_W_useRow 166 = .ok (.iconst 1, 1) := by decide +kernel
theorem d_W_useRow_167 : decode c_W_useRow 167 = .ok (.iconst 1, 1) := by decide +kernel
theorem d_W_useRow_168 : decode c_W_useRow 168 = .ok (.invokevirtual 243, 3) := by decide +kernel
theorem d_W_useRow_171 : decode c_W_useRow 171 = .ok (.ireturn, 1) := by decide +kernel
theorem d_W_isRowOf_0 : decode c_W_isRowOf 0 = .ok (.iload_n 0, 1) := by decide +kernel
theorem d_W_isRowOf_1 : decode c_W_isRowOf 1 = .ok (.iconst 5, 1) := by decide +kernel
theorem d_W_isRowOf_2 : decode c_W_isRowOf 2 = .ok (.if_icmp .eq 8, 3) := by decide +kernel
theorem d_W_isRowOf_5 : decode c_W_isRowOf 5 = .ok (.iload_n 0, 1) := by decide +kernel
theorem d_W_isRowOf_6 : decode c_W_isRowOf 6 = .ok (.iload_n 1, 1) := by decide +kernel
theorem d_W_isRowOf_7 : decode c_W_isRowOf 7 = .ok (.if_icmp .ne 7, 3) := by decide +kernel
theorem d_W_isRowOf_10 : decode c_W_isRowOf 10 = .ok (.iconst 1, 1) := by decide +kernel
theorem d_W_isRowOf_11 : decode c_W_isRowOf 11 = .ok (.goto 4, 3) := by decide +kernel
theorem d_W_isRowOf_14 : decode c_W_isRowOf 14 = .ok (.iconst 0, 1) := by decide +kernel
theorem d_W_isRowOf_15 : decode c_W_isRowOf 15 = .ok (.ireturn, 1) := by decide +kernel
theorem d_W_elementOf_0 : decode c_W_elementOf 0 = .ok (.iload_n 0, 1) := by decide +kernel
theorem d_W_elementOf_1 : decode c_W_elementOf 1 = .ok (.bipush 76, 2) := by decide +kernel
theorem d_W_elementOf_3 : decode c_W_elementOf 3 = .ok (.if_icmp .ne 7, 3) := by decide +kernel
theorem d_W_elementOf_6 : decode c_W_elementOf 6 = .ok (.iconst 1, 1) := by decide +kernel
theorem d_W_elementOf_7 : decode c_W_elementOf 7 = .ok (.goto 7, 3) := by decide +kernel
theorem d_W_elementOf_10 : decode c_W_elementOf 10 = .ok (.iload_n 0, 1) := by decide +kernel
theorem d_W_elementOf_11 : decode c_W_elementOf 11 = .ok (.bipush 64, 2) := by decide +kernel
theorem d_W_elementOf_13 : decode c_W_elementOf 13 = .ok (.isub, 1) := by decide +kernel
theorem d_W_elementOf_14 : decode c_W_elementOf 14 = .ok (.ireturn, 1) := by decide +kernel
theorem d_O_init_0 : decode c_O_init 0 = .ok (.aload_n 0, 1) := by decide +kernel
theorem d_O_init_1 : decode c_O_init 1 = .ok (.invokespecial 3, 3) := by decide +kernel
theorem d_O_init_4 : decode c_O_init 4 = .ok (.aload_n 0, 1) := by decide +kernel
theorem d_O_init_5 : decode c_O_init 5 = .ok (.aload_n 1, 1) := by decide +kernel
theorem d_O_init_6 : decode c_O_init 6 = .ok (.putfield 9, 3) := by decide +kernel
theorem d_O_init_9 : decode c_O_init 9 = .ok (.aload_n 0, 1) := by decide +kernel
theorem d_O_init_10 : decode c_O_init 10 = .ok (.aload_n 2, 1) := by decide +kernel
theorem d_O_init_11 : decode c_O_init 11 = .ok (.putfield 15, 3) := by decide +kernel
theorem d_O_init_14 : decode c_O_init 14 = .ok (.return_, 1) := by decide +kernel
theorem d_O_findFault_0 : decode c_O_findFault 0 = .ok (.aload_n 0, 1) := by decide +kernel
theorem d_O_findFault_1 : decode c_O_findFault 1 = .ok (.getfield 15, 3) := by decide +kernel
theorem d_O_findFault_4 : decode c_O_findFault 4 = .ok (.getfield 19, 3) := by decide +kernel
theorem d_O_findFault_7 : decode c_O_findFault 7 = .ok (.ifCond .ne 5, 3) := by decide +kernel
theorem d_O_findFault_10 : decode c_O_findFault 10 = .ok (.iconst 0, 1) := by decide +kernel
theorem d_O_findFault_11 : decode c_O_findFault 11 = .ok (.ireturn, 1) := by decide +kernel
theorem d_O_findFault_12 : decode c_O_findFault 12 = .ok (.iconst 0, 1) := by decide +kernel
theorem d_O_findFault_13 : decode c_O_findFault 13 = .ok (.istore_n 1, 1) := by decide +kernel
theorem d_O_findFault_14 : decode c_O_findFault 14 = .ok (.iload_n 1, 1) := by decide +kernel
theorem d_O_findFault_15 : decode c_O_findFault 15 = .ok (.aload_n 0, 1) := by decide +kernel
theorem d_O_findFault_16 : decode c_O_findFault 16 = .ok (.getfield 15, 3) := by decide +kernel
theorem d_O_findFault_19 : decode c_O_findFault 19 = .ok (.getfield 19, 3) := by decide +kernel
theorem d_O_findFault_22 : decode c_O_findFault 22 = .ok (.if_icmp .ge 45, 3) := by decide +kernel
theorem d_O_findFault_25 : decode c_O_findFault 25 = .ok (.aload_n 0, 1) := by decide +kernel
theorem d_O_findFault_26 : decode c_O_findFault 26 = .ok (.aload_n 0, 1) := by decide +kernel
theorem d_O_findFault_27 : decode c_O_findFault 27 = .ok (.getfield 15, 3) := by decide +kernel
theorem d_O_findFault_30 : decode c_O_findFault 30 = .ok (.getfield 25, 3) := by decide +kernel
theorem d_O_findFault_33 : decode c_O_findFault 33 = .ok (.iload_n 1, 1) := by decide +kernel
theorem d_O_findFault_34 : decode c_O_findFault 34 = .ok (.iaload, 1) := by decide +kernel
theorem d_O_findFault_35 : decode c_O_findFault 35 = .ok (.aload_n 0, 1) := by decide +kernel
theorem d_O_findFault_36 : decode c_O_findFault 36 = .ok (.getfield 15, 3) := by decide +kernel
theorem d_O_findFault_39 : decode c_O_findFault 39 = .ok (.getfield 29, 3) := by decide +kernel
theorem d_O_findFault_42 : decode c_O_findFault 42 = .ok (.iload_n 1, 1) := by decide +kernel
theorem d_O_findFault_43 : decode c_O_findFault 43 = .ok (.iaload, 1) := by decide +kernel
theorem d_O_findFault_44 : decode c_O_findFault 44 = .ok (.aload_n 0, 1) := by decide +kernel
theorem d_O_findFault_45 : decode c_O_findFault 45 = .ok (.getfield 15, 3) := by decide +kernel
theorem d_O_findFault_48 : decode c_O_findFault 48 = .ok (.getfield 32, 3) := by decide +kernel
theorem d_O_findFault_51 : decode c_O_findFault 51 = .ok (.iload_n 1, 1) := by decide +kernel
theorem d_O_findFault_52 : decode c_O_findFault 52 = .ok (.iaload, 1) := by decide +kernel
theorem d_O_findFault_53 : decode c_O_findFault 53 = .ok (.invokevirtual 35, 3) := by decide +kernel
theorem d_O_findFault_56 : decode c_O_findFault 56 = .ok (.ifCond .ne 5, 3) := by decide +kernel
theorem d_O_findFault_59 : decode c_O_findFault 59 = .ok (.iload_n 1, 1) := by decide +kernel
theorem d_O_findFault_60 : decode c_O_findFault 60 = .ok (.ireturn, 1) := by decide +kernel
theorem d_O_findFault_61 : decode c_O_findFault 61 = .ok (.iinc 1 1, 3) := by decide +kernel
theorem d_O_findFault_64 : decode c_O_findFault 64 = .ok (.goto (-50), 3) := by decide +kernel
theorem d_O_findFault_67 : decode c_O_findFault 67 = .ok (.iconst 0, 1) := by decide +kernel
theorem d_O_findFault_68 : decode c_O_findFault 68 = .ok (.istore_n 1, 1) := by decide +kernel
theorem d_O_findFault_69 : decode c_O_findFault 69 = .ok (.iload_n 1, 1) := by decide +kernel
theorem d_O_findFault_70 : decode c_O_findFault 70 = .ok (.aload_n 0, 1) := by decide +kernel
theorem d_O_findFault_71 : decode c_O_findFault 71 = .ok (.getfield 15, 3) := by decide +kernel
theorem d_O_findFault_74 : decode c_O_findFault 74 = .ok (.getfield 39, 3) := by decide +kernel
theorem d_O_findFault_77 : decode c_O_findFault 77 = .ok (.if_icmp .ge 22, 3) := by decide +kernel
theorem d_O_findFault_80 : decode c_O_findFault 80 = .ok (.aload_n 0, 1) := by decide +kernel
theorem d_O_findFault_81 : decode c_O_findFault 81 = .ok (.iload_n 1, 1) := by decide +kernel
theorem d_O_findFault_82 : decode c_O_findFault 82 = .ok (.invokevirtual 42, 3) := by decide +kernel
theorem d_O_findFault_85 : decode c_O_findFault 85 = .ok (.ifCond .ne 8, 3) := by decide +kernel
theorem d_O_findFault_88 : decode c_O_findFault 88 = .ok (.bipush 100, 2) := by decide +kernel
theorem d_O_findFault_90 : decode c_O_findFault 90 = .ok (.iload_n 1, 1) := by decide +kernel
theorem d_O_findFault_91 : decode c_O_findFault 91 = .ok (.iadd, 1) := by decide +kernel
theorem d_O_findFault_92 : decode c_O_findFault 92 = .ok (.ireturn, 1) := by decide +kernel
theorem d_O_findFault_93 : decode c_O_findFault 93 = .ok (.iinc 1 1, 3) := by decide +kernel
theorem d_O_findFault_96 : decode c_O_findFault 96 = .ok (.goto (-27), 3) := by decide +kernel
theorem d_O_findFault_99 : decode c_O_findFault 99 = .ok (.aload_n 0, 1) := by decide +kernel
theorem d_O_findFault_100 : decode c_O_findFault 100 = .ok (.invokevirtual 46, 3) := by decide +kernel
theorem d_O_findFault_103 : decode c_O_findFault 103 = .ok (.ifCond .eq 7, 3) := by decide +kernel
theorem d_O_findFault_106 : decode c_O_findFault 106 = .ok (.iconst (-1), 1) := by decide +kernel
theorem d_O_findFault_107 : decode c_O_findFault 107 = .ok (.goto 6, 3) := by decide +kernel
theorem d_O_findFault_110 : decode c_O_findFault 110 = .ok (.sipush 200, 3) := by decide +kernel
theorem d_O_findFault_113 : decode c_O_findFault 113 = .ok (.ireturn, 1) := by decide +kernel
theorem d_O_isWellFormed_0 : decode c_O_isWellFormed 0 = .ok (.iload_n 1, 1) := by decide +kernel
theorem d_O_isWellFormed_1 : decode c_O_isWellFormed 1 = .ok (.tableswitch 351 1 30 #[135, 151, 151, 351, 351, 351, 351, 351, 160, 165, 185, 201, 201, 201, 201, 151, 210, 351, 351, 238, 238, 247, 247, 275, 303, 312, 342, 342, 351, 151], 135) := by decide +kernel
theorem d_O_isWellFormed_136 : decode c_O_isWellFormed 136 = .ok (.iload_n 2, 1) := by decide +kernel
theorem d_O_isWellFormed_137 : decode c_O_isWellFormed 137 = .ok (.iconst 1, 1) := by decide +kernel
theorem d_O_isWellFormed_138 : decode c_O_isWellFormed 138 = .ok (.if_icmp .lt 12, 3) := by decide +kernel
theorem d_O_isWellFormed_141 : decode c_O_isWellFormed 141 = .ok (.iload_n 2, 1) := by decide +kernel
theorem d_O_isWellFormed_142 : decode c_O_isWellFormed 142 = .ok (.iconst 5, 1) := by decide +kernel
theorem d_O_isWellFormed_143 : decode c_O_isWellFormed 143 = .ok (.if_icmp .gt 7, 3) := by decide +kernel
theorem d_O_isWellFormed_146 : decode c_O_isWellFormed 146 = .ok (.iconst 1, 1) := by decide +kernel
theorem d_O_isWellFormed_147 : decode c_O_isWellFormed 147 = .ok (.goto 4, 3) := by decide +kernel
theorem d_O_isWellFormed_150 : decode c_O_isWellFormed 150 = .ok (.iconst 0, 1) := by decide +kernel
theorem d_O_isWellFormed_151 : decode c_O_isWellFormed 151 = .ok (.ireturn, 1) := by decide +kernel
theorem d_O_isWellFormed_152 : decode c_O_isWellFormed 152 = .ok (.aload_n 0, 1) := by decide +kernel
theorem d_O_isWellFormed_153 : decode c_O_isWellFormed 153 = .ok (.getfield 15, 3) := by decide +kernel
theorem d_O_isWellFormed_156 : decode c_O_isWellFormed 156 = .ok (.iload_n 2, 1) := by decide +kernel
theorem d_O_isWellFormed_157 : decode c_O_isWellFormed 157 = .ok (.invokevirtual 50, 3) := by decide +kernel
theorem d_O_isWellFormed_160 : decode c_O_isWellFormed 160 = .ok (.ireturn, 1) := by decide +kernel
theorem d_O_isWellFormed_161 : decode c_O_isWellFormed 161 = .ok (.iload_n 2, 1) := by decide +kernel
theorem d_O_isWellFormed_162 : decode c_O_isWellFormed 162 = .ok (.invokestatic 53, 3) := by decide +kernel
theorem d_O_isWellFormed_165 : decode c_O_isWellFormed 165 = .ok (.ireturn, 1) := by decide +kernel
theorem d_O_isWellFormed_166 : decode c_O_isWellFormed 166 = .ok (.iload_n 2, 1) := by decide +kernel
theorem d_O_isWellFormed_167 : decode c_O_isWellFormed 167 = .ok (.invokestatic 53, 3) := by decide +kernel
theorem d_O_isWellFormed_170 : decode c_O_isWellFormed 170 = .ok (.ifCond .eq 14, 3) := by decide +kernel
theorem d_O_isWellFormed_173 : decode c_O_isWellFormed 173 = .ok (.iload_n 3, 1) := by decide +kernel
theorem d_O_isWellFormed_174 : decode c_O_isWellFormed 174 = .ok (.invokestatic 53, 3) := by decide +kernel
theorem d_O_isWellFormed_177 : decode c_O_isWellFormed 177 = .ok (.ifCond .eq 7, 3) := by decide +kernel
theorem d_O_isWellFormed_180 : decode c_O_isWellFormed 180 = .ok (.iconst 1, 1) := by decide +kernel
theorem d_O_isWellFormed_181 : decode c_O_isWellFormed 181 = .ok (.goto 4, 3) := by decide +kernel
theorem d_O_isWellFormed_184 : decode c_O_isWellFormed 184 = .ok (.iconst 0, 1) := by decide +kernel
theorem d_O_isWellFormed_185 : decode c_O_isWellFormed 185 = .ok (.ireturn, 1) := by decide +kernel
theorem d_O_isWellFormed_186 : decode c_O_isWellFormed 186 = .ok (.iload_n 2, 1) := by decide +kernel
theorem d_O_isWellFormed_187 : decode c_O_isWellFormed 187 = .ok (.iconst 2, 1) := by decide +kernel
theorem d_O_isWellFormed_188 : decode c_O_isWellFormed 188 = .ok (.if_icmp .lt 12, 3) := by decide +kernel
theorem d_O_isWellFormed_191 : decode c_O_isWellFormed 191 = .ok (.iload_n 2, 1) := by decide +kernel
theorem d_O_isWellFormed_192 : decode c_O_isWellFormed 192 = .ok (.iconst 4, 1) := by decide +kernel
theorem d_O_isWellFormed_193 : decode c_O_isWellFormed 193 = .ok (.if_icmp .gt 7, 3) := by decide +kernel
theorem d_O_isWellFormed_196 : decode c_O_isWellFormed 196 = .ok (.iconst 1, 1) := by decide +kernel
theorem d_O_isWellFormed_197 : decode c_O_isWellFormed 197 = .ok (.goto 4, 3) := by decide +kernel
theorem d_O_isWellFormed_200 : decode c_O_isWellFormed 200 = .ok (.iconst 0, 1) := by decide +kernel
theorem d_O_isWellFormed_201 : decode c_O_isWellFormed 201 = .ok (.ireturn, 1) := by decide +kernel
theorem d_O_isWellFormed_202 : decode c_O_isWellFormed 202 = .ok (.aload_n 0, 1) := by decide +kernel
theorem d_O_isWellFormed_203 : decode c_O_isWellFormed 203 = .ok (.getfield 15, 3) := by decide +kernel
theorem d_O_isWellFormed_206 : decode c_O_isWellFormed 206 = .ok (.iload_n 3, 1) := by decide +kernel
theorem d_O_isWellFormed_207 : decode c_O_isWellFormed 207 = .ok (.invokevirtual 56, 3) := by decide +kernel
theorem d_O_isWellFormed_210 : decode c_O_isWellFormed 210 = .ok (.ireturn, 1) := by decide +kernel
theorem d_O_isWellFormed_211 : decode c_O_isWellFormed 211 = .ok (.aload_n 0, 1) := by decide +kernel
theorem d_O_isWellFormed_212 : decode c_O_isWellFormed 212 = .ok (.getfield 15, 3) := by decide +kernel
theorem d_O_isWellFormed_215 : decode c_O_isWellFormed 215 = .ok (.iload_n 2, 1) := by decide +kernel
theorem d_O_isWellFormed_216 : decode c_O_isWellFormed 216 = .ok (.invokevirtual 56, 3) := by decide +kernel
theorem d_O_isWellFormed_219 : decode c_O_isWellFormed 219 = .ok (.ifCond .eq 18, 3) := by decide +kernel
theorem d_O_isWellFormed_222 : decode c_O_isWellFormed 222 = .ok (.aload_n 0, 1) := by decide +kernel
theorem d_O_isWellFormed_223 : decode c_O_isWellFormed 223 = .ok (.getfield 15, 3) := by decide +kernel
theorem d_O_isWellFormed_226 : decode c_O_isWellFormed 226 = .ok (.iload_n 3, 1) := by decide +kernel
theorem d_O_isWellFormed_227 : decode c_O_isWellFormed 227 = .ok (.invokevirtual 56, 3) := by decide +kernel
theorem d_O_isWellFormed_230 : decode c_O_isWellFormed 230 = .ok (.ifCond .eq 7, 3) := by decide +kernel
theorem d_O_isWellFormed_233 : decode c_O_isWellFormed 233 = .ok (.iconst 1, 1) := by decide +kernel
theorem d_O_isWellFormed_234 : decode c_O_isWellFormed 234 = .ok (.goto 4, 3) := by decide +kernel
theorem d_O_isWellFormed_237 : decode c_O_isWellFormed 237 = .ok (.iconst 0, 1) := by decide +kernel
theorem d_O_isWellFormed_238 : decode c_O_isWellFormed 238 = .ok (.ireturn, 1) := by decide +kernel
theorem d_O_isWellFormed_239 : decode c_O_isWellFormed 239 = .ok (.aload_n 0, 1) := by decide +kernel
theorem d_O_isWellFormed_240 : decode c_O_isWellFormed 240 = .ok (.getfield 9, 3) := by decide +kernel
theorem d_O_isWellFormed_243 : decode c_O_isWellFormed 243 = .ok (.iload_n 2, 1) := by decide +kernel
theorem d_O_isWellFormed_244 : decode c_O_isWellFormed 244 = .ok (.invokevirtual 59, 3) := by decide +kernel
theorem d_O_isWellFormed_247 : decode c_O_isWellFormed 247 = .ok (.ireturn, 1) := by decide +kernel
theorem d_O_isWellFormed_248 : decode c_O_isWellFormed 248 = .ok (.aload_n 0, 1) := by decide +kernel
theorem d_O_isWellFormed_249 : decode c_O_isWellFormed 249 = .ok (.getfield 9, 3) := by decide +kernel
theorem d_O_isWellFormed_252 : decode c_O_isWellFormed 252 = .ok (.iload_n 2, 1) := by decide +kernel
theorem d_O_isWellFormed_253 : decode c_O_isWellFormed 253 = .ok (.invokevirtual 59, 3) := by decide +kernel
theorem d_O_isWellFormed_256 : decode c_O_isWellFormed 256 = .ok (.ifCond .eq 18, 3) := by decide +kernel
theorem d_O_isWellFormed_259 : decode c_O_isWellFormed 259 = .ok (.aload_n 0, 1) := by decide +kernel
theorem d_O_isWellFormed_260 : decode c_O_isWellFormed 260 = .ok (.getfield 9, 3) := by decide +kernel
theorem d_O_isWellFormed_263 : decode c_O_isWellFormed 263 = .ok (.iload_n 3, 1) := by decide +kernel
theorem d_O_isWellFormed_264 : decode c_O_isWellFormed 264 = .ok (.invokevirtual 64, 3) := by decide +kernel
theorem d_O_isWellFormed_267 : decode c_O_isWellFormed 267 = .ok (.ifCond .eq 7, 3) := by decide +kernel
theorem d_O_isWellFormed_270 : decode c_O_isWellFormed 270 = .ok (.iconst 1, 1) := by decide +kernel
theorem d_O_isWellFormed_271 : decode c_O_isWellFormed 271 = .ok (.goto 4, 3) := by decide +kernel
theorem d_O_isWellFormed_274 : decode c_O_isWellFormed 274 = .ok (.iconst 0, 1) := by decide +kernel
theorem d_O_isWellFormed_275 : decode c_O_isWellFormed 275 = .ok (.ireturn, 1) := by decide +kernel
theorem d_O_isWellFormed_276 : decode c_O_isWellFormed 276 = .ok (.aload_n 0, 1) := by decide +kernel
theorem d_O_isWellFormed_277 : decode c_O_isWellFormed 277 = .ok (.getfield 9, 3) := by decide +kernel
theorem d_O_isWellFormed_280 : decode c_O_isWellFormed 280 = .ok (.iload_n 2, 1) := by decide +kernel
theorem d_O_isWellFormed_281 : decode c_O_isWellFormed 281 = .ok (.invokevirtual 64, 3) := by decide +kernel
theorem d_O_isWellFormed_284 : decode c_O_isWellFormed 284 = .ok (.ifCond .eq 18, 3) := by decide +kernel
theorem d_O_isWellFormed_287 : decode c_O_isWellFormed 287 = .ok (.aload_n 0, 1) := by decide +kernel
theorem d_O_isWellFormed_288 : decode c_O_isWellFormed 288 = .ok (.getfield 9, 3) := by decide +kernel
theorem d_O_isWellFormed_291 : decode c_O_isWellFormed 291 = .ok (.iload_n 3, 1) := by decide +kernel
theorem d_O_isWellFormed_292 : decode c_O_isWellFormed 292 = .ok (.invokevirtual 64, 3) := by decide +kernel
theorem d_O_isWellFormed_295 : decode c_O_isWellFormed 295 = .ok (.ifCond .eq 7, 3) := by decide +kernel
theorem d_O_isWellFormed_298 : decode c_O_isWellFormed 298 = .ok (.iconst 1, 1) := by decide +kernel
theorem d_O_isWellFormed_299 : decode c_O_isWellFormed 299 = .ok (.goto 4, 3) := by decide +kernel
theorem d_O_isWellFormed_302 : decode c_O_isWellFormed 302 = .ok (.iconst 0, 1) := by decide +kernel
theorem d_O_isWellFormed_303 : decode c_O_isWellFormed 303 = .ok (.ireturn, 1) := by decide +kernel
theorem d_O_isWellFormed_304 : decode c_O_isWellFormed 304 = .ok (.aload_n 0, 1) := by decide +kernel
theorem d_O_isWellFormed_305 : decode c_O_isWellFormed 305 = .ok (.getfield 9, 3) := by decide +kernel
theorem d_O_isWellFormed_308 : decode c_O_isWellFormed 308 = .ok (.iload_n 2, 1) := by decide +kernel
theorem d_O_isWellFormed_309 : decode c_O_isWellFormed 309 = .ok (.invokevirtual 67, 3) := by decide +kernel
theorem d_O_isWellFormed_312 : decode c_O_isWellFormed 312 = .ok (.ireturn, 1) := by decide +kernel
theorem d_O_isWellFormed_313 : decode c_O_isWellFormed 313 = .ok (.iload_n 2, 1) := by decide +kernel
theorem d_O_isWellFormed_314 : decode c_O_isWellFormed 314 = .ok (.bipush 12, 2) := by decide +kernel
theorem d_O_isWellFormed_316 : decode c_O_isWellFormed 316 = .ok (.if_icmp .eq 21, 3) := by decide +kernel
theorem d_O_isWellFormed_319 : decode c_O_isWellFormed 319 = .ok (.iload_n 2, 1) := by decide +kernel
theorem d_O_isWellFormed_320 : decode c_O_isWellFormed 320 = .ok (.sipush 192, 3) := by decide +kernel
theorem d_O_isWellFormed_323 : decode c_O_isWellFormed 323 = .ok (.if_icmp .ge 18, 3) := by decide +kernel
theorem d_O_isWellFormed_326 : decode c_O_isWellFormed 326 = .ok (.aload_n 0, 1) := by decide +kernel
theorem d_O_isWellFormed_327 : decode c_O_isWellFormed 327 = .ok (.getfield 9, 3) := by decide +kernel
theorem d_O_isWellFormed_330 : decode c_O_isWellFormed 330 = .ok (.iload_n 2, 1) := by decide +kernel
theorem d_O_isWellFormed_331 : decode c_O_isWellFormed 331 = .ok (.invokevirtual 67, 3) := by decide +kernel
theorem d_O_isWellFormed_334 : decode c_O_isWellFormed 334 = .ok (.ifCond .eq 7, 3) := by decide +kernel
theorem d_O_isWellFormed_337 : decode c_O_isWellFormed 337 = .ok (.iconst 1, 1) := by decide +kernel
theorem d_O_isWellFormed_338 : decode c_O_isWellFormed 338 = .ok (.goto 4, 3) := by decide +kernel
theorem d_O_isWellFormed_341 : decode c_O_isWellFormed 341 = .ok (.iconst 0, 1) := by decide +kernel
theorem d_O_isWellFormed_342 : decode c_O_isWellFormed 342 = .ok (.ireturn, 1) := by decide +kernel
theorem d_O_isWellFormed_343 : decode c_O_isWellFormed 343 = .ok (.aload_n 0, 1) := by decide +kernel
theorem d_O_isWellFormed_344 : decode c_O_isWellFormed 344 = .ok (.getfield 9, 3) := by decide +kernel
theorem d_O_isWellFormed_347 : decode c_O_isWellFormed 347 = .ok (.iload_n 2, 1) := by decide +kernel
theorem d_O_isWellFormed_348 : decode c_O_isWellFormed 348 = .ok (.invokevirtual 70, 3) := by decide +kernel
theorem d_O_isWellFormed_351 : decode c_O_isWellFormed 351 = .ok (.ireturn, 1) := by decide +kernel
theorem d_O_isWellFormed_352 : decode c_O_isWellFormed 352 = .ok (.iconst 1, 1) := by decide +kernel
theorem d_O_isWellFormed_353 : decode c_O_isWellFormed 353 = .ok (.ireturn, 1) := by decide +kernel
theorem d_O_isNumber_0 : decode c_O_isNumber 0 = .ok (.iload_n 0, 1) := by decide +kernel
theorem d_O_isNumber_1 : decode c_O_isNumber 1 = .ok (.iconst 1, 1) := by decide +kernel
theorem d_O_isNumber_2 : decode c_O_isNumber 2 = .ok (.if_icmp .lt 12, 3) := by decide +kernel
theorem d_O_isNumber_5 : decode c_O_isNumber 5 = .ok (.iload_n 0, 1) := by decide +kernel
theorem d_O_isNumber_6 : decode c_O_isNumber 6 = .ok (.iconst 4, 1) := by decide +kernel
theorem d_O_isNumber_7 : decode c_O_isNumber 7 = .ok (.if_icmp .gt 7, 3) := by decide +kernel
theorem d_O_isNumber_10 : decode c_O_isNumber 10 = .ok (.iconst 1, 1) := by decide +kernel
theorem d_O_isNumber_11 : decode c_O_isNumber 11 = .ok (.goto 4, 3) := by decide +kernel
theorem d_O_isNumber_14 : decode c_O_isNumber 14 = .ok (.iconst 0, 1) := by decide +kernel
theorem d_O_isNumber_15 : decode c_O_isNumber 15 = .ok (.ireturn, 1) := by decide +kernel
theorem d_O_isHandlerWellFormed_0 : decode c_O_isHandlerWellFormed 0 = .ok (.iconst 0, 1) := by decide +kernel
theorem d_O_isHandlerWellFormed_1 : decode c_O_isHandlerWellFormed 1 = .ok (.aload_n 0, 1) := by decide +kernel
theorem d_O_isHandlerWellFormed_2 : decode c_O_isHandlerWellFormed 2 = .ok (.getfield 15, 3) := by decide +kernel
theorem d_O_isHandlerWellFormed_5 : decode c_O_isHandlerWellFormed 5 = .ok (.getfield 73, 3) := by decide +kernel
theorem d_O_isHandlerWellFormed_8 : decode c_O_isHandlerWellFormed 8 = .ok (.iload_n 1, 1) := by decide +kernel
theorem d_O_isHandlerWellFormed_9 : decode c_O_isHandlerWellFormed 9 = .ok (.iaload, 1) := by decide +kernel
theorem d_O_isHandlerWellFormed_10 : decode c_O_isHandlerWellFormed 10 = .ok (.if_icmp .gt 47, 3) := by decide +kernel
theorem d_O_isHandlerWellFormed_13 : decode c_O_isHandlerWellFormed 13 = .ok (.aload_n 0, 1) := by decide +kernel
theorem d_O_isHandlerWellFormed_14 : decode c_O_isHandlerWellFormed 14 = .ok (.getfield 15, 3) := by decide +kernel
theorem d_O_isHandlerWellFormed_17 : decode c_O_isHandlerWellFormed 17 = .ok (.getfield 73, 3) := by decide +kernel
theorem d_O_isHandlerWellFormed_20 : decode c_O_isHandlerWellFormed 20 = .ok (.iload_n 1, 1) := by decide +kernel
theorem d_O_isHandlerWellFormed_21 : decode c_O_isHandlerWellFormed 21 = .ok (.iaload, 1) := by decide +kernel
theorem d_O_isHandlerWellFormed_22 : decode c_O_isHandlerWellFormed 22 = .ok (.aload_n 0, 1) := by decide +kernel
theorem d_O_isHandlerWellFormed_23 : decode c_O_isHandlerWellFormed 23 = .ok (.getfield 15, 3) := by decide +kernel
theorem d_O_isHandlerWellFormed_26 : decode c_O_isHandlerWellFormed 26 = .ok (.getfield 76, 3) := by decide +kernel
theorem d_O_isHandlerWellFormed_29 : decode c_O_isHandlerWellFormed 29 = .ok (.iload_n 1, 1) := by decide +kernel
theorem d_O_isHandlerWellFormed_30 : decode c_O_isHandlerWellFormed 30 = .ok (.iaload, 1) := by decide +kernel
theorem d_O_isHandlerWellFormed_31 : decode c_O_isHandlerWellFormed 31 = .ok (.if_icmp .ge 26, 3) := by decide +kernel
theorem d_O_isHandlerWellFormed_34 : decode c_O_isHandlerWellFormed 34 = .ok (.aload_n 0, 1) := by decide +kernel
theorem d_O_isHandlerWellFormed_35 : decode c_O_isHandlerWellFormed 35 = .ok (.getfield 15, 3) := by decide +kernel
theorem d_O_isHandlerWellFormed_38 : decode c_O_isHandlerWellFormed 38 = .ok (.getfield 76, 3) := by decide +kernel
theorem d_O_isHandlerWellFormed_41 : decode c_O_isHandlerWellFormed 41 = .ok (.iload_n 1, 1) := by decide +kernel
theorem d_O_isHandlerWellFormed_42 : decode c_O_isHandlerWellFormed 42 = .ok (.iaload, 1) := by decide +kernel
theorem d_O_isHandlerWellFormed_43 : decode c_O_isHandlerWellFormed 43 = .ok (.aload_n 0, 1) := by decide +kernel
theorem d_O_isHandlerWellFormed_44 : decode c_O_isHandlerWellFormed 44 = .ok (.getfield 15, 3) := by decide +kernel
theorem d_O_isHandlerWellFormed_47 : decode c_O_isHandlerWellFormed 47 = .ok (.getfield 19, 3) := by decide +kernel
theorem d_O_isHandlerWellFormed_50 : decode c_O_isHandlerWellFormed 50 = .ok (.if_icmp .gt 7, 3) := by decide +kernel
theorem d_O_isHandlerWellFormed_53 : decode c_O_isHandlerWellFormed 53 = .ok (.iconst 1, 1) := by decide +kernel
theorem d_O_isHandlerWellFormed_54 : decode c_O_isHandlerWellFormed 54 = .ok (.goto 4, 3) := by decide +kernel
theorem d_O_isHandlerWellFormed_57 : decode c_O_isHandlerWellFormed 57 = .ok (.iconst 0, 1) := by decide +kernel
theorem d_O_isHandlerWellFormed_58 : decode c_O_isHandlerWellFormed 58 = .ok (.istore_n 2, 1) := by decide +kernel
theorem d_O_isHandlerWellFormed_59 : decode c_O_isHandlerWellFormed 59 = .ok (.iload_n 2, 1) := by decide +kernel
theorem d_O_isHandlerWellFormed_60 : decode c_O_isHandlerWellFormed 60 = .ok (.ifCond .eq 22, 3) := by decide +kernel
theorem d_O_isHandlerWellFormed_63 : decode c_O_isHandlerWellFormed 63 = .ok (.aload_n 0, 1) := by decide +kernel
theorem d_O_isHandlerWellFormed_64 : decode c_O_isHandlerWellFormed 64 = .ok (.getfield 15, 3) := by decide +kernel
theorem d_O_isHandlerWellFormed_67 : decode c_O_isHandlerWellFormed 67 = .ok (.aload_n 0, 1) := by decide +kernel
theorem d_O_isHandlerWellFormed_68 : decode c_O_isHandlerWellFormed 68 = .ok (.getfield 15, 3) := by decide +kernel
theorem d_O_isHandlerWellFormed_71 : decode c_O_isHandlerWellFormed 71 = .ok (.getfield 79, 3) := by decide +kernel
theorem d_O_isHandlerWellFormed_74 : decode c_O_isHandlerWellFormed 74 = .ok (.iload_n 1, 1) := by decide +kernel
theorem d_O_isHandlerWellFormed_75 : decode c_O_isHandlerWellFormed 75 = .ok (.iaload, 1) := by decide +kernel
theorem d_O_isHandlerWellFormed_76 : decode c_O_isHandlerWellFormed 76 = .ok (.invokevirtual 56, 3) := by decide +kernel
theorem d_O_isHandlerWellFormed_79 : decode c_O_isHandlerWellFormed 79 = .ok (.ifCond .ne 5, 3) := by decide +kernel
theorem d_O_isHandlerWellFormed_82 : decode c_O_isHandlerWellFormed 82 = .ok (.iconst 0, 1) := by decide +kernel
theorem d_O_isHandlerWellFormed_83 : decode c_O_isHandlerWellFormed 83 = .ok (.ireturn, 1) := by decide +kernel
theorem d_O_isHandlerWellFormed_84 : decode c_O_isHandlerWellFormed 84 = .ok (.aload_n 0, 1) := by decide +kernel
theorem d_O_isHandlerWellFormed_85 : decode c_O_isHandlerWellFormed 85 = .ok (.getfield 15, 3) := by decide +kernel
theorem d_O_isHandlerWellFormed_88 : decode c_O_isHandlerWellFormed 88 = .ok (.getfield 82, 3) := by decide +kernel
theorem d_O_isHandlerWellFormed_91 : decode c_O_isHandlerWellFormed 91 = .ok (.iload_n 1, 1) := by decide +kernel
theorem d_O_isHandlerWellFormed_92 : decode c_O_isHandlerWellFormed 92 = .ok (.iaload, 1) := by decide +kernel
theorem d_O_isHandlerWellFormed_93 : decode c_O_isHandlerWellFormed 93 = .ok (.istore_n 3, 1) := by decide +kernel
theorem d_O_isHandlerWellFormed_94 : decode c_O_isHandlerWellFormed 94 = .ok (.aload_n 0, 1) := by decide +kernel
theorem d_O_isHandlerWellFormed_95 : decode c_O_isHandlerWellFormed 95 = .ok (.getfield 9, 3) := by decide +kernel
theorem d_O_isHandlerWellFormed_98 : decode c_O_isHandlerWellFormed 98 = .ok (.iload_n 3, 1) := by decide +kernel
theorem d_O_isHandlerWellFormed_99 : decode c_O_isHandlerWellFormed 99 = .ok (.invokevirtual 59, 3) := by decide +kernel
theorem d_O_isHandlerWellFormed_102 : decode c_O_isHandlerWellFormed 102 = .ok (.ifCond .eq 19, 3) := by decide +kernel
theorem d_O_isHandlerWellFormed_105 : decode c_O_isHandlerWellFormed 105 = .ok (.aload_n 0, 1) := by decide +kernel
theorem d_O_isHandlerWellFormed_106 : decode c_O_isHandlerWellFormed 106 = .ok (.getfield 9, 3) := by decide +kernel
theorem d_O_isHandlerWellFormed_109 : decode c_O_isHandlerWellFormed 109 = .ok (.iload_n 3, 1) := by decide +kernel
theorem d_O_isHandlerWellFormed_110 : decode c_O_isHandlerWellFormed 110 = .ok (.iconst 1, 1) := by decide +kernel
theorem d_O_isHandlerWellFormed_111 : decode c_O_isHandlerWellFormed 111 = .ok (.invokevirtual 85, 3) := by decide +kernel
theorem d_O_isHandlerWellFormed_114 : decode c_O_isHandlerWellFormed 114 = .ok (.ifCond .eq 7, 3) := by decide +kernel
theorem d_O_isHandlerWellFormed_117 : decode c_O_isHandlerWellFormed 117 = .ok (.iconst 1, 1) := by decide +kernel
theorem d_O_isHandlerWellFormed_118 : decode c_O_isHandlerWellFormed 118 = .ok (.goto 4, 3) := by decide +kernel
theorem d_O_isHandlerWellFormed_121 : decode c_O_isHandlerWellFormed 121 = .ok (.iconst 0, 1) := by decide +kernel
theorem d_O_isHandlerWellFormed_122 : decode c_O_isHandlerWellFormed 122 = .ok (.ireturn, 1) := by decide +kernel
theorem d_O_haveArgumentsRoom_0 : decode c_O_haveArgumentsRoom 0 = .ok (.iconst 0, 1) := by decide +kernel
theorem d_O_haveArgumentsRoom_1 : decode c_O_haveArgumentsRoom 1 = .ok (.istore_n 1, 1) := by decide +kernel
theorem d_O_haveArgumentsRoom_2 : decode c_O_haveArgumentsRoom 2 = .ok (.iconst 0, 1) := by decide +kernel
theorem d_O_haveArgumentsRoom_3 : decode c_O_haveArgumentsRoom 3 = .ok (.istore_n 2, 1) := by decide +kernel
theorem d_O_haveArgumentsRoom_4 : decode c_O_haveArgumentsRoom 4 = .ok (.iload_n 2, 1) := by decide +kernel
theorem d_O_haveArgumentsRoom_5 : decode c_O_haveArgumentsRoom 5 = .ok (.aload_n 0, 1) := by decide +kernel
theorem d_O_haveArgumentsRoom_6 : decode c_O_haveArgumentsRoom 6 = .ok (.getfield 15, 3) := by decide +kernel
theorem d_O_haveArgumentsRoom_9 : decode c_O_haveArgumentsRoom 9 = .ok (.getfield 89, 3) := by decide +kernel
theorem d_O_haveArgumentsRoom_12 : decode c_O_haveArgumentsRoom 12 = .ok (.if_icmp .ge 24, 3) := by decide +kernel
theorem d_O_haveArgumentsRoom_15 : decode c_O_haveArgumentsRoom 15 = .ok (.iload_n 1, 1) := by decide +kernel
theorem d_O_haveArgumentsRoom_16 : decode c_O_haveArgumentsRoom 16 = .ok (.aload_n 0, 1) := by decide +kernel
theorem d_O_haveArgumentsRoom_17 : decode c_O_haveArgumentsRoom 17 = .ok (.getfield 15, 3) := by decide +kernel
theorem d_O_haveArgumentsRoom_20 : decode c_O_haveArgumentsRoom 20 = .ok (.getfield 92, 3) := by decide +kernel
theorem d_O_haveArgumentsRoom_23 : decode c_O_haveArgumentsRoom 23 = .ok (.iload_n 2, 1) := by decide +kernel
theorem d_O_haveArgumentsRoom_24 : decode c_O_haveArgumentsRoom 24 = .ok (.iaload, 1) := by decide +kernel
theorem d_O_haveArgumentsRoom_25 : decode c_O_haveArgumentsRoom 25 = .ok (.invokestatic 95, 3) := by decide +kernel
theorem d_O_haveArgumentsRoom_28 : decode c_O_haveArgumentsRoom 28 = .ok (.iadd, 1) := by decide +kernel
theorem d_O_haveArgumentsRoom_29 : decode c_O_haveArgumentsRoom 29 = .ok (.istore_n 1, 1) := by decide +kernel
theorem d_O_haveArgumentsRoom_30 : decode c_O_haveArgumentsRoom 30 = .ok (.iinc 2 1, 3) := by decide +kernel
theorem d_O_haveArgumentsRoom_33 : decode c_O_haveArgumentsRoom 33 = .ok (.goto (-29), 3) := by decide +kernel
theorem d_O_haveArgumentsRoom_36 : decode c_O_haveArgumentsRoom 36 = .ok (.iload_n 1, 1) := by decide +kernel
theorem d_O_haveArgumentsRoom_37 : decode c_O_haveArgumentsRoom 37 = .ok (.aload_n 0, 1) := by decide +kernel
theorem d_O_haveArgumentsRoom_38 : decode c_O_haveArgumentsRoom 38 = .ok (.getfield 15, 3) := by decide +kernel
theorem d_O_haveArgumentsRoom_41 : decode c_O_haveArgumentsRoom 41 = .ok (.getfield 99, 3) := by decide +kernel
theorem d_O_haveArgumentsRoom_44 : decode c_O_haveArgumentsRoom 44 = .ok (.if_icmp .gt 7, 3) := by decide +kernel
theorem d_O_haveArgumentsRoom_47 : decode c_O_haveArgumentsRoom 47 = .ok (.iconst 1, 1) := by decide +kernel
theorem d_O_haveArgumentsRoom_48 : decode c_O_haveArgumentsRoom 48 = .ok (.goto 4, 3) := by decide +kernel
theorem d_O_haveArgumentsRoom_51 : decode c_O_haveArgumentsRoom 51 = .ok (.iconst 0, 1) := by decide +kernel
theorem d_O_haveArgumentsRoom_52 : decode c_O_haveArgumentsRoom 52 = .ok (.ireturn, 1) := by decide +kernel
theorem d_R_init_0 : decode c_R_init 0 = .ok (.aload_n 0, 1) := by decide +kernel
theorem d_R_init_1 : decode c_R_init 1 = .ok (.invokespecial 3, 3) := by decide +kernel
theorem d_R_init_4 : decode c_R_init 4 = .ok (.aload_n 0, 1) := by decide +kernel
theorem d_R_init_5 : decode c_R_init 5 = .ok (.bipush 12, 2) := by decide +kernel
theorem d_R_init_7 : decode c_R_init 7 = .ok (.newarray .int, 2) := by decide +kernel
theorem d_R_init_9 : decode c_R_init 9 = .ok (.putfield 9, 3) := by decide +kernel
theorem d_R_init_12 : decode c_R_init 12 = .ok (.aload_n 0, 1) := by decide +kernel
theorem d_R_init_13 : decode c_R_init 13 = .ok (.bipush 12, 2) := by decide +kernel
theorem d_R_init_15 : decode c_R_init 15 = .ok (.newarray .int, 2) := by decide +kernel
theorem d_R_init_17 : decode c_R_init 17 = .ok (.putfield 15, 3) := by decide +kernel
theorem d_R_init_20 : decode c_R_init 20 = .ok (.aload_n 0, 1) := by decide +kernel
theorem d_R_init_21 : decode c_R_init 21 = .ok (.bipush 48, 2) := by decide +kernel
theorem d_R_init_23 : decode c_R_init 23 = .ok (.newarray .int, 2) := by decide +kernel
theorem d_R_init_25 : decode c_R_init 25 = .ok (.putfield 18, 3) := by decide +kernel
theorem d_R_init_28 : decode c_R_init 28 = .ok (.return_, 1) := by decide +kernel
theorem d_R_copy_0 : decode c_R_copy 0 = .ok (.aload_n 1, 1) := by decide +kernel
theorem d_R_copy_1 : decode c_R_copy 1 = .ok (.getfield 9, 3) := by decide +kernel
theorem d_R_copy_4 : decode c_R_copy 4 = .ok (.iconst 0, 1) := by decide +kernel
theorem d_R_copy_5 : decode c_R_copy 5 = .ok (.aload_n 0, 1) := by decide +kernel
theorem d_R_copy_6 : decode c_R_copy 6 = .ok (.getfield 9, 3) := by decide +kernel
theorem d_R_copy_9 : decode c_R_copy 9 = .ok (.iconst 0, 1) := by decide +kernel
theorem d_R_copy_10 : decode c_R_copy 10 = .ok (.bipush 12, 2) := by decide +kernel
theorem d_R_copy_12 : decode c_R_copy 12 = .ok (.invokestatic 21, 3) := by decide +kernel
theorem d_R_copy_15 : decode c_R_copy 15 = .ok (.aload_n 1, 1) := by decide +kernel
theorem d_R_copy_16 : decode c_R_copy 16 = .ok (.getfield 15, 3) := by decide +kernel
theorem d_R_copy_19 : decode c_R_copy 19 = .ok (.iconst 0, 1) := by decide +kernel
theorem d_R_copy_20 : decode c_R_copy 20 = .ok (.aload_n 0, 1) := by decide +kernel
theorem d_R_copy_21 : decode c_R_copy 21 = .ok (.getfield 15, 3) := by decide +kernel
theorem d_R_copy_24 : decode c_R_copy 24 = .ok (.iconst 0, 1) := by decide +kernel
theorem d_R_copy_25 : decode c_R_copy 25 = .ok (.bipush 12, 2) := by decide +kernel
theorem d_R_copy_27 : decode c_R_copy 27 = .ok (.invokestatic 21, 3) := by decide +kernel
theorem d_R_copy_30 : decode c_R_copy 30 = .ok (.aload_n 1, 1) := by decide +kernel
theorem d_R_copy_31 : decode c_R_copy 31 = .ok (.getfield 18, 3) := by decide +kernel
theorem d_R_copy_34 : decode c_R_copy 34 = .ok (.iconst 0, 1) := by decide +kernel
theorem d_R_copy_35 : decode c_R_copy 35 = .ok (.aload_n 0, 1) := by decide +kernel
theorem d_R_copy_36 : decode c_R_copy 36 = .ok (.getfield 18, 3) := by decide +kernel
theorem d_R_copy_39 : decode c_R_copy 39 = .ok (.iconst 0, 1) := by decide +kernel
theorem d_R_copy_40 : decode c_R_copy 40 = .ok (.bipush 48, 2) := by decide +kernel
theorem d_R_copy_42 : decode c_R_copy 42 = .ok (.invokestatic 21, 3) := by decide +kernel
theorem d_R_copy_45 : decode c_R_copy 45 = .ok (.aload_n 0, 1) := by decide +kernel
theorem d_R_copy_46 : decode c_R_copy 46 = .ok (.aload_n 1, 1) := by decide +kernel
theorem d_R_copy_47 : decode c_R_copy 47 = .ok (.getfield 27, 3) := by decide +kernel
theorem d_R_copy_50 : decode c_R_copy 50 = .ok (.putfield 27, 3) := by decide +kernel
theorem d_R_copy_53 : decode c_R_copy 53 = .ok (.aload_n 0, 1) := by decide +kernel
theorem d_R_copy_54 : decode c_R_copy 54 = .ok (.aload_n 1, 1) := by decide +kernel
theorem d_R_copy_55 : decode c_R_copy 55 = .ok (.getfield 31, 3) := by decide +kernel
theorem d_R_copy_58 : decode c_R_copy 58 = .ok (.putfield 31, 3) := by decide +kernel
theorem d_R_copy_61 : decode c_R_copy 61 = .ok (.return_, 1) := by decide +kernel
theorem d_R_start_0 : decode c_R_start 0 = .ok (.aload_n 0, 1) := by decide +kernel
theorem d_R_start_1 : decode c_R_start 1 = .ok (.getfield 9, 3) := by decide +kernel
theorem d_R_start_4 : decode c_R_start 4 = .ok (.iconst 0, 1) := by decide +kernel
theorem d_R_start_5 : decode c_R_start 5 = .ok (.invokestatic 35, 3) := by decide +kernel
theorem d_R_start_8 : decode c_R_start 8 = .ok (.aload_n 0, 1) := by decide +kernel
theorem d_R_start_9 : decode c_R_start 9 = .ok (.getfield 18, 3) := by decide +kernel
theorem d_R_start_12 : decode c_R_start 12 = .ok (.iconst 0, 1) := by decide +kernel
theorem d_R_start_13 : decode c_R_start 13 = .ok (.invokestatic 35, 3) := by decide +kernel
theorem d_R_start_16 : decode c_R_start 16 = .ok (.aload_n 0, 1) := by decide +kernel
theorem d_R_start_17 : decode c_R_start 17 = .ok (.iconst 0, 1) := by decide +kernel
theorem d_R_start_18 : decode c_R_start 18 = .ok (.putfield 27, 3) := by decide +kernel
theorem d_R_start_21 : decode c_R_start 21 = .ok (.aload_n 0, 1) := by decide +kernel
theorem d_R_start_22 : decode c_R_start 22 = .ok (.lconst 0, 1) := by decide +kernel
theorem d_R_start_23 : decode c_R_start 23 = .ok (.putfield 31, 3) := by decide +kernel
theorem d_R_start_26 : decode c_R_start 26 = .ok (.iconst 0, 1) := by decide +kernel
theorem d_R_start_27 : decode c_R_start 27 = .ok (.istore_n 2, 1) := by decide +kernel
theorem d_R_start_28 : decode c_R_start 28 = .ok (.iconst 0, 1) := by decide +kernel
theorem d_R_start_29 : decode c_R_start 29 = .ok (.istore_n 3, 1) := by decide +kernel
theorem d_R_start_30 : decode c_R_start 30 = .ok (.iload_n 3, 1) := by decide +kernel
theorem d_R_start_31 : decode c_R_start 31 = .ok (.aload_n 1, 1) := by decide +kernel
theorem d_R_start_32 : decode c_R_start 32 = .ok (.getfield 41, 3) := by decide +kernel
theorem d_R_start_35 : decode c_R_start 35 = .ok (.if_icmp .ge 39, 3) := by decide +kernel
theorem d_R_start_38 : decode c_R_start 38 = .ok (.iload_n 2, 1) := by decide +kernel
theorem d_R_start_39 : decode c_R_start 39 = .ok (.bipush 12, 2) := by decide +kernel
theorem d_R_start_41 : decode c_R_start 41 = .ok (.if_icmp .ge 33, 3) := by decide +kernel
theorem d_R_start_44 : decode c_R_start 44 = .ok (.aload_n 0, 1) := by decide +kernel
theorem d_R_start_45 : decode c_R_start 45 = .ok (.getfield 9, 3) := by decide +kernel
theorem d_R_start_48 : decode c_R_start 48 = .ok (.iload_n 2, 1) := by decide +kernel
theorem d_R_start_49 : decode c_R_start 49 = .ok (.aload_n 1, 1) := by decide +kernel
theorem d_R_start_50 : decode c_R_start 50 = .ok (.getfield 46, 3) := by decide +kernel
theorem d_R_start_53 : decode c_R_start 53 = .ok (.iload_n 3, 1) := by decide +kernel
theorem d_R_start_54 : decode c_R_start 54 = .ok (.iaload, 1) := by decide +kernel
theorem d_R_start_55 : decode c_R_start 55 = .ok (.iastore, 1) := by decide +kernel
theorem d_R_start_56 : decode c_R_start 56 = .ok (.iload_n 2, 1) := by decide +kernel
theorem d_R_start_57 : decode c_R_start 57 = .ok (.aload_n 1, 1) := by decide +kernel
theorem d_R_start_58 : decode c_R_start 58 = .ok (.getfield 46, 3) := by decide +kernel
theorem d_R_start_61 : decode c_R_start 61 = .ok (.iload_n 3, 1) := by decide +kernel
theorem d_R_start_62 : decode c_R_start 62 = .ok (.iaload, 1) := by decide +kernel
theorem d_R_start_63 : decode c_R_start 63 = .ok (.invokestatic 49, 3) := by decide +kernel
theorem d_R_start_66 : decode c_R_start 66 = .ok (.iadd, 1) := by decide +kernel
theorem d_R_start_67 : decode c_R_start 67 = .ok (.istore_n 2, 1) := by decide +kernel
theorem d_R_start_68 : decode c_R_start 68 = .ok (.iinc 3 1, 3) := by decide +kernel
theorem d_R_start_71 : decode c_R_start 71 = .ok (.goto (-41), 3) := by decide +kernel
theorem d_R_start_74 : decode c_R_start 74 = .ok (.return_, 1) := by decide +kernel
theorem d_R_catchIn_0 : decode c_R_catchIn 0 = .ok (.aload_n 0, 1) := by decide +kernel
theorem d_R_catchIn_1 : decode c_R_catchIn 1 = .ok (.aload_n 1, 1) := by decide +kernel
theorem d_R_catchIn_2 : decode c_R_catchIn 2 = .ok (.invokevirtual 53, 3) := by decide +kernel
theorem d_R_catchIn_5 : decode c_R_catchIn 5 = .ok (.aload_n 0, 1) := by decide +kernel
theorem d_R_catchIn_6 : decode c_R_catchIn 6 = .ok (.getfield 15, 3) := by decide +kernel
theorem d_R_catchIn_9 : decode c_R_catchIn 9 = .ok (.iconst 0, 1) := by decide +kernel
theorem d_R_catchIn_10 : decode c_R_catchIn 10 = .ok (.iload_n 2, 1) := by decide +kernel
theorem d_R_catchIn_11 : decode c_R_catchIn 11 = .ok (.iastore, 1) := by decide +kernel
theorem d_R_catchIn_12 : decode c_R_catchIn 12 = .ok (.aload_n 0, 1) := by decide +kernel
theorem d_R_catchIn_13 : decode c_R_catchIn 13 = .ok (.iconst 1, 1) := by decide +kernel
theorem d_R_catchIn_14 : decode c_R_catchIn 14 = .ok (.putfield 27, 3) := by decide +kernel
theorem d_R_catchIn_17 : decode c_R_catchIn 17 = .ok (.return_, 1) := by decide +kernel
theorem d_R_comeBack_0 : decode c_R_comeBack 0 = .ok (.aload_n 0, 1) := by decide +kernel
theorem d_R_comeBack_1 : decode c_R_comeBack 1 = .ok (.aload_n 2, 1) := by decide +kernel
theorem d_R_comeBack_2 : decode c_R_comeBack 2 = .ok (.invokevirtual 53, 3) := by decide +kernel
theorem d_R_comeBack_5 : decode c_R_comeBack 5 = .ok (.aload_n 1, 1) := by decide +kernel
theorem d_R_comeBack_6 : decode c_R_comeBack 6 = .ok (.getfield 15, 3) := by decide +kernel
theorem d_R_comeBack_9 : decode c_R_comeBack 9 = .ok (.iconst 0, 1) := by decide +kernel
theorem d_R_comeBack_10 : decode c_R_comeBack 10 = .ok (.aload_n 0, 1) := by decide +kernel
theorem d_R_comeBack_11 : decode c_R_comeBack 11 = .ok (.getfield 15, 3) := by decide +kernel
theorem d_R_comeBack_14 : decode c_R_comeBack 14 = .ok (.iconst 0, 1) := by decide +kernel
theorem d_R_comeBack_15 : decode c_R_comeBack 15 = .ok (.bipush 12, 2) := by decide +kernel
theorem d_R_comeBack_17 : decode c_R_comeBack 17 = .ok (.invokestatic 21, 3) := by decide +kernel
theorem d_R_comeBack_20 : decode c_R_comeBack 20 = .ok (.aload_n 0, 1) := by decide +kernel
theorem d_R_comeBack_21 : decode c_R_comeBack 21 = .ok (.aload_n 1, 1) := by decide +kernel
theorem d_R_comeBack_22 : decode c_R_comeBack 22 = .ok (.getfield 27, 3) := by decide +kernel
theorem d_R_comeBack_25 : decode c_R_comeBack 25 = .ok (.putfield 27, 3) := by decide +kernel
theorem d_R_comeBack_28 : decode c_R_comeBack 28 = .ok (.aload_n 1, 1) := by decide +kernel
theorem d_R_comeBack_29 : decode c_R_comeBack 29 = .ok (.getfield 18, 3) := by decide +kernel
theorem d_R_comeBack_32 : decode c_R_comeBack 32 = .ok (.iload_n 3, 1) := by decide +kernel
theorem d_R_comeBack_33 : decode c_R_comeBack 33 = .ok (.iaload, 1) := by decide +kernel
theorem d_R_comeBack_34 : decode c_R_comeBack 34 = .ok (.istore 4, 2) := by decide +kernel
theorem d_R_comeBack_36 : decode c_R_comeBack 36 = .ok (.iconst 0, 1) := by decide +kernel
theorem d_R_comeBack_37 : decode c_R_comeBack 37 = .ok (.istore 5, 2) := by decide +kernel
theorem d_R_comeBack_39 : decode c_R_comeBack 39 = .ok (.iload 5, 2) := by decide +kernel
theorem d_R_comeBack_41 : decode c_R_comeBack 41 = .ok (.bipush 12, 2) := by decide +kernel
theorem d_R_comeBack_43 : decode c_R_comeBack 43 = .ok (.if_icmp .ge 33, 3) := by decide +kernel
theorem d_R_comeBack_46 : decode c_R_comeBack 46 = .ok (.iload 4, 2) := by decide +kernel
theorem d_R_comeBack_48 : decode c_R_comeBack 48 = .ok (.iload 5, 2) := by decide +kernel
theorem d_R_comeBack_50 : decode c_R_comeBack 50 = .ok (.ishr, 1) := by decide +kernel
theorem d_R_comeBack_51 : decode c_R_comeBack 51 = .ok (.iconst 1, 1) := by decide +kernel
theorem d_R_comeBack_52 : decode c_R_comeBack 52 = .ok (.iand, 1) := by decide +kernel
theorem d_R_comeBack_53 : decode c_R_comeBack 53 = .ok (.ifCond .eq 17, 3) := by decide +kernel
theorem d_R_comeBack_56 : decode c_R_comeBack 56 = .ok (.aload_n 0, 1) := by decide +kernel
theorem d_R_comeBack_57 : decode c_R_comeBack 57 = .ok (.getfield 9, 3) := by decide +kernel
theorem d_R_comeBack_60 : decode c_R_comeBack 60 = .ok (.iload 5, 2) := by decide +kernel
theorem d_R_comeBack_62 : decode c_R_comeBack 62 = .ok (.aload_n 1, 1) := by decide +kernel
theorem d_R_comeBack_63 : decode c_R_comeBack 63 = .ok (.getfield 9, 3) := by decide +kernel
theorem d_R_comeBack_66 : decode c_R_comeBack 66 = .ok (.iload 5, 2) := by decide +kernel
theorem d_R_comeBack_68 : decode c_R_comeBack 68 = .ok (.iaload, 1) := by decide +kernel
theorem d_R_comeBack_69 : decode c_R_comeBack 69 = .ok (.iastore, 1) := by decide +kernel
theorem d_R_comeBack_70 : decode c_R_comeBack 70 = .ok (.iinc 5 1, 3) := by decide +kernel
theorem d_R_comeBack_73 : decode c_R_comeBack 73 = .ok (.goto (-34), 3) := by decide +kernel
theorem d_R_comeBack_76 : decode c_R_comeBack 76 = .ok (.aload_n 0, 1) := by decide +kernel
theorem d_R_comeBack_77 : decode c_R_comeBack 77 = .ok (.iload 4, 2) := by decide +kernel
theorem d_R_comeBack_79 : decode c_R_comeBack 79 = .ok (.invokevirtual 57, 3) := by decide +kernel
theorem d_R_comeBack_82 : decode c_R_comeBack 82 = .ok (.aload_n 0, 1) := by decide +kernel
theorem d_R_comeBack_83 : decode c_R_comeBack 83 = .ok (.sipush 2000, 3) := by decide +kernel
theorem d_R_comeBack_86 : decode c_R_comeBack 86 = .ok (.iload_n 3, 1) := by decide +kernel
theorem d_R_comeBack_87 : decode c_R_comeBack 87 = .ok (.iadd, 1) := by decide +kernel
theorem d_R_comeBack_88 : decode c_R_comeBack 88 = .ok (.iconst 0, 1) := by decide +kernel
theorem d_R_comeBack_89 : decode c_R_comeBack 89 = .ok (.invokevirtual 61, 3) := by decide +kernel
theorem d_R_comeBack_92 : decode c_R_comeBack 92 = .ok (.return_, 1) := by decide +kernel
theorem d_R_top_0 : decode c_R_top 0 = .ok (.iload_n 1, 1) := by decide +kernel
theorem d_R_top_1 : decode c_R_top 1 = .ok (.aload_n 0, 1) := by decide +kernel
theorem d_R_top_2 : decode c_R_top 2 = .ok (.getfield 27, 3) := by decide +kernel
theorem d_R_top_5 : decode c_R_top 5 = .ok (.if_icmp .ge 19, 3) := by decide +kernel
theorem d_R_top_8 : decode c_R_top 8 = .ok (.aload_n 0, 1) := by decide +kernel
theorem d_R_top_9 : decode c_R_top 9 = .ok (.getfield 15, 3) := by decide +kernel
theorem d_R_top_12 : decode c_R_top 12 = .ok (.aload_n 0, 1) := by decide +kernel
theorem d_R_top_13 : decode c_R_top 13 = .ok (.getfield 27, 3) := by decide +kernel
theorem d_R_top_16 : decode c_R_top 16 = .ok (.iconst 1, 1) := by decide +kernel
theorem d_R_top_17 : decode c_R_top 17 = .ok (.isub, 1) := by decide +kernel
theorem d_R_top_18 : decode c_R_top 18 = .ok (.iload_n 1, 1) := by decide +kernel
theorem d_R_top_19 : decode c_R_top 19 = .ok (.isub, 1) := by decide +kernel
theorem d_R_top_20 : decode c_R_top 20 = .ok (.iaload, 1) := by decide +kernel
theorem d_R_top_21 : decode c_R_top 21 = .ok (.goto 4, 3) := by decide +kernel
theorem d_R_top_24 : decode c_R_top 24 = .ok (.iconst (-1), 1) := by decide +kernel
theorem d_R_top_25 : decode c_R_top 25 = .ok (.ireturn, 1) := by decide +kernel
theorem d_R_hasNarrow_0 : decode c_R_hasNarrow 0 = .ok (.iload_n 1, 1) := by decide +kernel
theorem d_R_hasNarrow_1 : decode c_R_hasNarrow 1 = .ok (.aload_n 0, 1) := by decide +kernel
theorem d_R_hasNarrow_2 : decode c_R_hasNarrow 2 = .ok (.getfield 27, 3) := by decide +kernel
theorem d_R_hasNarrow_5 : decode c_R_hasNarrow 5 = .ok (.if_icmp .ge 26, 3) := by decide +kernel
theorem d_R_hasNarrow_8 : decode c_R_hasNarrow 8 = .ok (.aload_n 0, 1) := by decide +kernel
theorem d_R_hasNarrow_9 : decode c_R_hasNarrow 9 = .ok (.getfield 15, 3) := by decide +kernel
theorem d_R_hasNarrow_12 : decode c_R_hasNarrow 12 = .ok (.aload_n 0, 1) := by decide +kernel
theorem d_R_hasNarrow_13 : decode c_R_hasNarrow 13 = .ok (.getfield 27, 3) := by decide +kernel
theorem d_R_hasNarrow_16 : decode c_R_hasNarrow 16 = .ok (.iconst 1, 1) := by decide +kernel
theorem d_R_hasNarrow_17 : decode c_R_hasNarrow 17 = .ok (.isub, 1) := by decide +kernel
theorem d_R_hasNarrow_18 : decode c_R_hasNarrow 18 = .ok (.iload_n 1, 1) := by decide +kernel
theorem d_R_hasNarrow_19 : decode c_R_hasNarrow 19 = .ok (.isub, 1) := by decide +kernel
theorem d_R_hasNarrow_20 : decode c_R_hasNarrow 20 = .ok (.iaload, 1) := by decide +kernel
theorem d_R_hasNarrow_21 : decode c_R_hasNarrow 21 = .ok (.invokestatic 65, 3) := by decide +kernel
theorem d_R_hasNarrow_24 : decode c_R_hasNarrow 24 = .ok (.ifCond .ne 7, 3) := by decide +kernel
theorem d_R_hasNarrow_27 : decode c_R_hasNarrow 27 = .ok (.iconst 1, 1) := by decide +kernel
theorem d_R_hasNarrow_28 : decode c_R_hasNarrow 28 = .ok (.goto 4, 3) := by decide +kernel
theorem d_R_hasNarrow_31 : decode c_R_hasNarrow 31 = .ok (.iconst 0, 1) := by decide +kernel
theorem d_R_hasNarrow_32 : decode c_R_hasNarrow 32 = .ok (.ireturn, 1) := by decide +kernel
theorem d_R_drop_0 : decode c_R_drop 0 = .ok (.aload_n 0, 1) := by decide +kernel
theorem d_R_drop_1 : decode c_R_drop 1 = .ok (.dup, 1) := by decide +kernel
theorem d_R_drop_2 : decode c_R_drop 2 = .ok (.getfield 27, 3) := by decide +kernel
theorem d_R_drop_5 : decode c_R_drop 5 = .ok (.iload_n 1, 1) := by decide +kernel
theorem d_R_drop_6 : decode c_R_drop 6 = .ok (.isub, 1) := by decide +kernel
theorem d_R_drop_7 : decode c_R_drop 7 = .ok (.putfield 27, 3) := by decide +kernel
theorem d_R_drop_10 : decode c_R_drop 10 = .ok (.return_, 1) := by decide +kernel
theorem d_R_push_0 : decode c_R_push 0 = .ok (.iload_n 1, 1) := by decide +kernel
theorem d_R_push_1 : decode c_R_push 1 = .ok (.invokestatic 49, 3) := by decide +kernel
theorem d_R_push_4 : decode c_R_push 4 = .ok (.istore_n 3, 1) := by decide +kernel
theorem d_R_push_5 : decode c_R_push 5 = .ok (.iconst 0, 1) := by decide +kernel
theorem d_R_push_6 : decode c_R_push 6 = .ok (.istore 4, 2) := by decide +kernel
theorem d_R_push_8 : decode c_R_push 8 = .ok (.iload 4, 2) := by decide +kernel
theorem d_R_push_10 : decode c_R_push 10 = .ok (.aload_n 0, 1) := by decide +kernel
theorem d_R_push_11 : decode c_R_push 11 = .ok (.getfield 27, 3) := by decide +kernel
theorem d_R_push_14 : decode c_R_push 14 = .ok (.if_icmp .ge 22, 3) := by decide +kernel
theorem d_R_push_17 : decode c_R_push 17 = .ok (.iload_n 3, 1) := by decide +kernel
theorem d_R_push_18 : decode c_R_push 18 = .ok (.aload_n 0, 1) := by decide +kernel
theorem d_R_push_19 : decode c_R_push 19 = .ok (.getfield 15, 3) := by decide +kernel
theorem d_R_push_22 : decode c_R_push 22 = .ok (.iload 4, 2) := by decide +kernel
theorem d_R_push_24 : decode c_R_push 24 = .ok (.iaload, 1) := by decide +kernel
theorem d_R_push_25 : decode c_R_push 25 = .ok (.invokestatic 49, 3) := by decide +kernel
theorem d_R_push_28 : decode c_R_push 28 = .ok (.iadd, 1) := by decide +kernel
theorem d_R_push_29 : decode c_R_push 29 = .ok (.istore_n 3, 1) := by decide +kernel
theorem d_R_push_30 : decode c_R_push 30 = .ok (.iinc 4 1, 3) := by decide +kernel
theorem d_R_push_33 : decode c_R_push 33 = .ok (.goto (-25), 3) := by decide +kernel
theorem d_R_push_36 : decode c_R_push 36 = .ok (.iload_n 3, 1) := by decide +kernel
theorem d_R_push_37 : decode c_R_push 37 = .ok (.iload_n 2, 1) := by decide +kernel
theorem d_R_push_38 : decode c_R_push 38 = .ok (.if_icmp .le 5, 3) := by decide +kernel
theorem d_R_push_41 : decode c_R_push 41 = .ok (.iconst 3, 1) := by decide +kernel
theorem d_R_push_42 : decode c_R_push 42 = .ok (.ireturn, 1) := by decide +kernel
theorem d_R_push_43 : decode c_R_push 43 = .ok (.aload_n 0, 1) := by decide +kernel
theorem d_R_push_44 : decode c_R_push 44 = .ok (.getfield 15, 3) := by decide +kernel
theorem d_R_push_47 : decode c_R_push 47 = .ok (.aload_n 0, 1) := by decide +kernel
theorem d_R_push_48 : decode c_R_push 48 = .ok (.getfield 27, 3) := by decide +kernel
theorem d_R_push_51 : decode c_R_push 51 = .ok (.iload_n 1, 1) := by decide +kernel
theorem d_R_push_52 : decode c_R_push 52 = .ok (.iastore, 1) := by decide +kernel
theorem d_R_push_53 : decode c_R_push 53 = .ok (.aload_n 0, 1) := by decide +kernel
theorem d_R_push_54 : decode c_R_push 54 = .ok (.dup, 1) := by decide +kernel
theorem d_R_push_55 : decode c_R_push 55 = .ok (.getfield 27, 3) := by decide +kernel
theorem d_R_push_58 : decode c_R_push 58 = .ok (.iconst 1, 1) := by decide +kernel
theorem d_R_push_59 : decode c_R_push 59 = .ok (.iadd, 1) := by decide +kernel
theorem d_R_push_60 : decode c_R_push 60 = .ok (.putfield 27, 3) := by decide +kernel
theorem d_R_push_63 : decode c_R_push 63 = .ok (.iconst 0, 1) := by decide +kernel
theorem d_R_push_64 : decode c_R_push 64 = .ok (.ireturn, 1) := by decide +kernel
theorem d_R_store_0 : decode c_R_store 0 = .ok (.iload_n 1, 1) := by decide +kernel
theorem d_R_store_1 : decode c_R_store 1 = .ok (.ifCond .le 26, 3) := by decide +kernel
theorem d_R_store_4 : decode c_R_store 4 = .ok (.aload_n 0, 1) := by decide +kernel
theorem d_R_store_5 : decode c_R_store 5 = .ok (.getfield 9, 3) := by decide +kernel
theorem d_R_store_8 : decode c_R_store 8 = .ok (.iload_n 1, 1) := by decide +kernel
theorem d_R_store_9 : decode c_R_store 9 = .ok (.iconst 1, 1) := by decide +kernel
theorem d_R_store_10 : decode c_R_store 10 = .ok (.isub, 1) := by decide +kernel
theorem d_R_store_11 : decode c_R_store 11 = .ok (.iaload, 1) := by decide +kernel
theorem d_R_store_12 : decode c_R_store 12 = .ok (.invokestatic 65, 3) := by decide +kernel
theorem d_R_store_15 : decode c_R_store 15 = .ok (.ifCond .eq 12, 3) := by decide +kernel
theorem d_R_store_18 : decode c_R_store 18 = .ok (.aload_n 0, 1) := by decide +kernel
theorem d_R_store_19 : decode c_R_store 19 = .ok (.getfield 9, 3) := by decide +kernel
theorem d_R_store_22 : decode c_R_store 22 = .ok (.iload_n 1, 1) := by decide +kernel
theorem d_R_store_23 : decode c_R_store 23 = .ok (.iconst 1, 1) := by decide +kernel
theorem d_R_store_24 : decode c_R_store 24 = .ok (.isub, 1) := by decide +kernel
theorem d_R_store_25 : decode c_R_store 25 = .ok (.iconst 0, 1) := by decide +kernel
theorem d_R_store_26 : decode c_R_store 26 = .ok (.iastore, 1) := by decide +kernel
theorem d_R_store_27 : decode c_R_store 27 = .ok (.aload_n 0, 1) := by decide +kernel
theorem d_R_store_28 : decode c_R_store 28 = .ok (.getfield 9, 3) := by decide +kernel
theorem d_R_store_31 : decode c_R_store 31 = .ok (.iload_n 1, 1) := by decide +kernel
theorem d_R_store_32 : decode c_R_store 32 = .ok (.iload_n 2, 1) := by decide +kernel
theorem d_R_store_33 : decode c_R_store 33 = .ok (.iastore, 1) := by decide +kernel
theorem d_R_store_34 : decode c_R_store 34 = .ok (.iload_n 2, 1) := by decide +kernel
theorem d_R_store_35 : decode c_R_store 35 = .ok (.invokestatic 65, 3) := by decide +kernel
theorem d_R_store_38 : decode c_R_store 38 = .ok (.ifCond .eq 12, 3) := by decide +kernel
theorem d_R_store_41 : decode c_R_store 41 = .ok (.aload_n 0, 1) := by decide +kernel
theorem d_R_store_42 : decode c_R_store 42 = .ok (.getfield 9, 3) := by decide +kernel
theorem d_R_store_45 : decode c_R_store 45 = .ok (.iload_n 1, 1) := by decide +kernel
theorem d_R_store_46 : decode c_R_store 46 = .ok (.iconst 1, 1) := by decide +kernel
theorem d_R_store_47 : decode c_R_store 47 = .ok (.iadd, 1) := by decide +kernel
theorem d_R_store_48 : decode c_R_store 48 = .ok (.iconst 0, 1) := by decide +kernel
theorem d_R_store_49 : decode c_R_store 49 = .ok (.iastore, 1) := by decide +kernel
theorem d_R_store_50 : decode c_R_store 50 = .ok (.return_, 1) := by decide +kernel
theorem d_R_touch_0 : decode c_R_touch 0 = .ok (.aload_n 0, 1) := by decide +kernel
theorem d_R_touch_1 : decode c_R_touch 1 = .ok (.iload_n 2, 1) := by decide +kernel
theorem d_R_touch_2 : decode c_R_touch 2 = .ok (.invokestatic 65, 3) := by decide +kernel
theorem d_R_touch_5 : decode c_R_touch 5 = .ok (.ifCond .eq 9, 3) := by decide +kernel
theorem d_R_touch_8 : decode c_R_touch 8 = .ok (.iconst 3, 1) := by decide +kernel
theorem d_R_touch_9 : decode c_R_touch 9 = .ok (.iload_n 1, 1) := by decide +kernel
theorem d_R_touch_10 : decode c_R_touch 10 = .ok (.ishl, 1) := by decide +kernel
theorem d_R_touch_11 : decode c_R_touch 11 = .ok (.goto 6, 3) := by decide +kernel
theorem d_R_touch_14 : decode c_R_touch 14 = .ok (.iconst 1, 1) := by decide +kernel
theorem d_R_touch_15 : decode c_R_touch 15 = .ok (.iload_n 1, 1) := by decide +kernel
theorem d_R_touch_16 : decode c_R_touch 16 = .ok (.ishl, 1) := by decide +kernel
theorem d_R_touch_17 : decode c_R_touch 17 = .ok (.invokevirtual 57, 3) := by decide +kernel
theorem d_R_touch_20 : decode c_R_touch 20 = .ok (.return_, 1) := by decide +kernel
theorem d_R_touchAll_0 : decode c_R_touchAll 0 = .ok (.iconst 0, 1) := by decide +kernel
theorem d_R_touchAll_1 : decode c_R_touchAll 1 = .ok (.istore_n 2, 1) := by decide +kernel
theorem d_R_touchAll_2 : decode c_R_touchAll 2 = .ok (.iload_n 2, 1) := by decide +kernel
theorem d_R_touchAll_3 : decode c_R_touchAll 3 = .ok (.bipush 48, 2) := by decide +kernel
theorem d_R_touchAll_5 : decode c_R_touchAll 5 = .ok (.if_icmp .ge 38, 3) := by decide +kernel
theorem d_R_touchAll_8 : decode c_R_touchAll 8 = .ok (.aload_n 0, 1) := by decide +kernel
theorem d_R_touchAll_9 : decode c_R_touchAll 9 = .ok (.getfield 31, 3) := by decide +kernel
theorem d_R_touchAll_12 : decode c_R_touchAll 12 = .ok (.iload_n 2, 1) := by decide +kernel
theorem d_R_touchAll_13 : decode c_R_touchAll 13 = .ok (.lshr, 1) := by decide +kernel
theorem d_R_touchAll_14 : decode c_R_touchAll 14 = .ok (.lconst 0, 1) := by decide +kernel
theorem d_R_touchAll_15 : decode c_R_touchAll 15 = .ok (.lcmp, 1) := by decide +kernel
theorem d_R_touchAll_16 : decode c_R_touchAll 16 = .ok (.ifCond .eq 27, 3) := by decide +kernel
theorem d_R_touchAll_19 : decode c_R_touchAll 19 = .ok (.aload_n 0, 1) := by decide +kernel
theorem d_R_touchAll_20 : decode c_R_touchAll 20 = .ok (.iload_n 2, 1) := by decide +kernel
theorem d_R_touchAll_21 : decode c_R_touchAll 21 = .ok (.invokevirtual 69, 3) := by decide +kernel
theorem d_R_touchAll_24 : decode c_R_touchAll 24 = .ok (.ifCond .eq 13, 3) := by decide +kernel
theorem d_R_touchAll_27 : decode c_R_touchAll 27 = .ok (.aload_n 0, 1) := by decide +kernel
theorem d_R_touchAll_28 : decode c_R_touchAll 28 = .ok (.getfield 18, 3) := by decide +kernel
theorem d_R_touchAll_31 : decode c_R_touchAll 31 = .ok (.iload_n 2, 1) := by decide +kernel
theorem d_R_touchAll_32 : decode c_R_touchAll 32 = .ok (.dup2, 1) := by decide +kernel
theorem d_R_touchAll_33 : decode c_R_touchAll 33 = .ok (.iaload, 1) := by decide +kernel
theorem d_R_touchAll_34 : decode c_R_touchAll 34 = .ok (.iload_n 1, 1) := by decide +kernel
theorem d_R_touchAll_35 : decode c_R_touchAll 35 = .ok (.ior, 1) := by decide +kernel
theorem d_R_touchAll_36 : decode c_R_touchAll 36 = .ok (.iastore, 1) := by decide +kernel
theorem d_R_touchAll_37 : decode c_R_touchAll 37 = .ok (.iinc 2 1, 3) := by decide +kernel
theorem d_R_touchAll_40 : decode c_R_touchAll 40 = .ok (.goto (-38), 3) := by decide +kernel
theorem d_R_touchAll_43 : decode c_R_touchAll 43 = .ok (.return_, 1) := by decide +kernel
theorem d_R_isIn_0 : decode c_R_isIn 0 = .ok (.aload_n 0, 1) := by decide +kernel
theorem d_R_isIn_1 : decode c_R_isIn 1 = .ok (.getfield 31, 3) := by decide +kernel
theorem d_R_isIn_4 : decode c_R_isIn 4 = .ok (.iload_n 1, 1) := by decide +kernel
theorem d_R_isIn_5 : decode c_R_isIn 5 = .ok (.lshr, 1) := by decide +kernel
theorem d_R_isIn_6 : decode c_R_isIn 6 = .ok (.lconst 1, 1) := by decide +kernel
theorem d_R_isIn_7 : decode c_R_isIn 7 = .ok (.land, 1) := by decide +kernel
theorem d_R_isIn_8 : decode c_R_isIn 8 = .ok (.lconst 0, 1) := by decide +kernel
theorem d_R_isIn_9 : decode c_R_isIn 9 = .ok (.lcmp, 1) := by decide +kernel
theorem d_R_isIn_10 : decode c_R_isIn 10 = .ok (.ifCond .eq 7, 3) := by decide +kernel
theorem d_R_isIn_13 : decode c_R_isIn 13 = .ok (.iconst 1, 1) := by decide +kernel
theorem d_R_isIn_14 : decode c_R_isIn 14 = .ok (.goto 4, 3) := by decide +kernel
theorem d_R_isIn_17 : decode c_R_isIn 17 = .ok (.iconst 0, 1) := by decide +kernel
theorem d_R_isIn_18 : decode c_R_isIn 18 = .ok (.ireturn, 1) := by decide +kernel
theorem d_R_enter_0 : decode c_R_enter 0 = .ok (.aload_n 0, 1) := by decide +kernel
theorem d_R_enter_1 : decode c_R_enter 1 = .ok (.dup, 1) := by decide +kernel
theorem d_R_enter_2 : decode c_R_enter 2 = .ok (.getfield 31, 3) := by decide +kernel
theorem d_R_enter_5 : decode c_R_enter 5 = .ok (.lconst 1, 1) := by decide +kernel
theorem d_R_enter_6 : decode c_R_enter 6 = .ok (.iload_n 1, 1) := by decide +kernel
theorem d_R_enter_7 : decode c_R_enter 7 = .ok (.lshl, 1) := by decide +kernel
theorem d_R_enter_8 : decode c_R_enter 8 = .ok (.lor, 1) := by decide +kernel
theorem d_R_enter_9 : decode c_R_enter 9 = .ok (.putfield 31, 3) := by decide +kernel
theorem d_R_enter_12 : decode c_R_enter 12 = .ok (.aload_n 0, 1) := by decide +kernel
theorem d_R_enter_13 : decode c_R_enter 13 = .ok (.getfield 18, 3) := by decide +kernel
theorem d_R_enter_16 : decode c_R_enter 16 = .ok (.iload_n 1, 1) := by decide +kernel
theorem d_R_enter_17 : decode c_R_enter 17 = .ok (.iconst 0, 1) := by decide +kernel
theorem d_R_enter_18 : decode c_R_enter 18 = .ok (.iastore, 1) := by decide +kernel
theorem d_R_enter_19 : decode c_R_enter 19 = .ok (.return_, 1) := by decide +kernel
theorem d_R_replace_0 : decode c_R_replace 0 = .ok (.iconst 0, 1) := by decide +kernel
theorem d_R_replace_1 : decode c_R_replace 1 = .ok (.istore_n 3, 1) := by decide +kernel
theorem d_R_replace_2 : decode c_R_replace 2 = .ok (.iload_n 3, 1) := by decide +kernel
theorem d_R_replace_3 : decode c_R_replace 3 = .ok (.bipush 12, 2) := by decide +kernel
theorem d_R_replace_5 : decode c_R_replace 5 = .ok (.if_icmp .ge 26, 3) := by decide +kernel
theorem d_R_replace_8 : decode c_R_replace 8 = .ok (.aload_n 0, 1) := by decide +kernel
theorem d_R_replace_9 : decode c_R_replace 9 = .ok (.getfield 9, 3) := by decide +kernel
theorem d_R_replace_12 : decode c_R_replace 12 = .ok (.iload_n 3, 1) := by decide +kernel
theorem d_R_replace_13 : decode c_R_replace 13 = .ok (.iaload, 1) := by decide +kernel
theorem d_R_replace_14 : decode c_R_replace 14 = .ok (.iload_n 1, 1) := by decide +kernel
theorem d_R_replace_15 : decode c_R_replace 15 = .ok (.if_icmp .ne 10, 3) := by decide +kernel
theorem d_R_replace_18 : decode c_R_replace 18 = .ok (.aload_n 0, 1) := by decide +kernel
theorem d_R_replace_19 : decode c_R_replace 19 = .ok (.getfield 9, 3) := by decide +kernel
theorem d_R_replace_22 : decode c_R_replace 22 = .ok (.iload_n 3, 1) := by decide +kernel
theorem d_R_replace_23 : decode c_R_replace 23 = .ok (.iload_n 2, 1) := by decide +kernel
theorem d_R_replace_24 : decode c_R_replace 24 = .ok (.iastore, 1) := by decide +kernel
theorem d_R_replace_25 : decode c_R_replace 25 = .ok (.iinc 3 1, 3) := by decide +kernel
theorem d_R_replace_28 : decode c_R_replace 28 = .ok (.goto (-26), 3) := by decide +kernel
theorem d_R_replace_31 : decode c_R_replace 31 = .ok (.iconst 0, 1) := by decide +kernel
theorem d_R_replace_32 : decode c_R_replace 32 = .ok (.istore_n 3, 1) := by decide +kernel
theorem d_R_replace_33 : decode c_R_replace 33 = .ok (.iload_n 3, 1) := by decide +kernel
theorem d_R_replace_34 : decode c_R_replace 34 = .ok (.aload_n 0, 1) := by decide +kernel
theorem d_R_replace_35 : decode c_R_replace 35 = .ok (.getfield 27, 3) := by decide +kernel
theorem d_R_replace_38 : decode c_R_replace 38 = .ok (.if_icmp .ge 26, 3) := by decide +kernel
theorem d_R_replace_41 : decode c_R_replace 41 = .ok (.aload_n 0, 1) := by decide +kernel
theorem d_R_replace_42 : decode c_R_replace 42 = .ok (.getfield 15, 3) := by decide +kernel
theorem d_R_replace_45 : decode c_R_replace 45 = .ok (.iload_n 3, 1) := by decide +kernel
theorem d_R_replace_46 : decode c_R_replace 46 = .ok (.iaload, 1) := by decide +kernel
theorem d_R_replace_47 : decode c_R_replace 47 = .ok (.iload_n 1, 1) := by decide +kernel
theorem d_R_replace_48 : decode c_R_replace 48 = .ok (.if_icmp .ne 10, 3) := by decide +kernel
theorem d_R_replace_51 : decode c_R_replace 51 = .ok (.aload_n 0, 1) := by decide +kernel
theorem d_R_replace_52 : decode c_R_replace 52 = .ok (.getfield 15, 3) := by decide +kernel
theorem d_R_replace_55 : decode c_R_replace 55 = .ok (.iload_n 3, 1) := by decide +kernel
theorem d_R_replace_56 : decode c_R_replace 56 = .ok (.iload_n 2, 1) := by decide +kernel
theorem d_R_replace_57 : decode c_R_replace 57 = .ok (.iastore, 1) := by decide +kernel
theorem d_R_replace_58 : decode c_R_replace 58 = .ok (.iinc 3 1, 3) := by decide +kernel
theorem d_R_replace_61 : decode c_R_replace 61 = .ok (.goto (-28), 3) := by decide +kernel
theorem d_R_replace_64 : decode c_R_replace 64 = .ok (.return_, 1) := by decide +kernel
theorem d_R_isOnStack_0 : decode c_R_isOnStack 0 = .ok (.iconst 0, 1) := by decide +kernel
theorem d_R_isOnStack_1 : decode c_R_isOnStack 1 = .ok (.istore_n 2, 1) := by decide +kernel
theorem d_R_isOnStack_2 : decode c_R_isOnStack 2 = .ok (.iload_n 2, 1) := by decide +kernel
theorem d_R_isOnStack_3 : decode c_R_isOnStack 3 = .ok (.aload_n 0, 1) := by decide +kernel
theorem d_R_isOnStack_4 : decode c_R_isOnStack 4 = .ok (.getfield 27, 3) := by decide +kernel
theorem d_R_isOnStack_7 : decode c_R_isOnStack 7 = .ok (.if_icmp .ge 21, 3) := by decide +kernel
theorem d_R_isOnStack_10 : decode c_R_isOnStack 10 = .ok (.aload_n 0, 1) := by decide +kernel
theorem d_R_isOnStack_11 : decode c_R_isOnStack 11 = .ok (.getfield 15, 3) := by decide +kernel
theorem d_R_isOnStack_14 : decode c_R_isOnStack 14 = .ok (.iload_n 2, 1) := by decide +kernel
theorem d_R_isOnStack_15 : decode c_R_isOnStack 15 = .ok (.iaload, 1) := by decide +kernel
theorem d_R_isOnStack_16 : decode c_R_isOnStack 16 = .ok (.iload_n 1, 1) := by decide +kernel
theorem d_R_isOnStack_17 : decode c_R_isOnStack 17 = .ok (.if_icmp .ne 5, 3) := by decide +kernel
theorem d_R_isOnStack_20 : decode c_R_isOnStack 20 = .ok (.iconst 1, 1) := by decide +kernel
theorem d_R_isOnStack_21 : decode c_R_isOnStack 21 = .ok (.ireturn, 1) := by decide +kernel
theorem d_R_isOnStack_22 : decode c_R_isOnStack 22 = .ok (.iinc 2 1, 3) := by decide +kernel
theorem d_R_isOnStack_25 : decode c_R_isOnStack 25 = .ok (.goto (-23), 3) := by decide +kernel
theorem d_R_isOnStack_28 : decode c_R_isOnStack 28 = .ok (.iconst 0, 1) := by decide +kernel
theorem d_R_isOnStack_29 : decode c_R_isOnStack 29 = .ok (.ireturn, 1) := by decide +kernel
theorem d_R_hasRawLocal_0 : decode c_R_hasRawLocal 0 = .ok (.iconst 0, 1) := by decide +kernel
theorem d_R_hasRawLocal_1 : decode c_R_hasRawLocal 1 = .ok (.istore_n 1, 1) := by decide +kernel
theorem d_R_hasRawLocal_2 : decode c_R_hasRawLocal 2 = .ok (.iload_n 1, 1) := by decide +kernel
theorem d_R_hasRawLocal_3 : decode c_R_hasRawLocal 3 = .ok (.bipush 12, 2) := by decide +kernel
theorem d_R_hasRawLocal_5 : decode c_R_hasRawLocal 5 = .ok (.if_icmp .ge 23, 3) := by decide +kernel
theorem d_R_hasRawLocal_8 : decode c_R_hasRawLocal 8 = .ok (.aload_n 0, 1) := by decide +kernel
theorem d_R_hasRawLocal_9 : decode c_R_hasRawLocal 9 = .ok (.getfield 9, 3) := by decide +kernel
theorem d_R_hasRawLocal_12 : decode c_R_hasRawLocal 12 = .ok (.iload_n 1, 1) := by decide +kernel
theorem d_R_hasRawLocal_13 : decode c_R_hasRawLocal 13 = .ok (.iaload, 1) := by decide +kernel
theorem d_R_hasRawLocal_14 : decode c_R_hasRawLocal 14 = .ok (.invokestatic 72, 3) := by decide +kernel
theorem d_R_hasRawLocal_17 : decode c_R_hasRawLocal 17 = .ok (.ifCond .eq 5, 3) := by decide +kernel
theorem d_R_hasRawLocal_20 : decode c_R_hasRawLocal 20 = .ok (.iconst 1, 1) := by decide +kernel
theorem d_R_hasRawLocal_21 : decode c_R_hasRawLocal 21 = .ok (.ireturn, 1) := by decide +kernel
theorem d_R_hasRawLocal_22 : decode c_R_hasRawLocal 22 = .ok (.iinc 1 1, 3) := by decide +kernel
theorem d_R_hasRawLocal_25 : decode c_R_hasRawLocal 25 = .ok (.goto (-23), 3) := by decide +kernel
theorem d_R_hasRawLocal_28 : decode c_R_hasRawLocal 28 = .ok (.iconst 0, 1) := by decide +kernel
theorem d_R_hasRawLocal_29 : decode c_R_hasRawLocal 29 = .ok (.ireturn, 1) := by decide +kernel
end
section
theorem d_R_hasRaw_0 : decode c_R_hasRaw 0 = .ok (.iconst 0, 1) := by decide +kernel
theorem d_R_hasRaw_1 : decode c_R_hasRaw 1 = .ok (.istore_n 1, 1) := by decide +kernel
theorem d_R_hasRaw_2 : decode c_R_hasRaw 2 = .ok (.iload_n 1, 1) := by decide +kernel
theorem d_R_hasRaw_3 : decode c_R_hasRaw 3 = .ok (.aload_n 0, 1) := by decide +kernel
theorem d_R_hasRaw_4 : decode c_R_hasRaw 4 = .ok (.getfield 27, 3) := by decide +kernel
theorem d_R_hasRaw_7 : decode c_R_hasRaw 7 = .ok (.if_icmp .ge 23, 3) := by decide +kernel
theorem d_R_hasRaw_10 : decode c_R_hasRaw 10 = .ok (.aload_n 0, 1) := by decide +kernel
theorem d_R_hasRaw_11 : decode c_R_hasRaw 11 = .ok (.getfield 15, 3) := by decide +kernel
theorem d_R_hasRaw_14 : decode c_R_hasRaw 14 = .ok (.iload_n 1, 1) := by decide +kernel
theorem d_R_hasRaw_15 : decode c_R_hasRaw 15 = .ok (.iaload, 1) := by decide +kernel
theorem d_R_hasRaw_16 : decode c_R_hasRaw 16 = .ok (.invokestatic 72, 3) := by decide +kernel
theorem d_R_hasRaw_19 : decode c_R_hasRaw 19 = .ok (.ifCond .eq 5, 3) := by decide +kernel
theorem d_R_hasRaw_22 : decode c_R_hasRaw 22 = .ok (.iconst 1, 1) := by decide +kernel
theorem d_R_hasRaw_23 : decode c_R_hasRaw 23 = .ok (.ireturn, 1) := by decide +kernel
theorem d_R_hasRaw_24 : decode c_R_hasRaw 24 = .ok (.iinc 1 1, 3) := by decide +kernel
theorem d_R_hasRaw_27 : decode c_R_hasRaw 27 = .ok (.goto (-25), 3) := by decide +kernel
theorem d_R_hasRaw_30 : decode c_R_hasRaw 30 = .ok (.aload_n 0, 1) := by decide +kernel
theorem d_R_hasRaw_31 : decode c_R_hasRaw 31 = .ok (.invokevirtual 75, 3) := by decide +kernel
theorem d_R_hasRaw_34 : decode c_R_hasRaw 34 = .ok (.ireturn, 1) := by decide +kernel
theorem d_R_absorb_0 : decode c_R_absorb 0 = .ok (.aload_n 0, 1) := by decide +kernel
theorem d_R_absorb_1 : decode c_R_absorb 1 = .ok (.aload_n 1, 1) := by decide +kernel
theorem d_R_absorb_2 : decode c_R_absorb 2 = .ok (.invokevirtual 79, 3) := by decide +kernel
theorem d_R_absorb_5 : decode c_R_absorb 5 = .ok (.istore_n 3, 1) := by decide +kernel
theorem d_R_absorb_6 : decode c_R_absorb 6 = .ok (.iconst 0, 1) := by decide +kernel
theorem d_R_absorb_7 : decode c_R_absorb 7 = .ok (.istore 4, 2) := by decide +kernel
theorem d_R_absorb_9 : decode c_R_absorb 9 = .ok (.iload 4, 2) := by decide +kernel
theorem d_R_absorb_11 : decode c_R_absorb 11 = .ok (.bipush 12, 2) := by decide +kernel
theorem d_R_absorb_13 : decode c_R_absorb 13 = .ok (.if_icmp .ge 52, 3) := by decide +kernel
theorem d_R_absorb_16 : decode c_R_absorb 16 = .ok (.aload_n 0, 1) := by decide +kernel
theorem d_R_absorb_17 : decode c_R_absorb 17 = .ok (.getfield 9, 3) := by decide +kernel
theorem d_R_absorb_20 : decode c_R_absorb 20 = .ok (.iload 4, 2) := by decide +kernel
theorem d_R_absorb_22 : decode c_R_absorb 22 = .ok (.iaload, 1) := by decide +kernel
theorem d_R_absorb_23 : decode c_R_absorb 23 = .ok (.istore 5, 2) := by decide +kernel
theorem d_R_absorb_25 : decode c_R_absorb 25 = .ok (.aload_n 0, 1) := by decide +kernel
theorem d_R_absorb_26 : decode c_R_absorb 26 = .ok (.getfield 9, 3) := by decide +kernel
theorem d_R_absorb_29 : decode c_R_absorb 29 = .ok (.iload 4, 2) := by decide +kernel
theorem d_R_absorb_31 : decode c_R_absorb 31 = .ok (.aload_n 2, 1) := by decide +kernel
theorem d_R_absorb_32 : decode c_R_absorb 32 = .ok (.iload 5, 2) := by decide +kernel
theorem d_R_absorb_34 : decode c_R_absorb 34 = .ok (.aload_n 1, 1) := by decide +kernel
theorem d_R_absorb_35 : decode c_R_absorb 35 = .ok (.getfield 9, 3) := by decide +kernel
theorem d_R_absorb_38 : decode c_R_absorb 38 = .ok (.iload 4, 2) := by decide +kernel
theorem d_R_absorb_40 : decode c_R_absorb 40 = .ok (.iaload, 1) := by decide +kernel
theorem d_R_absorb_41 : decode c_R_absorb 41 = .ok (.invokevirtual 83, 3) := by decide +kernel
theorem d_R_absorb_44 : decode c_R_absorb 44 = .ok (.iastore, 1) := by decide +kernel
theorem d_R_absorb_45 : decode c_R_absorb 45 = .ok (.aload_n 0, 1) := by decide +kernel
theorem d_R_absorb_46 : decode c_R_absorb 46 = .ok (.getfield 9, 3) := by decide +kernel
theorem d_R_absorb_49 : decode c_R_absorb 49 = .ok (.iload 4, 2) := by decide +kernel
theorem d_R_absorb_51 : decode c_R_absorb 51 = .ok (.iaload, 1) := by decide +kernel
theorem d_R_absorb_52 : decode c_R_absorb 52 = .ok (.iload 5, 2) := by decide +kernel
theorem d_R_absorb_54 : decode c_R_absorb 54 = .ok (.if_icmp .eq 5, 3) := by decide +kernel
theorem d_R_absorb_57 : decode c_R_absorb 57 = .ok (.iconst 1, 1) := by decide +kernel
theorem d_R_absorb_58 : decode c_R_absorb 58 = .ok (.istore_n 3, 1) := by decide +kernel
theorem d_R_absorb_59 : decode c_R_absorb 59 = .ok (.iinc 4 1, 3) := by decide +kernel
theorem d_R_absorb_62 : decode c_R_absorb 62 = .ok (.goto (-53), 3) := by decide +kernel
theorem d_R_absorb_65 : decode c_R_absorb 65 = .ok (.iconst 0, 1) := by decide +kernel
theorem d_R_absorb_66 : decode c_R_absorb 66 = .ok (.istore 4, 2) := by decide +kernel
theorem d_R_absorb_68 : decode c_R_absorb 68 = .ok (.iload 4, 2) := by decide +kernel
theorem d_R_absorb_70 : decode c_R_absorb 70 = .ok (.aload_n 0, 1) := by decide +kernel
theorem d_R_absorb_71 : decode c_R_absorb 71 = .ok (.getfield 27, 3) := by decide +kernel
theorem d_R_absorb_74 : decode c_R_absorb 74 = .ok (.if_icmp .ge 52, 3) := by decide +kernel
theorem d_R_absorb_77 : decode c_R_absorb 77 = .ok (.aload_n 0, 1) := by decide +kernel
theorem d_R_absorb_78 : decode c_R_absorb 78 = .ok (.getfield 15, 3) := by decide +kernel
theorem d_R_absorb_81 : decode c_R_absorb 81 = .ok (.iload 4, 2) := by decide +kernel
theorem d_R_absorb_83 : decode c_R_absorb 83 = .ok (.iaload, 1) := by decide +kernel
theorem d_R_absorb_84 : decode c_R_absorb 84 = .ok (.istore 5, 2) := by decide +kernel
theorem d_R_absorb_86 : decode c_R_absorb 86 = .ok (.aload_n 0, 1) := by decide +kernel
theorem d_R_absorb_87 : decode c_R_absorb 87 = .ok (.getfield 15, 3) := by decide +kernel
theorem d_R_absorb_90 : decode c_R_absorb 90 = .ok (.iload 4, 2) := by decide +kernel
theorem d_R_absorb_92 : decode c_R_absorb 92 = .ok (.aload_n 2, 1) := by decide +kernel
theorem d_R_absorb_93 : decode c_R_absorb 93 = .ok (.iload 5, 2) := by decide +kernel
theorem d_R_absorb_95 : decode c_R_absorb 95 = .ok (.aload_n 1, 1) := by decide +kernel
theorem d_R_absorb_96 : decode c_R_absorb 96 = .ok (.getfield 15, 3) := by decide +kernel
theorem d_R_absorb_99 : decode c_R_absorb 99 = .ok (.iload 4, 2) := by decide +kernel
theorem d_R_absorb_101 : decode c_R_absorb 101 = .ok (.iaload, 1) := by decide +kernel
theorem d_R_absorb_102 : decode c_R_absorb 102 = .ok (.invokevirtual 83, 3) := by decide +kernel
theorem d_R_absorb_105 : decode c_R_absorb 105 = .ok (.iastore, 1) := by decide +kernel
theorem d_R_absorb_106 : decode c_R_absorb 106 = .ok (.aload_n 0, 1) := by decide +kernel
theorem d_R_absorb_107 : decode c_R_absorb 107 = .ok (.getfield 15, 3) := by decide +kernel
theorem d_R_absorb_110 : decode c_R_absorb 110 = .ok (.iload 4, 2) := by decide +kernel
theorem d_R_absorb_112 : decode c_R_absorb 112 = .ok (.iaload, 1) := by decide +kernel
theorem d_R_absorb_113 : decode c_R_absorb 113 = .ok (.iload 5, 2) := by decide +kernel
theorem d_R_absorb_115 : decode c_R_absorb 115 = .ok (.if_icmp .eq 5, 3) := by decide +kernel
theorem d_R_absorb_118 : decode c_R_absorb 118 = .ok (.iconst 1, 1) := by decide +kernel
theorem d_R_absorb_119 : decode c_R_absorb 119 = .ok (.istore_n 3, 1) := by decide +kernel
theorem d_R_absorb_120 : decode c_R_absorb 120 = .ok (.iinc 4 1, 3) := by decide +kernel
theorem d_R_absorb_123 : decode c_R_absorb 123 = .ok (.goto (-55), 3) := by decide +kernel
theorem d_R_absorb_126 : decode c_R_absorb 126 = .ok (.iload_n 3, 1) := by decide +kernel
theorem d_R_absorb_127 : decode c_R_absorb 127 = .ok (.ireturn, 1) := by decide +kernel
theorem d_R_absorbSubs_0 : decode c_R_absorbSubs 0 = .ok (.aload_n 0, 1) := by decide +kernel
theorem d_R_absorbSubs_1 : decode c_R_absorbSubs 1 = .ok (.getfield 31, 3) := by decide +kernel
theorem d_R_absorbSubs_4 : decode c_R_absorbSubs 4 = .ok (.lstore_n 2, 1) := by decide +kernel
theorem d_R_absorbSubs_5 : decode c_R_absorbSubs 5 = .ok (.aload_n 0, 1) := by decide +kernel
theorem d_R_absorbSubs_6 : decode c_R_absorbSubs 6 = .ok (.dup, 1) := by decide +kernel
theorem d_R_absorbSubs_7 : decode c_R_absorbSubs 7 = .ok (.getfield 31, 3) := by decide +kernel
theorem d_R_absorbSubs_10 : decode c_R_absorbSubs 10 = .ok (.aload_n 1, 1) := by decide +kernel
theorem d_R_absorbSubs_11 : decode c_R_absorbSubs 11 = .ok (.getfield 31, 3) := by decide +kernel
theorem d_R_absorbSubs_14 : decode c_R_absorbSubs 14 = .ok (.land, 1) := by decide +kernel
theorem d_R_absorbSubs_15 : decode c_R_absorbSubs 15 = .ok (.putfield 31, 3) := by decide +kernel
theorem d_R_absorbSubs_18 : decode c_R_absorbSubs 18 = .ok (.aload_n 0, 1) := by decide +kernel
theorem d_R_absorbSubs_19 : decode c_R_absorbSubs 19 = .ok (.getfield 31, 3) := by decide +kernel
theorem d_R_absorbSubs_22 : decode c_R_absorbSubs 22 = .ok (.lload_n 2, 1) := by decide +kernel
theorem d_R_absorbSubs_23 : decode c_R_absorbSubs 23 = .ok (.lcmp, 1) := by decide +kernel
theorem d_R_absorbSubs_24 : decode c_R_absorbSubs 24 = .ok (.ifCond .eq 7, 3) := by decide +kernel
theorem d_R_absorbSubs_27 : decode c_R_absorbSubs 27 = .ok (.iconst 1, 1) := by decide +kernel
theorem d_R_absorbSubs_28 : decode c_R_absorbSubs 28 = .ok (.goto 4, 3) := by decide +kernel
theorem d_R_absorbSubs_31 : decode c_R_absorbSubs 31 = .ok (.iconst 0, 1) := by decide +kernel
theorem d_R_absorbSubs_32 : decode c_R_absorbSubs 32 = .ok (.istore 4, 2) := by decide +kernel
theorem d_R_absorbSubs_34 : decode c_R_absorbSubs 34 = .ok (.iconst 0, 1) := by decide +kernel
theorem d_R_absorbSubs_35 : decode c_R_absorbSubs 35 = .ok (.istore 5, 2) := by decide +kernel
theorem d_R_absorbSubs_37 : decode c_R_absorbSubs 37 = .ok (.iload 5, 2) := by decide +kernel
theorem d_R_absorbSubs_39 : decode c_R_absorbSubs 39 = .ok (.bipush 48, 2) := by decide +kernel
theorem d_R_absorbSubs_41 : decode c_R_absorbSubs 41 = .ok (.if_icmp .ge 72, 3) := by decide +kernel
theorem d_R_absorbSubs_44 : decode c_R_absorbSubs 44 = .ok (.lload_n 2, 1) := by decide +kernel
theorem d_R_absorbSubs_45 : decode c_R_absorbSubs 45 = .ok (.iload 5, 2) := by decide +kernel
theorem d_R_absorbSubs_47 : decode c_R_absorbSubs 47 = .ok (.lshr, 1) := by decide +kernel
theorem d_R_absorbSubs_48 : decode c_R_absorbSubs 48 = .ok (.lconst 0, 1) := by decide +kernel
theorem d_R_absorbSubs_49 : decode c_R_absorbSubs 49 = .ok (.lcmp, 1) := by decide +kernel
theorem d_R_absorbSubs_50 : decode c_R_absorbSubs 50 = .ok (.ifCond .eq 63, 3) := by decide +kernel
theorem d_R_absorbSubs_53 : decode c_R_absorbSubs 53 = .ok (.aload_n 0, 1) := by decide +kernel
theorem d_R_absorbSubs_54 : decode c_R_absorbSubs 54 = .ok (.iload 5, 2) := by decide +kernel
theorem d_R_absorbSubs_56 : decode c_R_absorbSubs 56 = .ok (.invokevirtual 69, 3) := by decide +kernel
theorem d_R_absorbSubs_59 : decode c_R_absorbSubs 59 = .ok (.ifCond .eq 21, 3) := by decide +kernel
theorem d_R_absorbSubs_62 : decode c_R_absorbSubs 62 = .ok (.aload_n 0, 1) := by decide +kernel
theorem d_R_absorbSubs_63 : decode c_R_absorbSubs 63 = .ok (.getfield 18, 3) := by decide +kernel
theorem d_R_absorbSubs_66 : decode c_R_absorbSubs 66 = .ok (.iload 5, 2) := by decide +kernel
theorem d_R_absorbSubs_68 : decode c_R_absorbSubs 68 = .ok (.iaload, 1) := by decide +kernel
theorem d_R_absorbSubs_69 : decode c_R_absorbSubs 69 = .ok (.aload_n 1, 1) := by decide +kernel
theorem d_R_absorbSubs_70 : decode c_R_absorbSubs 70 = .ok (.getfield 18, 3) := by decide +kernel
theorem d_R_absorbSubs_73 : decode c_R_absorbSubs 73 = .ok (.iload 5, 2) := by decide +kernel
theorem d_R_absorbSubs_75 : decode c_R_absorbSubs 75 = .ok (.iaload, 1) := by decide +kernel
theorem d_R_absorbSubs_76 : decode c_R_absorbSubs 76 = .ok (.ior, 1) := by decide +kernel
theorem d_R_absorbSubs_77 : decode c_R_absorbSubs 77 = .ok (.goto 4, 3) := by decide +kernel
theorem d_R_absorbSubs_80 : decode c_R_absorbSubs 80 = .ok (.iconst 0, 1) := by decide +kernel
theorem d_R_absorbSubs_81 : decode c_R_absorbSubs 81 = .ok (.istore 6, 2) := by decide +kernel
theorem d_R_absorbSubs_83 : decode c_R_absorbSubs 83 = .ok (.iload 6, 2) := by decide +kernel
theorem d_R_absorbSubs_85 : decode c_R_absorbSubs 85 = .ok (.aload_n 0, 1) := by decide +kernel
theorem d_R_absorbSubs_86 : decode c_R_absorbSubs 86 = .ok (.getfield 18, 3) := by decide +kernel
theorem d_R_absorbSubs_89 : decode c_R_absorbSubs 89 = .ok (.iload 5, 2) := by decide +kernel
theorem d_R_absorbSubs_91 : decode c_R_absorbSubs 91 = .ok (.iaload, 1) := by decide +kernel
theorem d_R_absorbSubs_92 : decode c_R_absorbSubs 92 = .ok (.if_icmp .eq 6, 3) := by decide +kernel
theorem d_R_absorbSubs_95 : decode c_R_absorbSubs 95 = .ok (.iconst 1, 1) := by decide +kernel
theorem d_R_absorbSubs_96 : decode c_R_absorbSubs 96 = .ok (.istore 4, 2) := by decide +kernel
theorem d_R_absorbSubs_98 : decode c_R_absorbSubs 98 = .ok (.aload_n 0, 1) := by decide +kernel
theorem d_R_absorbSubs_99 : decode c_R_absorbSubs 99 = .ok (.getfield 18, 3) := by decide +kernel
theorem d_R_absorbSubs_102 : decode c_R_absorbSubs 102 = .ok (.iload 5, 2) := by decide +kernel
theorem d_R_absorbSubs_104 : decode c_R_absorbSubs 104 = .ok (.iload 6, 2) := by decide +kernel
theorem d_R_absorbSubs_106 : decode c_R_absorbSubs 106 = .ok (.iastore, 1) := by decide +kernel
theorem d_R_absorbSubs_107 : decode c_R_absorbSubs 107 = .ok (.iinc 5 1, 3) := by decide +kernel
theorem d_R_absorbSubs_110 : decode c_R_absorbSubs 110 = .ok (.goto (-73), 3) := by decide +kernel
theorem d_R_absorbSubs_113 : decode c_R_absorbSubs 113 = .ok (.iload 4, 2) := by decide +kernel
theorem d_R_absorbSubs_115 : decode c_R_absorbSubs 115 = .ok (.ireturn, 1) := by decide +kernel
theorem d_R_read_0 : decode c_R_read 0 = .ok (.iload_n 1, 1) := by decide +kernel
theorem d_R_read_1 : decode c_R_read 1 = .ok (.ifCond .lt 16, 3) := by decide +kernel
theorem d_R_read_4 : decode c_R_read 4 = .ok (.iload_n 1, 1) := by decide +kernel
theorem d_R_read_5 : decode c_R_read 5 = .ok (.bipush 12, 2) := by decide +kernel
theorem d_R_read_7 : decode c_R_read 7 = .ok (.if_icmp .ge 10, 3) := by decide +kernel
theorem d_R_read_10 : decode c_R_read 10 = .ok (.aload_n 0, 1) := by decide +kernel
theorem d_R_read_11 : decode c_R_read 11 = .ok (.getfield 9, 3) := by decide +kernel
theorem d_R_read_14 : decode c_R_read 14 = .ok (.iload_n 1, 1) := by decide +kernel
theorem d_R_read_15 : decode c_R_read 15 = .ok (.iaload, 1) := by decide +kernel
theorem d_R_read_16 : decode c_R_read 16 = .ok (.ireturn, 1) := by decide +kernel
theorem d_R_read_17 : decode c_R_read 17 = .ok (.iload_n 1, 1) := by decide +kernel
theorem d_R_read_18 : decode c_R_read 18 = .ok (.bipush 16, 2) := by decide +kernel
theorem d_R_read_20 : decode c_R_read 20 = .ok (.if_icmp .lt 24, 3) := by decide +kernel
theorem d_R_read_23 : decode c_R_read 23 = .ok (.iload_n 1, 1) := by decide +kernel
theorem d_R_read_24 : decode c_R_read 24 = .ok (.bipush 16, 2) := by decide +kernel
theorem d_R_read_26 : decode c_R_read 26 = .ok (.aload_n 0, 1) := by decide +kernel
theorem d_R_read_27 : decode c_R_read 27 = .ok (.getfield 27, 3) := by decide +kernel
theorem d_R_read_30 : decode c_R_read 30 = .ok (.iadd, 1) := by decide +kernel
theorem d_R_read_31 : decode c_R_read 31 = .ok (.if_icmp .ge 13, 3) := by decide +kernel
theorem d_R_read_34 : decode c_R_read 34 = .ok (.aload_n 0, 1) := by decide +kernel
theorem d_R_read_35 : decode c_R_read 35 = .ok (.getfield 15, 3) := by decide +kernel
theorem d_R_read_38 : decode c_R_read 38 = .ok (.iload_n 1, 1) := by decide +kernel
theorem d_R_read_39 : decode c_R_read 39 = .ok (.bipush 16, 2) := by decide +kernel
theorem d_R_read_41 : decode c_R_read 41 = .ok (.isub, 1) := by decide +kernel
theorem d_R_read_42 : decode c_R_read 42 = .ok (.iaload, 1) := by decide +kernel
theorem d_R_read_43 : decode c_R_read 43 = .ok (.ireturn, 1) := by decide +kernel
theorem d_R_read_44 : decode c_R_read 44 = .ok (.iload_n 1, 1) := by decide +kernel
theorem d_R_read_45 : decode c_R_read 45 = .ok (.bipush 32, 2) := by decide +kernel
theorem d_R_read_47 : decode c_R_read 47 = .ok (.if_icmp .ne 8, 3) := by decide +kernel
theorem d_R_read_50 : decode c_R_read 50 = .ok (.aload_n 0, 1) := by decide +kernel
theorem d_R_read_51 : decode c_R_read 51 = .ok (.getfield 27, 3) := by decide +kernel
theorem d_R_read_54 : decode c_R_read 54 = .ok (.ireturn, 1) := by decide +kernel
theorem d_R_read_55 : decode c_R_read 55 = .ok (.iload_n 1, 1) := by decide +kernel
theorem d_R_read_56 : decode c_R_read 56 = .ok (.bipush 33, 2) := by decide +kernel
theorem d_R_read_58 : decode c_R_read 58 = .ok (.if_icmp .ne 11, 3) := by decide +kernel
theorem d_R_read_61 : decode c_R_read 61 = .ok (.aload_n 0, 1) := by decide +kernel
theorem d_R_read_62 : decode c_R_read 62 = .ok (.getfield 31, 3) := by decide +kernel
theorem d_R_read_65 : decode c_R_read 65 = .ok (.invokestatic 89, 3) := by decide +kernel
theorem d_R_read_68 : decode c_R_read 68 = .ok (.ireturn, 1) := by decide +kernel
theorem d_R_read_69 : decode c_R_read 69 = .ok (.iload_n 1, 1) := by decide +kernel
theorem d_R_read_70 : decode c_R_read 70 = .ok (.bipush 34, 2) := by decide +kernel
theorem d_R_read_72 : decode c_R_read 72 = .ok (.if_icmp .lt 18, 3) := by decide +kernel
theorem d_R_read_75 : decode c_R_read 75 = .ok (.iload_n 1, 1) := by decide +kernel
theorem d_R_read_76 : decode c_R_read 76 = .ok (.bipush 40, 2) := by decide +kernel
theorem d_R_read_78 : decode c_R_read 78 = .ok (.if_icmp .ge 12, 3) := by decide +kernel
theorem d_R_read_81 : decode c_R_read 81 = .ok (.aload_n 0, 1) := by decide +kernel
theorem d_R_read_82 : decode c_R_read 82 = .ok (.iload_n 1, 1) := by decide +kernel
theorem d_R_read_83 : decode c_R_read 83 = .ok (.bipush 34, 2) := by decide +kernel
theorem d_R_read_85 : decode c_R_read 85 = .ok (.isub, 1) := by decide +kernel
theorem d_R_read_86 : decode c_R_read 86 = .ok (.invokevirtual 95, 3) := by decide +kernel
theorem d_R_read_89 : decode c_R_read 89 = .ok (.ireturn, 1) := by decide +kernel
theorem d_R_read_90 : decode c_R_read 90 = .ok (.iload_n 1, 1) := by decide +kernel
theorem d_R_read_91 : decode c_R_read 91 = .ok (.bipush 40, 2) := by decide +kernel
theorem d_R_read_93 : decode c_R_read 93 = .ok (.if_icmp .lt 9, 3) := by decide +kernel
theorem d_R_read_96 : decode c_R_read 96 = .ok (.iload_n 1, 1) := by decide +kernel
theorem d_R_read_97 : decode c_R_read 97 = .ok (.bipush 46, 2) := by decide +kernel
theorem d_R_read_99 : decode c_R_read 99 = .ok (.if_icmp .lt 5, 3) := by decide +kernel
theorem d_R_read_102 : decode c_R_read 102 = .ok (.iconst (-1), 1) := by decide +kernel
theorem d_R_read_103 : decode c_R_read 103 = .ok (.ireturn, 1) := by decide +kernel
theorem d_R_read_104 : decode c_R_read 104 = .ok (.aload_n 0, 1) := by decide +kernel
theorem d_R_read_105 : decode c_R_read 105 = .ok (.iload_n 1, 1) := by decide +kernel
theorem d_R_read_106 : decode c_R_read 106 = .ok (.bipush 40, 2) := by decide +kernel
theorem d_R_read_108 : decode c_R_read 108 = .ok (.isub, 1) := by decide +kernel
theorem d_R_read_109 : decode c_R_read 109 = .ok (.invokevirtual 95, 3) := by decide +kernel
theorem d_R_read_112 : decode c_R_read 112 = .ok (.istore_n 2, 1) := by decide +kernel
theorem d_R_read_113 : decode c_R_read 113 = .ok (.iload_n 2, 1) := by decide +kernel
theorem d_R_read_114 : decode c_R_read 114 = .ok (.iconst (-1), 1) := by decide +kernel
theorem d_R_read_115 : decode c_R_read 115 = .ok (.if_icmp .ne 7, 3) := by decide +kernel
theorem d_R_read_118 : decode c_R_read 118 = .ok (.iconst (-1), 1) := by decide +kernel
theorem d_R_read_119 : decode c_R_read 119 = .ok (.goto 9, 3) := by decide +kernel
theorem d_R_read_122 : decode c_R_read 122 = .ok (.aload_n 0, 1) := by decide +kernel
theorem d_R_read_123 : decode c_R_read 123 = .ok (.getfield 18, 3) := by decide +kernel
theorem d_R_read_126 : decode c_R_read 126 = .ok (.iload_n 2, 1) := by decide +kernel
theorem d_R_read_127 : decode c_R_read 127 = .ok (.iaload, 1) := by decide +kernel
theorem d_R_read_128 : decode c_R_read 128 = .ok (.ireturn, 1) := by decide +kernel
theorem d_R_findSub_0 : decode c_R_findSub 0 = .ok (.iconst 0, 1) := by decide +kernel
theorem d_R_findSub_1 : decode c_R_findSub 1 = .ok (.istore_n 2, 1) := by decide +kernel
theorem d_R_findSub_2 : decode c_R_findSub 2 = .ok (.iconst 0, 1) := by decide +kernel
theorem d_R_findSub_3 : decode c_R_findSub 3 = .ok (.istore_n 3, 1) := by decide +kernel
theorem d_R_findSub_4 : decode c_R_findSub 4 = .ok (.iload_n 3, 1) := by decide +kernel
theorem d_R_findSub_5 : decode c_R_findSub 5 = .ok (.bipush 48, 2) := by decide +kernel
theorem d_R_findSub_7 : decode c_R_findSub 7 = .ok (.if_icmp .ge 30, 3) := by decide +kernel
theorem d_R_findSub_10 : decode c_R_findSub 10 = .ok (.aload_n 0, 1) := by decide +kernel
theorem d_R_findSub_11 : decode c_R_findSub 11 = .ok (.iload_n 3, 1) := by decide +kernel
theorem d_R_findSub_12 : decode c_R_findSub 12 = .ok (.invokevirtual 69, 3) := by decide +kernel
theorem d_R_findSub_15 : decode c_R_findSub 15 = .ok (.ifCond .ne 6, 3) := by decide +kernel
theorem d_R_findSub_18 : decode c_R_findSub 18 = .ok (.goto 13, 3) := by decide +kernel
theorem d_R_findSub_21 : decode c_R_findSub 21 = .ok (.iload_n 2, 1) := by decide +kernel
theorem d_R_findSub_22 : decode c_R_findSub 22 = .ok (.iload_n 1, 1) := by decide +kernel
theorem d_R_findSub_23 : decode c_R_findSub 23 = .ok (.if_icmp .ne 5, 3) := by decide +kernel
theorem d_R_findSub_26 : decode c_R_findSub 26 = .ok (.iload_n 3, 1) := by decide +kernel
theorem d_R_findSub_27 : decode c_R_findSub 27 = .ok (.ireturn, 1) := by decide +kernel
theorem d_R_findSub_28 : decode c_R_findSub 28 = .ok (.iinc 2 1, 3) := by decide +kernel
theorem d_R_findSub_31 : decode c_R_findSub 31 = .ok (.iinc 3 1, 3) := by decide +kernel
theorem d_R_findSub_34 : decode c_R_findSub 34 = .ok (.goto (-30), 3) := by decide +kernel
theorem d_R_findSub_37 : decode c_R_findSub 37 = .ok (.iconst (-1), 1) := by decide +kernel
theorem d_R_findSub_38 : decode c_R_findSub 38 = .ok (.ireturn, 1) := by decide +kernel
theorem d_M_init_0 : decode c_M_init 0 = .ok (.aload_n 0, 1) := by decide +kernel
theorem d_M_init_1 : decode c_M_init 1 = .ok (.invokespecial 3, 3) := by decide +kernel
theorem d_M_init_4 : decode c_M_init 4 = .ok (.aload_n 0, 1) := by decide +kernel
theorem d_M_init_5 : decode c_M_init 5 = .ok (.bipush 48, 2) := by decide +kernel
theorem d_M_init_7 : decode c_M_init 7 = .ok (.newarray .int, 2) := by decide +kernel
theorem d_M_init_9 : decode c_M_init 9 = .ok (.putfield 9, 3) := by decide +kernel
theorem d_M_init_12 : decode c_M_init 12 = .ok (.aload_n 0, 1) := by decide +kernel
theorem d_M_init_13 : decode c_M_init 13 = .ok (.bipush 48, 2) := by decide +kernel
theorem d_M_init_15 : decode c_M_init 15 = .ok (.newarray .int, 2) := by decide +kernel
theorem d_M_init_17 : decode c_M_init 17 = .ok (.putfield 15, 3) := by decide +kernel
theorem d_M_init_20 : decode c_M_init 20 = .ok (.aload_n 0, 1) := by decide +kernel
theorem d_M_init_21 : decode c_M_init 21 = .ok (.bipush 48, 2) := by decide +kernel
theorem d_M_init_23 : decode c_M_init 23 = .ok (.newarray .int, 2) := by decide +kernel
theorem d_M_init_25 : decode c_M_init 25 = .ok (.putfield 18, 3) := by decide +kernel
theorem d_M_init_28 : decode c_M_init 28 = .ok (.aload_n 0, 1) := by decide +kernel
theorem d_M_init_29 : decode c_M_init 29 = .ok (.iconst 3, 1) := by decide +kernel
theorem d_M_init_30 : decode c_M_init 30 = .ok (.newarray .int, 2) := by decide +kernel
theorem d_M_init_32 : decode c_M_init 32 = .ok (.putfield 21, 3) := by decide +kernel
theorem d_M_init_35 : decode c_M_init 35 = .ok (.aload_n 0, 1) := by decide +kernel
theorem d_M_init_36 : decode c_M_init 36 = .ok (.iconst 3, 1) := by decide +kernel
theorem d_M_init_37 : decode c_M_init 37 = .ok (.newarray .int, 2) := by decide +kernel
theorem d_M_init_39 : decode c_M_init 39 = .ok (.putfield 24, 3) := by decide +kernel
theorem d_M_init_42 : decode c_M_init 42 = .ok (.aload_n 0, 1) := by decide +kernel
theorem d_M_init_43 : decode c_M_init 43 = .ok (.iconst 3, 1) := by decide +kernel
theorem d_M_init_44 : decode c_M_init 44 = .ok (.newarray .int, 2) := by decide +kernel
theorem d_M_init_46 : decode c_M_init 46 = .ok (.putfield 27, 3) := by decide +kernel
theorem d_M_init_49 : decode c_M_init 49 = .ok (.aload_n 0, 1) := by decide +kernel
theorem d_M_init_50 : decode c_M_init 50 = .ok (.iconst 3, 1) := by decide +kernel
theorem d_M_init_51 : decode c_M_init 51 = .ok (.newarray .int, 2) := by decide +kernel
theorem d_M_init_53 : decode c_M_init 53 = .ok (.putfield 30, 3) := by decide +kernel
theorem d_M_init_56 : decode c_M_init 56 = .ok (.aload_n 0, 1) := by decide +kernel
theorem d_M_init_57 : decode c_M_init 57 = .ok (.bipush 6, 2) := by decide +kernel
theorem d_M_init_59 : decode c_M_init 59 = .ok (.newarray .int, 2) := by decide +kernel
theorem d_M_init_61 : decode c_M_init 61 = .ok (.putfield 33, 3) := by decide +kernel
theorem d_M_init_64 : decode c_M_init 64 = .ok (.return_, 1) := by decide +kernel
theorem d_M_restart_0 : decode c_M_restart 0 = .ok (.aload_n 0, 1) := by decide +kernel
theorem d_M_restart_1 : decode c_M_restart 1 = .ok (.iload_n 1, 1) := by decide +kernel
theorem d_M_restart_2 : decode c_M_restart 2 = .ok (.putfield 36, 3) := by decide +kernel
theorem d_M_restart_5 : decode c_M_restart 5 = .ok (.aload_n 0, 1) := by decide +kernel
theorem d_M_restart_6 : decode c_M_restart 6 = .ok (.iload_n 2, 1) := by decide +kernel
theorem d_M_restart_7 : decode c_M_restart 7 = .ok (.putfield 40, 3) := by decide +kernel
theorem d_M_restart_10 : decode c_M_restart 10 = .ok (.aload_n 0, 1) := by decide +kernel
theorem d_M_restart_11 : decode c_M_restart 11 = .ok (.iload_n 3, 1) := by decide +kernel
theorem d_M_restart_12 : decode c_M_restart 12 = .ok (.putfield 43, 3) := by decide +kernel
theorem d_M_restart_15 : decode c_M_restart 15 = .ok (.aload_n 0, 1) := by decide +kernel
theorem d_M_restart_16 : decode c_M_restart 16 = .ok (.iconst 0, 1) := by decide +kernel
theorem d_M_restart_17 : decode c_M_restart 17 = .ok (.putfield 46, 3) := by decide +kernel
theorem d_M_restart_20 : decode c_M_restart 20 = .ok (.aload_n 0, 1) := by decide +kernel
theorem d_M_restart_21 : decode c_M_restart 21 = .ok (.iconst 0, 1) := by decide +kernel
theorem d_M_restart_22 : decode c_M_restart 22 = .ok (.putfield 49, 3) := by decide +kernel
theorem d_M_restart_25 : decode c_M_restart 25 = .ok (.aload_n 0, 1) := by decide +kernel
theorem d_M_restart_26 : decode c_M_restart 26 = .ok (.iconst 0, 1) := by decide +kernel
theorem d_M_restart_27 : decode c_M_restart 27 = .ok (.putfield 52, 3) := by decide +kernel
theorem d_M_restart_30 : decode c_M_restart 30 = .ok (.return_, 1) := by decide +kernel
theorem d_M_append_0 : decode c_M_append 0 = .ok (.aload_n 0, 1) := by decide +kernel
theorem d_M_append_1 : decode c_M_append 1 = .ok (.aload_n 0, 1) := by decide +kernel
theorem d_M_append_2 : decode c_M_append 2 = .ok (.getfield 46, 3) := by decide +kernel
theorem d_M_append_5 : decode c_M_append 5 = .ok (.iload_n 1, 1) := by decide +kernel
theorem d_M_append_6 : decode c_M_append 6 = .ok (.iload_n 2, 1) := by decide +kernel
theorem d_M_append_7 : decode c_M_append 7 = .ok (.iload_n 3, 1) := by decide +kernel
theorem d_M_append_8 : decode c_M_append 8 = .ok (.invokevirtual 55, 3) := by decide +kernel
theorem d_M_append_11 : decode c_M_append 11 = .ok (.aload_n 0, 1) := by decide +kernel
theorem d_M_append_12 : decode c_M_append 12 = .ok (.dup, 1) := by decide +kernel
theorem d_M_append_13 : decode c_M_append 13 = .ok (.getfield 46, 3) := by decide +kernel
theorem d_M_append_16 : decode c_M_append 16 = .ok (.iconst 1, 1) := by decide +kernel
theorem d_M_append_17 : decode c_M_append 17 = .ok (.iadd, 1) := by decide +kernel
theorem d_M_append_18 : decode c_M_append 18 = .ok (.putfield 46, 3) := by decide +kernel
theorem d_M_append_21 : decode c_M_append 21 = .ok (.aload_n 0, 1) := by decide +kernel
theorem d_M_append_22 : decode c_M_append 22 = .ok (.getfield 46, 3) := by decide +kernel
theorem d_M_append_25 : decode c_M_append 25 = .ok (.iconst 1, 1) := by decide +kernel
theorem d_M_append_26 : decode c_M_append 26 = .ok (.isub, 1) := by decide +kernel
theorem d_M_append_27 : decode c_M_append 27 = .ok (.ireturn, 1) := by decide +kernel
theorem d_M_write_0 : decode c_M_write 0 = .ok (.aload_n 0, 1) := by decide +kernel
theorem d_M_write_1 : decode c_M_write 1 = .ok (.getfield 9, 3) := by decide +kernel
theorem d_M_write_4 : decode c_M_write 4 = .ok (.iload_n 1, 1) := by decide +kernel
theorem d_M_write_5 : decode c_M_write 5 = .ok (.iload_n 2, 1) := by decide +kernel
theorem d_M_write_6 : decode c_M_write 6 = .ok (.iastore, 1) := by decide +kernel
theorem d_M_write_7 : decode c_M_write 7 = .ok (.aload_n 0, 1) := by decide +kernel
theorem d_M_write_8 : decode c_M_write 8 = .ok (.getfield 15, 3) := by decide +kernel
theorem d_M_write_11 : decode c_M_write 11 = .ok (.iload_n 1, 1) := by decide +kernel
theorem d_M_write_12 : decode c_M_write 12 = .ok (.iload_n 3, 1) := by decide +kernel
theorem d_M_write_13 : decode c_M_write 13 = .ok (.iastore, 1) := by decide +kernel
theorem d_M_write_14 : decode c_M_write 14 = .ok (.aload_n 0, 1) := by decide +kernel
theorem d_M_write_15 : decode c_M_write 15 = .ok (.getfield 18, 3) := by decide +kernel
theorem d_M_write_18 : decode c_M_write 18 = .ok (.iload_n 1, 1) := by decide +kernel
theorem d_M_write_19 : decode c_M_write 19 = .ok (.iload 4, 2) := by decide +kernel
theorem d_M_write_21 : decode c_M_write 21 = .ok (.iastore, 1) := by decide +kernel
theorem d_M_write_22 : decode c_M_write 22 = .ok (.return_, 1) := by decide +kernel
theorem d_M_appendArgument_0 : decode c_M_appendArgument 0 = .ok (.aload_n 0, 1) := by decide +kernel
theorem d_M_appendArgument_1 : decode c_M_appendArgument 1 = .ok (.getfield 33, 3) := by decide +kernel
theorem d_M_appendArgument_4 : decode c_M_appendArgument 4 = .ok (.aload_n 0, 1) := by decide +kernel
theorem d_M_appendArgument_5 : decode c_M_appendArgument 5 = .ok (.getfield 52, 3) := by decide +kernel
theorem d_M_appendArgument_8 : decode c_M_appendArgument 8 = .ok (.iload_n 1, 1) := by decide +kernel
theorem d_M_appendArgument_9 : decode c_M_appendArgument 9 = .ok (.iastore, 1) := by decide +kernel
theorem d_M_appendArgument_10 : decode c_M_appendArgument 10 = .ok (.aload_n 0, 1) := by decide +kernel
theorem d_M_appendArgument_11 : decode c_M_appendArgument 11 = .ok (.dup, 1) := by decide +kernel
theorem d_M_appendArgument_12 : decode c_M_appendArgument 12 = .ok (.getfield 52, 3) := by decide +kernel
theorem d_M_appendArgument_15 : decode c_M_appendArgument 15 = .ok (.iconst 1, 1) := by decide +kernel
theorem d_M_appendArgument_16 : decode c_M_appendArgument 16 = .ok (.iadd, 1) := by decide +kernel
theorem d_M_appendArgument_17 : decode c_M_appendArgument 17 = .ok (.putfield 52, 3) := by decide +kernel
theorem d_M_appendArgument_20 : decode c_M_appendArgument 20 = .ok (.aload_n 0, 1) := by decide +kernel
theorem d_M_appendArgument_21 : decode c_M_appendArgument 21 = .ok (.getfield 52, 3) := by decide +kernel
theorem d_M_appendArgument_24 : decode c_M_appendArgument 24 = .ok (.ireturn, 1) := by decide +kernel
theorem d_M_appendHandler_0 : decode c_M_appendHandler 0 = .ok (.aload_n 0, 1) := by decide +kernel
theorem d_M_appendHandler_1 : decode c_M_appendHandler 1 = .ok (.getfield 21, 3) := by decide +kernel
theorem d_M_appendHandler_4 : decode c_M_appendHandler 4 = .ok (.aload_n 0, 1) := by decide +kernel
theorem d_M_appendHandler_5 : decode c_M_appendHandler 5 = .ok (.getfield 49, 3) := by decide +kernel
theorem d_M_appendHandler_8 : decode c_M_appendHandler 8 = .ok (.iload_n 1, 1) := by decide +kernel
theorem d_M_appendHandler_9 : decode c_M_appendHandler 9 = .ok (.iastore, 1) := by decide +kernel
theorem d_M_appendHandler_10 : decode c_M_appendHandler 10 = .ok (.aload_n 0, 1) := by decide +kernel
theorem d_M_appendHandler_11 : decode c_M_appendHandler 11 = .ok (.getfield 24, 3) := by decide +kernel
theorem d_M_appendHandler_14 : decode c_M_appendHandler 14 = .ok (.aload_n 0, 1) := by decide +kernel
theorem d_M_appendHandler_15 : decode c_M_appendHandler 15 = .ok (.getfield 49, 3) := by decide +kernel
theorem d_M_appendHandler_18 : decode c_M_appendHandler 18 = .ok (.iload_n 2, 1) := by decide +kernel
theorem d_M_appendHandler_19 : decode c_M_appendHandler 19 = .ok (.iastore, 1) := by decide +kernel
theorem d_M_appendHandler_20 : decode c_M_appendHandler 20 = .ok (.aload_n 0, 1) := by decide +kernel
theorem d_M_appendHandler_21 : decode c_M_appendHandler 21 = .ok (.getfield 27, 3) := by decide +kernel
theorem d_M_appendHandler_24 : decode c_M_appendHandler 24 = .ok (.aload_n 0, 1) := by decide +kernel
theorem d_M_appendHandler_25 : decode c_M_appendHandler 25 = .ok (.getfield 49, 3) := by decide +kernel
theorem d_M_appendHandler_28 : decode c_M_appendHandler 28 = .ok (.iload_n 3, 1) := by decide +kernel
theorem d_M_appendHandler_29 : decode c_M_appendHandler 29 = .ok (.iastore, 1) := by decide +kernel
theorem d_M_appendHandler_30 : decode c_M_appendHandler 30 = .ok (.aload_n 0, 1) := by decide +kernel
theorem d_M_appendHandler_31 : decode c_M_appendHandler 31 = .ok (.getfield 30, 3) := by decide +kernel
theorem d_M_appendHandler_34 : decode c_M_appendHandler 34 = .ok (.aload_n 0, 1) := by decide +kernel
theorem d_M_appendHandler_35 : decode c_M_appendHandler 35 = .ok (.getfield 49, 3) := by decide +kernel
theorem d_M_appendHandler_38 : decode c_M_appendHandler 38 = .ok (.iload 4, 2) := by decide +kernel
theorem d_M_appendHandler_40 : decode c_M_appendHandler 40 = .ok (.iastore, 1) := by decide +kernel
theorem d_M_appendHandler_41 : decode c_M_appendHandler 41 = .ok (.aload_n 0, 1) := by decide +kernel
theorem d_M_appendHandler_42 : decode c_M_appendHandler 42 = .ok (.dup, 1) := by decide +kernel
theorem d_M_appendHandler_43 : decode c_M_appendHandler 43 = .ok (.getfield 49, 3) := by decide +kernel
theorem d_M_appendHandler_46 : decode c_M_appendHandler 46 = .ok (.iconst 1, 1) := by decide +kernel
theorem d_M_appendHandler_47 : decode c_M_appendHandler 47 = .ok (.iadd, 1) := by decide +kernel
theorem d_M_appendHandler_48 : decode c_M_appendHandler 48 = .ok (.putfield 49, 3) := by decide +kernel
theorem d_M_appendHandler_51 : decode c_M_appendHandler 51 = .ok (.aload_n 0, 1) := by decide +kernel
theorem d_M_appendHandler_52 : decode c_M_appendHandler 52 = .ok (.getfield 49, 3) := by decide +kernel
theorem d_M_appendHandler_55 : decode c_M_appendHandler 55 = .ok (.ireturn, 1) := by decide +kernel
theorem d_M_hasInstruction_0 : decode c_M_hasInstruction 0 = .ok (.iload_n 1, 1) := by decide +kernel
theorem d_M_hasInstruction_1 : decode c_M_hasInstruction 1 = .ok (.ifCond .lt 15, 3) := by decide +kernel
theorem d_M_hasInstruction_4 : decode c_M_hasInstruction 4 = .ok (.iload_n 1, 1) := by decide +kernel
theorem d_M_hasInstruction_5 : decode c_M_hasInstruction 5 = .ok (.aload_n 0, 1) := by decide +kernel
theorem d_M_hasInstruction_6 : decode c_M_hasInstruction 6 = .ok (.getfield 46, 3) := by decide +kernel
theorem d_M_hasInstruction_9 : decode c_M_hasInstruction 9 = .ok (.if_icmp .ge 7, 3) := by decide +kernel
theorem d_M_hasInstruction_12 : decode c_M_hasInstruction 12 = .ok (.iconst 1, 1) := by decide +kernel
theorem d_M_hasInstruction_13 : decode c_M_hasInstruction 13 = .ok (.goto 4, 3) := by decide +kernel
theorem d_M_hasInstruction_16 : decode c_M_hasInstruction 16 = .ok (.iconst 0, 1) := by decide +kernel
theorem d_M_hasInstruction_17 : decode c_M_hasInstruction 17 = .ok (.ireturn, 1) := by decide +kernel
theorem d_M_hasLocal_0 : decode c_M_hasLocal 0 = .ok (.iload_n 1, 1) := by decide +kernel
theorem d_M_hasLocal_1 : decode c_M_hasLocal 1 = .ok (.ifCond .lt 15, 3) := by decide +kernel
theorem d_M_hasLocal_4 : decode c_M_hasLocal 4 = .ok (.iload_n 1, 1) := by decide +kernel
theorem d_M_hasLocal_5 : decode c_M_hasLocal 5 = .ok (.aload_n 0, 1) := by decide +kernel
theorem d_M_hasLocal_6 : decode c_M_hasLocal 6 = .ok (.getfield 40, 3) := by decide +kernel
theorem d_M_hasLocal_9 : decode c_M_hasLocal 9 = .ok (.if_icmp .ge 7, 3) := by decide +kernel
theorem d_M_hasLocal_12 : decode c_M_hasLocal 12 = .ok (.iconst 1, 1) := by decide +kernel
theorem d_M_hasLocal_13 : decode c_M_hasLocal 13 = .ok (.goto 4, 3) := by decide +kernel
theorem d_M_hasLocal_16 : decode c_M_hasLocal 16 = .ok (.iconst 0, 1) := by decide +kernel
theorem d_M_hasLocal_17 : decode c_M_hasLocal 17 = .ok (.ireturn, 1) := by decide +kernel
theorem d_M_covers_0 : decode c_M_covers 0 = .ok (.aload_n 0, 1) := by decide +kernel
theorem d_M_covers_1 : decode c_M_covers 1 = .ok (.getfield 21, 3) := by decide +kernel
theorem d_M_covers_4 : decode c_M_covers 4 = .ok (.iload_n 1, 1) := by decide +kernel
theorem d_M_covers_5 : decode c_M_covers 5 = .ok (.iaload, 1) := by decide +kernel
theorem d_M_covers_6 : decode c_M_covers 6 = .ok (.iload_n 2, 1) := by decide +kernel
theorem d_M_covers_7 : decode c_M_covers 7 = .ok (.if_icmp .gt 17, 3) := by decide +kernel
theorem d_M_covers_10 : decode c_M_covers 10 = .ok (.iload_n 2, 1) := by decide +kernel
theorem d_M_covers_11 : decode c_M_covers 11 = .ok (.aload_n 0, 1) := by decide +kernel
theorem d_M_covers_12 : decode c_M_covers 12 = .ok (.getfield 24, 3) := by decide +kernel
theorem d_M_covers_15 : decode c_M_covers 15 = .ok (.iload_n 1, 1) := by decide +kernel
theorem d_M_covers_16 : decode c_M_covers 16 = .ok (.iaload, 1) := by decide +kernel
theorem d_M_covers_17 : decode c_M_covers 17 = .ok (.if_icmp .ge 7, 3) := by decide +kernel
theorem d_M_covers_20 : decode c_M_covers 20 = .ok (.iconst 1, 1) := by decide +kernel
theorem d_M_covers_21 : decode c_M_covers 21 = .ok (.goto 4, 3) := by decide +kernel
theorem d_M_covers_24 : decode c_M_covers 24 = .ok (.iconst 0, 1) := by decide +kernel
theorem d_M_covers_25 : decode c_M_covers 25 = .ok (.ireturn, 1) := by decide +kernel
theorem d_T_init_0 : decode c_T_init 0 = .ok (.aload_n 0, 1) := by decide +kernel
theorem d_T_init_1 : decode c_T_init 1 = .ok (.invokespecial 3, 3) := by decide +kernel
theorem d_T_init_4 : decode c_T_init 4 = .ok (.aload_n 0, 1) := by decide +kernel
theorem d_T_init_5 : decode c_T_init 5 = .ok (.bipush 10, 2) := by decide +kernel
theorem d_T_init_7 : decode c_T_init 7 = .ok (.newarray .int, 2) := by decide +kernel
theorem d_T_init_9 : decode c_T_init 9 = .ok (.putfield 9, 3) := by decide +kernel
theorem d_T_init_12 : decode c_T_init 12 = .ok (.aload_n 0, 1) := by decide +kernel
theorem d_T_init_13 : decode c_T_init 13 = .ok (.bipush 10, 2) := by decide +kernel
theorem d_T_init_15 : decode c_T_init 15 = .ok (.newarray .boolean, 2) := by decide +kernel
theorem d_T_init_17 : decode c_T_init 17 = .ok (.putfield 15, 3) := by decide +kernel
theorem d_T_init_20 : decode c_T_init 20 = .ok (.aload_n 0, 1) := by decide +kernel
theorem d_T_init_21 : decode c_T_init 21 = .ok (.getfield 9, 3) := by decide +kernel
theorem d_T_init_24 : decode c_T_init 24 = .ok (.iconst 0, 1) := by decide +kernel
theorem d_T_init_25 : decode c_T_init 25 = .ok (.iconst 1, 1) := by decide +kernel
theorem d_T_init_26 : decode c_T_init 26 = .ok (.iastore, 1) := by decide +kernel
theorem d_T_init_27 : decode c_T_init 27 = .ok (.aload_n 0, 1) := by decide +kernel
theorem d_T_init_28 : decode c_T_init 28 = .ok (.getfield 9, 3) := by decide +kernel
theorem d_T_init_31 : decode c_T_init 31 = .ok (.iconst 1, 1) := by decide +kernel
theorem d_T_init_32 : decode c_T_init 32 = .ok (.iconst 3, 1) := by decide +kernel
theorem d_T_init_33 : decode c_T_init 33 = .ok (.iastore, 1) := by decide +kernel
theorem d_T_init_34 : decode c_T_init 34 = .ok (.aload_n 0, 1) := by decide +kernel
theorem d_T_init_35 : decode c_T_init 35 = .ok (.iconst 2, 1) := by decide +kernel
theorem d_T_init_36 : decode c_T_init 36 = .ok (.putfield 19, 3) := by decide +kernel
theorem d_T_init_39 : decode c_T_init 39 = .ok (.return_, 1) := by decide +kernel
theorem d_T_append_0 : decode c_T_append 0 = .ok (.aload_n 0, 1) := by decide +kernel
theorem d_T_append_1 : decode c_T_append 1 = .ok (.getfield 9, 3) := by decide +kernel
theorem d_T_append_4 : decode c_T_append 4 = .ok (.aload_n 0, 1) := by decide +kernel
theorem d_T_append_5 : decode c_T_append 5 = .ok (.getfield 19, 3) := by decide +kernel
theorem d_T_append_8 : decode c_T_append 8 = .ok (.aload_n 0, 1) := by decide +kernel
theorem d_T_append_9 : decode c_T_append 9 = .ok (.getfield 9, 3) := by decide +kernel
theorem d_T_append_12 : decode c_T_append 12 = .ok (.iload_n 1, 1) := by decide +kernel
theorem d_T_append_13 : decode c_T_append 13 = .ok (.iaload, 1) := by decide +kernel
theorem d_T_append_14 : decode c_T_append 14 = .ok (.iconst 1, 1) := by decide +kernel
theorem d_T_append_15 : decode c_T_append 15 = .ok (.aload_n 0, 1) := by decide +kernel
theorem d_T_append_16 : decode c_T_append 16 = .ok (.getfield 19, 3) := by decide +kernel
theorem d_T_append_19 : decode c_T_append 19 = .ok (.ishl, 1) := by decide +kernel
theorem d_T_append_20 : decode c_T_append 20 = .ok (.ior, 1) := by decide +kernel
theorem d_T_append_21 : decode c_T_append 21 = .ok (.iastore, 1) := by decide +kernel
theorem d_T_append_22 : decode c_T_append 22 = .ok (.aload_n 0, 1) := by decide +kernel
theorem d_T_append_23 : decode c_T_append 23 = .ok (.getfield 15, 3) := by decide +kernel
theorem d_T_append_26 : decode c_T_append 26 = .ok (.aload_n 0, 1) := by decide +kernel
theorem d_T_append_27 : decode c_T_append 27 = .ok (.getfield 19, 3) := by decide +kernel
theorem d_T_append_30 : decode c_T_append 30 = .ok (.iload_n 2, 1) := by decide +kernel
theorem d_T_append_31 : decode c_T_append 31 = .ok (.bastore, 1) := by decide +kernel
theorem d_T_append_32 : decode c_T_append 32 = .ok (.aload_n 0, 1) := by decide +kernel
theorem d_T_append_33 : decode c_T_append 33 = .ok (.dup, 1) := by decide +kernel
theorem d_T_append_34 : decode c_T_append 34 = .ok (.getfield 19, 3) := by decide +kernel
theorem d_T_append_37 : decode c_T_append 37 = .ok (.iconst 1, 1) := by decide +kernel
theorem d_T_append_38 : decode c_T_append 38 = .ok (.iadd, 1) := by decide +kernel
theorem d_T_append_39 : decode c_T_append 39 = .ok (.putfield 19, 3) := by decide +kernel
theorem d_T_append_42 : decode c_T_append 42 = .ok (.aload_n 0, 1) := by decide +kernel
theorem d_T_append_43 : decode c_T_append 43 = .ok (.getfield 19, 3) := by decide +kernel
theorem d_T_append_46 : decode c_T_append 46 = .ok (.iconst 1, 1) := by decide +kernel
theorem d_T_append_47 : decode c_T_append 47 = .ok (.isub, 1) := by decide +kernel
theorem d_T_append_48 : decode c_T_append 48 = .ok (.ireturn, 1) := by decide +kernel
theorem d_T_hasClass_0 : decode c_T_hasClass 0 = .ok (.iload_n 1, 1) := by decide +kernel
theorem d_T_hasClass_1 : decode c_T_hasClass 1 = .ok (.ifCond .lt 15, 3) := by decide +kernel
theorem d_T_hasClass_4 : decode c_T_hasClass 4 = .ok (.iload_n 1, 1) := by decide +kernel
theorem d_T_hasClass_5 : decode c_T_hasClass 5 = .ok (.aload_n 0, 1) := by decide +kernel
theorem d_T_hasClass_6 : decode c_T_hasClass 6 = .ok (.getfield 19, 3) := by decide +kernel
theorem d_T_hasClass_9 : decode c_T_hasClass 9 = .ok (.if_icmp .ge 7, 3) := by decide +kernel
theorem d_T_hasClass_12 : decode c_T_hasClass 12 = .ok (.iconst 1, 1) := by decide +kernel
theorem d_T_hasClass_13 : decode c_T_hasClass 13 = .ok (.goto 4, 3) := by decide +kernel
theorem d_T_hasClass_16 : decode c_T_hasClass 16 = .ok (.iconst 0, 1) := by decide +kernel
theorem d_T_hasClass_17 : decode c_T_hasClass 17 = .ok (.ireturn, 1) := by decide +kernel
theorem d_T_isBelow_0 : decode c_T_isBelow 0 = .ok (.aload_n 0, 1) := by decide +kernel
theorem d_T_isBelow_1 : decode c_T_isBelow 1 = .ok (.getfield 9, 3) := by decide +kernel
theorem d_T_isBelow_4 : decode c_T_isBelow 4 = .ok (.iload_n 1, 1) := by decide +kernel
theorem d_T_isBelow_5 : decode c_T_isBelow 5 = .ok (.iaload, 1) := by decide +kernel
theorem d_T_isBelow_6 : decode c_T_isBelow 6 = .ok (.iload_n 2, 1) := by decide +kernel
theorem d_T_isBelow_7 : decode c_T_isBelow 7 = .ok (.ishr, 1) := by decide +kernel
theorem d_T_isBelow_8 : decode c_T_isBelow 8 = .ok (.iconst 1, 1) := by decide +kernel
theorem d_T_isBelow_9 : decode c_T_isBelow 9 = .ok (.iand, 1) := by decide +kernel
theorem d_T_isBelow_10 : decode c_T_isBelow 10 = .ok (.ifCond .eq 7, 3) := by decide +kernel
theorem d_T_isBelow_13 : decode c_T_isBelow 13 = .ok (.iconst 1, 1) := by decide +kernel
theorem d_T_isBelow_14 : decode c_T_isBelow 14 = .ok (.goto 4, 3) := by decide +kernel
theorem d_T_isBelow_17 : decode c_T_isBelow 17 = .ok (.iconst 0, 1) := by decide +kernel
theorem d_T_isBelow_18 : decode c_T_isBelow 18 = .ok (.ireturn, 1) := by decide +kernel
theorem d_T_isRef_0 : decode c_T_isRef 0 = .ok (.iload_n 1, 1) := by decide +kernel
theorem d_T_isRef_1 : decode c_T_isRef 1 = .ok (.bipush 6, 2) := by decide +kernel
theorem d_T_isRef_3 : decode c_T_isRef 3 = .ok (.ishr, 1) := by decide +kernel
theorem d_T_isRef_4 : decode c_T_isRef 4 = .ok (.istore_n 2, 1) := by decide +kernel
theorem d_T_isRef_5 : decode c_T_isRef 5 = .ok (.iload_n 2, 1) := by decide +kernel
theorem d_T_isRef_6 : decode c_T_isRef 6 = .ok (.ifCond .lt 8, 3) := by decide +kernel
theorem d_T_isRef_9 : decode c_T_isRef 9 = .ok (.iload_n 2, 1) := by decide +kernel
theorem d_T_isRef_10 : decode c_T_isRef 10 = .ok (.iconst 3, 1) := by decide +kernel
theorem d_T_isRef_11 : decode c_T_isRef 11 = .ok (.if_icmp .le 5, 3) := by decide +kernel
theorem d_T_isRef_14 : decode c_T_isRef 14 = .ok (.iconst 0, 1) := by decide +kernel
theorem d_T_isRef_15 : decode c_T_isRef 15 = .ok (.ireturn, 1) := by decide +kernel
theorem d_T_isRef_16 : decode c_T_isRef 16 = .ok (.iload_n 1, 1) := by decide +kernel
theorem d_T_isRef_17 : decode c_T_isRef 17 = .ok (.bipush 63, 2) := by decide +kernel
theorem d_T_isRef_19 : decode c_T_isRef 19 = .ok (.iand, 1) := by decide +kernel
theorem d_T_isRef_20 : decode c_T_isRef 20 = .ok (.istore_n 3, 1) := by decide +kernel
theorem d_T_isRef_21 : decode c_T_isRef 21 = .ok (.iload_n 3, 1) := by decide +kernel
theorem d_T_isRef_22 : decode c_T_isRef 22 = .ok (.bipush 12, 2) := by decide +kernel
theorem d_T_isRef_24 : decode c_T_isRef 24 = .ok (.if_icmp .ne 13, 3) := by decide +kernel
theorem d_T_isRef_27 : decode c_T_isRef 27 = .ok (.iload_n 2, 1) := by decide +kernel
theorem d_T_isRef_28 : decode c_T_isRef 28 = .ok (.ifCond .le 7, 3) := by decide +kernel
theorem d_T_isRef_31 : decode c_T_isRef 31 = .ok (.iconst 1, 1) := by decide +kernel
theorem d_T_isRef_32 : decode c_T_isRef 32 = .ok (.goto 4, 3) := by decide +kernel
theorem d_T_isRef_35 : decode c_T_isRef 35 = .ok (.iconst 0, 1) := by decide +kernel
theorem d_T_isRef_36 : decode c_T_isRef 36 = .ok (.ireturn, 1) := by decide +kernel
theorem d_T_isRef_37 : decode c_T_isRef 37 = .ok (.iload_n 3, 1) := by decide +kernel
theorem d_T_isRef_38 : decode c_T_isRef 38 = .ok (.bipush 16, 2) := by decide +kernel
theorem d_T_isRef_40 : decode c_T_isRef 40 = .ok (.if_icmp .lt 18, 3) := by decide +kernel
theorem d_T_isRef_43 : decode c_T_isRef 43 = .ok (.iload_n 3, 1) := by decide +kernel
theorem d_T_isRef_44 : decode c_T_isRef 44 = .ok (.bipush 16, 2) := by decide +kernel
theorem d_T_isRef_46 : decode c_T_isRef 46 = .ok (.aload_n 0, 1) := by decide +kernel
theorem d_T_isRef_47 : decode c_T_isRef 47 = .ok (.getfield 19, 3) := by decide +kernel
theorem d_T_isRef_50 : decode c_T_isRef 50 = .ok (.iadd, 1) := by decide +kernel
theorem d_T_isRef_51 : decode c_T_isRef 51 = .ok (.if_icmp .ge 7, 3) := by decide +kernel
theorem d_T_isRef_54 : decode c_T_isRef 54 = .ok (.iconst 1, 1) := by decide +kernel
theorem d_T_isRef_55 : decode c_T_isRef 55 = .ok (.goto 4, 3) := by decide +kernel
theorem d_T_isRef_58 : decode c_T_isRef 58 = .ok (.iconst 0, 1) := by decide +kernel
theorem d_T_isRef_59 : decode c_T_isRef 59 = .ok (.ireturn, 1) := by decide +kernel
theorem d_T_isRow_0 : decode c_T_isRow 0 = .ok (.iload_n 1, 1) := by decide +kernel
theorem d_T_isRow_1 : decode c_T_isRow 1 = .ok (.bipush 64, 2) := by decide +kernel
theorem d_T_isRow_3 : decode c_T_isRow 3 = .ok (.if_icmp .lt 15, 3) := by decide +kernel
theorem d_T_isRow_6 : decode c_T_isRow 6 = .ok (.aload_n 0, 1) := by decide +kernel
theorem d_T_isRow_7 : decode c_T_isRow 7 = .ok (.iload_n 1, 1) := by decide +kernel
theorem d_T_isRow_8 : decode c_T_isRow 8 = .ok (.invokevirtual 23, 3) := by decide +kernel
theorem d_T_isRow_11 : decode c_T_isRow 11 = .ok (.ifCond .eq 7, 3) := by decide +kernel
theorem d_T_isRow_14 : decode c_T_isRow 14 = .ok (.iconst 1, 1) := by decide +kernel
theorem d_T_isRow_15 : decode c_T_isRow 15 = .ok (.goto 4, 3) := by decide +kernel
theorem d_T_isRow_18 : decode c_T_isRow 18 = .ok (.iconst 0, 1) := by decide +kernel
theorem d_T_isRow_19 : decode c_T_isRow 19 = .ok (.ireturn, 1) := by decide +kernel
theorem d_T_isRefOrNull_0 : decode c_T_isRefOrNull 0 = .ok (.iload_n 1, 1) := by decide +kernel
theorem d_T_isRefOrNull_1 : decode c_T_isRefOrNull 1 = .ok (.iconst 5, 1) := by decide +kernel
theorem d_T_isRefOrNull_2 : decode c_T_isRefOrNull 2 = .ok (.if_icmp .eq 11, 3) := by decide +kernel
theorem d_T_isRefOrNull_5 : decode c_T_isRefOrNull 5 = .ok (.aload_n 0, 1) := by decide +kernel
theorem d_T_isRefOrNull_6 : decode c_T_isRefOrNull 6 = .ok (.iload_n 1, 1) := by decide +kernel
theorem d_T_isRefOrNull_7 : decode c_T_isRefOrNull 7 = .ok (.invokevirtual 23, 3) := by decide +kernel
theorem d_T_isRefOrNull_10 : decode c_T_isRefOrNull 10 = .ok (.ifCond .eq 7, 3) := by decide +kernel
theorem d_T_isRefOrNull_13 : decode c_T_isRefOrNull 13 = .ok (.iconst 1, 1) := by decide +kernel
theorem d_T_isRefOrNull_14 : decode c_T_isRefOrNull 14 = .ok (.goto 4, 3) := by decide +kernel
theorem d_T_isRefOrNull_17 : decode c_T_isRefOrNull 17 = .ok (.iconst 0, 1) := by decide +kernel
theorem d_T_isRefOrNull_18 : decode c_T_isRefOrNull 18 = .ok (.ireturn, 1) := by decide +kernel
theorem d_T_isValue_0 : decode c_T_isValue 0 = .ok (.iload_n 1, 1) := by decide +kernel
theorem d_T_isValue_1 : decode c_T_isValue 1 = .ok (.iconst 1, 1) := by decide +kernel
theorem d_T_isValue_2 : decode c_T_isValue 2 = .ok (.if_icmp .lt 8, 3) := by decide +kernel
theorem d_T_isValue_5 : decode c_T_isValue 5 = .ok (.iload_n 1, 1) := by decide +kernel
theorem d_T_isValue_6 : decode c_T_isValue 6 = .ok (.iconst 4, 1) := by decide +kernel
theorem d_T_isValue_7 : decode c_T_isValue 7 = .ok (.if_icmp .le 11, 3) := by decide +kernel
theorem d_T_isValue_10 : decode c_T_isValue 10 = .ok (.aload_n 0, 1) := by decide +kernel
theorem d_T_isValue_11 : decode c_T_isValue 11 = .ok (.iload_n 1, 1) := by decide +kernel
theorem d_T_isValue_12 : decode c_T_isValue 12 = .ok (.invokevirtual 23, 3) := by decide +kernel
theorem d_T_isValue_15 : decode c_T_isValue 15 = .ok (.ifCond .eq 7, 3) := by decide +kernel
theorem d_T_isValue_18 : decode c_T_isValue 18 = .ok (.iconst 1, 1) := by decide +kernel
theorem d_T_isValue_19 : decode c_T_isValue 19 = .ok (.goto 4, 3) := by decide +kernel
theorem d_T_isValue_22 : decode c_T_isValue 22 = .ok (.iconst 0, 1) := by decide +kernel
theorem d_T_isValue_23 : decode c_T_isValue 23 = .ok (.ireturn, 1) := by decide +kernel
theorem d_T_isPlain_0 : decode c_T_isPlain 0 = .ok (.iload_n 1, 1) := by decide +kernel
theorem d_T_isPlain_1 : decode c_T_isPlain 1 = .ok (.ifCond .lt 8, 3) := by decide +kernel
theorem d_T_isPlain_4 : decode c_T_isPlain 4 = .ok (.iload_n 1, 1) := by decide +kernel
theorem d_T_isPlain_5 : decode c_T_isPlain 5 = .ok (.iconst 5, 1) := by decide +kernel
theorem d_T_isPlain_6 : decode c_T_isPlain 6 = .ok (.if_icmp .le 11, 3) := by decide +kernel
theorem d_T_isPlain_9 : decode c_T_isPlain 9 = .ok (.aload_n 0, 1) := by decide +kernel
theorem d_T_isPlain_10 : decode c_T_isPlain 10 = .ok (.iload_n 1, 1) := by decide +kernel
theorem d_T_isPlain_11 : decode c_T_isPlain 11 = .ok (.invokevirtual 23, 3) := by decide +kernel
theorem d_T_isPlain_14 : decode c_T_isPlain 14 = .ok (.ifCond .eq 7, 3) := by decide +kernel
theorem d_T_isPlain_17 : decode c_T_isPlain 17 = .ok (.iconst 1, 1) := by decide +kernel
theorem d_T_isPlain_18 : decode c_T_isPlain 18 = .ok (.goto 4, 3) := by decide +kernel
theorem d_T_isPlain_21 : decode c_T_isPlain 21 = .ok (.iconst 0, 1) := by decide +kernel
theorem d_T_isPlain_22 : decode c_T_isPlain 22 = .ok (.ireturn, 1) := by decide +kernel
theorem d_T_goesFor_0 : decode c_T_goesFor 0 = .ok (.iload_n 1, 1) := by decide +kernel
theorem d_T_goesFor_1 : decode c_T_goesFor 1 = .ok (.iload_n 2, 1) := by decide +kernel
theorem d_T_goesFor_2 : decode c_T_goesFor 2 = .ok (.if_icmp .ne 5, 3) := by decide +kernel
theorem d_T_goesFor_5 : decode c_T_goesFor 5 = .ok (.iconst 1, 1) := by decide +kernel
theorem d_T_goesFor_6 : decode c_T_goesFor 6 = .ok (.ireturn, 1) := by decide +kernel
theorem d_T_goesFor_7 : decode c_T_goesFor 7 = .ok (.aload_n 0, 1) := by decide +kernel
theorem d_T_goesFor_8 : decode c_T_goesFor 8 = .ok (.iload_n 1, 1) := by decide +kernel
theorem d_T_goesFor_9 : decode c_T_goesFor 9 = .ok (.invokevirtual 27, 3) := by decide +kernel
theorem d_T_goesFor_12 : decode c_T_goesFor 12 = .ok (.ifCond .eq 11, 3) := by decide +kernel
theorem d_T_goesFor_15 : decode c_T_goesFor 15 = .ok (.aload_n 0, 1) := by decide +kernel
theorem d_T_goesFor_16 : decode c_T_goesFor 16 = .ok (.iload_n 2, 1) := by decide +kernel
theorem d_T_goesFor_17 : decode c_T_goesFor 17 = .ok (.invokevirtual 23, 3) := by decide +kernel
theorem d_T_goesFor_20 : decode c_T_goesFor 20 = .ok (.ifCond .ne 5, 3) := by decide +kernel
theorem d_T_goesFor_23 : decode c_T_goesFor 23 = .ok (.iconst 0, 1) := by decide +kernel
theorem d_T_goesFor_24 : decode c_T_goesFor 24 = .ok (.ireturn, 1) := by decide +kernel
theorem d_T_goesFor_25 : decode c_T_goesFor 25 = .ok (.iload_n 1, 1) := by decide +kernel
theorem d_T_goesFor_26 : decode c_T_goesFor 26 = .ok (.iconst 5, 1) := by decide +kernel
theorem d_T_goesFor_27 : decode c_T_goesFor 27 = .ok (.if_icmp .ne 5, 3) := by decide +kernel
theorem d_T_goesFor_30 : decode c_T_goesFor 30 = .ok (.iconst 1, 1) := by decide +kernel
theorem d_T_goesFor_31 : decode c_T_goesFor 31 = .ok (.ireturn, 1) := by decide +kernel
theorem d_T_goesFor_32 : decode c_T_goesFor 32 = .ok (.iload_n 1, 1) := by decide +kernel
theorem d_T_goesFor_33 : decode c_T_goesFor 33 = .ok (.istore_n 3, 1) := by decide +kernel
theorem d_T_goesFor_34 : decode c_T_goesFor 34 = .ok (.iload_n 2, 1) := by decide +kernel
theorem d_T_goesFor_35 : decode c_T_goesFor 35 = .ok (.istore 4, 2) := by decide +kernel
theorem d_T_goesFor_37 : decode c_T_goesFor 37 = .ok (.iconst 0, 1) := by decide +kernel
theorem d_T_goesFor_38 : decode c_T_goesFor 38 = .ok (.istore 5, 2) := by decide +kernel
theorem d_T_goesFor_40 : decode c_T_goesFor 40 = .ok (.iload 5, 2) := by decide +kernel
theorem d_T_goesFor_42 : decode c_T_goesFor 42 = .ok (.iconst 3, 1) := by decide +kernel
theorem d_T_goesFor_43 : decode c_T_goesFor 43 = .ok (.if_icmp .ge 28, 3) := by decide +kernel
theorem d_T_goesFor_46 : decode c_T_goesFor 46 = .ok (.iload_n 3, 1) := by decide +kernel
theorem d_T_goesFor_47 : decode c_T_goesFor 47 = .ok (.bipush 64, 2) := by decide +kernel
theorem d_T_goesFor_49 : decode c_T_goesFor 49 = .ok (.if_icmp .lt 22, 3) := by decide +kernel
theorem d_T_goesFor_52 : decode c_T_goesFor 52 = .ok (.iload 4, 2) := by decide +kernel
theorem d_T_goesFor_54 : decode c_T_goesFor 54 = .ok (.bipush 64, 2) := by decide +kernel
theorem d_T_goesFor_56 : decode c_T_goesFor 56 = .ok (.if_icmp .lt 15, 3) := by decide +kernel
theorem d_T_goesFor_59 : decode c_T_goesFor 59 = .ok (.iinc 3 (-64), 3) := by decide +kernel
theorem d_T_goesFor_62 : decode c_T_goesFor 62 = .ok (.iinc 4 (-64), 3) := by decide +kernel
theorem d_T_goesFor_65 : decode c_T_goesFor 65 = .ok (.iinc 5 1, 3) := by decide +kernel
theorem d_T_goesFor_68 : decode c_T_goesFor 68 = .ok (.goto (-28), 3) := by decide +kernel
theorem d_T_goesFor_71 : decode c_T_goesFor 71 = .ok (.iload_n 3, 1) := by decide +kernel
theorem d_T_goesFor_72 : decode c_T_goesFor 72 = .ok (.bipush 12, 2) := by decide +kernel
theorem d_T_goesFor_74 : decode c_T_goesFor 74 = .ok (.if_icmp .eq 10, 3) := by decide +kernel
theorem d_T_goesFor_77 : decode c_T_goesFor 77 = .ok (.iload 4, 2) := by decide +kernel
theorem d_T_goesFor_79 : decode c_T_goesFor 79 = .ok (.bipush 12, 2) := by decide +kernel
theorem d_T_goesFor_81 : decode c_T_goesFor 81 = .ok (.if_icmp .ne 5, 3) := by decide +kernel
theorem d_T_goesFor_84 : decode c_T_goesFor 84 = .ok (.iconst 0, 1) := by decide +kernel
theorem d_T_goesFor_85 : decode c_T_goesFor 85 = .ok (.ireturn, 1) := by decide +kernel
theorem d_T_goesFor_86 : decode c_T_goesFor 86 = .ok (.iload 4, 2) := by decide +kernel
theorem d_T_goesFor_88 : decode c_T_goesFor 88 = .ok (.bipush 16, 2) := by decide +kernel
theorem d_T_goesFor_90 : decode c_T_goesFor 90 = .ok (.if_icmp .ne 5, 3) := by decide +kernel
theorem d_T_goesFor_93 : decode c_T_goesFor 93 = .ok (.iconst 1, 1) := by decide +kernel
theorem d_T_goesFor_94 : decode c_T_goesFor 94 = .ok (.ireturn, 1) := by decide +kernel
theorem d_T_goesFor_95 : decode c_T_goesFor 95 = .ok (.iload_n 3, 1) := by decide +kernel
theorem d_T_goesFor_96 : decode c_T_goesFor 96 = .ok (.bipush 64, 2) := by decide +kernel
theorem d_T_goesFor_98 : decode c_T_goesFor 98 = .ok (.if_icmp .ge 10, 3) := by decide +kernel
theorem d_T_goesFor_101 : decode c_T_goesFor 101 = .ok (.iload 4, 2) := by decide +kernel
theorem d_T_goesFor_103 : decode c_T_goesFor 103 = .ok (.bipush 64, 2) := by decide +kernel
theorem d_T_goesFor_105 : decode c_T_goesFor 105 = .ok (.if_icmp .lt 5, 3) := by decide +kernel
theorem d_T_goesFor_108 : decode c_T_goesFor 108 = .ok (.iconst 0, 1) := by decide +kernel
theorem d_T_goesFor_109 : decode c_T_goesFor 109 = .ok (.ireturn, 1) := by decide +kernel
theorem d_T_goesFor_110 : decode c_T_goesFor 110 = .ok (.aload_n 0, 1) := by decide +kernel
theorem d_T_goesFor_111 : decode c_T_goesFor 111 = .ok (.getfield 15, 3) := by decide +kernel
theorem d_T_goesFor_114 : decode c_T_goesFor 114 = .ok (.iload 4, 2) := by decide +kernel
theorem d_T_goesFor_116 : decode c_T_goesFor 116 = .ok (.bipush 16, 2) := by decide +kernel
theorem d_T_goesFor_118 : decode c_T_goesFor 118 = .ok (.isub, 1) := by decide +kernel
theorem d_T_goesFor_119 : decode c_T_goesFor 119 = .ok (.baload, 1) := by decide +kernel
theorem d_T_goesFor_120 : decode c_T_goesFor 120 = .ok (.ifCond .ne 19, 3) := by decide +kernel
theorem d_T_goesFor_123 : decode c_T_goesFor 123 = .ok (.aload_n 0, 1) := by decide +kernel
theorem d_T_goesFor_124 : decode c_T_goesFor 124 = .ok (.iload_n 3, 1) := by decide +kernel
theorem d_T_goesFor_125 : decode c_T_goesFor 125 = .ok (.bipush 16, 2) := by decide +kernel
theorem d_T_goesFor_127 : decode c_T_goesFor 127 = .ok (.isub, 1) := by decide +kernel
theorem d_T_goesFor_128 : decode c_T_goesFor 128 = .ok (.iload 4, 2) := by decide +kernel
theorem d_T_goesFor_130 : decode c_T_goesFor 130 = .ok (.bipush 16, 2) := by decide +kernel
theorem d_T_goesFor_132 : decode c_T_goesFor 132 = .ok (.isub, 1) := by decide +kernel
theorem d_T_goesFor_133 : decode c_T_goesFor 133 = .ok (.invokevirtual 30, 3) := by decide +kernel
theorem d_T_goesFor_136 : decode c_T_goesFor 136 = .ok (.ifCond .eq 7, 3) := by decide +kernel
theorem d_T_goesFor_139 : decode c_T_goesFor 139 = .ok (.iconst 1, 1) := by decide +kernel
theorem d_T_goesFor_140 : decode c_T_goesFor 140 = .ok (.goto 4, 3) := by decide +kernel
theorem d_T_goesFor_143 : decode c_T_goesFor 143 = .ok (.iconst 0, 1) := by decide +kernel
theorem d_T_goesFor_144 : decode c_T_goesFor 144 = .ok (.ireturn, 1) := by decide +kernel
theorem d_T_joined_0 : decode c_T_joined 0 = .ok (.iload_n 1, 1) := by decide +kernel
theorem d_T_joined_1 : decode c_T_joined 1 = .ok (.iload_n 2, 1) := by decide +kernel
theorem d_T_joined_2 : decode c_T_joined 2 = .ok (.if_icmp .ne 5, 3) := by decide +kernel
theorem d_T_joined_5 : decode c_T_joined 5 = .ok (.iload_n 1, 1) := by decide +kernel
theorem d_T_joined_6 : decode c_T_joined 6 = .ok (.ireturn, 1) := by decide +kernel
theorem d_T_joined_7 : decode c_T_joined 7 = .ok (.aload_n 0, 1) := by decide +kernel
theorem d_T_joined_8 : decode c_T_joined 8 = .ok (.iload_n 1, 1) := by decide +kernel
theorem d_T_joined_9 : decode c_T_joined 9 = .ok (.invokevirtual 23, 3) := by decide +kernel
theorem d_T_joined_12 : decode c_T_joined 12 = .ok (.istore_n 3, 1) := by decide +kernel
theorem d_T_joined_13 : decode c_T_joined 13 = .ok (.aload_n 0, 1) := by decide +kernel
theorem d_T_joined_14 : decode c_T_joined 14 = .ok (.iload_n 2, 1) := by decide +kernel
theorem d_T_joined_15 : decode c_T_joined 15 = .ok (.invokevirtual 23, 3) := by decide +kernel
theorem d_T_joined_18 : decode c_T_joined 18 = .ok (.istore 4, 2) := by decide +kernel
theorem d_T_joined_20 : decode c_T_joined 20 = .ok (.iload_n 3, 1) := by decide +kernel
theorem d_T_joined_21 : decode c_T_joined 21 = .ok (.ifCond .eq 10, 3) := by decide +kernel
theorem d_T_joined_24 : decode c_T_joined 24 = .ok (.iload_n 2, 1) := by decide +kernel
theorem d_T_joined_25 : decode c_T_joined 25 = .ok (.iconst 5, 1) := by decide +kernel
theorem d_T_joined_26 : decode c_T_joined 26 = .ok (.if_icmp .ne 5, 3) := by decide +kernel
theorem d_T_joined_29 : decode c_T_joined 29 = .ok (.iload_n 1, 1) := by decide +kernel
theorem d_T_joined_30 : decode c_T_joined 30 = .ok (.ireturn, 1) := by decide +kernel
theorem d_T_joined_31 : decode c_T_joined 31 = .ok (.iload 4, 2) := by decide +kernel
theorem d_T_joined_33 : decode c_T_joined 33 = .ok (.ifCond .eq 10, 3) := by decide +kernel
theorem d_T_joined_36 : decode c_T_joined 36 = .ok (.iload_n 1, 1) := by decide +kernel
theorem d_T_joined_37 : decode c_T_joined 37 = .ok (.iconst 5, 1) := by decide +kernel
theorem d_T_joined_38 : decode c_T_joined 38 = .ok (.if_icmp .ne 5, 3) := by decide +kernel
theorem d_T_joined_41 : decode c_T_joined 41 = .ok (.iload_n 2, 1) := by decide +kernel
theorem d_T_joined_42 : decode c_T_joined 42 = .ok (.ireturn, 1) := by decide +kernel
theorem d_T_joined_43 : decode c_T_joined 43 = .ok (.iload_n 3, 1) := by decide +kernel
theorem d_T_joined_44 : decode c_T_joined 44 = .ok (.ifCond .eq 8, 3) := by decide +kernel
theorem d_T_joined_47 : decode c_T_joined 47 = .ok (.iload 4, 2) := by decide +kernel
theorem d_T_joined_49 : decode c_T_joined 49 = .ok (.ifCond .ne 5, 3) := by decide +kernel
theorem d_T_joined_52 : decode c_T_joined 52 = .ok (.iconst 0, 1) := by decide +kernel
theorem d_T_joined_53 : decode c_T_joined 53 = .ok (.ireturn, 1) := by decide +kernel
theorem d_T_joined_54 : decode c_T_joined 54 = .ok (.iload_n 1, 1) := by decide +kernel
theorem d_T_joined_55 : decode c_T_joined 55 = .ok (.bipush 6, 2) := by decide +kernel
theorem d_T_joined_57 : decode c_T_joined 57 = .ok (.ishr, 1) := by decide +kernel
theorem d_T_joined_58 : decode c_T_joined 58 = .ok (.istore 5, 2) := by decide +kernel
theorem d_T_joined_60 : decode c_T_joined 60 = .ok (.iload_n 2, 1) := by decide +kernel
theorem d_T_joined_61 : decode c_T_joined 61 = .ok (.bipush 6, 2) := by decide +kernel
theorem d_T_joined_63 : decode c_T_joined 63 = .ok (.ishr, 1) := by decide +kernel
theorem d_T_joined_64 : decode c_T_joined 64 = .ok (.istore 6, 2) := by decide +kernel
theorem d_T_joined_66 : decode c_T_joined 66 = .ok (.iload 5, 2) := by decide +kernel
theorem d_T_joined_68 : decode c_T_joined 68 = .ok (.iload 6, 2) := by decide +kernel
theorem d_T_joined_70 : decode c_T_joined 70 = .ok (.if_icmp .ge 8, 3) := by decide +kernel
theorem d_T_joined_73 : decode c_T_joined 73 = .ok (.iload 5, 2) := by decide +kernel
theorem d_T_joined_75 : decode c_T_joined 75 = .ok (.goto 5, 3) := by decide +kernel
theorem d_T_joined_78 : decode c_T_joined 78 = .ok (.iload 6, 2) := by decide +kernel
theorem d_T_joined_80 : decode c_T_joined 80 = .ok (.istore 7, 2) := by decide +kernel
theorem d_T_joined_82 : decode c_T_joined 82 = .ok (.iload_n 1, 1) := by decide +kernel
theorem d_T_joined_83 : decode c_T_joined 83 = .ok (.bipush 64, 2) := by decide +kernel
theorem d_T_joined_85 : decode c_T_joined 85 = .ok (.iload 7, 2) := by decide +kernel
theorem d_T_joined_87 : decode c_T_joined 87 = .ok (.imul, 1) := by decide +kernel
theorem d_T_joined_88 : decode c_T_joined 88 = .ok (.isub, 1) := by decide +kernel
theorem d_T_joined_89 : decode c_T_joined 89 = .ok (.bipush 12, 2) := by decide +kernel
theorem d_T_joined_91 : decode c_T_joined 91 = .ok (.if_icmp .eq 15, 3) := by decide +kernel
theorem d_T_joined_94 : decode c_T_joined 94 = .ok (.iload_n 2, 1) := by decide +kernel
theorem d_T_joined_95 : decode c_T_joined 95 = .ok (.bipush 64, 2) := by decide +kernel
theorem d_T_joined_97 : decode c_T_joined 97 = .ok (.iload 7, 2) := by decide +kernel
theorem d_T_joined_99 : decode c_T_joined 99 = .ok (.imul, 1) := by decide +kernel
theorem d_T_joined_100 : decode c_T_joined 100 = .ok (.isub, 1) := by decide +kernel
theorem d_T_joined_101 : decode c_T_joined 101 = .ok (.bipush 12, 2) := by decide +kernel
theorem d_T_joined_103 : decode c_T_joined 103 = .ok (.if_icmp .ne 14, 3) := by decide +kernel
theorem d_T_joined_106 : decode c_T_joined 106 = .ok (.bipush 64, 2) := by decide +kernel
theorem d_T_joined_108 : decode c_T_joined 108 = .ok (.iload 7, 2) := by decide +kernel
theorem d_T_joined_110 : decode c_T_joined 110 = .ok (.iconst 1, 1) := by decide +kernel
theorem d_T_joined_111 : decode c_T_joined 111 = .ok (.isub, 1) := by decide +kernel
theorem d_T_joined_112 : decode c_T_joined 112 = .ok (.imul, 1) := by decide +kernel
theorem d_T_joined_113 : decode c_T_joined 113 = .ok (.bipush 16, 2) := by decide +kernel
theorem d_T_joined_115 : decode c_T_joined 115 = .ok (.iadd, 1) := by decide +kernel
theorem d_T_joined_116 : decode c_T_joined 116 = .ok (.ireturn, 1) := by decide +kernel
theorem d_T_joined_117 : decode c_T_joined 117 = .ok (.iload 5, 2) := by decide +kernel
theorem d_T_joined_119 : decode c_T_joined 119 = .ok (.iload 6, 2) := by decide +kernel
theorem d_T_joined_121 : decode c_T_joined 121 = .ok (.if_icmp .eq 12, 3) := by decide +kernel
theorem d_T_joined_124 : decode c_T_joined 124 = .ok (.bipush 64, 2) := by decide +kernel
theorem d_T_joined_126 : decode c_T_joined 126 = .ok (.iload 7, 2) := by decide +kernel
theorem d_T_joined_128 : decode c_T_joined 128 = .ok (.imul, 1) := by decide +kernel
theorem d_T_joined_129 : decode c_T_joined 129 = .ok (.bipush 16, 2) := by decide +kernel
theorem d_T_joined_131 : decode c_T_joined 131 = .ok (.iadd, 1) := by decide +kernel
theorem d_T_joined_132 : decode c_T_joined 132 = .ok (.ireturn, 1) := by decide +kernel
theorem d_T_joined_133 : decode c_T_joined 133 = .ok (.bipush 64, 2) := by decide +kernel
theorem d_T_joined_135 : decode c_T_joined 135 = .ok (.iload 7, 2) := by decide +kernel
theorem d_T_joined_137 : decode c_T_joined 137 = .ok (.imul, 1) := by decide +kernel
theorem d_T_joined_138 : decode c_T_joined 138 = .ok (.aload_n 0, 1) := by decide +kernel
theorem d_T_joined_139 : decode c_T_joined 139 = .ok (.iload_n 1, 1) := by decide +kernel
theorem d_T_joined_140 : decode c_T_joined 140 = .ok (.bipush 64, 2) := by decide +kernel
theorem d_T_joined_142 : decode c_T_joined 142 = .ok (.iload 7, 2) := by decide +kernel
theorem d_T_joined_144 : decode c_T_joined 144 = .ok (.imul, 1) := by decide +kernel
theorem d_T_joined_145 : decode c_T_joined 145 = .ok (.isub, 1) := by decide +kernel
theorem d_T_joined_146 : decode c_T_joined 146 = .ok (.iload_n 2, 1) := by decide +kernel
theorem d_T_joined_147 : decode c_T_joined 147 = .ok (.bipush 64, 2) := by decide +kernel
theorem d_T_joined_149 : decode c_T_joined 149 = .ok (.iload 7, 2) := by decide +kernel
theorem d_T_joined_151 : decode c_T_joined 151 = .ok (.imul, 1) := by decide +kernel
theorem d_T_joined_152 : decode c_T_joined 152 = .ok (.isub, 1) := by decide +kernel
theorem d_T_joined_153 : decode c_T_joined 153 = .ok (.invokevirtual 34, 3) := by decide +kernel
theorem d_T_joined_156 : decode c_T_joined 156 = .ok (.iadd, 1) := by decide +kernel
theorem d_T_joined_157 : decode c_T_joined 157 = .ok (.ireturn, 1) := by decide +kernel
theorem d_T_joinedClasses_0 : decode c_T_joinedClasses 0 = .ok (.aload_n 0, 1) := by decide +kernel
theorem d_T_joinedClasses_1 : decode c_T_joinedClasses 1 = .ok (.getfield 15, 3) := by decide +kernel
theorem d_T_joinedClasses_4 : decode c_T_joinedClasses 4 = .ok (.iload_n 1, 1) := by decide +kernel
theorem d_T_joinedClasses_5 : decode c_T_joinedClasses 5 = .ok (.bipush 16, 2) := by decide +kernel
theorem d_T_joinedClasses_7 : decode c_T_joinedClasses 7 = .ok (.isub, 1) := by decide +kernel
theorem d_T_joinedClasses_8 : decode c_T_joinedClasses 8 = .ok (.baload, 1) := by decide +kernel
theorem d_T_joinedClasses_9 : decode c_T_joinedClasses 9 = .ok (.ifCond .ne 15, 3) := by decide +kernel
theorem d_T_joinedClasses_12 : decode c_T_joinedClasses 12 = .ok (.aload_n 0, 1) := by decide +kernel
theorem d_T_joinedClasses_13 : decode c_T_joinedClasses 13 = .ok (.getfield 15, 3) := by decide +kernel
theorem d_T_joinedClasses_16 : decode c_T_joinedClasses 16 = .ok (.iload_n 2, 1) := by decide +kernel
theorem d_T_joinedClasses_17 : decode c_T_joinedClasses 17 = .ok (.bipush 16, 2) := by decide +kernel
theorem d_T_joinedClasses_19 : decode c_T_joinedClasses 19 = .ok (.isub, 1) := by decide +kernel
theorem d_T_joinedClasses_20 : decode c_T_joinedClasses 20 = .ok (.baload, 1) := by decide +kernel
theorem d_T_joinedClasses_21 : decode c_T_joinedClasses 21 = .ok (.ifCond .eq 6, 3) := by decide +kernel
theorem d_T_joinedClasses_24 : decode c_T_joinedClasses 24 = .ok (.bipush 16, 2) := by decide +kernel
theorem d_T_joinedClasses_26 : decode c_T_joinedClasses 26 = .ok (.ireturn, 1) := by decide +kernel
theorem d_T_joinedClasses_27 : decode c_T_joinedClasses 27 = .ok (.aload_n 0, 1) := by decide +kernel
theorem d_T_joinedClasses_28 : decode c_T_joinedClasses 28 = .ok (.getfield 9, 3) := by decide +kernel
theorem d_T_joinedClasses_31 : decode c_T_joinedClasses 31 = .ok (.iload_n 1, 1) := by decide +kernel
theorem d_T_joinedClasses_32 : decode c_T_joinedClasses 32 = .ok (.bipush 16, 2) := by decide +kernel
theorem d_T_joinedClasses_34 : decode c_T_joinedClasses 34 = .ok (.isub, 1) := by decide +kernel
theorem d_T_joinedClasses_35 : decode c_T_joinedClasses 35 = .ok (.iaload, 1) := by decide +kernel
theorem d_T_joinedClasses_36 : decode c_T_joinedClasses 36 = .ok (.aload_n 0, 1) := by decide +kernel
theorem d_T_joinedClasses_37 : decode c_T_joinedClasses 37 = .ok (.getfield 9, 3) := by decide +kernel
theorem d_T_joinedClasses_40 : decode c_T_joinedClasses 40 = .ok (.iload_n 2, 1) := by decide +kernel
theorem d_T_joinedClasses_41 : decode c_T_joinedClasses 41 = .ok (.bipush 16, 2) := by decide +kernel
theorem d_T_joinedClasses_43 : decode c_T_joinedClasses 43 = .ok (.isub, 1) := by decide +kernel
theorem d_T_joinedClasses_44 : decode c_T_joinedClasses 44 = .ok (.iaload, 1) := by decide +kernel
theorem d_T_joinedClasses_45 : decode c_T_joinedClasses 45 = .ok (.iand, 1) := by decide +kernel
theorem d_T_joinedClasses_46 : decode c_T_joinedClasses 46 = .ok (.istore_n 3, 1) := by decide +kernel
theorem d_T_joinedClasses_47 : decode c_T_joinedClasses 47 = .ok (.iload_n 1, 1) := by decide +kernel
theorem d_T_joinedClasses_48 : decode c_T_joinedClasses 48 = .ok (.bipush 16, 2) := by decide +kernel
theorem d_T_joinedClasses_50 : decode c_T_joinedClasses 50 = .ok (.isub, 1) := by decide +kernel
theorem d_T_joinedClasses_51 : decode c_T_joinedClasses 51 = .ok (.istore 4, 2) := by decide +kernel
theorem d_T_joinedClasses_53 : decode c_T_joinedClasses 53 = .ok (.iload 4, 2) := by decide +kernel
theorem d_T_joinedClasses_55 : decode c_T_joinedClasses 55 = .ok (.ifCond .le 24, 3) := by decide +kernel
theorem d_T_joinedClasses_58 : decode c_T_joinedClasses 58 = .ok (.iload_n 3, 1) := by decide +kernel
theorem d_T_joinedClasses_59 : decode c_T_joinedClasses 59 = .ok (.iload 4, 2) := by decide +kernel
theorem d_T_joinedClasses_61 : decode c_T_joinedClasses 61 = .ok (.ishr, 1) := by decide +kernel
theorem d_T_joinedClasses_62 : decode c_T_joinedClasses 62 = .ok (.iconst 1, 1) := by decide +kernel
theorem d_T_joinedClasses_63 : decode c_T_joinedClasses 63 = .ok (.iand, 1) := by decide +kernel
theorem d_T_joinedClasses_64 : decode c_T_joinedClasses 64 = .ok (.ifCond .eq 9, 3) := by decide +kernel
theorem d_T_joinedClasses_67 : decode c_T_joinedClasses 67 = .ok (.bipush 16, 2) := by decide +kernel
theorem d_T_joinedClasses_69 : decode c_T_joinedClasses 69 = .ok (.iload 4, 2) := by decide +kernel
theorem d_T_joinedClasses_71 : decode c_T_joinedClasses 71 = .ok (.iadd, 1) := by decide +kernel
theorem d_T_joinedClasses_72 : decode c_T_joinedClasses 72 = .ok (.ireturn, 1) := by decide +kernel
theorem d_T_joinedClasses_73 : decode c_T_joinedClasses 73 = .ok (.iinc 4 (-1), 3) := by decide +kernel
theorem d_T_joinedClasses_76 : decode c_T_joinedClasses 76 = .ok (.goto (-23), 3) := by decide +kernel
theorem d_T_joinedClasses_79 : decode c_T_joinedClasses 79 = .ok (.bipush 16, 2) := by decide +kernel
theorem d_T_joinedClasses_81 : decode c_T_joinedClasses 81 = .ok (.ireturn, 1) := by decide +kernel
theorem d_JL_bitCount_0 : decode c_JL_bitCount 0 = .ok (.lload_n 0, 1) := by decide +kernel
theorem d_JL_bitCount_1 : decode c_JL_bitCount 1 = .ok (.lload_n 0, 1) := by decide +kernel
theorem d_JL_bitCount_2 : decode c_JL_bitCount 2 = .ok (.iconst 1, 1) := by decide +kernel
theorem d_JL_bitCount_3 : decode c_JL_bitCount 3 = .ok (.lushr, 1) := by decide +kernel
theorem d_JL_bitCount_4 : decode c_JL_bitCount 4 = .ok (.ldc2_w 314, 3) := by decide +kernel
theorem d_JL_bitCount_7 : decode c_JL_bitCount 7 = .ok (.land, 1) := by decide +kernel
theorem d_JL_bitCount_8 : decode c_JL_bitCount 8 = .ok (.lsub, 1) := by decide +kernel
theorem d_JL_bitCount_9 : decode c_JL_bitCount 9 = .ok (.lstore_n 0, 1) := by decide +kernel
theorem d_JL_bitCount_10 : decode c_JL_bitCount 10 = .ok (.lload_n 0, 1) := by decide +kernel
theorem d_JL_bitCount_11 : decode c_JL_bitCount 11 = .ok (.ldc2_w 316, 3) := by decide +kernel
theorem d_JL_bitCount_14 : decode c_JL_bitCount 14 = .ok (.land, 1) := by decide +kernel
theorem d_JL_bitCount_15 : decode c_JL_bitCount 15 = .ok (.lload_n 0, 1) := by decide +kernel
theorem d_JL_bitCount_16 : decode c_JL_bitCount 16 = .ok (.iconst 2, 1) := by decide +kernel
theorem d_JL_bitCount_17 : decode c_JL_bitCount 17 = .ok (.lushr, 1) := by decide +kernel
theorem d_JL_bitCount_18 : decode c_JL_bitCount 18 = .ok (.ldc2_w 316, 3) := by decide +kernel
theorem d_JL_bitCount_21 : decode c_JL_bitCount 21 = .ok (.land, 1) := by decide +kernel
theorem d_JL_bitCount_22 : decode c_JL_bitCount 22 = .ok (.ladd, 1) := by decide +kernel
theorem d_JL_bitCount_23 : decode c_JL_bitCount 23 = .ok (.lstore_n 0, 1) := by decide +kernel
theorem d_JL_bitCount_24 : decode c_JL_bitCount 24 = .ok (.lload_n 0, 1) := by decide +kernel
theorem d_JL_bitCount_25 : decode c_JL_bitCount 25 = .ok (.lload_n 0, 1) := by decide +kernel
theorem d_JL_bitCount_26 : decode c_JL_bitCount 26 = .ok (.iconst 4, 1) := by decide +kernel
theorem d_JL_bitCount_27 : decode c_JL_bitCount 27 = .ok (.lushr, 1) := by decide +kernel
theorem d_JL_bitCount_28 : decode c_JL_bitCount 28 = .ok (.ladd, 1) := by decide +kernel
theorem d_JL_bitCount_29 : decode c_JL_bitCount 29 = .ok (.ldc2_w 318, 3) := by decide +kernel
theorem d_JL_bitCount_32 : decode c_JL_bitCount 32 = .ok (.land, 1) := by decide +kernel
theorem d_JL_bitCount_33 : decode c_JL_bitCount 33 = .ok (.lstore_n 0, 1) := by decide +kernel
theorem d_JL_bitCount_34 : decode c_JL_bitCount 34 = .ok (.lload_n 0, 1) := by decide +kernel
theorem d_JL_bitCount_35 : decode c_JL_bitCount 35 = .ok (.lload_n 0, 1) := by decide +kernel
theorem d_JL_bitCount_36 : decode c_JL_bitCount 36 = .ok (.bipush 8, 2) := by decide +kernel
theorem d_JL_bitCount_38 : decode c_JL_bitCount 38 = .ok (.lushr, 1) := by decide +kernel
theorem d_JL_bitCount_39 : decode c_JL_bitCount 39 = .ok (.ladd, 1) := by decide +kernel
theorem d_JL_bitCount_40 : decode c_JL_bitCount 40 = .ok (.lstore_n 0, 1) := by decide +kernel
theorem d_JL_bitCount_41 : decode c_JL_bitCount 41 = .ok (.lload_n 0, 1) := by decide +kernel
theorem d_JL_bitCount_42 : decode c_JL_bitCount 42 = .ok (.lload_n 0, 1) := by decide +kernel
theorem d_JL_bitCount_43 : decode c_JL_bitCount 43 = .ok (.bipush 16, 2) := by decide +kernel
theorem d_JL_bitCount_45 : decode c_JL_bitCount 45 = .ok (.lushr, 1) := by decide +kernel
theorem d_JL_bitCount_46 : decode c_JL_bitCount 46 = .ok (.ladd, 1) := by decide +kernel
theorem d_JL_bitCount_47 : decode c_JL_bitCount 47 = .ok (.lstore_n 0, 1) := by decide +kernel
theorem d_JL_bitCount_48 : decode c_JL_bitCount 48 = .ok (.lload_n 0, 1) := by decide +kernel
theorem d_JL_bitCount_49 : decode c_JL_bitCount 49 = .ok (.lload_n 0, 1) := by decide +kernel
theorem d_JL_bitCount_50 : decode c_JL_bitCount 50 = .ok (.bipush 32, 2) := by decide +kernel
theorem d_JL_bitCount_52 : decode c_JL_bitCount 52 = .ok (.lushr, 1) := by decide +kernel
theorem d_JL_bitCount_53 : decode c_JL_bitCount 53 = .ok (.ladd, 1) := by decide +kernel
theorem d_JL_bitCount_54 : decode c_JL_bitCount 54 = .ok (.lstore_n 0, 1) := by decide +kernel
theorem d_JL_bitCount_55 : decode c_JL_bitCount 55 = .ok (.lload_n 0, 1) := by decide +kernel
theorem d_JL_bitCount_56 : decode c_JL_bitCount 56 = .ok (.l2i, 1) := by decide +kernel
theorem d_JL_bitCount_57 : decode c_JL_bitCount 57 = .ok (.bipush 127, 2) := by decide +kernel
theorem d_JL_bitCount_59 : decode c_JL_bitCount 59 = .ok (.iand, 1) := by decide +kernel
theorem d_JL_bitCount_60 : decode c_JL_bitCount 60 = .ok (.ireturn, 1) := by decide +kernel
theorem d_JA_fillI_0 : decode c_JA_fillI 0 = .ok (.iconst 0, 1) := by decide +kernel
theorem d_JA_fillI_1 : decode c_JA_fillI 1 = .ok (.istore_n 2, 1) := by decide +kernel
theorem d_JA_fillI_2 : decode c_JA_fillI 2 = .ok (.aload_n 0, 1) := by decide +kernel
theorem d_JA_fillI_3 : decode c_JA_fillI 3 = .ok (.arraylength, 1) := by decide +kernel
theorem d_JA_fillI_4 : decode c_JA_fillI 4 = .ok (.istore_n 3, 1) := by decide +kernel
theorem d_JA_fillI_5 : decode c_JA_fillI 5 = .ok (.iload_n 2, 1) := by decide +kernel
theorem d_JA_fillI_6 : decode c_JA_fillI 6 = .ok (.iload_n 3, 1) := by decide +kernel
theorem d_JA_fillI_7 : decode c_JA_fillI 7 = .ok (.if_icmp .ge 13, 3) := by decide +kernel
theorem d_JA_fillI_10 : decode c_JA_fillI 10 = .ok (.aload_n 0, 1) := by decide +kernel
theorem d_JA_fillI_11 : decode c_JA_fillI 11 = .ok (.iload_n 2, 1) := by decide +kernel
theorem d_JA_fillI_12 : decode c_JA_fillI 12 = .ok (.iload_n 1, 1) := by decide +kernel
theorem d_JA_fillI_13 : decode c_JA_fillI 13 = .ok (.iastore, 1) := by decide +kernel
theorem d_JA_fillI_14 : decode c_JA_fillI 14 = .ok (.iinc 2 1, 3) := by decide +kernel
theorem d_JA_fillI_17 : decode c_JA_fillI 17 = .ok (.goto (-12), 3) := by decide +kernel
theorem d_JA_fillI_20 : decode c_JA_fillI 20 = .ok (.return_, 1) := by decide +kernel
theorem d_JA_fillJ_0 : decode c_JA_fillJ 0 = .ok (.iconst 0, 1) := by decide +kernel
theorem d_JA_fillJ_1 : decode c_JA_fillJ 1 = .ok (.istore_n 3, 1) := by decide +kernel
theorem d_JA_fillJ_2 : decode c_JA_fillJ 2 = .ok (.aload_n 0, 1) := by decide +kernel
theorem d_JA_fillJ_3 : decode c_JA_fillJ 3 = .ok (.arraylength, 1) := by decide +kernel
theorem d_JA_fillJ_4 : decode c_JA_fillJ 4 = .ok (.istore 4, 2) := by decide +kernel
theorem d_JA_fillJ_6 : decode c_JA_fillJ 6 = .ok (.iload_n 3, 1) := by decide +kernel
theorem d_JA_fillJ_7 : decode c_JA_fillJ 7 = .ok (.iload 4, 2) := by decide +kernel
theorem d_JA_fillJ_9 : decode c_JA_fillJ 9 = .ok (.if_icmp .ge 13, 3) := by decide +kernel
theorem d_JA_fillJ_12 : decode c_JA_fillJ 12 = .ok (.aload_n 0, 1) := by decide +kernel
theorem d_JA_fillJ_13 : decode c_JA_fillJ 13 = .ok (.iload_n 3, 1) := by decide +kernel
theorem d_JA_fillJ_14 : decode c_JA_fillJ 14 = .ok (.lload_n 1, 1) := by decide +kernel
theorem d_JA_fillJ_15 : decode c_JA_fillJ 15 = .ok (.lastore, 1) := by decide +kernel
theorem d_JA_fillJ_16 : decode c_JA_fillJ 16 = .ok (.iinc 3 1, 3) := by decide +kernel
theorem d_JA_fillJ_19 : decode c_JA_fillJ 19 = .ok (.goto (-13), 3) := by decide +kernel
theorem d_JA_fillJ_22 : decode c_JA_fillJ 22 = .ok (.return_, 1) := by decide +kernel
end
section
def ztys (c : Nat → ClassId) : List (ClassId × FieldType) := [(c 0, .int), (c 1, .boolean), (c 2, .long), (c 3, .object "FlowGate$Frame")]
def nsM : List (String × Nat × MethodName × String) := [("FlowGate", 18, y_M_init, "FlowGate"), ("FlowGate$Flow", 28, y_R_init, "FlowGate"), ("FlowGate$Flow", 203, y_G_widthOf, "FlowGate"), ("FlowGate$Flow", 208, y_G_isReturn, "FlowGate"), ("FlowGate$Flow", 230, y_G_isWide, "FlowGate"), ("FlowGate$Flow", 264, y_G_isRaw, "FlowGate"), ("FlowGate$Form", 95, y_G_widthOf, "FlowGate"), ("FlowGate$Frame", 49, y_G_widthOf, "FlowGate"), ("FlowGate$Frame", 65, y_G_isWide, "FlowGate"), ("FlowGate$Frame", 72, y_G_isRaw, "FlowGate")]
def ck (t : Nat) : Nat := ([0, 0, 1, 2, 0, 1, 1, 1, 1, 1, 1, 1, 1, 0, 0, 4, 2, 2, 3, 0, 1, 1, 1, 9, 9, 9, 9, 9, 9, 9, 0, 1, 2, 1, 1, 1, 1, 1, 1, 1, 1, 2, 2, 1, 1, 1, 1, 3, 3, 1, 1, 1, 1, 1, 1] : List Nat).getD t 9
def cn (t : Nat) : Nat := ([0, 1, 0, 0, 2, 0, 0, 0, 0, 0, 0, 0, 0, 3, 4, 3, 0, 0, 0, 5, 0, 0, 0, 0, 0, 0, 0, 0, 0, 0, 6, 0, 0, 0, 0, 0, 0, 0, 0, 0, 0, 0, 0, 0, 0, 0, 0, 0, 0, 0, 0, 0, 0, 0, 0] : List Nat).getD t 0
def nf (t : Nat) : Nat := ([6, 3, 10, 10, 14, 48, 48, 48, 3, 3, 3, 3, 6, 2, 12, 48, 48, 48, 48, 5, 12, 12, 48, 0, 0, 0, 0, 0, 0, 0, 42, 10, 10, 48, 48, 48, 3, 3, 3, 3, 6, 48, 48, 576, 576, 48, 2304, 48, 48, 14, 20, 48, 12, 20, 48] : List Nat).getD t 0
def fk (t k : Nat) : Nat := (([[2, 2, 2, 2, 0, 0], [2, 2, 0], [], [], [2, 2, 2, 0, 2, 2, 2, 2, 0, 2, 0, 0, 0, 0], [], [], [], [], [], [], [], [], [2, 2], [2, 2, 2, 2, 2, 2, 2, 2, 0, 0, 0, 1], [], [], [], [], [2, 2, 0, 1, 2], [], [], [], [], [], [], [], [], [], [], [2, 2, 0, 2, 2, 2, 2, 2, 2, 2, 2, 0, 0, 0, 0, 0, 0, 2, 2, 2, 2, 2, 2, 2, 2, 2, 2, 2, 2, 2, 2, 0, 0, 0, 0, 0, 0, 0, 0, 1, 1, 1], [], [], [], [], [], [], [], [], [], [], [], [], [], [], [], [], [], [], [], [], [], [], [], []] : List (List Nat)).getD t []).getD k 0
def rt (t k : Nat) : Nat := (([[1, 4, 13, 14, 0, 0], [2, 3, 0], [], [], [5, 6, 7, 0, 8, 9, 10, 11, 0, 12, 0, 0, 0, 0], [], [], [], [], [], [], [], [], [1, 4], [1, 4, 15, 16, 17, 18, 19, 19, 0, 0, 0, 0], [], [], [], [], [20, 21, 0, 0, 22], [], [], [], [], [], [], [], [], [], [], [31, 32, 0, 33, 34, 35, 36, 37, 38, 39, 40, 0, 0, 0, 0, 0, 0, 41, 42, 43, 44, 45, 46, 47, 48, 49, 50, 51, 52, 53, 54, 0, 0, 0, 0, 0, 0, 0, 0, 0, 0, 0], [], [], [], [], [], [], [], [], [], [], [], [], [], [], [], [], [], [], [], [], [], [], [], []] : List (List Nat)).getD t []).getD k 0
def ri (t k i : Nat) : Nat := match (([[1, 1, 1, 1, 0, 0], [1, 1, 0], [], [], [1, 1, 1, 0, 1, 1, 1, 1, 0, 1, 0, 0, 0, 0], [], [], [], [], [], [], [], [], [1, 1], [1, 1, 1, 1, 1, 1, 1, 2, 0, 0, 0, 0], [], [], [], [], [0, 0, 0, 0, 0], [], [], [], [], [], [], [], [], [], [], [1, 1, 0, 1, 1, 1, 1, 1, 1, 1, 1, 0, 0, 0, 0, 0, 0, 1, 1, 1, 1, 1, 1, 1, 1, 1, 1, 1, 1, 1, 1, 0, 0, 0, 0, 0, 0, 0, 0, 0, 0, 0], [], [], [], [], [], [], [], [], [], [], [], [], [], [], [], [], [], [], [], [], [], [], [], []] : List (List Nat)).getD t []).getD k 0 with
  | 0 => i
  | n + 1 => n
def et (t : Nat) : Nat := ([0, 0, 0, 0, 0, 0, 0, 0, 0, 0, 0, 0, 0, 0, 0, 19, 0, 0, 0, 0, 0, 0, 0, 0, 0, 0, 0, 0, 0, 0, 0, 0, 0, 0, 0, 0, 0, 0, 0, 0, 0, 0, 0, 0, 0, 0, 0, 0, 0, 0, 0, 0, 0, 0, 0] : List Nat).getD t 0
def ei (t j : Nat) : Nat := j + ([0, 0, 0, 0, 0, 0, 0, 0, 0, 0, 0, 0, 0, 0, 0, 2, 0, 0, 0, 0, 0, 0, 0, 0, 0, 0, 0, 0, 0, 0, 0, 0, 0, 0, 0, 0, 0, 0, 0, 0, 0, 0, 0, 0, 0, 0, 0, 0, 0, 0, 0, 0, 0, 0, 0] : List Nat).getD t 0
def cnt (t : Nat) : Nat := ([1, 1, 1, 1, 1, 1, 1, 1, 1, 1, 1, 1, 1, 1, 1, 1, 1, 1, 1, 50, 50, 50, 50, 0, 0, 0, 0, 0, 0, 0, 1, 1, 1, 1, 1, 1, 1, 1, 1, 1, 1, 1, 1, 1, 1, 1, 1, 1, 1, 1, 1, 1, 1, 1, 1] : List Nat).getD t 0
def sC (t : Nat) : Bool := Nat.blt t 30
def sD (t : Nat) : Bool := Nat.ble 30 t && Nat.blt t 55
def pos (t i : Nat) : Nat := if t < 19 then t else if t < 30 then 19 + 4 * i + (t - 19) else 219 + (t - 30)
end
section
/-! The judgement G: the machine W over a world that is a function of a memory; a row an instruction. -/
abbrev Mm : Type := (Nat → Nat → Nat → Int32) × (Nat → Nat → Nat → Int64)
def sI (M : Mm) (t i k : Nat) (v : Int32) : Mm := (fun a b c => if a = t ∧ b = i ∧ c = k then v else M.1 a b c, M.2)
def sL (M : Mm) (t i k : Nat) (v : Int64) : Mm := (M.1, fun a b c => if a = t ∧ b = i ∧ c = k then v else M.2 a b c)
def sA (M : Mm) (t i : Nat) (f : Nat → Int32) : Mm := (fun a b c => if a = t ∧ b = i then f c else M.1 a b c, M.2)
def sB (M : Mm) (t i : Nat) (f : Nat → Int64) : Mm := (M.1, fun a b c => if a = t ∧ b = i then f c else M.2 a b c)
/-- the links to private methods of nest mates stand -/
def Nst (U : State) : Prop := (∀ q ∈ nsM, va_Nw (.methodLinkNest q.1 q.2.1 q.2.2.1 q.2.2.2) U) ∧ va_AO "FlowGate$Frame" U
/-- what stays over a whole proof: launch, tables, world, addresses, array classes -/
abbrev ZT : Type := Launch × va_G × (Mm → va_W) × (Nat → Nat → Nat) × (Nat → ClassId)
abbrev zl (Z : ZT) : Launch := Z.1
abbrev zD (Z : ZT) : va_G := Z.2.1
abbrev zw (Z : ZT) : Mm → va_W := Z.2.2.1
abbrev za (Z : ZT) : Nat → Nat → Nat := Z.2.2.2.1
abbrev zc (Z : ZT) : Nat → ClassId := Z.2.2.2.2
/-- one walk: program, env, room, start, method id, arguments, below, method, code, end, own cells -/
abbrev XT : Type := Program × Env × Room × State × MethodId × Array Value × List Frame × Method × Code × (State → Prop) × (Nat → Prop) × Nat × Nat
abbrev xp (X : XT) : Program := X.1
abbrev xe (X : XT) : Env := X.2.1
abbrev xR (X : XT) : Room := X.2.2.1
abbrev xs (X : XT) : State := X.2.2.2.1
abbrev xm (X : XT) : MethodId := X.2.2.2.2.1
abbrev xa (X : XT) : Array Value := X.2.2.2.2.2.1
abbrev xb (X : XT) : List Frame := X.2.2.2.2.2.2.1
abbrev xt (X : XT) : Method := X.2.2.2.2.2.2.2.1
abbrev xc (X : XT) : Code := X.2.2.2.2.2.2.2.2.1
abbrev xQ (X : XT) : State → Prop := X.2.2.2.2.2.2.2.2.2.1
abbrev xA (X : XT) : Nat → Prop := X.2.2.2.2.2.2.2.2.2.2.1
abbrev xk1 (X : XT) : Nat := X.2.2.2.2.2.2.2.2.2.2.2.1
abbrev xk2 (X : XT) : Nat := X.2.2.2.2.2.2.2.2.2.2.2.2
abbrev WX (Z : ZT) (X : XT) (H : Heap) (locs : List Loc) (g : JFrame) : Prop := W (xp X) (zl Z) (xe X) (xR X) (xs X) (xm X) (xa X) (xb X) (xt X) (xc X) H locs (xk1 X) (xk2 X) (xQ X) g
def G (Z : ZT) (X : XT) (M : Mm) (pc : Nat) (lv : List (Nat × Value)) (st : List Value) : Prop :=
  ∀ (H : Heap) (locs : List Loc) (ls : Array Slot), va_P (zD Z) vwCl (zw Z M) H → va_S (xA X) (xs X).heap H locs → lv_has ls (xc X).maxLocals lv → WX Z X H locs (F0 (xm X) pc ls st)
/-- what holds of a walk as a whole: the machine, the code, its locals, its class, its words, no lock, the tables, the world's cells apart, its room -/
def Ok (Z : ZT) (X : XT) (own : String) (cc : ByteArray) (ts : List Cond) (nL : Nat) (rm : Room) : Prop :=
  (xp X).tables.exec = Jvm.exec ∧ (xc X).code = cc ∧ (xc X).maxLocals = nL ∧ (xs X).vm.findClass own = some (xm X).cls ∧ (∀ w ∈ ts, w.before (xa X) (xs X) = true) ∧ (xt X).locks = false ∧ va_K (zD Z) vwCl (ztys (zc Z)) (xs X) ∧ (∀ M, va_D (xA X) (zw Z M)) ∧ (∀ q : Nat, (xs X).heap.size ≤ q → xA X q) ∧ (xR X = rm ∧ xk1 X ≤ rm.cells ∧ xk2 X ≤ rm.slots) ∧ Nst (xs X)
def lvg : List (Nat × Value) → Nat → Option Value
  | [], _ => none
  | q :: r, i => bif q.1 == i then some q.2 else lvg r i
theorem lvg_mem : ∀ {lv : List (Nat × Value)} {i : Nat} {v : Value}, lvg lv i = some v → (i, v) ∈ lv
  | [], _, _, h => by cases h
  | q :: r, i, v, h => by
    unfold lvg at h
    cases hq : q.1 == i with
    | true =>
      rw [hq] at h
      have e1 : q.1 = i := by simpa using hq
      have e2 : q.2 = v := by simpa using h
      rw [← e1, ← e2]
      exact List.mem_cons_self
    | false =>
      rw [hq] at h
      exact List.mem_cons_of_mem _ (lvg_mem h)
theorem lvg_at {ls : Array Slot} {n : Nat} {lv : List (Nat × Value)} {i : Nat} {v : Value} (hl : lv_has ls n lv) (h : lvg lv i = some v) : ls[i]? = some (.val v) := hl.2.2 (i, v) (lvg_mem h)
section GR
variable {Z : ZT} {X : XT} {M : Mm} {pc : Nat} {lv lv' : List (Nat × Value)} {st : List Value} {own : String} {cc : ByteArray} {ts : List Cond} {nL : Nat} {rm : Room}
theorem g_topi {x : Int32} (k : ∀ y : Int32, y = x → G Z X M pc lv (.int y :: st)) : G Z X M pc lv (.int x :: st) := k x rfl
theorem g_topl {x : Int64} (k : ∀ y : Int64, y = x → G Z X M pc lv (.long y :: st)) : G Z X M pc lv (.long x :: st) := k x rfl
theorem g_mem (k : ∀ M1 : Mm, M1 = M → G Z X M1 pc lv st) : G Z X M pc lv st := k M rfl
theorem g_sub (ks : List Nat) (hl : lv_pick lv ks = lv') (k : G Z X M pc lv' st) : G Z X M pc lv st := fun H locs ls hP hS h => k H locs ls hP hS (lv_sub h ks hl)
theorem g_iconst (h : Ok Z X own cc ts nL rm) {n : Int} {v : Int32} (hdg : decode cc pc = .ok (.iconst n, 1)) (hv : Int32.ofInt n = v) (k : G Z X M (pc + 1) lv (.int v :: st)) : G Z X M pc lv st := fun H locs ls hP hS hl => lv_iconst h.1 h.2.1 hdg hv (k H locs ls hP hS hl)
theorem g_bipush (h : Ok Z X own cc ts nL rm) {n : Int} {v : Int32} (hdg : decode cc pc = .ok (.bipush n, 2)) (hv : (Int8.ofInt n).toInt32 = v) (k : G Z X M (pc + 2) lv (.int v :: st)) : G Z X M pc lv st := fun H locs ls hP hS hl => lv_bipush h.1 h.2.1 hdg hv (k H locs ls hP hS hl)
theorem g_sipush (h : Ok Z X own cc ts nL rm) {n : Int} {v : Int32} (hdg : decode cc pc = .ok (.sipush n, 3)) (hv : (Int16.ofInt n).toInt32 = v) (k : G Z X M (pc + 3) lv (.int v :: st)) : G Z X M pc lv st := fun H locs ls hP hS hl => lv_sipush h.1 h.2.1 hdg hv (k H locs ls hP hS hl)
theorem g_lconst (h : Ok Z X own cc ts nL rm) {n : Fin 2} {v : Int64} (hdg : decode cc pc = .ok (.lconst n, 1)) (hv : Int64.ofNat (n : Nat) = v) (k : G Z X M (pc + 1) lv (.long v :: st)) : G Z X M pc lv st := fun H locs ls hP hS hl => lv_lconst h.1 h.2.1 hdg hv (k H locs ls hP hS hl)
theorem g_ldc (h : Ok Z X own cc ts nL rm) {index : Nat} {v : Int32} (hc : Jvm.Cond.constant own index v ∈ ts) (hdg : decode cc pc = .ok (.ldc index, 2)) (k : G Z X M (pc + 2) lv (.int v :: st)) : G Z X M pc lv st := fun H locs ls hP hS hl => lv_ldc h.1 h.2.1 h.2.2.2.1 (h.2.2.2.2.1 _ hc) hdg (k H locs ls hP hS hl)
theorem g_ldc2 (h : Ok Z X own cc ts nL rm) {index : Nat} {v : Int64} (hc : Jvm.Cond.constantLong own index v ∈ ts) (hdg : decode cc pc = .ok (.ldc2_w index, 3)) (k : G Z X M (pc + 3) lv (.long v :: st)) : G Z X M pc lv st := fun H locs ls hP hS hl => lv_ldc2 h.1 h.2.1 h.2.2.2.1 (h.2.2.2.2.1 _ hc) hdg (k H locs ls hP hS hl)
theorem g_iload_n (h : Ok Z X own cc ts nL rm) {k : Fin 4} {i : Nat} {x : Int32} (hdg : decode cc pc = .ok (.iload_n k, 1)) (hi : (k : Nat) = i) (hl : lvg lv i = some (.int x)) (kk : G Z X M (pc + 1) lv (.int x :: st)) : G Z X M pc lv st := fun H locs ls hP hS h2 => lv_iload_n h.1 h.2.1 hdg hi (lvg_at h2 hl) (kk H locs ls hP hS h2)
theorem g_iload (h : Ok Z X own cc ts nL rm) {i : Nat} {x : Int32} (hdg : decode cc pc = .ok (.iload i, 2)) (hl : lvg lv i = some (.int x)) (kk : G Z X M (pc + 2) lv (.int x :: st)) : G Z X M pc lv st := fun H locs ls hP hS h2 => lv_iload h.1 h.2.1 hdg (lvg_at h2 hl) (kk H locs ls hP hS h2)
theorem g_lload_n (h : Ok Z X own cc ts nL rm) {k : Fin 4} {i : Nat} {x : Int64} (hdg : decode cc pc = .ok (.lload_n k, 1)) (hi : (k : Nat) = i) (hl : lvg lv i = some (.long x)) (kk : G Z X M (pc + 1) lv (.long x :: st)) : G Z X M pc lv st := fun H locs ls hP hS h2 => lv_lload_n h.1 h.2.1 hdg hi (lvg_at h2 hl) (kk H locs ls hP hS h2)
theorem g_lload (h : Ok Z X own cc ts nL rm) {i : Nat} {x : Int64} (hdg : decode cc pc = .ok (.lload i, 2)) (hl : lvg lv i = some (.long x)) (kk : G Z X M (pc + 2) lv (.long x :: st)) : G Z X M pc lv st := fun H locs ls hP hS h2 => lv_lload h.1 h.2.1 hdg (lvg_at h2 hl) (kk H locs ls hP hS h2)
theorem g_aload_n (h : Ok Z X own cc ts nL rm) {k : Fin 4} {i : Nat} {x : Nat} (hdg : decode cc pc = .ok (.aload_n k, 1)) (hi : (k : Nat) = i) (hl : lvg lv i = some (.ref x)) (kk : G Z X M (pc + 1) lv (.ref x :: st)) : G Z X M pc lv st := fun H locs ls hP hS h2 => lv_aload_n h.1 h.2.1 hdg hi (lvg_at h2 hl) (kk H locs ls hP hS h2)
theorem g_aload (h : Ok Z X own cc ts nL rm) {i : Nat} {x : Nat} (hdg : decode cc pc = .ok (.aload i, 2)) (hl : lvg lv i = some (.ref x)) (kk : G Z X M (pc + 2) lv (.ref x :: st)) : G Z X M pc lv st := fun H locs ls hP hS h2 => lv_aload h.1 h.2.1 hdg (lvg_at h2 hl) (kk H locs ls hP hS h2)
abbrev lvs (lv : List (Nat × Value)) (i : Nat) (v : Value) : List (Nat × Value) := (i, v) :: lv.filter (fun q => !(q.1 == i) && !(q.1 + 1 == i && q.2.category == 2))
abbrev lvs2 (lv : List (Nat × Value)) (i : Nat) (v : Value) : List (Nat × Value) := (i, v) :: lv.filter (fun q => !(q.1 == i) && (!(q.1 == i + 1) && !(q.1 + 1 == i && q.2.category == 2)))
theorem g_istore_n (h : Ok Z X own cc ts nL rm) {k : Fin 4} {i : Nat} {x : Int32} (hdg : decode cc pc = .ok (.istore_n k, 1)) (hi : (k : Nat) = i) (hn : i < nL) (hl : lvs lv i (.int x) = lv') (kk : G Z X M (pc + 1) lv' st) : G Z X M pc lv (.int x :: st) := fun H locs ls hP hS h2 => lv_istore_n h.1 h.2.1 hdg hi h2 (h.2.2.1 ▸ hn) hl (fun ls' h3 => kk H locs ls' hP hS h3)
theorem g_istore (h : Ok Z X own cc ts nL rm) {i : Nat} {x : Int32} (hdg : decode cc pc = .ok (.istore i, 2)) (hn : i < nL) (hl : lvs lv i (.int x) = lv') (kk : G Z X M (pc + 2) lv' st) : G Z X M pc lv (.int x :: st) := fun H locs ls hP hS h2 => lv_istore h.1 h.2.1 hdg h2 (h.2.2.1 ▸ hn) hl (fun ls' h3 => kk H locs ls' hP hS h3)
theorem g_lstore_n (h : Ok Z X own cc ts nL rm) {k : Fin 4} {i : Nat} {x : Int64} (hdg : decode cc pc = .ok (.lstore_n k, 1)) (hi : (k : Nat) = i) (hn : i + 1 < nL) (hl : lvs2 lv i (.long x) = lv') (kk : G Z X M (pc + 1) lv' st) : G Z X M pc lv (.long x :: st) := fun H locs ls hP hS h2 => lv_lstore_n h.1 h.2.1 hdg hi h2 (h.2.2.1 ▸ hn) hl (fun ls' h3 => kk H locs ls' hP hS h3)
theorem g_lstore (h : Ok Z X own cc ts nL rm) {i : Nat} {x : Int64} (hdg : decode cc pc = .ok (.lstore i, 2)) (hn : i + 1 < nL) (hl : lvs2 lv i (.long x) = lv') (kk : G Z X M (pc + 2) lv' st) : G Z X M pc lv (.long x :: st) := fun H locs ls hP hS h2 => lv_lstore h.1 h.2.1 hdg h2 (h.2.2.1 ▸ hn) hl (fun ls' h3 => kk H locs ls' hP hS h3)
theorem g_astore_n (h : Ok Z X own cc ts nL rm) {k : Fin 4} {i : Nat} {x : Nat} (hdg : decode cc pc = .ok (.astore_n k, 1)) (hi : (k : Nat) = i) (hn : i < nL) (hl : lvs lv i (.ref x) = lv') (kk : G Z X M (pc + 1) lv' st) : G Z X M pc lv (.ref x :: st) := fun H locs ls hP hS h2 => lv_astore_n h.1 h.2.1 hdg hi h2 (h.2.2.1 ▸ hn) hl (fun ls' h3 => kk H locs ls' hP hS h3)
theorem g_astore (h : Ok Z X own cc ts nL rm) {i : Nat} {x : Nat} (hdg : decode cc pc = .ok (.astore i, 2)) (hn : i < nL) (hl : lvs lv i (.ref x) = lv') (kk : G Z X M (pc + 2) lv' st) : G Z X M pc lv (.ref x :: st) := fun H locs ls hP hS h2 => lv_astore h.1 h.2.1 hdg h2 (h.2.2.1 ▸ hn) hl (fun ls' h3 => kk H locs ls' hP hS h3)
theorem g_iinc (h : Ok Z X own cc ts nL rm) {i : Nat} {n : Int} {x n' : Int32} {lw : Int32 → List (Nat × Value)} (hdg : decode cc pc = .ok (.iinc i n, 3)) (hg : lvg lv i = some (.int x)) (hv : Int32.ofInt n = n') (hn : i < nL) (hl : ∀ y, lvs lv i (.int y) = lw y) (kk : ∀ y : Int32, y = x + n' → G Z X M (pc + 3) (lw y) st) : G Z X M pc lv st := fun H locs ls hP hS h2 => by
  subst hv
  obtain ⟨k, hk⟩ := List.getElem?_of_mem (lvg_mem hg)
  exact lv_iinc h.1 h.2.1 hdg h2 hk rfl (h.2.2.1 ▸ hn) (hl _) (fun ls' h3 => kk _ rfl H locs ls' hP hS h3)
theorem g_iadd (h : Ok Z X own cc ts nL rm) {x y : Int32} (hdg : decode cc pc = .ok (.iadd, 1))  (k : G Z X M (pc + 1) lv (.int (x + y) :: st)) : G Z X M pc lv (.int y :: .int x :: st) := fun H locs ls hP hS hl => lv_iadd h.1 h.2.1 hdg  (k H locs ls hP hS hl)
theorem g_isub (h : Ok Z X own cc ts nL rm) {x y : Int32} (hdg : decode cc pc = .ok (.isub, 1))  (k : G Z X M (pc + 1) lv (.int (x - y) :: st)) : G Z X M pc lv (.int y :: .int x :: st) := fun H locs ls hP hS hl => lv_isub h.1 h.2.1 hdg  (k H locs ls hP hS hl)
theorem g_imul (h : Ok Z X own cc ts nL rm) {x y : Int32} (hdg : decode cc pc = .ok (.imul, 1))  (k : G Z X M (pc + 1) lv (.int (x * y) :: st)) : G Z X M pc lv (.int y :: .int x :: st) := fun H locs ls hP hS hl => lv_imul h.1 h.2.1 hdg  (k H locs ls hP hS hl)
theorem g_iand (h : Ok Z X own cc ts nL rm) {x y : Int32} (hdg : decode cc pc = .ok (.iand, 1))  (k : G Z X M (pc + 1) lv (.int (x &&& y) :: st)) : G Z X M pc lv (.int y :: .int x :: st) := fun H locs ls hP hS hl => lv_iand h.1 h.2.1 hdg  (k H locs ls hP hS hl)
theorem g_ior (h : Ok Z X own cc ts nL rm) {x y : Int32} (hdg : decode cc pc = .ok (.ior, 1))  (k : G Z X M (pc + 1) lv (.int (x ||| y) :: st)) : G Z X M pc lv (.int y :: .int x :: st) := fun H locs ls hP hS hl => lv_ior h.1 h.2.1 hdg  (k H locs ls hP hS hl)
theorem g_ixor (h : Ok Z X own cc ts nL rm) {x y : Int32} (hdg : decode cc pc = .ok (.ixor, 1))  (k : G Z X M (pc + 1) lv (.int (x ^^^ y) :: st)) : G Z X M pc lv (.int y :: .int x :: st) := fun H locs ls hP hS hl => lv_ixor h.1 h.2.1 hdg  (k H locs ls hP hS hl)
theorem g_ishl (h : Ok Z X own cc ts nL rm) {x y : Int32} (hdg : decode cc pc = .ok (.ishl, 1))  (k : G Z X M (pc + 1) lv (.int (x <<< (y &&& 31)) :: st)) : G Z X M pc lv (.int y :: .int x :: st) := fun H locs ls hP hS hl => lv_ishl h.1 h.2.1 hdg  (k H locs ls hP hS hl)
theorem g_ishr (h : Ok Z X own cc ts nL rm) {x y : Int32} (hdg : decode cc pc = .ok (.ishr, 1))  (k : G Z X M (pc + 1) lv (.int (x >>> (y &&& 31)) :: st)) : G Z X M pc lv (.int y :: .int x :: st) := fun H locs ls hP hS hl => lv_ishr h.1 h.2.1 hdg  (k H locs ls hP hS hl)
theorem g_ladd (h : Ok Z X own cc ts nL rm) {x y : Int64} (hdg : decode cc pc = .ok (.ladd, 1))  (k : G Z X M (pc + 1) lv (.long (x + y) :: st)) : G Z X M pc lv (.long y :: .long x :: st) := fun H locs ls hP hS hl => lv_ladd h.1 h.2.1 hdg  (k H locs ls hP hS hl)
theorem g_lsub (h : Ok Z X own cc ts nL rm) {x y : Int64} (hdg : decode cc pc = .ok (.lsub, 1))  (k : G Z X M (pc + 1) lv (.long (x - y) :: st)) : G Z X M pc lv (.long y :: .long x :: st) := fun H locs ls hP hS hl => lv_lsub h.1 h.2.1 hdg  (k H locs ls hP hS hl)
theorem g_lmul (h : Ok Z X own cc ts nL rm) {x y : Int64} (hdg : decode cc pc = .ok (.lmul, 1))  (k : G Z X M (pc + 1) lv (.long (x * y) :: st)) : G Z X M pc lv (.long y :: .long x :: st) := fun H locs ls hP hS hl => lv_lmul h.1 h.2.1 hdg  (k H locs ls hP hS hl)
theorem g_land (h : Ok Z X own cc ts nL rm) {x y : Int64} (hdg : decode cc pc = .ok (.land, 1))  (k : G Z X M (pc + 1) lv (.long (x &&& y) :: st)) : G Z X M pc lv (.long y :: .long x :: st) := fun H locs ls hP hS hl => lv_land h.1 h.2.1 hdg  (k H locs ls hP hS hl)
theorem g_lor (h : Ok Z X own cc ts nL rm) {x y : Int64} (hdg : decode cc pc = .ok (.lor, 1))  (k : G Z X M (pc + 1) lv (.long (x ||| y) :: st)) : G Z X M pc lv (.long y :: .long x :: st) := fun H locs ls hP hS hl => lv_lor h.1 h.2.1 hdg  (k H locs ls hP hS hl)
theorem g_lxor (h : Ok Z X own cc ts nL rm) {x y : Int64} (hdg : decode cc pc = .ok (.lxor, 1))  (k : G Z X M (pc + 1) lv (.long (x ^^^ y) :: st)) : G Z X M pc lv (.long y :: .long x :: st) := fun H locs ls hP hS hl => lv_lxor h.1 h.2.1 hdg  (k H locs ls hP hS hl)
theorem g_idiv (h : Ok Z X own cc ts nL rm) {x y : Int32} (hdg : decode cc pc = .ok (.idiv, 1)) (hne : ¬ y = 0) (k : G Z X M (pc + 1) lv (.int (x / y) :: st)) : G Z X M pc lv (.int y :: .int x :: st) := fun H locs ls hP hS hl => lv_idiv h.1 h.2.1 hdg hne (k H locs ls hP hS hl)
theorem g_irem (h : Ok Z X own cc ts nL rm) {x y : Int32} (hdg : decode cc pc = .ok (.irem, 1)) (hne : ¬ y = 0) (k : G Z X M (pc + 1) lv (.int (x - x / y * y) :: st)) : G Z X M pc lv (.int y :: .int x :: st) := fun H locs ls hP hS hl => lv_irem h.1 h.2.1 hdg hne (k H locs ls hP hS hl)
theorem g_ineg (h : Ok Z X own cc ts nL rm) {x : Int32} (hdg : decode cc pc = .ok (.ineg, 1))  (k : G Z X M (pc + 1) lv (.int (-x) :: st)) : G Z X M pc lv (.int x :: st) := fun H locs ls hP hS hl => lv_ineg h.1 h.2.1 hdg  (k H locs ls hP hS hl)
theorem g_i2l (h : Ok Z X own cc ts nL rm) {x : Int32} (hdg : decode cc pc = .ok (.i2l, 1))  (k : G Z X M (pc + 1) lv (.long x.toInt64 :: st)) : G Z X M pc lv (.int x :: st) := fun H locs ls hP hS hl => lv_i2l h.1 h.2.1 hdg rfl (k H locs ls hP hS hl)
theorem g_l2i (h : Ok Z X own cc ts nL rm) {x : Int64} (hdg : decode cc pc = .ok (.l2i, 1))  (k : G Z X M (pc + 1) lv (.int x.toInt32 :: st)) : G Z X M pc lv (.long x :: st) := fun H locs ls hP hS hl => lv_l2i h.1 h.2.1 hdg rfl (k H locs ls hP hS hl)
theorem g_iushr (h : Ok Z X own cc ts nL rm) {x y : Int32} (hdg : decode cc pc = .ok (.iushr, 1))  (k : G Z X M (pc + 1) lv (.int ((x.toUInt32 >>> (y.toUInt32 &&& Int32.toUInt32 31)).toInt32) :: st)) : G Z X M pc lv (.int y :: .int x :: st) := fun H locs ls hP hS hl => lv_iushr h.1 h.2.1 hdg rfl (k H locs ls hP hS hl)
theorem g_lushr (h : Ok Z X own cc ts nL rm) {x : Int64} {y : Int32} (hdg : decode cc pc = .ok (.lushr, 1))  (k : G Z X M (pc + 1) lv (.long ((x.toUInt64 >>> (y.toInt64.toUInt64 &&& Int64.toUInt64 63)).toInt64) :: st)) : G Z X M pc lv (.int y :: .long x :: st) := fun H locs ls hP hS hl => lv_lushr h.1 h.2.1 hdg rfl (k H locs ls hP hS hl)
theorem g_lshl (h : Ok Z X own cc ts nL rm) {x : Int64} {y : Int32} (hdg : decode cc pc = .ok (.lshl, 1))  (k : G Z X M (pc + 1) lv (.long (x <<< (y.toInt64 &&& 63)) :: st)) : G Z X M pc lv (.int y :: .long x :: st) := fun H locs ls hP hS hl => lv_lshl h.1 h.2.1 hdg rfl (k H locs ls hP hS hl)
theorem g_lshr (h : Ok Z X own cc ts nL rm) {x : Int64} {y : Int32} (hdg : decode cc pc = .ok (.lshr, 1))  (k : G Z X M (pc + 1) lv (.long (x >>> (y.toInt64 &&& 63)) :: st)) : G Z X M pc lv (.int y :: .long x :: st) := fun H locs ls hP hS hl => lv_lshr h.1 h.2.1 hdg rfl (k H locs ls hP hS hl)
theorem g_lcmp (h : Ok Z X own cc ts nL rm) {x y : Int64} (hdg : decode cc pc = .ok (.lcmp, 1))  (k : G Z X M (pc + 1) lv (.int (lg_cmp x y) :: st)) : G Z X M pc lv (.long y :: .long x :: st) := fun H locs ls hP hS hl => W.lcmp h.1 h.2.1 hdg  (k H locs ls hP hS hl)
theorem g_dup (h : Ok Z X own cc ts nL rm) {va : Value} (hdg : decode cc pc = .ok (.dup, 1)) (hva : va.category = 1) (k : G Z X M (pc + 1) lv (va :: va :: st)) : G Z X M pc lv (va :: st) := fun H locs ls hP hS hl => lv_dup h.1 h.2.1 hdg hva (k H locs ls hP hS hl)
theorem g_pop (h : Ok Z X own cc ts nL rm) {va : Value} (hdg : decode cc pc = .ok (.pop, 1)) (hva : va.category = 1) (k : G Z X M (pc + 1) lv (st)) : G Z X M pc lv (va :: st) := fun H locs ls hP hS hl => lv_pop h.1 h.2.1 hdg hva (k H locs ls hP hS hl)
theorem g_dup_x1 (h : Ok Z X own cc ts nL rm) {va vb : Value} (hdg : decode cc pc = .ok (.dup_x1, 1)) (hva : va.category = 1) (hvb : vb.category = 1) (k : G Z X M (pc + 1) lv (va :: vb :: va :: st)) : G Z X M pc lv (va :: vb :: st) := fun H locs ls hP hS hl => lv_dup_x1 h.1 h.2.1 hdg hva hvb (k H locs ls hP hS hl)
theorem g_dup2_11 (h : Ok Z X own cc ts nL rm) {va vb : Value} (hdg : decode cc pc = .ok (.dup2, 1)) (hva : va.category = 1) (hvb : vb.category = 1) (k : G Z X M (pc + 1) lv (va :: vb :: va :: vb :: st)) : G Z X M pc lv (va :: vb :: st) := fun H locs ls hP hS hl => lv_dup2_11 h.1 h.2.1 hdg hva hvb (k H locs ls hP hS hl)
theorem g_dup2_2 (h : Ok Z X own cc ts nL rm) {va : Value} (hdg : decode cc pc = .ok (.dup2, 1)) (hva : va.category = 2) (k : G Z X M (pc + 1) lv (va :: va :: st)) : G Z X M pc lv (va :: st) := fun H locs ls hP hS hl => lv_dup2_2 h.1 h.2.1 hdg hva (k H locs ls hP hS hl)
theorem g_dup2_x1_2 (h : Ok Z X own cc ts nL rm) {va vb : Value} (hdg : decode cc pc = .ok (.dup2_x1, 1)) (hva : va.category = 2) (hvb : vb.category = 1) (k : G Z X M (pc + 1) lv (va :: vb :: va :: st)) : G Z X M pc lv (va :: vb :: st) := fun H locs ls hP hS hl => lv_dup2_x1_2 h.1 h.2.1 hdg hva hvb (k H locs ls hP hS hl)
theorem g_if_eq (h : Ok Z X own cc ts nL rm) {x : Int32} {off : Int} {tgt : Nat} (hdg : decode cc pc = .ok (.ifCond .eq off, 3)) (ht : (pc : Int) + off = (tgt : Int)) (kt : x = 0 → G Z X M tgt lv st) (kf : ¬ x = 0 → G Z X M (pc + 3) lv st) : G Z X M pc lv (.int x :: st) := fun H locs ls hP hS hl => lv_if_eq h.1 h.2.1 hdg ht (fun c => kt c H locs ls hP hS hl) (fun c => kf c H locs ls hP hS hl)
theorem g_if_ne (h : Ok Z X own cc ts nL rm) {x : Int32} {off : Int} {tgt : Nat} (hdg : decode cc pc = .ok (.ifCond .ne off, 3)) (ht : (pc : Int) + off = (tgt : Int)) (kt : ¬ x = 0 → G Z X M tgt lv st) (kf : x = 0 → G Z X M (pc + 3) lv st) : G Z X M pc lv (.int x :: st) := fun H locs ls hP hS hl => lv_if_ne h.1 h.2.1 hdg ht (fun c => kt c H locs ls hP hS hl) (fun c => kf c H locs ls hP hS hl)
theorem g_if_lt (h : Ok Z X own cc ts nL rm) {x : Int32} {off : Int} {tgt : Nat} (hdg : decode cc pc = .ok (.ifCond .lt off, 3)) (ht : (pc : Int) + off = (tgt : Int)) (kt : x < 0 → G Z X M tgt lv st) (kf : ¬ x < 0 → G Z X M (pc + 3) lv st) : G Z X M pc lv (.int x :: st) := fun H locs ls hP hS hl => lv_if_lt h.1 h.2.1 hdg ht (fun c => kt c H locs ls hP hS hl) (fun c => kf c H locs ls hP hS hl)
theorem g_if_ge (h : Ok Z X own cc ts nL rm) {x : Int32} {off : Int} {tgt : Nat} (hdg : decode cc pc = .ok (.ifCond .ge off, 3)) (ht : (pc : Int) + off = (tgt : Int)) (kt : 0 ≤ x → G Z X M tgt lv st) (kf : ¬ 0 ≤ x → G Z X M (pc + 3) lv st) : G Z X M pc lv (.int x :: st) := fun H locs ls hP hS hl => lv_if_ge h.1 h.2.1 hdg ht (fun c => kt c H locs ls hP hS hl) (fun c => kf c H locs ls hP hS hl)
theorem g_if_gt (h : Ok Z X own cc ts nL rm) {x : Int32} {off : Int} {tgt : Nat} (hdg : decode cc pc = .ok (.ifCond .gt off, 3)) (ht : (pc : Int) + off = (tgt : Int)) (kt : 0 < x → G Z X M tgt lv st) (kf : ¬ 0 < x → G Z X M (pc + 3) lv st) : G Z X M pc lv (.int x :: st) := fun H locs ls hP hS hl => lv_if_gt h.1 h.2.1 hdg ht (fun c => kt c H locs ls hP hS hl) (fun c => kf c H locs ls hP hS hl)
theorem g_if_le (h : Ok Z X own cc ts nL rm) {x : Int32} {off : Int} {tgt : Nat} (hdg : decode cc pc = .ok (.ifCond .le off, 3)) (ht : (pc : Int) + off = (tgt : Int)) (kt : x ≤ 0 → G Z X M tgt lv st) (kf : ¬ x ≤ 0 → G Z X M (pc + 3) lv st) : G Z X M pc lv (.int x :: st) := fun H locs ls hP hS hl => lv_if_le h.1 h.2.1 hdg ht (fun c => kt c H locs ls hP hS hl) (fun c => kf c H locs ls hP hS hl)
theorem g_icmp_eq (h : Ok Z X own cc ts nL rm) {x y : Int32} {off : Int} {tgt : Nat} (hdg : decode cc pc = .ok (.if_icmp .eq off, 3)) (ht : (pc : Int) + off = (tgt : Int)) (kt : x = y → G Z X M tgt lv st) (kf : ¬ x = y → G Z X M (pc + 3) lv st) : G Z X M pc lv (.int y :: .int x :: st) := fun H locs ls hP hS hl => lv_icmp_eq h.1 h.2.1 hdg ht (fun c => kt c H locs ls hP hS hl) (fun c => kf c H locs ls hP hS hl)
theorem g_icmp_ne (h : Ok Z X own cc ts nL rm) {x y : Int32} {off : Int} {tgt : Nat} (hdg : decode cc pc = .ok (.if_icmp .ne off, 3)) (ht : (pc : Int) + off = (tgt : Int)) (kt : ¬ x = y → G Z X M tgt lv st) (kf : x = y → G Z X M (pc + 3) lv st) : G Z X M pc lv (.int y :: .int x :: st) := fun H locs ls hP hS hl => lv_icmp_ne h.1 h.2.1 hdg ht (fun c => kt c H locs ls hP hS hl) (fun c => kf c H locs ls hP hS hl)
theorem g_icmp_lt (h : Ok Z X own cc ts nL rm) {x y : Int32} {off : Int} {tgt : Nat} (hdg : decode cc pc = .ok (.if_icmp .lt off, 3)) (ht : (pc : Int) + off = (tgt : Int)) (kt : x < y → G Z X M tgt lv st) (kf : ¬ x < y → G Z X M (pc + 3) lv st) : G Z X M pc lv (.int y :: .int x :: st) := fun H locs ls hP hS hl => lv_icmp_lt h.1 h.2.1 hdg ht (fun c => kt c H locs ls hP hS hl) (fun c => kf c H locs ls hP hS hl)
theorem g_icmp_ge (h : Ok Z X own cc ts nL rm) {x y : Int32} {off : Int} {tgt : Nat} (hdg : decode cc pc = .ok (.if_icmp .ge off, 3)) (ht : (pc : Int) + off = (tgt : Int)) (kt : y ≤ x → G Z X M tgt lv st) (kf : ¬ y ≤ x → G Z X M (pc + 3) lv st) : G Z X M pc lv (.int y :: .int x :: st) := fun H locs ls hP hS hl => lv_icmp_ge h.1 h.2.1 hdg ht (fun c => kt c H locs ls hP hS hl) (fun c => kf c H locs ls hP hS hl)
theorem g_icmp_gt (h : Ok Z X own cc ts nL rm) {x y : Int32} {off : Int} {tgt : Nat} (hdg : decode cc pc = .ok (.if_icmp .gt off, 3)) (ht : (pc : Int) + off = (tgt : Int)) (kt : y < x → G Z X M tgt lv st) (kf : ¬ y < x → G Z X M (pc + 3) lv st) : G Z X M pc lv (.int y :: .int x :: st) := fun H locs ls hP hS hl => lv_icmp_gt h.1 h.2.1 hdg ht (fun c => kt c H locs ls hP hS hl) (fun c => kf c H locs ls hP hS hl)
theorem g_icmp_le (h : Ok Z X own cc ts nL rm) {x y : Int32} {off : Int} {tgt : Nat} (hdg : decode cc pc = .ok (.if_icmp .le off, 3)) (ht : (pc : Int) + off = (tgt : Int)) (kt : x ≤ y → G Z X M tgt lv st) (kf : ¬ x ≤ y → G Z X M (pc + 3) lv st) : G Z X M pc lv (.int y :: .int x :: st) := fun H locs ls hP hS hl => lv_icmp_le h.1 h.2.1 hdg ht (fun c => kt c H locs ls hP hS hl) (fun c => kf c H locs ls hP hS hl)
theorem g_goto (h : Ok Z X own cc ts nL rm) {off : Int} {tgt : Nat} (hdg : decode cc pc = .ok (.goto off, 3)) (ht : (pc : Int) + off = (tgt : Int)) (k : G Z X M tgt lv st) : G Z X M pc lv st := fun H locs ls hP hS hl => lv_goto h.1 h.2.1 hdg ht (k H locs ls hP hS hl)
theorem g_tabIn (h : Ok Z X own cc ts nL rm) {dflt lo hi : Int} {offs : Array Int} {len : Nat} {x : Int32} {off : Int} {tgt : Nat} (hdg : decode cc pc = .ok (.tableswitch dflt lo hi offs, len)) (h1 : ¬ x.toInt < lo) (h2 : ¬ hi < x.toInt) (ho : offs[(x.toInt - lo).toNat]? = some off) (ht : (pc : Int) + off = (tgt : Int)) (k : G Z X M tgt lv st) : G Z X M pc lv (.int x :: st) := fun H locs ls hP hS hl => lv_tableIn h.1 h.2.1 hdg h1 h2 ho ht (k H locs ls hP hS hl)
theorem g_tabOut (h : Ok Z X own cc ts nL rm) {dflt lo hi : Int} {offs : Array Int} {len : Nat} {x : Int32} {tgt : Nat} (hdg : decode cc pc = .ok (.tableswitch dflt lo hi offs, len)) (h1 : x.toInt < lo ∨ hi < x.toInt) (ht : (pc : Int) + dflt = (tgt : Int)) (k : G Z X M tgt lv st) : G Z X M pc lv (.int x :: st) := fun H locs ls hP hS hl => lv_tableOut h.1 h.2.1 hdg h1 ht (k H locs ls hP hS hl)
theorem g_look (h : Ok Z X own cc ts nL rm) {dflt : Int} {ps : Array (Int × Int)} {len : Nat} {x : Int32} {off : Int} {tgt : Nat} (hdg : decode cc pc = .ok (.lookupswitch dflt ps, len)) (hp : (ps.toList.zip (ps.toList.drop 1)).all (fun (a, next) => a.1 < next.1) = true) (ho : Op.lookupswitch.offset ps.toList dflt x.toInt = off) (ht : (pc : Int) + off = (tgt : Int)) (k : G Z X M tgt lv st) : G Z X M pc lv (.int x :: st) := fun H locs ls hP hS hl => lv_lookup h.1 h.2.1 hdg hp ho ht (k H locs ls hP hS hl)
end GR
end
section
/-! Memory: a cell is read off the memory by its tag and its number; rows for fields and arrays. -/
def fval (a : Nat → Nat → Nat) (t i : Nat) (M : Mm) (k : Nat) : Value := match fk t k with
  | 0 => .int (M.1 t i k)
  | 1 => .long (M.2 t i k)
  | _ => .ref (a (rt t k) (ri t k i))
def flds (a : Nat → Nat → Nat) (t i : Nat) (M : Mm) : List Value := (List.range (nf t)).map (fval a t i M)
def cellE (a : Nat → Nat → Nat) (c : Nat → ClassId) (t i : Nat) (M : Mm) : va_E := match ck t with
  | 0 => .inr (cn t, flds a t i M)
  | 1 => .inl (c 0, nf t, .inl (M.1 t i))
  | 2 => .inl (c 1, nf t, .inl (M.1 t i))
  | 3 => .inl (c 2, nf t, .inr (.inl (M.2 t i)))
  | _ => .inl (c (cn t), nf t, .inr (.inr (.inr (.inr (fun j => some (a (et t) (ei t j)))))))
/-- the world is laid out by tags and numbers -/
def Lay (Z : ZT) (S : Nat → Bool) : Prop :=
  (∀ (M : Mm) (t i : Nat), S t = true → i < cnt t → (zw Z M)[pos t i]? = some (za Z t i, cellE (za Z) (zc Z) t i M)) ∧
  (∀ (M M' : Mm) (t i : Nat), S t = true → i < cnt t → (∀ a b, ¬ (a = t ∧ b = i) → cellE (za Z) (zc Z) a b M = cellE (za Z) (zc Z) a b M') → (zw Z M).set (pos t i) (za Z t i, cellE (za Z) (zc Z) t i M') = zw Z M') ∧
  (∀ M M' : Mm, (zw Z M).map Prod.fst = (zw Z M').map Prod.fst)
theorem cellE_eq {z : Nat → Nat → Nat} {c : Nat → ClassId} {a b : Nat} {M M' : Mm} (h1 : M.1 a b = M'.1 a b) (h2 : M.2 a b = M'.2 a b) : cellE z c a b M = cellE z c a b M' := by
  have h3 : fval z a b M = fval z a b M' := by
    funext k
    unfold fval
    rw [h1, h2]
  unfold cellE flds
  rw [h1, h2, h3]
theorem sI_ne {M : Mm} {t i k a b : Nat} {v : Int32} (hne : ¬ (a = t ∧ b = i)) : (sI M t i k v).1 a b = M.1 a b := by
  funext c
  show (if a = t ∧ b = i ∧ c = k then v else M.1 a b c) = _
  rw [if_neg (fun q => hne ⟨q.1, q.2.1⟩)]
theorem sL_ne {M : Mm} {t i k a b : Nat} {v : Int64} (hne : ¬ (a = t ∧ b = i)) : (sL M t i k v).2 a b = M.2 a b := by
  funext c
  show (if a = t ∧ b = i ∧ c = k then v else M.2 a b c) = _
  rw [if_neg (fun q => hne ⟨q.1, q.2.1⟩)]
theorem sA_ne {M : Mm} {t i a b : Nat} {f : Nat → Int32} (hne : ¬ (a = t ∧ b = i)) : (sA M t i f).1 a b = M.1 a b := by
  funext c
  show (if a = t ∧ b = i then f c else M.1 a b c) = _
  rw [if_neg hne]
theorem sB_ne {M : Mm} {t i a b : Nat} {f : Nat → Int64} (hne : ¬ (a = t ∧ b = i)) : (sB M t i f).2 a b = M.2 a b := by
  funext c
  show (if a = t ∧ b = i then f c else M.2 a b c) = _
  rw [if_neg hne]
theorem sI_at {M : Mm} {t i k : Nat} {v : Int32} : (sI M t i k v).1 t i = upd (M.1 t i) k v := by
  funext c
  show (if t = t ∧ i = i ∧ c = k then v else M.1 t i c) = (if c = k then v else M.1 t i c)
  by_cases h : c = k
  · rw [if_pos ⟨rfl, rfl, h⟩, if_pos h]
  · rw [if_neg (fun q => h q.2.2), if_neg h]
theorem sL_at {M : Mm} {t i k : Nat} {v : Int64} : (sL M t i k v).2 t i = vp_updL (M.2 t i) k v := by
  funext c
  show (if t = t ∧ i = i ∧ c = k then v else M.2 t i c) = (if c = k then v else M.2 t i c)
  by_cases h : c = k
  · rw [if_pos ⟨rfl, rfl, h⟩, if_pos h]
  · rw [if_neg (fun q => h q.2.2), if_neg h]
theorem sA_at {M : Mm} {t i : Nat} {f : Nat → Int32} : (sA M t i f).1 t i = f := by
  funext c
  show (if t = t ∧ i = i then f c else M.1 t i c) = _
  rw [if_pos ⟨rfl, rfl⟩]
theorem sB_at {M : Mm} {t i : Nat} {f : Nat → Int64} : (sB M t i f).2 t i = f := by
  funext c
  show (if t = t ∧ i = i then f c else M.2 t i c) = _
  rw [if_pos ⟨rfl, rfl⟩]
theorem flds_get {z : Nat → Nat → Nat} {t i k : Nat} {M : Mm} (hk : k < nf t) : (flds z t i M)[k]? = some (fval z t i M k) := by
  unfold flds
  rw [List.getElem?_map, List.getElem?_range hk]
  rfl
theorem flds_len {z : Nat → Nat → Nat} {t i : Nat} {M : Mm} : (flds z t i M).length = nf t := by
  unfold flds
  rw [List.length_map, List.length_range]
theorem flds_ext {z : Nat → Nat → Nat} {t i k : Nat} {M M' : Mm} {v : Value} (hk : k < nf t) (h1 : fval z t i M' k = v) (h2 : ∀ j, j ≠ k → fval z t i M' j = fval z t i M j) : (flds z t i M).set k v = flds z t i M' := by
  apply List.ext_getElem?
  intro j
  by_cases hj : j = k
  · subst hj
    rw [List.getElem?_set_self (by rw [flds_len]; exact hk), flds_get hk, h1]
  · rw [List.getElem?_set_ne (fun q => hj q.symm)]
    by_cases hn : j < nf t
    · rw [flds_get hn, flds_get hn, h2 j hj]
    · rw [List.getElem?_eq_none (by rw [flds_len]; omega), List.getElem?_eq_none (by rw [flds_len]; omega)]
section GM
variable {Z : ZT} {X : XT} {M : Mm} {pc : Nat} {lv lv' : List (Nat × Value)} {st : List Value} {own : String} {cc : ByteArray} {ts : List Cond} {nL : Nat} {rm : Room} {S : Nat → Bool} {t i k : Nat}
/-- an object's cell of tag t: its class in the tables -/
def Ob (t : Nat) (C : String) (T : u_T) (N : Nat) : Prop := ck t = 0 ∧ vwCl[cn t]? = some (C, T, N) ∧ nf t = N
theorem Lay.ob (hL : Lay Z S) (hS : S t = true) (hi : i < cnt t) (hck : ck t = 0) : (zw Z M)[pos t i]? = some (za Z t i, .inr (cn t, flds (za Z) t i M)) := by
  rw [hL.1 M t i hS hi]
  simp only [cellE, hck]
theorem g_getv (h : Ok Z X own cc ts nL rm) (hL : Lay Z S) (hS : S t = true) (hi : i < cnt t) {C ref : String} {T : u_T} {N index : Nat} (ho : Ob t C T N) (hk : k < N) (hin : ∀ w ∈ u_ws C T N, w ∈ ts) (hlink : Cond.fieldLink own index ref (T k).2.1 (T k).2.2.1 ∈ ts) (hsame : (T k).1 = ref) {v : Value} (hv : fval (za Z) t i M k = v) (hdg : decode cc pc = .ok (.getfield index, 3))
    (kk : G Z X M (pc + 3) lv (v :: st)) : G Z X M pc lv (.ref (za Z t i) :: st) := fun H locs ls hP hS' hl => by
  obtain ⟨hck, hc, hN⟩ := ho
  refine va_get h.1 h.2.1 h.2.2.2.2.1 hin h.2.2.2.1 h.2.2.2.2.2.2.1 hP (pos t i) (hL.ob hS hi hck) hc k hk (h.2.2.2.2.1 _ hlink) (fun x hx => by rw [← hsame]; exact hx) (v := v) ?_ hdg (kk H locs ls hP hS' hl)
  rw [flds_get (by rw [hN]; exact hk), hv]
theorem g_getI (h : Ok Z X own cc ts nL rm) (hL : Lay Z S) (hS : S t = true) (hi : i < cnt t) {C ref : String} {T : u_T} {N index : Nat} (ho : Ob t C T N) (hk : k < N) (hfk : fk t k = 0) (hin : ∀ w ∈ u_ws C T N, w ∈ ts) (hlink : Cond.fieldLink own index ref (T k).2.1 (T k).2.2.1 ∈ ts) (hsame : (T k).1 = ref) (hdg : decode cc pc = .ok (.getfield index, 3))
    (kk : G Z X M (pc + 3) lv (.int (M.1 t i k) :: st)) : G Z X M pc lv (.ref (za Z t i) :: st) := g_getv h hL hS hi ho hk hin hlink hsame (by simp only [fval, hfk]) hdg kk
theorem g_getL (h : Ok Z X own cc ts nL rm) (hL : Lay Z S) (hS : S t = true) (hi : i < cnt t) {C ref : String} {T : u_T} {N index : Nat} (ho : Ob t C T N) (hk : k < N) (hfk : fk t k = 1) (hin : ∀ w ∈ u_ws C T N, w ∈ ts) (hlink : Cond.fieldLink own index ref (T k).2.1 (T k).2.2.1 ∈ ts) (hsame : (T k).1 = ref) (hdg : decode cc pc = .ok (.getfield index, 3))
    (kk : G Z X M (pc + 3) lv (.long (M.2 t i k) :: st)) : G Z X M pc lv (.ref (za Z t i) :: st) := g_getv h hL hS hi ho hk hin hlink hsame (by simp only [fval, hfk]) hdg kk
theorem g_getR (h : Ok Z X own cc ts nL rm) (hL : Lay Z S) (hS : S t = true) (hi : i < cnt t) {C ref : String} {T : u_T} {N index : Nat} (ho : Ob t C T N) (hk : k < N) (hfk : fk t k = 2) {t' i' : Nat} (ht' : rt t k = t') (hi' : ri t k i = i') (hin : ∀ w ∈ u_ws C T N, w ∈ ts) (hlink : Cond.fieldLink own index ref (T k).2.1 (T k).2.2.1 ∈ ts) (hsame : (T k).1 = ref) (hdg : decode cc pc = .ok (.getfield index, 3))
    (kk : G Z X M (pc + 3) lv (.ref (za Z t' i') :: st)) : G Z X M pc lv (.ref (za Z t i) :: st) := g_getv h hL hS hi ho hk hin hlink hsame (by subst ht'; subst hi'; simp only [fval, hfk]) hdg kk
theorem g_putv (h : Ok Z X own cc ts nL rm) (hL : Lay Z S) (hS : S t = true) (hi : i < cnt t) {C ref : String} {T : u_T} {N index : Nat} (ho : Ob t C T N) (hk : k < N) (hin : ∀ w ∈ u_ws C T N, w ∈ ts) (ty0 : Nat → FieldType) (hty : ∀ k, k < N → parseFieldDescriptor (T k).2.2.1 = some (ty0 k)) (hnm : ∀ a, a < N → ∀ b, b < N → a ≠ b → (T a).2.1 ≠ (T b).2.1) (hlink : Cond.fieldLink own index ref (T k).2.1 (T k).2.2.1 ∈ ts) (hsame : (T k).1 = ref) (hfin : (T k).2.2.2 = false) {v : Value} (hn : narrow (ty0 k) v = v) (hfit : fits (ty0 k) v = true) {M' : Mm} (hset : (flds (za Z) t i M).set k v = flds (za Z) t i M') (hoth : ∀ a b, ¬ (a = t ∧ b = i) → cellE (za Z) (zc Z) a b M = cellE (za Z) (zc Z) a b M') (hdg : decode cc pc = .ok (.putfield index, 3))
    (kk : G Z X M' (pc + 3) lv st) : G Z X M pc lv (v :: .ref (za Z t i) :: st) := fun H locs ls hP hS' hl => by
  obtain ⟨hck, hc, hN⟩ := ho
  refine va_put h.1 h.2.1 h.2.2.2.2.1 hin ty0 hty hnm h.2.2.2.1 h.2.2.2.2.2.2.1 hP (h.2.2.2.2.2.2.2.1 M) hS' (pos t i) (hL.ob hS hi hck) hc k hk (h.2.2.2.2.1 _ hlink) (fun x hx => by rw [← hsame]; exact hx) hfin (hty k hk) hn hfit (by rw [flds_len, hN]; exact hk) hdg (fun H1 locs1 hP1 hD1 hS1 => ?_)
  refine kk H1 locs1 ls ?_ hS1 hl
  have e := hL.2.1 M M' t i hS hi hoth
  have e2 : cellE (za Z) (zc Z) t i M' = .inr (cn t, flds (za Z) t i M') := by
    simp only [cellE, hck]
  rw [e2, ← hset] at e
  rw [← e]
  exact hP1
theorem g_putI (h : Ok Z X own cc ts nL rm) (hL : Lay Z S) (hS : S t = true) (hi : i < cnt t) {C ref : String} {T : u_T} {N index : Nat} (ho : Ob t C T N) (hk : k < N) (hfk : fk t k = 0) (hin : ∀ w ∈ u_ws C T N, w ∈ ts) (ty0 : Nat → FieldType) (hty : ∀ k, k < N → parseFieldDescriptor (T k).2.2.1 = some (ty0 k)) (hnm : ∀ a, a < N → ∀ b, b < N → a ≠ b → (T a).2.1 ≠ (T b).2.1) (hlink : Cond.fieldLink own index ref (T k).2.1 (T k).2.2.1 ∈ ts) (hsame : (T k).1 = ref) (hfin : (T k).2.2.2 = false) (hint : ty0 k = .int) {v : Int32} (hdg : decode cc pc = .ok (.putfield index, 3))
    (kk : G Z X (sI M t i k v) (pc + 3) lv st) : G Z X M pc lv (.int v :: .ref (za Z t i) :: st) := by
  refine g_putv (M' := sI M t i k v) h hL hS hi ho hk hin ty0 hty hnm hlink hsame hfin (by rw [hint]; rfl) (by rw [hint]; rfl) (flds_ext (by rw [ho.2.2]; exact hk) ?_ ?_) (fun a b hne => (cellE_eq (sI_ne hne) rfl).symm) hdg kk
  · simp [fval, hfk, sI_at, upd]
  · intro j hj
    unfold fval
    rw [sI_at]
    simp [upd, hj, sI]
theorem g_putL (h : Ok Z X own cc ts nL rm) (hL : Lay Z S) (hS : S t = true) (hi : i < cnt t) {C ref : String} {T : u_T} {N index : Nat} (ho : Ob t C T N) (hk : k < N) (hfk : fk t k = 1) (hin : ∀ w ∈ u_ws C T N, w ∈ ts) (ty0 : Nat → FieldType) (hty : ∀ k, k < N → parseFieldDescriptor (T k).2.2.1 = some (ty0 k)) (hnm : ∀ a, a < N → ∀ b, b < N → a ≠ b → (T a).2.1 ≠ (T b).2.1) (hlink : Cond.fieldLink own index ref (T k).2.1 (T k).2.2.1 ∈ ts) (hsame : (T k).1 = ref) (hfin : (T k).2.2.2 = false) (hint : ty0 k = .long) {v : Int64} (hdg : decode cc pc = .ok (.putfield index, 3))
    (kk : G Z X (sL M t i k v) (pc + 3) lv st) : G Z X M pc lv (.long v :: .ref (za Z t i) :: st) := by
  refine g_putv (M' := sL M t i k v) h hL hS hi ho hk hin ty0 hty hnm hlink hsame hfin (by rw [hint]; rfl) (by rw [hint]; rfl) (flds_ext (by rw [ho.2.2]; exact hk) ?_ ?_) (fun a b hne => (cellE_eq (M := sL M t i k v) (M' := M) rfl (sL_ne hne)).symm) hdg kk
  · simp [fval, hfk, sL_at, vp_updL]
  · intro j hj
    unfold fval
    rw [sL_at]
    simp [vp_updL, hj, sL]
theorem Lay.ai (hL : Lay Z S) (hS : S t = true) (hi : i < cnt t) (hck : ck t = 1) : (zw Z M)[pos t i]? = some (za Z t i, .inl (zc Z 0, nf t, .inl (M.1 t i))) := by
  rw [hL.1 M t i hS hi]
  simp only [cellE, hck]
theorem Lay.az (hL : Lay Z S) (hS : S t = true) (hi : i < cnt t) (hck : ck t = 2) : (zw Z M)[pos t i]? = some (za Z t i, .inl (zc Z 1, nf t, .inl (M.1 t i))) := by
  rw [hL.1 M t i hS hi]
  simp only [cellE, hck]
theorem Lay.al (hL : Lay Z S) (hS : S t = true) (hi : i < cnt t) (hck : ck t = 3) : (zw Z M)[pos t i]? = some (za Z t i, .inl (zc Z 2, nf t, .inr (.inl (M.2 t i)))) := by
  rw [hL.1 M t i hS hi]
  simp only [cellE, hck]
theorem Lay.aq (hL : Lay Z S) (hS : S t = true) (hi : i < cnt t) (hck : ck t = 4) : (zw Z M)[pos t i]? = some (za Z t i, .inl (zc Z (cn t), nf t, .inr (.inr (.inr (.inr (fun j => some (za Z (et t) (ei t j)))))))) := by
  rw [hL.1 M t i hS hi]
  simp only [cellE, hck]
theorem g_iald (h : Ok Z X own cc ts nL rm) (hL : Lay Z S) (hS : S t = true) (hi : i < cnt t) (hck : ck t = 1) {n : Nat} (hn : nf t = n) {x : Int32} (hv : vp_in x n) (hdg : decode cc pc = .ok (.iaload, 1))
    (kk : G Z X M (pc + 1) lv (.int (M.1 t i x.toNatClampNeg) :: st)) : G Z X M pc lv (.int x :: .ref (za Z t i) :: st) := fun H locs ls hP hS' hl => va_iald h.1 h.2.1 h.2.2.2.2.2.2.1 hP (pos t i) 0 (hL.ai hS hi hck) rfl (hn ▸ hv) hdg (kk H locs ls hP hS' hl)
theorem g_zald (h : Ok Z X own cc ts nL rm) (hL : Lay Z S) (hS : S t = true) (hi : i < cnt t) (hck : ck t = 2) {n : Nat} (hn : nf t = n) {x : Int32} (hv : vp_in x n) (hdg : decode cc pc = .ok (.baload, 1))
    (kk : G Z X M (pc + 1) lv (.int (M.1 t i x.toNatClampNeg) :: st)) : G Z X M pc lv (.int x :: .ref (za Z t i) :: st) := fun H locs ls hP hS' hl => va_zald h.1 h.2.1 h.2.2.2.2.2.2.1 hP (pos t i) 1 (hL.az hS hi hck) rfl (hn ▸ hv) hdg (kk H locs ls hP hS' hl)
theorem g_lald (h : Ok Z X own cc ts nL rm) (hL : Lay Z S) (hS : S t = true) (hi : i < cnt t) (hck : ck t = 3) {n : Nat} (hn : nf t = n) {x : Int32} (hv : vp_in x n) (hdg : decode cc pc = .ok (.laload, 1))
    (kk : G Z X M (pc + 1) lv (.long (M.2 t i x.toNatClampNeg) :: st)) : G Z X M pc lv (.int x :: .ref (za Z t i) :: st) := fun H locs ls hP hS' hl => va_lald h.1 h.2.1 h.2.2.2.2.2.2.1 hP (pos t i) 2 (hL.al hS hi hck) rfl (hn ▸ hv) hdg (kk H locs ls hP hS' hl)
theorem g_aald (h : Ok Z X own cc ts nL rm) (hL : Lay Z S) (hS : S t = true) (hi : i < cnt t) (hck : ck t = 4) {n t' i' : Nat} (hn : nf t = n) {x : Int32} (hv : vp_in x n) {C : String} (hty : (ztys (zc Z))[cn t]? = some (zc Z (cn t), .object C)) (ht' : et t = t') (hi' : ei t x.toNatClampNeg = i') (hdg : decode cc pc = .ok (.aaload, 1))
    (kk : G Z X M (pc + 1) lv (.ref (za Z t' i') :: st)) : G Z X M pc lv (.int x :: .ref (za Z t i) :: st) := fun H locs ls hP hS' hl => by
  subst ht'
  subst hi'
  exact va_aldq h.1 h.2.1 h.2.2.2.2.2.2.1 hP (pos t i) (cn t) (hL.aq hS hi hck) hty (hn ▸ hv) hdg (kk H locs ls hP hS' hl)
theorem g_iast (h : Ok Z X own cc ts nL rm) (hL : Lay Z S) (hS : S t = true) (hi : i < cnt t) (hck : ck t = 1) {n : Nat} (hn : nf t = n) {x v : Int32} (hv : vp_in x n) (hdg : decode cc pc = .ok (.iastore, 1))
    (kk : G Z X (sI M t i x.toNatClampNeg v) (pc + 1) lv st) : G Z X M pc lv (.int v :: .int x :: .ref (za Z t i) :: st) := fun H locs ls hP hS' hl => by
  refine va_iast h.1 h.2.1 h.2.2.2.2.2.2.1 hP (h.2.2.2.2.2.2.2.1 M) hS' (pos t i) 0 (hL.ai hS hi hck) rfl (hn ▸ hv) hdg (fun H1 locs1 hP1 hD1 hS1 => kk H1 locs1 ls ?_ hS1 hl)
  have e := hL.2.1 M (sI M t i x.toNatClampNeg v) t i hS hi (fun a b hne => (cellE_eq (sI_ne hne) rfl).symm)
  have e2 : cellE (za Z) (zc Z) t i (sI M t i x.toNatClampNeg v) = .inl (zc Z 0, nf t, .inl (upd (M.1 t i) x.toNatClampNeg v)) := by
    simp only [cellE, hck, sI_at]
  rw [e2] at e
  rw [← e]
  exact hP1
theorem g_zast (h : Ok Z X own cc ts nL rm) (hL : Lay Z S) (hS : S t = true) (hi : i < cnt t) (hck : ck t = 2) {n : Nat} (hn : nf t = n) {x v : Int32} (hv : vp_in x n) (hdg : decode cc pc = .ok (.bastore, 1))
    (kk : G Z X (sI M t i x.toNatClampNeg (vp_nar .boolean v)) (pc + 1) lv st) : G Z X M pc lv (.int v :: .int x :: .ref (za Z t i) :: st) := fun H locs ls hP hS' hl => by
  refine va_zast h.1 h.2.1 h.2.2.2.2.2.2.1 hP (h.2.2.2.2.2.2.2.1 M) hS' (pos t i) 1 (hL.az hS hi hck) rfl (hn ▸ hv) hdg (fun H1 locs1 hP1 hD1 hS1 => kk H1 locs1 ls ?_ hS1 hl)
  have e := hL.2.1 M (sI M t i x.toNatClampNeg (vp_nar .boolean v)) t i hS hi (fun a b hne => (cellE_eq (sI_ne hne) rfl).symm)
  have e2 : cellE (za Z) (zc Z) t i (sI M t i x.toNatClampNeg (vp_nar .boolean v)) = .inl (zc Z 1, nf t, .inl (upd (M.1 t i) x.toNatClampNeg (vp_nar .boolean v))) := by
    simp only [cellE, hck, sI_at]
  rw [e2] at e
  rw [← e]
  exact hP1
theorem g_last (h : Ok Z X own cc ts nL rm) (hL : Lay Z S) (hS : S t = true) (hi : i < cnt t) (hck : ck t = 3) {n : Nat} (hn : nf t = n) {x : Int32} {v : Int64} (hv : vp_in x n) (hdg : decode cc pc = .ok (.lastore, 1))
    (kk : G Z X (sL M t i x.toNatClampNeg v) (pc + 1) lv st) : G Z X M pc lv (.long v :: .int x :: .ref (za Z t i) :: st) := fun H locs ls hP hS' hl => by
  refine va_last h.1 h.2.1 h.2.2.2.2.2.2.1 hP (h.2.2.2.2.2.2.2.1 M) hS' (pos t i) 2 (hL.al hS hi hck) rfl (hn ▸ hv) hdg (fun H1 locs1 hP1 hD1 hS1 => kk H1 locs1 ls ?_ hS1 hl)
  have e := hL.2.1 M (sL M t i x.toNatClampNeg v) t i hS hi (fun a b hne => (cellE_eq (M := sL M t i x.toNatClampNeg v) (M' := M) rfl (sL_ne hne)).symm)
  have e2 : cellE (za Z) (zc Z) t i (sL M t i x.toNatClampNeg v) = .inl (zc Z 2, nf t, .inr (.inl (vp_updL (M.2 t i) x.toNatClampNeg v))) := by
    simp only [cellE, hck, sL_at]
  rw [e2] at e
  rw [← e]
  exact hP1
end GM
end
section
/-! Functions into Option, their peeling; ends, contracts, calls. -/
def fuel : Nat := 100000
def lt {α β : Type} (a : α) (f : α → β) : β := f a
def bnd {α : Type} (i : Int32) (n : Nat) (a : Option α) : Option α := if i < 0 ∨ n ≤ i.toNatClampNeg then none else a
def bnz {α : Type} (v : Int32) (a : Option α) : Option α := if v = 0 ∨ v = 1 then a else none
def bd {α β : Type} (o : Option (α × Mm)) (f : α → Mm → Option β) : Option β := match o with
  | some q => f q.1 q.2
  | none => none
def bv {β : Type} (o : Option Mm) (f : Mm → Option β) : Option β := match o with
  | some q => f q
  | none => none
theorem o_l {α β : Type} {a : α} {f : α → Option β} {r : β} (h : lt a f = some r) : ∀ x, x = a → f x = some r := by
  rintro x rfl
  exact h
theorem o_t {c : Prop} [inst : Decidable c] {β : Type} {a b : Option β} {r : β} (hc : c) (h : (if c then a else b) = some r) : a = some r := by rwa [if_pos hc] at h
theorem o_f {c : Prop} [inst : Decidable c] {β : Type} {a b : Option β} {r : β} (hc : ¬ c) (h : (if c then a else b) = some r) : b = some r := by rwa [if_neg hc] at h
theorem o_in {β : Type} {i : Int32} {n : Nat} {a : Option β} {r : β} (h : bnd i n a = some r) : vp_in i n ∧ a = some r := by
  unfold bnd at h
  by_cases hc : i < 0 ∨ n ≤ i.toNatClampNeg
  · rw [if_pos hc] at h
    cases h
  · rw [if_neg hc] at h
    exact ⟨hc, h⟩
theorem o_z {β : Type} {i : Int32} {a : Option β} {r : β} (h : (if i = 0 then none else a) = some r) : ¬ i = 0 ∧ a = some r := by
  by_cases hc : i = 0
  · rw [if_pos hc] at h
    cases h
  · rw [if_neg hc] at h
    exact ⟨hc, h⟩
theorem o_nz {β : Type} {v : Int32} {a : Option β} {r : β} (h : bnz v a = some r) : narrow .boolean (.int v) = .int v ∧ a = some r := by
  unfold bnz at h
  by_cases hc : v = 0 ∨ v = 1
  · rw [if_pos hc] at h
    refine ⟨?_, h⟩
    rcases hc with rfl | rfl <;> decide +kernel
  · rw [if_neg hc] at h
    cases h
theorem o_b {α β : Type} {o : Option (α × Mm)} {f : α → Mm → Option β} {r : β} (h : bd o f = some r) : ∃ x y, o = some (x, y) ∧ f x y = some r := by
  cases o with
  | none => cases h
  | some q => exact ⟨q.1, q.2, rfl, h⟩
theorem o_v {β : Type} {o : Option Mm} {f : Mm → Option β} {r : β} (h : bv o f = some r) : ∃ y, o = some y ∧ f y = some r := by
  cases o with
  | none => cases h
  | some q => exact ⟨q, rfl, h⟩
theorem sw_out {x : Int32} (lo n : Nat) {hi : Int} {lo' : Int} (h1 : lo' = lo) (h2 : hi = (lo : Int) + n - 1) (h : ∀ j, j < n → ¬ x = Int32.ofNat (lo + j)) (hb : lo + n < 2 ^ 31 := by decide) : x.toInt < lo' ∨ hi < x.toInt := by
  by_cases hc : x.toInt < lo' ∨ hi < x.toInt
  · exact hc
  · exfalso
    have e1 : lo' ≤ x.toInt ∧ x.toInt ≤ hi := by omega
    refine h (x.toInt - lo).toNat (by omega) ?_
    apply Int32.toInt_inj.mp
    have e2 : (Int32.ofNat (lo + (x.toInt - lo).toNat)).toInt = ((lo + (x.toInt - lo).toNat : Nat) : Int) := toInt_of rfl (by omega)
    rw [e2]
    omega
theorem addr_D {A : Nat → Prop} {w w' : va_W} (h : w.map Prod.fst = w'.map Prod.fst) (hD : va_D A w) : va_D A w' := by
  have at' : ∀ (k : Nat) (q : Nat × va_E), w'[k]? = some q → ∃ q', w[k]? = some q' ∧ q'.1 = q.1 := by
    intro k q hq
    have h1 : (w'.map Prod.fst)[k]? = some q.1 := by rw [List.getElem?_map, hq]; rfl
    rw [← h, List.getElem?_map] at h1
    cases hw : w[k]? with
    | none => rw [hw] at h1; cases h1
    | some q' => rw [hw] at h1; exact ⟨q', rfl, Option.some.inj h1⟩
  refine ⟨fun i j p q hp hq e => ?_, fun k q hq => ?_⟩
  · obtain ⟨p', h1, h2⟩ := at' i p hp
    obtain ⟨q', h3, h4⟩ := at' j q hq
    exact hD.1 i j p' q' h1 h3 (by rw [h2, h4, e])
  · obtain ⟨q', h1, h2⟩ := at' k q hq
    rw [← h2]
    exact hD.2 k q' h1
def PcZ (Z : ZT) (av : List Value) (M : Mm) (sz : Nat) : Array Value → State → Prop := va_Pc av (fun U => U.heap.size = sz ∧ va_P (zD Z) vwCl (zw Z M) U.heap ∧ va_K (zD Z) vwCl (ztys (zc Z)) U ∧ va_D (fun _ => True) (zw Z M) ∧ Nst U)
def FinI (Z : ZT) (X : XT) (ty : FieldType) (res : Int32 × Mm) : Prop := xQ X = MQ (xb X) (va_Qi (fun r u => (r, u) = res) (fun M' t => va_P (zD Z) vwCl (zw Z M') t.heap) (xA X)) (xa X) (xs X) 0 0 (xA X) ∧ (xt X).sig.returnType = some ty ∧ xk1 X = 0 ∧ xk2 X = 0
def FinL (Z : ZT) (X : XT) (res : Int64 × Mm) : Prop := xQ X = MQ (xb X) (va_Ql (fun r u => (r, u) = res) (fun M' t => va_P (zD Z) vwCl (zw Z M') t.heap) (xA X)) (xa X) (xs X) 0 0 (xA X) ∧ (xt X).sig.returnType = some .long ∧ xk1 X = 0 ∧ xk2 X = 0
def FinV (Z : ZT) (X : XT) (res : Mm) : Prop := xQ X = MQ (xb X) (va_Qv (fun u => u = res) (fun M' t => va_P (zD Z) vwCl (zw Z M') t.heap) (xA X)) (xa X) (xs X) 0 0 (xA X) ∧ (xt X).sig.returnType = none ∧ xk1 X = 0 ∧ xk2 X = 0
def CtI (Z : ZT) (y : MethodName) (ws : List Cond) (rm : Room) (av : List Value) (M : Mm) (res : Int32 × Mm) : Prop := ∀ sz, Met (zl Z) y ws rm (PcZ Z av M sz) (va_Qi (fun r u => (r, u) = res) (fun M' t => va_P (zD Z) vwCl (zw Z M') t.heap) (va_A (zw Z M) sz)) 0 0 (va_A (zw Z M) sz)
def CtL (Z : ZT) (y : MethodName) (ws : List Cond) (rm : Room) (av : List Value) (M : Mm) (res : Int64 × Mm) : Prop := ∀ sz, Met (zl Z) y ws rm (PcZ Z av M sz) (va_Ql (fun r u => (r, u) = res) (fun M' t => va_P (zD Z) vwCl (zw Z M') t.heap) (va_A (zw Z M) sz)) 0 0 (va_A (zw Z M) sz)
def CtV (Z : ZT) (y : MethodName) (ws : List Cond) (rm : Room) (av : List Value) (M : Mm) (res : Mm) : Prop := ∀ sz, Met (zl Z) y ws rm (PcZ Z av M sz) (va_Qv (fun u => u = res) (fun M' t => va_P (zD Z) vwCl (zw Z M') t.heap) (va_A (zw Z M) sz)) 0 0 (va_A (zw Z M) sz)
section GC
variable {Z : ZT} {X : XT} {M : Mm} {pc : Nat} {lv lv' : List (Nat × Value)} {st rest : List Value} {own : String} {cc : ByteArray} {ts : List Cond} {nL : Nat} {rm : Room} {S : Nat → Bool} {t i k : Nat}
theorem g_iret (h : Ok Z X own cc ts nL rm) {res : Int32 × Mm} (hQ : FinI Z X .int res) {v : Int32} (hdg : decode cc pc = .ok (.ireturn, 1)) (hw : some (v, M) = some res) : G Z X M pc lv [.int v] := fun H locs ls hP hS hl => by
  obtain ⟨p, e, R, s, m, args, below, meth, c, Q0, A, k1, k2⟩ := X
  obtain ⟨hq, hr, hk1, hk2⟩ := hQ
  change Q0 = MQ below (va_Qi (fun r u => (r, u) = res) (fun M' t => va_P (zD Z) vwCl (zw Z M') t.heap) A) args s 0 0 A at hq
  change meth.sig.returnType = _ at hr
  change k1 = 0 at hk1
  change k2 = 0 at hk2
  subst hq
  subst hk1
  subst hk2
  exact W.iret h.1 h.2.1 hr (fun t ht hW => ⟨⟨v, M, rfl, Option.some.inj hw, by show va_P (zD Z) vwCl (zw Z M) t.heap; rw [ht]; exact hP⟩, hS.F ht⟩) hS.2.2 hdg h.2.2.2.2.2.1
theorem g_zret (h : Ok Z X own cc ts nL rm) {res : Int32 × Mm} {ty : FieldType} (hQ : FinI Z X ty res) {v : Int32} (hdg : decode cc pc = .ok (.ireturn, 1)) (hn : narrow ty (.int v) = .int v) (hw : some (v, M) = some res) : G Z X M pc lv [.int v] := fun H locs ls hP hS hl => by
  obtain ⟨p, e, R, s, m, args, below, meth, c, Q0, A, k1, k2⟩ := X
  obtain ⟨hq, hr, hk1, hk2⟩ := hQ
  change Q0 = MQ below (va_Qi (fun r u => (r, u) = res) (fun M' t => va_P (zD Z) vwCl (zw Z M') t.heap) A) args s 0 0 A at hq
  change meth.sig.returnType = _ at hr
  change k1 = 0 at hk1
  change k2 = 0 at hk2
  subst hq
  subst hk1
  subst hk2
  exact W.zret h.1 h.2.1 hr hn (fun t ht hW => ⟨⟨v, M, rfl, Option.some.inj hw, by show va_P (zD Z) vwCl (zw Z M) t.heap; rw [ht]; exact hP⟩, hS.F ht⟩) hS.2.2 hdg h.2.2.2.2.2.1
theorem g_lret (h : Ok Z X own cc ts nL rm) {res : Int64 × Mm} (hQ : FinL Z X res) {v : Int64} (hdg : decode cc pc = .ok (.lreturn, 1)) (hw : some (v, M) = some res) : G Z X M pc lv [.long v] := fun H locs ls hP hS hl => by
  obtain ⟨p, e, R, s, m, args, below, meth, c, Q0, A, k1, k2⟩ := X
  obtain ⟨hq, hr, hk1, hk2⟩ := hQ
  change Q0 = MQ below (va_Ql (fun r u => (r, u) = res) (fun M' t => va_P (zD Z) vwCl (zw Z M') t.heap) A) args s 0 0 A at hq
  change meth.sig.returnType = _ at hr
  change k1 = 0 at hk1
  change k2 = 0 at hk2
  subst hq
  subst hk1
  subst hk2
  exact W.lret h.1 h.2.1 hr (fun t ht hW => ⟨⟨v, M, rfl, Option.some.inj hw, by show va_P (zD Z) vwCl (zw Z M) t.heap; rw [ht]; exact hP⟩, hS.F ht⟩) hS.2.2 hdg h.2.2.2.2.2.1
theorem g_vret (h : Ok Z X own cc ts nL rm) {res : Mm} (hQ : FinV Z X res) (hdg : decode cc pc = .ok (.return_, 1)) (hw : some M = some res) : G Z X M pc lv [] := fun H locs ls hP hS hl => by
  obtain ⟨p, e, R, s, m, args, below, meth, c, Q0, A, k1, k2⟩ := X
  obtain ⟨hq, hr, hk1, hk2⟩ := hQ
  change Q0 = MQ below (va_Qv (fun u => u = res) (fun M' t => va_P (zD Z) vwCl (zw Z M') t.heap) A) args s 0 0 A at hq
  change meth.sig.returnType = _ at hr
  change k1 = 0 at hk1
  change k2 = 0 at hk2
  subst hq
  subst hk1
  subst hk2
  exact W.vret h.1 h.2.1 hr (fun t ht hW => ⟨⟨M, rfl, Option.some.inj hw, by show va_P (zD Z) vwCl (zw Z M) t.heap; rw [ht]; exact hP⟩, hS.F ht⟩) hS.2.2 hdg h.2.2.2.2.2.1
theorem CtI.of (hL : Lay Z S) {y : MethodName} {ws ws' : List Cond} {av : List Value} {res : Int32 × Mm} {ty : FieldType} {maxL : Nat} (hy : plainName y.cls = true) (hw : ws = Cond.code y cc maxL (some ty) :: ws') (hlen : (lg_sl av).length ≤ maxL) (body : ∀ X : XT, Ok Z X y.cls cc ws maxL rm → FinI Z X ty res → G Z X M 0 (lv_args 0 av) []) : CtI Z y ws rm av M res := by
  intro sz
  refine Met.ofW (cc := cc) (maxL := maxL) (ret := some ty) hy hw ?_
  intro p e s m args below meth c s₁ B hml hv
  obtain ⟨rfl, hsz, hP, hK, hD0, hN⟩ := hv
  have hts := atoms_spec (ws := ws) B.pre
  have hown : s.vm.findClass y.cls = some m.cls := findClass_of_methodNamed B.named
  subst hsz
  have hl := lv_entry av (n := maxL) hlen
  rw [lg_entry_eq]
  generalize (lg_sl av ++ List.replicate (maxL - (lg_sl av).length) Slot.unset).toArray = ls at hl ⊢
  exact body (p, e, (headSpec ws rm).room, s, m, av.toArray, below, meth, c, MQ below (va_Qi (fun r u => (r, u) = res) (fun M' t => va_P (zD Z) vwCl (zw Z M') t.heap) (va_A (zw Z M) s.heap.size)) av.toArray s 0 0 (va_A (zw Z M) s.heap.size), va_A (zw Z M) s.heap.size, 0, 0) ⟨B.exec, B.bytes, hml, hown, hts, B.notSynchronized, hK, fun M' => addr_D (hL.2.2 M M') hD0.self, fun q h => Or.inr h, ⟨rfl, Nat.zero_le _, Nat.zero_le _⟩, hN⟩ ⟨rfl, B.returns, rfl, rfl⟩ s.heap [] ls hP va_S.rf (by rw [hml]; exact hl)
theorem CtL.of (hL : Lay Z S) {y : MethodName} {ws ws' : List Cond} {av : List Value} {res : Int64 × Mm} {maxL : Nat} (hy : plainName y.cls = true) (hw : ws = Cond.code y cc maxL (some .long) :: ws') (hlen : (lg_sl av).length ≤ maxL) (body : ∀ X : XT, Ok Z X y.cls cc ws maxL rm → FinL Z X res → G Z X M 0 (lv_args 0 av) []) : CtL Z y ws rm av M res := by
  intro sz
  refine Met.ofW (cc := cc) (maxL := maxL) (ret := some .long) hy hw ?_
  intro p e s m args below meth c s₁ B hml hv
  obtain ⟨rfl, hsz, hP, hK, hD0, hN⟩ := hv
  have hts := atoms_spec (ws := ws) B.pre
  have hown : s.vm.findClass y.cls = some m.cls := findClass_of_methodNamed B.named
  subst hsz
  have hl := lv_entry av (n := maxL) hlen
  rw [lg_entry_eq]
  generalize (lg_sl av ++ List.replicate (maxL - (lg_sl av).length) Slot.unset).toArray = ls at hl ⊢
  exact body (p, e, (headSpec ws rm).room, s, m, av.toArray, below, meth, c, MQ below (va_Ql (fun r u => (r, u) = res) (fun M' t => va_P (zD Z) vwCl (zw Z M') t.heap) (va_A (zw Z M) s.heap.size)) av.toArray s 0 0 (va_A (zw Z M) s.heap.size), va_A (zw Z M) s.heap.size, 0, 0) ⟨B.exec, B.bytes, hml, hown, hts, B.notSynchronized, hK, fun M' => addr_D (hL.2.2 M M') hD0.self, fun q h => Or.inr h, ⟨rfl, Nat.zero_le _, Nat.zero_le _⟩, hN⟩ ⟨rfl, B.returns, rfl, rfl⟩ s.heap [] ls hP va_S.rf (by rw [hml]; exact hl)
theorem CtV.of (hL : Lay Z S) {y : MethodName} {ws ws' : List Cond} {av : List Value} {res : Mm} {maxL : Nat} (hy : plainName y.cls = true) (hw : ws = Cond.code y cc maxL (none) :: ws') (hlen : (lg_sl av).length ≤ maxL) (body : ∀ X : XT, Ok Z X y.cls cc ws maxL rm → FinV Z X res → G Z X M 0 (lv_args 0 av) []) : CtV Z y ws rm av M res := by
  intro sz
  refine Met.ofW (cc := cc) (maxL := maxL) (ret := none) hy hw ?_
  intro p e s m args below meth c s₁ B hml hv
  obtain ⟨rfl, hsz, hP, hK, hD0, hN⟩ := hv
  have hts := atoms_spec (ws := ws) B.pre
  have hown : s.vm.findClass y.cls = some m.cls := findClass_of_methodNamed B.named
  subst hsz
  have hl := lv_entry av (n := maxL) hlen
  rw [lg_entry_eq]
  generalize (lg_sl av ++ List.replicate (maxL - (lg_sl av).length) Slot.unset).toArray = ls at hl ⊢
  exact body (p, e, (headSpec ws rm).room, s, m, av.toArray, below, meth, c, MQ below (va_Qv (fun u => u = res) (fun M' t => va_P (zD Z) vwCl (zw Z M') t.heap) (va_A (zw Z M) s.heap.size)) av.toArray s 0 0 (va_A (zw Z M) s.heap.size), va_A (zw Z M) s.heap.size, 0, 0) ⟨B.exec, B.bytes, hml, hown, hts, B.notSynchronized, hK, fun M' => addr_D (hL.2.2 M M') hD0.self, fun q h => Or.inr h, ⟨rfl, Nat.zero_le _, Nat.zero_le _⟩, hN⟩ ⟨rfl, B.returns, rfl, rfl⟩ s.heap [] ls hP va_S.rf (by rw [hml]; exact hl)
theorem PcZ.blind {av : List Value} {sz : Nat} : FrameBlind (PcZ Z av M sz) := fun a U g mk q => by
  obtain ⟨q0, q1, qP, qK, qD, qN⟩ := q
  exact ⟨q0, q1, qP, va_K.moved (u := U) (U := U.calling g mk a) (Vm.Alike.refl U.vm) qK, qD, fun w hw => va_Nw.same rfl rfl (qN.1 w hw), va_AO.moved (u := U) (U := U.calling g mk a) (Vm.Alike.refl U.vm) qN.2⟩
theorem Ok.pre (h : Ok Z X own cc ts nL rm) {H : Heap} (hP : va_P (zD Z) vwCl (zw Z M) H) {av : List Value} : ∀ U : State, U.heap = H → (xs X).WarmedH U.vm → PcZ Z av M H.size av.toArray U := fun U hU hW =>
  ⟨rfl, by rw [hU], by rw [hU]; exact hP, va_K.moved hW.alike h.2.2.2.2.2.2.1, (h.2.2.2.2.2.2.2.1 M).weaken (fun _ _ _ _ => trivial), fun q hq => va_Nw.warmM hW (h.2.2.2.2.2.2.2.2.2.2.1 q hq), va_AO.moved hW.alike h.2.2.2.2.2.2.2.2.2.2.2⟩
theorem Ok.free (h : Ok Z X own cc ts nL rm) {H : Heap} {locs : List Loc} (hS : va_S (xA X) (xs X).heap H locs) : ∀ q, va_A (zw Z M) H.size q → xA X q := by
  rintro q (⟨k, e, hk⟩ | hq)
  · exact (h.2.2.2.2.2.2.2.1 M).2 k (q, e) hk
  · exact h.2.2.2.2.2.2.2.2.1 q (Nat.le_trans hS.1 hq)
theorem Lay.recv (hL : Lay Z S) (h : Ok Z X own cc ts nL rm) (hS : S t = true) (hi : i < cnt t) {C : String} {T : u_T} {N : Nat} (ho : Ob t C T N) : ∀ H, va_P (zD Z) vwCl (zw Z M) H → ∃ cellB : Cell, H[za Z t i]? = some cellB ∧ cellB.vm.isStatics = false ∧ (xs X).vm.findClass C = some cellB.cls := fun H hP =>
  va_recv h.2.2.2.2.2.2.1 hP ho.2.1 (hL.ob hS hi ho.1)
abbrev RunX (Z : ZT) (X : XT) (M : Mm) (pc : Nat) (lv : List (Nat × Value)) (st rest : List Value) (Qa : Nat → State → Outcome → State → Prop) : Prop := ∀ (H : Heap) (locs : List Loc) (ls : Array Slot), va_P (zD Z) vwCl (zw Z M) H → lv_has ls (xc X).maxLocals lv →
  va_Run (xp X) (zl Z) (xe X) (xR X) (xs X) (xm X) (xa X) (xb X) (xt X) (xc X) H locs (xk1 X) (xk2 X) 0 0 (F0 (xm X) pc ls st) rest (Qa H.size) (va_A (zw Z M) H.size)
theorem g_calli (h : Ok Z X own cc ts nL rm) {a : Array Value} {r : Int32} {M' : Mm} (hr : RunX Z X M pc lv st rest (fun sz => va_Qi (fun r' u => (r', u) = (r, M')) (fun M' t => va_P (zD Z) vwCl (zw Z M') t.heap) (va_A (zw Z M) sz) a)) (kk : G Z X M' (pc + 3) lv (.int r :: rest)) : G Z X M pc lv st := fun H locs ls hP hS hl => by
  refine va_calli (hr H locs ls hP hl) hS (fun q _ hq => h.free hS q hq) (h.free hS) (fun r' u t H1 locs1 ht hvm hw hB hz hk hS1 => ?_)
  cases hw
  exact kk H1 locs1 ls (by rw [← ht]; exact hB) hS1 hl
theorem g_calll (h : Ok Z X own cc ts nL rm) {a : Array Value} {r : Int64} {M' : Mm} (hr : RunX Z X M pc lv st rest (fun sz => va_Ql (fun r' u => (r', u) = (r, M')) (fun M' t => va_P (zD Z) vwCl (zw Z M') t.heap) (va_A (zw Z M) sz) a)) (kk : G Z X M' (pc + 3) lv (.long r :: rest)) : G Z X M pc lv st := fun H locs ls hP hS hl => by
  refine va_calll (hr H locs ls hP hl) hS (fun q _ hq => h.free hS q hq) (h.free hS) (fun r' u t H1 locs1 ht hvm hw hB hz hk hS1 => ?_)
  cases hw
  exact kk H1 locs1 ls (by rw [← ht]; exact hB) hS1 hl
theorem g_callv (h : Ok Z X own cc ts nL rm) {a : Array Value} {M' : Mm} (hr : RunX Z X M pc lv st rest (fun sz => va_Qv (fun u => u = M') (fun M' t => va_P (zD Z) vwCl (zw Z M') t.heap) (va_A (zw Z M) sz) a)) (kk : G Z X M' (pc + 3) lv (rest)) : G Z X M pc lv st := fun H locs ls hP hS hl => by
  refine va_callv (hr H locs ls hP hl) hS (fun q _ hq => h.free hS q hq) (h.free hS) (fun u t H1 locs1 ht hvm hw hB hz hk hS1 => ?_)
  cases hw
  exact kk H1 locs1 ls (by rw [← ht]; exact hB) hS1 hl
theorem g_runV (h : Ok Z X own cc ts nL rm) {y : MethodName} {ws : List Cond} {rm' : Room} {C : String} {index n maxL : Nat} {bytes : ByteArray} {ret : Option FieldType} {b : Addr} {As : List Value} {Qc : Nat → Array Value → State → Outcome → State → Prop} (hM : ∀ sz, Met (zl Z) y ws rm' (PcZ Z (.ref b :: As) M sz) (Qc sz) 0 0 (va_A (zw Z M) sz)) (cw : CallW rm (xs X) (xa X) own C index y bytes maxL ret ws rm' 0 0 n) (hrecv : ∀ H, va_P (zD Z) vwCl (zw Z M) H → ∃ cellB : Cell, H[b]? = some cellB ∧ cellB.vm.isStatics = false ∧ (xs X).vm.findClass C = some cellB.cls) (hn : As.length = n) (hst : st = As.reverse ++ .ref b :: rest) (hroom : (rest.map fun v => v.category).sum ≤ 8) (hdg : decode cc pc = .ok (.invokevirtual index, 3)) :
    RunX Z X M pc lv st rest (fun sz => Qc sz (Value.ref b :: As).toArray) := fun H locs ls hP hl => by
  have hpre := h.pre hP (av := .ref b :: As)
  obtain ⟨p, e, R, s, m, args, below, meth, c, Q0, A, k1, k2⟩ := X
  obtain ⟨hx, hb, hml, hown, hts, hlk, hK, hD, hA, ⟨hR, hk1, hk2⟩, hN⟩ := h
  change R = rm at hR
  change k1 ≤ rm.cells at hk1
  change k2 ≤ rm.slots at hk2
  subst hR
  exact va_runV ⟨hx, hb, rfl, hown, hts⟩ (hM H.size) cw ⟨PcZ.blind, hrecv H hP, hpre⟩ rfl hn hl.1 hst (lv_room hroom) hdg ⟨hk1, hk2⟩
theorem g_runVN (h : Ok Z X own cc ts nL rm) {y : MethodName} {ws : List Cond} {rm' : Room} {C host : String} {index n maxL : Nat} {bytes : ByteArray} {ret : Option FieldType} {b : Addr} {As : List Value} {Qc : Nat → Array Value → State → Outcome → State → Prop} (hM : ∀ sz, Met (zl Z) y ws rm' (PcZ Z (.ref b :: As) M sz) (Qc sz) 0 0 (va_A (zw Z M) sz)) (cw : va_CN rm (xs X) (xa X) own index y host bytes maxL ret ws rm' 0 0 n ∧ (Cond.instanceMethod y).before (xa X) (xs X) = true ∧ (Cond.selects C y y).before (xa X) (xs X) = true) (hrecv : ∀ H, va_P (zD Z) vwCl (zw Z M) H → ∃ cellB : Cell, H[b]? = some cellB ∧ cellB.vm.isStatics = false ∧ (xs X).vm.findClass C = some cellB.cls) (hn : As.length = n) (hst : st = As.reverse ++ .ref b :: rest) (hroom : (rest.map fun v => v.category).sum ≤ 8) (hdg : decode cc pc = .ok (.invokevirtual index, 3)) :
    RunX Z X M pc lv st rest (fun sz => Qc sz (Value.ref b :: As).toArray) := fun H locs ls hP hl => by
  have hpre := h.pre hP (av := .ref b :: As)
  obtain ⟨p, e, R, s, m, args, below, meth, c, Q0, A, k1, k2⟩ := X
  obtain ⟨hx, hb, hml, hown, hts, hlk, hK, hD, hA, ⟨hR, hk1, hk2⟩, hN⟩ := h
  change R = rm at hR
  change k1 ≤ rm.cells at hk1
  change k2 ≤ rm.slots at hk2
  subst hR
  exact va_runVN ⟨hx, hb, rfl, hown, hts⟩ (hM H.size) cw ⟨PcZ.blind, hrecv H hP, hpre⟩ rfl hn hl.1 hst (lv_room hroom) hdg ⟨hk1, hk2⟩
theorem g_runS (h : Ok Z X own cc ts nL rm) {y : MethodName} {ws : List Cond} {rm' : Room} {index n maxL : Nat} {bytes : ByteArray} {ret : Option FieldType} {As : List Value} {Qc : Nat → Array Value → State → Outcome → State → Prop} (hM : ∀ sz, Met (zl Z) y ws rm' (PcZ Z (As) M sz) (Qc sz) 0 0 (va_A (zw Z M) sz)) (cw : CallB rm (xs X) (xa X) own index y bytes maxL ret ws rm' 0 0 n ∧ (Cond.static y).before (xa X) (xs X) = true) (hn : As.length = n) (hst : st = As.reverse ++ rest) (hroom : (rest.map fun v => v.category).sum ≤ 8) (hdg : decode cc pc = .ok (.invokestatic index, 3)) :
    RunX Z X M pc lv st rest (fun sz => Qc sz (As).toArray) := fun H locs ls hP hl => by
  have hpre := h.pre hP (av := As)
  obtain ⟨p, e, R, s, m, args, below, meth, c, Q0, A, k1, k2⟩ := X
  obtain ⟨hx, hb, hml, hown, hts, hlk, hK, hD, hA, ⟨hR, hk1, hk2⟩, hN⟩ := h
  change R = rm at hR
  change k1 ≤ rm.cells at hk1
  change k2 ≤ rm.slots at hk2
  subst hR
  exact va_runS ⟨hx, hb, rfl, hown, hts⟩ (hM H.size) cw ⟨PcZ.blind, hpre⟩ rfl hn hl.1 hst (lv_room hroom) hdg ⟨hk1, hk2⟩
theorem g_runSN (h : Ok Z X own cc ts nL rm) {y : MethodName} {ws : List Cond} {rm' : Room} {host : String} {index n maxL : Nat} {bytes : ByteArray} {ret : Option FieldType} {As : List Value} {Qc : Nat → Array Value → State → Outcome → State → Prop} (hM : ∀ sz, Met (zl Z) y ws rm' (PcZ Z (As) M sz) (Qc sz) 0 0 (va_A (zw Z M) sz)) (cw : va_CN rm (xs X) (xa X) own index y host bytes maxL ret ws rm' 0 0 n ∧ (Cond.static y).before (xa X) (xs X) = true ∧ True) (hn : As.length = n) (hst : st = As.reverse ++ rest) (hroom : (rest.map fun v => v.category).sum ≤ 8) (hdg : decode cc pc = .ok (.invokestatic index, 3)) :
    RunX Z X M pc lv st rest (fun sz => Qc sz (As).toArray) := fun H locs ls hP hl => by
  have hpre := h.pre hP (av := As)
  obtain ⟨p, e, R, s, m, args, below, meth, c, Q0, A, k1, k2⟩ := X
  obtain ⟨hx, hb, hml, hown, hts, hlk, hK, hD, hA, ⟨hR, hk1, hk2⟩, hN⟩ := h
  change R = rm at hR
  change k1 ≤ rm.cells at hk1
  change k2 ≤ rm.slots at hk2
  subst hR
  exact va_runSN ⟨hx, hb, rfl, hown, hts⟩ (hM H.size) cw ⟨PcZ.blind, hpre⟩ rfl hn hl.1 hst (lv_room hroom) hdg ⟨hk1, hk2⟩
end GC
end
section
/-! Array copies, lengths, fills. -/
theorem ix_lt {x : Int32} {n sh c : Nat} (h : vp_in x n) (hc : n + sh ≤ c) : x.toNatClampNeg + sh < c := by
  have h1 : x.toNatClampNeg < n := Nat.not_le.mp (fun q => h (Or.inr q))
  omega
section GY
variable {Z : ZT} {X : XT} {M : Mm} {pc : Nat} {lv lv' : List (Nat × Value)} {st rest : List Value} {own : String} {cc : ByteArray} {ts : List Cond} {nL : Nat} {rm : Room} {S : Nat → Bool} {t i k : Nat}
theorem g_copy {t0 i0 t1 i1 index : Nat} {sp dp n : Int32} (h : Ok Z X own cc ts nL rm) (hL : Lay Z S) (hS0 : S t0 = true) (hi0 : i0 < cnt t0) (hc0 : ck t0 = 1) (hS1 : S t1 = true) (hi1 : i1 < cnt t1) (hc1 : ck t1 = 1) (hl : Cond.methodLink own index arraycopyName ∈ ts) (hnat : Cond.native arraycopyName ∈ ts) (hsta : Cond.static arraycopyName ∈ ts) (hini : Cond.initialized "java/lang/System" ∈ ts)
    (h1 : ¬ sp < 0) (h2 : ¬ dp < 0) (h3 : ¬ n < 0) (h4 : sp.toNatClampNeg + n.toNatClampNeg ≤ nf t0) (h5 : dp.toNatClampNeg + n.toNatClampNeg ≤ nf t1) (hfr : 1 ≤ rm.frames) (hlo : (rest.map fun v => v.category).sum + (nativeFrameWords "java/lang/System" "arraycopy" 5 + 11) ≤ rm.locals) (hdg : decode cc pc = .ok (.invokestatic index, 3))
    (kk : G Z X (sA M t1 i1 (va_cpy (M.1 t0 i0) (M.1 t1 i1) sp.toNatClampNeg dp.toNatClampNeg n.toNatClampNeg)) (pc + 3) lv rest) : G Z X M pc lv (.int n :: .int dp :: .ref (za Z t1 i1) :: .int sp :: .ref (za Z t0 i0) :: rest) := fun H locs ls hP hS' hl' => by
  have hR : xR X = rm := h.2.2.2.2.2.2.2.2.2.1.1
  have hw := h.2.2.2.2.1
  refine va_copyi h.1 h.2.1 hl'.1.symm h.2.2.2.1 (hw _ hl) (hw _ hnat) (hw _ hsta) (hw _ hini) h.2.2.2.2.2.2.1 hP (h.2.2.2.2.2.2.2.1 M) hS' (pos t0 i0) (pos t1 i1) 0 0 (hL.ai hS0 hi0 hc0) (hL.ai hS1 hi1 hc1) rfl rfl rfl h1 h2 h3 h4 h5 (fun _ _ => rfl) (by rw [hR]; exact hfr) (by rw [hR]; exact hlo) hdg (fun H1 locs1 hP1 hD1 hS1' => kk H1 locs1 ls ?_ hS1' hl')
  have e := hL.2.1 M (sA M t1 i1 (va_cpy (M.1 t0 i0) (M.1 t1 i1) sp.toNatClampNeg dp.toNatClampNeg n.toNatClampNeg)) t1 i1 hS1 hi1 (fun a b hne => (cellE_eq (sA_ne hne) rfl).symm)
  have e2 : cellE (za Z) (zc Z) t1 i1 (sA M t1 i1 (va_cpy (M.1 t0 i0) (M.1 t1 i1) sp.toNatClampNeg dp.toNatClampNeg n.toNatClampNeg)) = .inl (zc Z 0, nf t1, .inl (va_cpy (M.1 t0 i0) (M.1 t1 i1) sp.toNatClampNeg dp.toNatClampNeg n.toNatClampNeg)) := by
    simp only [cellE, hc1, sA_at]
  rw [e2] at e
  rw [← e]
  exact hP1
theorem g_alenI (h : Ok Z X own cc ts nL rm) (hL : Lay Z S) (hS : S t = true) (hi : i < cnt t) (hck : ck t = 1) {v : Int32} (hv : Int32.ofNat (nf t) = v) (hdg : decode cc pc = .ok (.arraylength, 1))
    (kk : G Z X M (pc + 1) lv (.int v :: st)) : G Z X M pc lv (.ref (za Z t i) :: st) := fun H locs ls hP hS' hl => va_alen h.1 h.2.1 h.2.2.2.2.2.2.1 hP (pos t i) 0 (hL.ai hS hi hck) rfl hv hdg (kk H locs ls hP hS' hl)
theorem g_alenZ (h : Ok Z X own cc ts nL rm) (hL : Lay Z S) (hS : S t = true) (hi : i < cnt t) (hck : ck t = 2) {v : Int32} (hv : Int32.ofNat (nf t) = v) (hdg : decode cc pc = .ok (.arraylength, 1))
    (kk : G Z X M (pc + 1) lv (.int v :: st)) : G Z X M pc lv (.ref (za Z t i) :: st) := fun H locs ls hP hS' hl => va_alen h.1 h.2.1 h.2.2.2.2.2.2.1 hP (pos t i) 1 (hL.az hS hi hck) rfl hv hdg (kk H locs ls hP hS' hl)
theorem g_alenL (h : Ok Z X own cc ts nL rm) (hL : Lay Z S) (hS : S t = true) (hi : i < cnt t) (hck : ck t = 3) {v : Int32} (hv : Int32.ofNat (nf t) = v) (hdg : decode cc pc = .ok (.arraylength, 1))
    (kk : G Z X M (pc + 1) lv (.int v :: st)) : G Z X M pc lv (.ref (za Z t i) :: st) := fun H locs ls hP hS' hl => va_alen h.1 h.2.1 h.2.2.2.2.2.2.1 hP (pos t i) 2 (hL.al hS hi hck) rfl hv hdg (kk H locs ls hP hS' hl)
end GY
theorem q_l {α : Type} {a : α} {f : α → Option (Int32 × Mm)} {g : α → Int32} {M : Mm} (h : f a = some (g a, M)) : lt a f = some (lt a g, M) := h
theorem q_i {c : Prop} [inst : Decidable c] {a b : Option (Int32 × Mm)} {a' b' : Int32} {M : Mm} (h1 : a = some (a', M)) (h2 : b = some (b', M)) : (if c then a else b) = some (if c then a' else b', M) := by
  by_cases hc : c
  · rw [if_pos hc, if_pos hc]
    exact h1
  · rw [if_neg hc, if_neg hc]
    exact h2
def zo (z : Int32) : Prop := z = 0 ∨ z = 1
theorem zo_0 : zo 0 := Or.inl rfl
theorem zo_1 : zo 1 := Or.inr rfl
theorem zo_l {α : Type} {a : α} {g : α → Int32} (h : zo (g a)) : zo (lt a g) := h
theorem zo_i {c : Prop} [inst : Decidable c] {a b : Int32} (h1 : zo a) (h2 : zo b) : zo (if c then a else b) := by
  by_cases hc : c
  · rw [if_pos hc]
    exact h1
  · rw [if_neg hc]
    exact h2
theorem q_b {v : Int32} {M : Mm} (h : zo v) : bnz v (some (v, M)) = some (v, M) := by
  unfold bnz
  exact if_pos h

theorem ob_0 : Ob 0 "FlowGate" T_G 6 := ⟨rfl, rfl, rfl⟩
theorem ob_1 : Ob 1 "FlowGate$Types" T_T 3 := ⟨rfl, rfl, rfl⟩
theorem ob_4 : Ob 4 "FlowGate$Method" T_M 14 := ⟨rfl, rfl, rfl⟩
theorem ob_13 : Ob 13 "FlowGate$Form" T_O 2 := ⟨rfl, rfl, rfl⟩
theorem ob_14 : Ob 14 "FlowGate$Flow" T_W 12 := ⟨rfl, rfl, rfl⟩
theorem ob_19 : Ob 19 "FlowGate$Frame" T_R 5 := ⟨rfl, rfl, rfl⟩
theorem ob_30 : Ob 30 "FlowGateModel" T_D 42 := ⟨rfl, rfl, rfl⟩
end
section
theorem nf_lt (t : Nat) : nf t < 2 ^ 31 := by
  by_cases h : t < 55
  · have h2 : ∀ t, t < 55 → nf t < 2 ^ 31 := by decide +kernel
    exact h2 t h
  · have : nf t = 0 := by
      unfold nf
      rw [List.getD_eq_getElem?_getD, List.getElem?_eq_none (by simp only [List.length_cons, List.length_nil]; omega)]
      rfl
    rw [this]
    decide
def F_fillI (t i : Nat) (v : Int32) (M : Mm) : Mm := sA M t i (fun k => if k < nf t then v else M.1 t i k)
def F_fillJ (t i : Nat) (v : Int64) (M : Mm) : Mm := sB M t i (fun k => if k < nf t then v else M.2 t i k)
theorem fill_stepI {M : Mm} {t i j : Nat} {v : Int32} : sI (sA M t i (fun k => if k < j then v else M.1 t i k)) t i j v = sA M t i (fun k => if k < j + 1 then v else M.1 t i k) := by
  unfold sI sA
  refine Prod.ext ?_ rfl
  funext a b c
  show (if a = t ∧ b = i ∧ c = j then v else if a = t ∧ b = i then (if c < j then v else M.1 t i c) else M.1 a b c) = (if a = t ∧ b = i then (if c < j + 1 then v else M.1 t i c) else M.1 a b c)
  by_cases h1 : a = t ∧ b = i
  · obtain ⟨rfl, rfl⟩ := h1
    by_cases h2 : c = j
    · subst h2
      simp
    · by_cases h3 : c < j
      · simp [h2, h3, show c < j + 1 by omega]
      · simp [h2, h3, show ¬ c < j + 1 by omega]
  · rw [if_neg (fun q => h1 ⟨q.1, q.2.1⟩), if_neg h1, if_neg h1]
theorem fill_stepJ {M : Mm} {t i j : Nat} {v : Int64} : sL (sB M t i (fun k => if k < j then v else M.2 t i k)) t i j v = sB M t i (fun k => if k < j + 1 then v else M.2 t i k) := by
  unfold sL sB
  refine Prod.ext rfl ?_
  funext a b c
  show (if a = t ∧ b = i ∧ c = j then v else if a = t ∧ b = i then (if c < j then v else M.2 t i c) else M.2 a b c) = (if a = t ∧ b = i then (if c < j + 1 then v else M.2 t i c) else M.2 a b c)
  by_cases h1 : a = t ∧ b = i
  · obtain ⟨rfl, rfl⟩ := h1
    by_cases h2 : c = j
    · subst h2
      simp
    · by_cases h3 : c < j
      · simp [h2, h3, show c < j + 1 by omega]
      · simp [h2, h3, show ¬ c < j + 1 by omega]
  · rw [if_neg (fun q => h1 ⟨q.1, q.2.1⟩), if_neg h1, if_neg h1]
theorem fill_0I {M : Mm} {t i : Nat} {v : Int32} : sA M t i (fun k => if k < 0 then v else M.1 t i k) = M := by
  unfold sA
  refine Prod.ext ?_ rfl
  funext a b c
  show (if a = t ∧ b = i then (if c < 0 then v else M.1 t i c) else M.1 a b c) = M.1 a b c
  by_cases h1 : a = t ∧ b = i
  · obtain ⟨rfl, rfl⟩ := h1
    simp
  · rw [if_neg h1]
theorem fill_0J {M : Mm} {t i : Nat} {v : Int64} : sB M t i (fun k => if k < 0 then v else M.2 t i k) = M := by
  unfold sB
  refine Prod.ext rfl ?_
  funext a b c
  show (if a = t ∧ b = i then (if c < 0 then v else M.2 t i c) else M.2 a b c) = M.2 a b c
  by_cases h1 : a = t ∧ b = i
  · obtain ⟨rfl, rfl⟩ := h1
    simp
  · rw [if_neg h1]
set_option maxHeartbeats 4000000 in
set_option maxRecDepth 100000 in
theorem w_fillI {Z : ZT} {X : XT} {S : Nat → Bool} (hL : Lay Z S) {t i : Nat} (hS : S t = true) (hi : i < cnt t) (hck : ck t = 1) {v : Int32} {M : Mm} (h : Ok Z X "java/util/Arrays" c_JA_fillI ws_JA_fillI 4 { frames := 0, cells := 0, slots := 0, locals := 0 }) (hQ : FinV Z X (F_fillI t i v M)) : ∀ (n j : Nat), nf t - j < n → j ≤ nf t → G Z X (sA M t i (fun k => if k < j then v else M.1 t i k)) 5 [(0, .ref (za Z t i)), (1, .int v), (2, .int (nI j)), (3, .int (nI (nf t)))] [] := by
  have hb := nf_lt t
  intro n
  induction n with
  | zero =>
    intro j h1
    omega
  | succ n ih =>
    intro j h1 hj
    refine g_iload_n h d_JA_fillI_5 rfl rfl ?_
    refine g_iload_n h d_JA_fillI_6 rfl rfl ?_
    refine g_icmp_ge (tgt := 20) h d_JA_fillI_7 (by decide) (fun c => ?_) (fun c => ?_)
    · have e : j = nf t := by
        rcases Nat.lt_or_ge j (nf t) with q | q
        · exact absurd c (nI_ge q hb)
        · omega
      rw [e]
      exact g_vret h hQ d_JA_fillI_20 rfl
    · have hlt : j < nf t := by
        rcases Nat.lt_or_ge j (nf t) with q | q
        · exact q
        · exact absurd (nI_le q (by omega)) c
      refine g_aload_n h d_JA_fillI_10 rfl rfl ?_
      refine g_iload_n h d_JA_fillI_11 rfl rfl ?_
      refine g_iload_n h d_JA_fillI_12 rfl rfl ?_
      refine g_iast h hL hS hi hck rfl (vp_in_nI hlt hb) d_JA_fillI_13 ?_
      rw [nI_clamp (by omega), fill_stepI]
      refine g_iinc (n' := 1) (lw := fun y => [(2, .int y), (0, .ref (za Z t i)), (1, .int v), (3, .int (nI (nf t)))]) h d_JA_fillI_14 rfl (by decide) (by decide) (fun _ => rfl) (fun y ey => ?_)
      refine g_goto (tgt := 5) h d_JA_fillI_17 (by decide) ?_
      refine g_sub [1, 2, 0, 3] rfl ?_
      rw [ey, nI_1 j]
      exact ih (j + 1) (by omega) (by omega)
set_option maxHeartbeats 4000000 in
set_option maxRecDepth 100000 in
theorem ct_fillI {Z : ZT} {S : Nat → Bool} (hL : Lay Z S) {t i : Nat} (hS : S t = true) (hi : i < cnt t) (hck : ck t = 1) (v : Int32) (M : Mm) : CtV Z y_JA_fillI ws_JA_fillI { frames := 0, cells := 0, slots := 0, locals := 0 } [.ref (za Z t i), .int v] M (F_fillI t i v M) := by
  refine CtV.of hL (cc := c_JA_fillI) (maxL := 4) (by decide) rfl (Nat.le_of_ble_eq_true rfl) (fun X h hQ => ?_)
  show G Z X M 0 [(0, .ref (za Z t i)), (1, .int v)] []
  refine g_iconst (v := 0) h d_JA_fillI_0 (by decide) ?_
  refine g_istore_n (lv' := [(2, .int 0), (0, .ref (za Z t i)), (1, .int v)]) h d_JA_fillI_1 rfl (by decide) rfl ?_
  refine g_aload_n h d_JA_fillI_2 rfl rfl ?_
  refine g_alenI (v := nI (nf t)) h hL hS hi hck rfl d_JA_fillI_3 ?_
  refine g_istore_n (lv' := [(3, .int (nI (nf t))), (2, .int 0), (0, .ref (za Z t i)), (1, .int v)]) h d_JA_fillI_4 rfl (by decide) rfl ?_
  refine g_sub [2, 3, 1, 0] rfl ?_
  have e := w_fillI hL hS hi hck h hQ (nf t + 1) 0 (by omega) (by omega)
  rw [fill_0I] at e
  exact e
set_option maxHeartbeats 4000000 in
set_option maxRecDepth 100000 in
theorem w_fillJ {Z : ZT} {X : XT} {S : Nat → Bool} (hL : Lay Z S) {t i : Nat} (hS : S t = true) (hi : i < cnt t) (hck : ck t = 3) {v : Int64} {M : Mm} (h : Ok Z X "java/util/Arrays" c_JA_fillJ ws_JA_fillJ 5 { frames := 0, cells := 0, slots := 0, locals := 0 }) (hQ : FinV Z X (F_fillJ t i v M)) : ∀ (n j : Nat), nf t - j < n → j ≤ nf t → G Z X (sB M t i (fun k => if k < j then v else M.2 t i k)) 6 [(0, .ref (za Z t i)), (1, .long v), (3, .int (nI j)), (4, .int (nI (nf t)))] [] := by
  have hb := nf_lt t
  intro n
  induction n with
  | zero =>
    intro j h1
    omega
  | succ n ih =>
    intro j h1 hj
    refine g_iload_n h d_JA_fillJ_6 rfl rfl ?_
    refine g_iload h d_JA_fillJ_7 rfl ?_
    refine g_icmp_ge (tgt := 22) h d_JA_fillJ_9 (by decide) (fun c => ?_) (fun c => ?_)
    · have e : j = nf t := by
        rcases Nat.lt_or_ge j (nf t) with q | q
        · exact absurd c (nI_ge q hb)
        · omega
      rw [e]
      exact g_vret h hQ d_JA_fillJ_22 rfl
    · have hlt : j < nf t := by
        rcases Nat.lt_or_ge j (nf t) with q | q
        · exact q
        · exact absurd (nI_le q (by omega)) c
      refine g_aload_n h d_JA_fillJ_12 rfl rfl ?_
      refine g_iload_n h d_JA_fillJ_13 rfl rfl ?_
      refine g_lload_n h d_JA_fillJ_14 rfl rfl ?_
      refine g_last h hL hS hi hck rfl (vp_in_nI hlt hb) d_JA_fillJ_15 ?_
      rw [nI_clamp (by omega), fill_stepJ]
      refine g_iinc (n' := 1) (lw := fun y => [(3, .int y), (0, .ref (za Z t i)), (1, .long v), (4, .int (nI (nf t)))]) h d_JA_fillJ_16 rfl (by decide) (by decide) (fun _ => rfl) (fun y ey => ?_)
      refine g_goto (tgt := 6) h d_JA_fillJ_19 (by decide) ?_
      refine g_sub [1, 2, 0, 3] rfl ?_
      rw [ey, nI_1 j]
      exact ih (j + 1) (by omega) (by omega)
set_option maxHeartbeats 4000000 in
set_option maxRecDepth 100000 in
theorem ct_fillJ {Z : ZT} {S : Nat → Bool} (hL : Lay Z S) {t i : Nat} (hS : S t = true) (hi : i < cnt t) (hck : ck t = 3) (v : Int64) (M : Mm) : CtV Z y_JA_fillJ ws_JA_fillJ { frames := 0, cells := 0, slots := 0, locals := 0 } [.ref (za Z t i), .long v] M (F_fillJ t i v M) := by
  refine CtV.of hL (cc := c_JA_fillJ) (maxL := 5) (by decide) rfl (Nat.le_of_ble_eq_true rfl) (fun X h hQ => ?_)
  show G Z X M 0 [(0, .ref (za Z t i)), (1, .long v)] []
  refine g_iconst (v := 0) h d_JA_fillJ_0 (by decide) ?_
  refine g_istore_n (lv' := [(3, .int 0), (0, .ref (za Z t i)), (1, .long v)]) h d_JA_fillJ_1 rfl (by decide) rfl ?_
  refine g_aload_n h d_JA_fillJ_2 rfl rfl ?_
  refine g_alenL (v := nI (nf t)) h hL hS hi hck rfl d_JA_fillJ_3 ?_
  refine g_istore (lv' := [(4, .int (nI (nf t))), (3, .int 0), (0, .ref (za Z t i)), (1, .long v)]) h d_JA_fillJ_4 (by decide) rfl ?_
  refine g_sub [2, 3, 1, 0] rfl ?_
  have e := w_fillJ hL hS hi hck h hQ (nf t + 1) 0 (by omega) (by omega)
  rw [fill_0J] at e
  exact e
end
section
def F_T_hasClass (v1 : Int32) (M : Mm) : Option (Int32 × Mm) := (if v1 < 0 then some (0, M) else (if (M.1 1 0 2) ≤ v1 then some (0, M) else some (1, M)))
def P_T_hasClass (v1 : Int32) (M : Mm) : Int32 := (if v1 < 0 then 0 else (if (M.1 1 0 2) ≤ v1 then 0 else 1))
theorem p_T_hasClass (v1 : Int32) (M : Mm) : F_T_hasClass v1 M = some (P_T_hasClass v1 M, M) := by
  unfold F_T_hasClass P_T_hasClass
  refine q_i ?_ ?_
  · rfl
  · refine q_i ?_ ?_
    · rfl
    · rfl
theorem z_T_hasClass (v1 : Int32) (M : Mm) : zo (P_T_hasClass v1 M) := by
  rw [P_T_hasClass]
  refine zo_i ?_ ?_
  · exact zo_0
  · refine zo_i ?_ ?_
    · exact zo_0
    · exact zo_1
def F_T_append (v1 : Int32) (v2 : Int32) (M : Mm) : Option (Int32 × Mm) := bnd v1 10 (bnd (M.1 1 0 2) 10 (lt (sI M 2 0 (M.1 1 0 2 : Int32).toNatClampNeg ((M.1 2 0 (v1 : Int32).toNatClampNeg) ||| ((1 : Int32) <<< ((M.1 1 0 2) &&& 31)))) fun M3 => bnd (M3.1 1 0 2) 10 (lt (sI M3 3 0 (M3.1 1 0 2 : Int32).toNatClampNeg (vp_nar .boolean v2)) fun M5 => lt (sI M5 1 0 2 ((M5.1 1 0 2) + 1)) fun M6 => some ((M6.1 1 0 2) - 1, M6))))
def F_G_cls (v1 : Int32) (v2 : Int32) (M : Mm) : Option (Int32 × Mm) := lt (P_T_hasClass v1 M) fun r2 => (if r2 = 0 then some ((-1), M) else (if (M.1 1 0 2) = 10 then some ((-2), M) else bd (F_T_append v1 v2 M) (fun r7 M6 => some (r7, M6))))
def F_T_isRef (v1 : Int32) (M : Mm) : Option (Int32 × Mm) := lt (v1 >>> ((6 : Int32) &&& 31) : Int32) fun n1 => (if n1 < 0 then some (0, M) else (if n1 ≤ 3 then lt (v1 &&& 63 : Int32) fun n4 => (if n4 = 12 then (if n1 ≤ 0 then some (0, M) else some (1, M)) else (if n4 < 16 then some (0, M) else (if ((16 : Int32) + (M.1 1 0 2)) ≤ n4 then some (0, M) else some (1, M)))) else some (0, M)))
def P_T_isRef (v1 : Int32) (M : Mm) : Int32 := lt (v1 >>> ((6 : Int32) &&& 31) : Int32) fun n1 => (if n1 < 0 then 0 else (if n1 ≤ 3 then lt (v1 &&& 63 : Int32) fun n4 => (if n4 = 12 then (if n1 ≤ 0 then 0 else 1) else (if n4 < 16 then 0 else (if ((16 : Int32) + (M.1 1 0 2)) ≤ n4 then 0 else 1))) else 0))
theorem p_T_isRef (v1 : Int32) (M : Mm) : F_T_isRef v1 M = some (P_T_isRef v1 M, M) := by
  unfold F_T_isRef P_T_isRef
  refine q_l ?_
  refine q_i ?_ ?_
  · rfl
  · refine q_i ?_ ?_
    · refine q_l ?_
      refine q_i ?_ ?_
      · refine q_i ?_ ?_
        · rfl
        · rfl
      · refine q_i ?_ ?_
        · rfl
        · refine q_i ?_ ?_
          · rfl
          · rfl
    · rfl
theorem z_T_isRef (v1 : Int32) (M : Mm) : zo (P_T_isRef v1 M) := by
  rw [P_T_isRef]
  refine zo_l ?_
  refine zo_i ?_ ?_
  · exact zo_0
  · refine zo_i ?_ ?_
    · refine zo_l ?_
      refine zo_i ?_ ?_
      · refine zo_i ?_ ?_
        · exact zo_0
        · exact zo_1
      · refine zo_i ?_ ?_
        · exact zo_0
        · refine zo_i ?_ ?_
          · exact zo_0
          · exact zo_1
    · exact zo_0
def F_T_isValue_b10  (v1 : Int32) (M : Mm) : Option (Int32 × Mm) := lt (P_T_isRef v1 M) fun r2 => (if r2 = 0 then some (0, M) else some (1, M))
def P_T_isValue_b10 (v1 : Int32) (M : Mm) : Int32 := lt (P_T_isRef v1 M) fun r2 => (if r2 = 0 then 0 else 1)
theorem p_T_isValue_b10 (v1 : Int32) (M : Mm) : F_T_isValue_b10 v1 M = some (P_T_isValue_b10 v1 M, M) := by
  unfold F_T_isValue_b10 P_T_isValue_b10
  refine q_l ?_
  refine q_i ?_ ?_
  · rfl
  · rfl
theorem z_T_isValue_b10 (v1 : Int32) (M : Mm) : zo (P_T_isValue_b10 v1 M) := by
  rw [P_T_isValue_b10]
  refine zo_l ?_
  refine zo_i ?_ ?_
  · exact zo_0
  · exact zo_1
def F_T_isValue (v1 : Int32) (M : Mm) : Option (Int32 × Mm) := (if v1 < 1 then F_T_isValue_b10 v1 M else (if v1 ≤ 4 then some (1, M) else F_T_isValue_b10 v1 M))
def P_T_isValue (v1 : Int32) (M : Mm) : Int32 := (if v1 < 1 then P_T_isValue_b10 v1 M else (if v1 ≤ 4 then 1 else P_T_isValue_b10 v1 M))
theorem p_T_isValue (v1 : Int32) (M : Mm) : F_T_isValue v1 M = some (P_T_isValue v1 M, M) := by
  unfold F_T_isValue P_T_isValue
  refine q_i ?_ ?_
  · exact p_T_isValue_b10 _ _
  · refine q_i ?_ ?_
    · rfl
    · exact p_T_isValue_b10 _ _
theorem z_T_isValue (v1 : Int32) (M : Mm) : zo (P_T_isValue v1 M) := by
  rw [P_T_isValue]
  refine zo_i ?_ ?_
  · exact z_T_isValue_b10 _ _
  · refine zo_i ?_ ?_
    · exact zo_1
    · exact z_T_isValue_b10 _ _
def F_M_restart (v1 : Int32) (v2 : Int32) (v3 : Int32) (M : Mm) : Option (Mm) := lt (sI M 4 0 11 v1) fun M1 => lt (sI M1 4 0 12 v2) fun M2 => lt (sI M2 4 0 13 v3) fun M3 => lt (sI M3 4 0 3 0) fun M4 => lt (sI M4 4 0 8 0) fun M5 => lt (sI M5 4 0 10 0) fun M6 => some M6
def F_G_begin_b17  (v1 : Int32) (v2 : Int32) (v3 : Int32) (M : Mm) : Option (Int32 × Mm) := (if v2 < 0 then some ((-1), M) else (if 12 < v2 then some ((-1), M) else (if v3 < 0 then some ((-1), M) else (if v3 ≤ 12 then bv (F_M_restart v1 v2 v3 M) (fun M6 => some (1, M6)) else some ((-1), M)))))
def F_G_begin (v1 : Int32) (v2 : Int32) (v3 : Int32) (M : Mm) : Option (Int32 × Mm) := (if v1 = 0 then F_G_begin_b17 v1 v2 v3 M else lt (P_T_isValue v1 M) fun r9 => (if r9 = 0 then some ((-1), M) else F_G_begin_b17 v1 v2 v3 M))
def F_M_appendArgument (v1 : Int32) (M : Mm) : Option (Int32 × Mm) := bnd (M.1 4 0 10) 6 (lt (sI M 12 0 (M.1 4 0 10 : Int32).toNatClampNeg v1) fun M2 => lt (sI M2 4 0 10 ((M2.1 4 0 10) + 1)) fun M3 => some (M3.1 4 0 10, M3))
def F_G_argument (v1 : Int32) (M : Mm) : Option (Int32 × Mm) := lt (P_T_isValue v1 M) fun r2 => (if r2 = 0 then some ((-1), M) else (if (M.1 4 0 10) = 6 then some ((-2), M) else bd (F_M_appendArgument v1 M) (fun r7 M6 => some (r7, M6))))
def F_G_isOp (v0 : Int32) (M : Mm) : Option (Int32 × Mm) := (if v0 < 0 then some (0, M) else (if 30 < v0 then some (0, M) else some (1, M)))
def P_G_isOp (v0 : Int32) (M : Mm) : Int32 := (if v0 < 0 then 0 else (if 30 < v0 then 0 else 1))
theorem p_G_isOp (v0 : Int32) (M : Mm) : F_G_isOp v0 M = some (P_G_isOp v0 M, M) := by
  unfold F_G_isOp P_G_isOp
  refine q_i ?_ ?_
  · rfl
  · refine q_i ?_ ?_
    · rfl
    · rfl
theorem z_G_isOp (v0 : Int32) (M : Mm) : zo (P_G_isOp v0 M) := by
  rw [P_G_isOp]
  refine zo_i ?_ ?_
  · exact zo_0
  · refine zo_i ?_ ?_
    · exact zo_0
    · exact zo_1
def F_M_write (v1 : Int32) (v2 : Int32) (v3 : Int32) (v4 : Int32) (M : Mm) : Option (Mm) := bnd v1 48 (lt (sI M 5 0 (v1 : Int32).toNatClampNeg v2) fun M2 => bnd v1 48 (lt (sI M2 6 0 (v1 : Int32).toNatClampNeg v3) fun M4 => bnd v1 48 (lt (sI M4 7 0 (v1 : Int32).toNatClampNeg v4) fun M6 => some M6)))
def F_M_append (v1 : Int32) (v2 : Int32) (v3 : Int32) (M : Mm) : Option (Int32 × Mm) := bv (F_M_write (M.1 4 0 3) v1 v2 v3 M) (fun M2 => lt (sI M2 4 0 3 ((M2.1 4 0 3) + 1)) fun M3 => some ((M3.1 4 0 3) - 1, M3))
def F_G_add (v1 : Int32) (v2 : Int32) (v3 : Int32) (M : Mm) : Option (Int32 × Mm) := lt (P_G_isOp v1 M) fun r2 => (if r2 = 0 then some ((-1), M) else (if (M.1 4 0 3) = 48 then some ((-2), M) else bd (F_M_append v1 v2 v3 M) (fun r7 M6 => some (r7, M6))))
def F_M_hasInstruction (v1 : Int32) (M : Mm) : Option (Int32 × Mm) := (if v1 < 0 then some (0, M) else (if (M.1 4 0 3) ≤ v1 then some (0, M) else some (1, M)))
def P_M_hasInstruction (v1 : Int32) (M : Mm) : Int32 := (if v1 < 0 then 0 else (if (M.1 4 0 3) ≤ v1 then 0 else 1))
theorem p_M_hasInstruction (v1 : Int32) (M : Mm) : F_M_hasInstruction v1 M = some (P_M_hasInstruction v1 M, M) := by
  unfold F_M_hasInstruction P_M_hasInstruction
  refine q_i ?_ ?_
  · rfl
  · refine q_i ?_ ?_
    · rfl
    · rfl
theorem z_M_hasInstruction (v1 : Int32) (M : Mm) : zo (P_M_hasInstruction v1 M) := by
  rw [P_M_hasInstruction]
  refine zo_i ?_ ?_
  · exact zo_0
  · refine zo_i ?_ ?_
    · exact zo_0
    · exact zo_1
def F_G_change (v1 : Int32) (v2 : Int32) (v3 : Int32) (v4 : Int32) (M : Mm) : Option (Int32 × Mm) := lt (P_M_hasInstruction v1 M) fun r2 => (if r2 = 0 then some ((-1), M) else lt (P_G_isOp v2 M) fun r5 => (if r5 = 0 then some ((-1), M) else bnd v1 48 (lt (M.1 5 0 (v1 : Int32).toNatClampNeg : Int32) fun n8 => bv (F_M_write v1 v2 v3 v4 M) (fun M10 => some (n8, M10)))))
def F_M_appendHandler (v1 : Int32) (v2 : Int32) (v3 : Int32) (v4 : Int32) (M : Mm) : Option (Int32 × Mm) := bnd (M.1 4 0 8) 3 (lt (sI M 8 0 (M.1 4 0 8 : Int32).toNatClampNeg v1) fun M2 => bnd (M2.1 4 0 8) 3 (lt (sI M2 9 0 (M2.1 4 0 8 : Int32).toNatClampNeg v2) fun M4 => bnd (M4.1 4 0 8) 3 (lt (sI M4 10 0 (M4.1 4 0 8 : Int32).toNatClampNeg v3) fun M6 => bnd (M6.1 4 0 8) 3 (lt (sI M6 11 0 (M6.1 4 0 8 : Int32).toNatClampNeg v4) fun M8 => lt (sI M8 4 0 8 ((M8.1 4 0 8) + 1)) fun M9 => some (M9.1 4 0 8, M9)))))
def F_G_handler (v1 : Int32) (v2 : Int32) (v3 : Int32) (v4 : Int32) (M : Mm) : Option (Int32 × Mm) := (if (M.1 4 0 8) = 3 then some ((-2), M) else bd (F_M_appendHandler v1 v2 v3 v4 M) (fun r4 M3 => some (r4, M3)))
def F_W_forget_b10  : Nat → Int32 → Mm → Option (Mm)
  | 0, _, _ => none
  | n + 1, v1, M => (if 48 ≤ v1 then lt (sI M 14 0 8 0) fun M2 => lt (sI M2 14 0 10 0) fun M3 => lt (sL M3 14 0 11 0) fun M4 => some M4 else bnd v1 48 (lt (sI M 16 0 (v1 : Int32).toNatClampNeg (vp_nar .boolean 0)) fun M6 => bnd v1 48 (lt (sI M6 17 0 (v1 : Int32).toNatClampNeg (vp_nar .boolean 0)) fun M8 => lt (v1 + 1) fun n9 => (F_W_forget_b10 n) n9 M8)))
def F_W_forget  (M : Mm) : Option (Mm) := lt (F_fillJ 18 0 0 M) fun M10 => F_W_forget_b10 fuel 0 M10
def F_M_hasLocal (v1 : Int32) (M : Mm) : Option (Int32 × Mm) := (if v1 < 0 then some (0, M) else (if (M.1 4 0 12) ≤ v1 then some (0, M) else some (1, M)))
def P_M_hasLocal (v1 : Int32) (M : Mm) : Int32 := (if v1 < 0 then 0 else (if (M.1 4 0 12) ≤ v1 then 0 else 1))
theorem p_M_hasLocal (v1 : Int32) (M : Mm) : F_M_hasLocal v1 M = some (P_M_hasLocal v1 M, M) := by
  unfold F_M_hasLocal P_M_hasLocal
  refine q_i ?_ ?_
  · rfl
  · refine q_i ?_ ?_
    · rfl
    · rfl
theorem z_M_hasLocal (v1 : Int32) (M : Mm) : zo (P_M_hasLocal v1 M) := by
  rw [P_M_hasLocal]
  refine zo_i ?_ ?_
  · exact zo_0
  · refine zo_i ?_ ?_
    · exact zo_0
    · exact zo_1
def F_O_isNumber (v0 : Int32) (M : Mm) : Option (Int32 × Mm) := (if v0 < 1 then some (0, M) else (if 4 < v0 then some (0, M) else some (1, M)))
def P_O_isNumber (v0 : Int32) (M : Mm) : Int32 := (if v0 < 1 then 0 else (if 4 < v0 then 0 else 1))
theorem p_O_isNumber (v0 : Int32) (M : Mm) : F_O_isNumber v0 M = some (P_O_isNumber v0 M, M) := by
  unfold F_O_isNumber P_O_isNumber
  refine q_i ?_ ?_
  · rfl
  · refine q_i ?_ ?_
    · rfl
    · rfl
theorem z_O_isNumber (v0 : Int32) (M : Mm) : zo (P_O_isNumber v0 M) := by
  rw [P_O_isNumber]
  refine zo_i ?_ ?_
  · exact zo_0
  · refine zo_i ?_ ?_
    · exact zo_0
    · exact zo_1
def F_T_isRow (v1 : Int32) (M : Mm) : Option (Int32 × Mm) := (if v1 < 64 then some (0, M) else lt (P_T_isRef v1 M) fun r3 => (if r3 = 0 then some (0, M) else some (1, M)))
def P_T_isRow (v1 : Int32) (M : Mm) : Int32 := (if v1 < 64 then 0 else lt (P_T_isRef v1 M) fun r3 => (if r3 = 0 then 0 else 1))
theorem p_T_isRow (v1 : Int32) (M : Mm) : F_T_isRow v1 M = some (P_T_isRow v1 M, M) := by
  unfold F_T_isRow P_T_isRow
  refine q_i ?_ ?_
  · rfl
  · refine q_l ?_
    refine q_i ?_ ?_
    · rfl
    · rfl
theorem z_T_isRow (v1 : Int32) (M : Mm) : zo (P_T_isRow v1 M) := by
  rw [P_T_isRow]
  refine zo_i ?_ ?_
  · exact zo_0
  · refine zo_l ?_
    refine zo_i ?_ ?_
    · exact zo_0
    · exact zo_1
def F_O_isWellFormed (v1 : Int32) (v2 : Int32) (v3 : Int32) (M : Mm) : Option (Int32 × Mm) := (if v1 = 1 then (if v2 < 1 then some (0, M) else (if 5 < v2 then some (0, M) else some (1, M))) else (if v1 = 2 then lt (P_M_hasLocal v2 M) fun r4 => bnz r4 (some (r4, M)) else (if v1 = 3 then lt (P_M_hasLocal v2 M) fun r7 => bnz r7 (some (r7, M)) else (if v1 = 4 then some (1, M) else (if v1 = 5 then some (1, M) else (if v1 = 6 then some (1, M) else (if v1 = 7 then some (1, M) else (if v1 = 8 then some (1, M) else (if v1 = 9 then lt (P_O_isNumber v2 M) fun r10 => bnz r10 (some (r10, M)) else (if v1 = 10 then lt (P_O_isNumber v2 M) fun r13 => (if r13 = 0 then some (0, M) else lt (P_O_isNumber v3 M) fun r16 => (if r16 = 0 then some (0, M) else some (1, M))) else (if v1 = 11 then (if v2 < 2 then some (0, M) else (if 4 < v2 then some (0, M) else some (1, M))) else (if v1 = 12 then lt (P_M_hasInstruction v3 M) fun r21 => bnz r21 (some (r21, M)) else (if v1 = 13 then lt (P_M_hasInstruction v3 M) fun r24 => bnz r24 (some (r24, M)) else (if v1 = 14 then lt (P_M_hasInstruction v3 M) fun r27 => bnz r27 (some (r27, M)) else (if v1 = 15 then lt (P_M_hasInstruction v3 M) fun r30 => bnz r30 (some (r30, M)) else (if v1 = 16 then lt (P_M_hasLocal v2 M) fun r33 => bnz r33 (some (r33, M)) else (if v1 = 17 then lt (P_M_hasInstruction v2 M) fun r36 => (if r36 = 0 then some (0, M) else lt (P_M_hasInstruction v3 M) fun r39 => (if r39 = 0 then some (0, M) else some (1, M))) else (if v1 = 18 then some (1, M) else (if v1 = 19 then some (1, M) else (if v1 = 20 then lt (P_T_hasClass v2 M) fun r42 => bnz r42 (some (r42, M)) else (if v1 = 21 then lt (P_T_hasClass v2 M) fun r45 => bnz r45 (some (r45, M)) else (if v1 = 22 then lt (P_T_hasClass v2 M) fun r48 => (if r48 = 0 then some (0, M) else lt (P_T_isValue v3 M) fun r51 => (if r51 = 0 then some (0, M) else some (1, M))) else (if v1 = 23 then lt (P_T_hasClass v2 M) fun r54 => (if r54 = 0 then some (0, M) else lt (P_T_isValue v3 M) fun r57 => (if r57 = 0 then some (0, M) else some (1, M))) else (if v1 = 24 then lt (P_T_isValue v2 M) fun r60 => (if r60 = 0 then some (0, M) else lt (P_T_isValue v3 M) fun r63 => (if r63 = 0 then some (0, M) else some (1, M))) else (if v1 = 25 then lt (P_T_isRef v2 M) fun r66 => bnz r66 (some (r66, M)) else (if v1 = 26 then (if v2 = 12 then some (1, M) else (if 192 ≤ v2 then some (0, M) else lt (P_T_isRef v2 M) fun r71 => (if r71 = 0 then some (0, M) else some (1, M)))) else (if v1 = 27 then lt (P_T_isRow v2 M) fun r74 => bnz r74 (some (r74, M)) else (if v1 = 28 then lt (P_T_isRow v2 M) fun r77 => bnz r77 (some (r77, M)) else (if v1 = 29 then some (1, M) else (if v1 = 30 then lt (P_M_hasLocal v2 M) fun r80 => bnz r80 (some (r80, M)) else some (1, M)))))))))))))))))))))))))))))))
def P_O_isWellFormed (v1 : Int32) (v2 : Int32) (v3 : Int32) (M : Mm) : Int32 := (if v1 = 1 then (if v2 < 1 then 0 else (if 5 < v2 then 0 else 1)) else (if v1 = 2 then lt (P_M_hasLocal v2 M) fun r4 => r4 else (if v1 = 3 then lt (P_M_hasLocal v2 M) fun r7 => r7 else (if v1 = 4 then 1 else (if v1 = 5 then 1 else (if v1 = 6 then 1 else (if v1 = 7 then 1 else (if v1 = 8 then 1 else (if v1 = 9 then lt (P_O_isNumber v2 M) fun r10 => r10 else (if v1 = 10 then lt (P_O_isNumber v2 M) fun r13 => (if r13 = 0 then 0 else lt (P_O_isNumber v3 M) fun r16 => (if r16 = 0 then 0 else 1)) else (if v1 = 11 then (if v2 < 2 then 0 else (if 4 < v2 then 0 else 1)) else (if v1 = 12 then lt (P_M_hasInstruction v3 M) fun r21 => r21 else (if v1 = 13 then lt (P_M_hasInstruction v3 M) fun r24 => r24 else (if v1 = 14 then lt (P_M_hasInstruction v3 M) fun r27 => r27 else (if v1 = 15 then lt (P_M_hasInstruction v3 M) fun r30 => r30 else (if v1 = 16 then lt (P_M_hasLocal v2 M) fun r33 => r33 else (if v1 = 17 then lt (P_M_hasInstruction v2 M) fun r36 => (if r36 = 0 then 0 else lt (P_M_hasInstruction v3 M) fun r39 => (if r39 = 0 then 0 else 1)) else (if v1 = 18 then 1 else (if v1 = 19 then 1 else (if v1 = 20 then lt (P_T_hasClass v2 M) fun r42 => r42 else (if v1 = 21 then lt (P_T_hasClass v2 M) fun r45 => r45 else (if v1 = 22 then lt (P_T_hasClass v2 M) fun r48 => (if r48 = 0 then 0 else lt (P_T_isValue v3 M) fun r51 => (if r51 = 0 then 0 else 1)) else (if v1 = 23 then lt (P_T_hasClass v2 M) fun r54 => (if r54 = 0 then 0 else lt (P_T_isValue v3 M) fun r57 => (if r57 = 0 then 0 else 1)) else (if v1 = 24 then lt (P_T_isValue v2 M) fun r60 => (if r60 = 0 then 0 else lt (P_T_isValue v3 M) fun r63 => (if r63 = 0 then 0 else 1)) else (if v1 = 25 then lt (P_T_isRef v2 M) fun r66 => r66 else (if v1 = 26 then (if v2 = 12 then 1 else (if 192 ≤ v2 then 0 else lt (P_T_isRef v2 M) fun r71 => (if r71 = 0 then 0 else 1))) else (if v1 = 27 then lt (P_T_isRow v2 M) fun r74 => r74 else (if v1 = 28 then lt (P_T_isRow v2 M) fun r77 => r77 else (if v1 = 29 then 1 else (if v1 = 30 then lt (P_M_hasLocal v2 M) fun r80 => r80 else 1))))))))))))))))))))))))))))))
theorem p_O_isWellFormed (v1 : Int32) (v2 : Int32) (v3 : Int32) (M : Mm) : F_O_isWellFormed v1 v2 v3 M = some (P_O_isWellFormed v1 v2 v3 M, M) := by
  unfold F_O_isWellFormed P_O_isWellFormed
  refine q_i ?_ ?_
  · refine q_i ?_ ?_
    · rfl
    · refine q_i ?_ ?_
      · rfl
      · rfl
  · refine q_i ?_ ?_
    · refine q_l ?_
      exact q_b (z_M_hasLocal _ _)
    · refine q_i ?_ ?_
      · refine q_l ?_
        exact q_b (z_M_hasLocal _ _)
      · refine q_i ?_ ?_
        · rfl
        · refine q_i ?_ ?_
          · rfl
          · refine q_i ?_ ?_
            · rfl
            · refine q_i ?_ ?_
              · rfl
              · refine q_i ?_ ?_
                · rfl
                · refine q_i ?_ ?_
                  · refine q_l ?_
                    exact q_b (z_O_isNumber _ _)
                  · refine q_i ?_ ?_
                    · refine q_l ?_
                      refine q_i ?_ ?_
                      · rfl
                      · refine q_l ?_
                        refine q_i ?_ ?_
                        · rfl
                        · rfl
                    · refine q_i ?_ ?_
                      · refine q_i ?_ ?_
                        · rfl
                        · refine q_i ?_ ?_
                          · rfl
                          · rfl
                      · refine q_i ?_ ?_
                        · refine q_l ?_
                          exact q_b (z_M_hasInstruction _ _)
                        · refine q_i ?_ ?_
                          · refine q_l ?_
                            exact q_b (z_M_hasInstruction _ _)
                          · refine q_i ?_ ?_
                            · refine q_l ?_
                              exact q_b (z_M_hasInstruction _ _)
                            · refine q_i ?_ ?_
                              · refine q_l ?_
                                exact q_b (z_M_hasInstruction _ _)
                              · refine q_i ?_ ?_
                                · refine q_l ?_
                                  exact q_b (z_M_hasLocal _ _)
                                · refine q_i ?_ ?_
                                  · refine q_l ?_
                                    refine q_i ?_ ?_
                                    · rfl
                                    · refine q_l ?_
                                      refine q_i ?_ ?_
                                      · rfl
                                      · rfl
                                  · refine q_i ?_ ?_
                                    · rfl
                                    · refine q_i ?_ ?_
                                      · rfl
                                      · refine q_i ?_ ?_
                                        · refine q_l ?_
                                          exact q_b (z_T_hasClass _ _)
                                        · refine q_i ?_ ?_
                                          · refine q_l ?_
                                            exact q_b (z_T_hasClass _ _)
                                          · refine q_i ?_ ?_
                                            · refine q_l ?_
                                              refine q_i ?_ ?_
                                              · rfl
                                              · refine q_l ?_
                                                refine q_i ?_ ?_
                                                · rfl
                                                · rfl
                                            · refine q_i ?_ ?_
                                              · refine q_l ?_
                                                refine q_i ?_ ?_
                                                · rfl
                                                · refine q_l ?_
                                                  refine q_i ?_ ?_
                                                  · rfl
                                                  · rfl
                                              · refine q_i ?_ ?_
                                                · refine q_l ?_
                                                  refine q_i ?_ ?_
                                                  · rfl
                                                  · refine q_l ?_
                                                    refine q_i ?_ ?_
                                                    · rfl
                                                    · rfl
                                                · refine q_i ?_ ?_
                                                  · refine q_l ?_
                                                    exact q_b (z_T_isRef _ _)
                                                  · refine q_i ?_ ?_
                                                    · refine q_i ?_ ?_
                                                      · rfl
                                                      · refine q_i ?_ ?_
                                                        · rfl
                                                        · refine q_l ?_
                                                          refine q_i ?_ ?_
                                                          · rfl
                                                          · rfl
                                                    · refine q_i ?_ ?_
                                                      · refine q_l ?_
                                                        exact q_b (z_T_isRow _ _)
                                                      · refine q_i ?_ ?_
                                                        · refine q_l ?_
                                                          exact q_b (z_T_isRow _ _)
                                                        · refine q_i ?_ ?_
                                                          · rfl
                                                          · refine q_i ?_ ?_
                                                            · refine q_l ?_
                                                              exact q_b (z_M_hasLocal _ _)
                                                            · rfl
theorem z_O_isWellFormed (v1 : Int32) (v2 : Int32) (v3 : Int32) (M : Mm) : zo (P_O_isWellFormed v1 v2 v3 M) := by
  rw [P_O_isWellFormed]
  refine zo_i ?_ ?_
  · refine zo_i ?_ ?_
    · exact zo_0
    · refine zo_i ?_ ?_
      · exact zo_0
      · exact zo_1
  · refine zo_i ?_ ?_
    · refine zo_l ?_
      exact z_M_hasLocal _ _
    · refine zo_i ?_ ?_
      · refine zo_l ?_
        exact z_M_hasLocal _ _
      · refine zo_i ?_ ?_
        · exact zo_1
        · refine zo_i ?_ ?_
          · exact zo_1
          · refine zo_i ?_ ?_
            · exact zo_1
            · refine zo_i ?_ ?_
              · exact zo_1
              · refine zo_i ?_ ?_
                · exact zo_1
                · refine zo_i ?_ ?_
                  · refine zo_l ?_
                    exact z_O_isNumber _ _
                  · refine zo_i ?_ ?_
                    · refine zo_l ?_
                      refine zo_i ?_ ?_
                      · exact zo_0
                      · refine zo_l ?_
                        refine zo_i ?_ ?_
                        · exact zo_0
                        · exact zo_1
                    · refine zo_i ?_ ?_
                      · refine zo_i ?_ ?_
                        · exact zo_0
                        · refine zo_i ?_ ?_
                          · exact zo_0
                          · exact zo_1
                      · refine zo_i ?_ ?_
                        · refine zo_l ?_
                          exact z_M_hasInstruction _ _
                        · refine zo_i ?_ ?_
                          · refine zo_l ?_
                            exact z_M_hasInstruction _ _
                          · refine zo_i ?_ ?_
                            · refine zo_l ?_
                              exact z_M_hasInstruction _ _
                            · refine zo_i ?_ ?_
                              · refine zo_l ?_
                                exact z_M_hasInstruction _ _
                              · refine zo_i ?_ ?_
                                · refine zo_l ?_
                                  exact z_M_hasLocal _ _
                                · refine zo_i ?_ ?_
                                  · refine zo_l ?_
                                    refine zo_i ?_ ?_
                                    · exact zo_0
                                    · refine zo_l ?_
                                      refine zo_i ?_ ?_
                                      · exact zo_0
                                      · exact zo_1
                                  · refine zo_i ?_ ?_
                                    · exact zo_1
                                    · refine zo_i ?_ ?_
                                      · exact zo_1
                                      · refine zo_i ?_ ?_
                                        · refine zo_l ?_
                                          exact z_T_hasClass _ _
                                        · refine zo_i ?_ ?_
                                          · refine zo_l ?_
                                            exact z_T_hasClass _ _
                                          · refine zo_i ?_ ?_
                                            · refine zo_l ?_
                                              refine zo_i ?_ ?_
                                              · exact zo_0
                                              · refine zo_l ?_
                                                refine zo_i ?_ ?_
                                                · exact zo_0
                                                · exact zo_1
                                            · refine zo_i ?_ ?_
                                              · refine zo_l ?_
                                                refine zo_i ?_ ?_
                                                · exact zo_0
                                                · refine zo_l ?_
                                                  refine zo_i ?_ ?_
                                                  · exact zo_0
                                                  · exact zo_1
                                              · refine zo_i ?_ ?_
                                                · refine zo_l ?_
                                                  refine zo_i ?_ ?_
                                                  · exact zo_0
                                                  · refine zo_l ?_
                                                    refine zo_i ?_ ?_
                                                    · exact zo_0
                                                    · exact zo_1
                                                · refine zo_i ?_ ?_
                                                  · refine zo_l ?_
                                                    exact z_T_isRef _ _
                                                  · refine zo_i ?_ ?_
                                                    · refine zo_i ?_ ?_
                                                      · exact zo_1
                                                      · refine zo_i ?_ ?_
                                                        · exact zo_0
                                                        · refine zo_l ?_
                                                          refine zo_i ?_ ?_
                                                          · exact zo_0
                                                          · exact zo_1
                                                    · refine zo_i ?_ ?_
                                                      · refine zo_l ?_
                                                        exact z_T_isRow _ _
                                                      · refine zo_i ?_ ?_
                                                        · refine zo_l ?_
                                                          exact z_T_isRow _ _
                                                        · refine zo_i ?_ ?_
                                                          · exact zo_1
                                                          · refine zo_i ?_ ?_
                                                            · refine zo_l ?_
                                                              exact z_M_hasLocal _ _
                                                            · exact zo_1
def F_T_isBelow (v1 : Int32) (v2 : Int32) (M : Mm) : Option (Int32 × Mm) := bnd v1 10 ((if ((M.1 2 0 (v1 : Int32).toNatClampNeg) >>> (v2 &&& 31) &&& 1) = 0 then some (0, M) else some (1, M)))
def F_O_isHandlerWellFormed_b58  (v1 : Int32) (s0 : Int32) (M : Mm) : Option (Int32 × Mm) := (if s0 = 0 then some (0, M) else bnd v1 3 (lt (P_M_hasInstruction (M.1 10 0 (v1 : Int32).toNatClampNeg) M) fun r4 => (if r4 = 0 then some (0, M) else bnd v1 3 (lt (M.1 11 0 (v1 : Int32).toNatClampNeg : Int32) fun n7 => lt (P_T_hasClass n7 M) fun r9 => (if r9 = 0 then some (0, M) else bd (F_T_isBelow n7 1 M) (fun r13 M12 => (if r13 = 0 then some (0, M12) else some (1, M12))))))))
def F_O_isHandlerWellFormed_b57  (v1 : Int32) (M : Mm) : Option (Int32 × Mm) := F_O_isHandlerWellFormed_b58 v1 0 M
def F_O_isHandlerWellFormed (v1 : Int32) (M : Mm) : Option (Int32 × Mm) := bnd v1 3 ((if (M.1 8 0 (v1 : Int32).toNatClampNeg) < (0 : Int32) then F_O_isHandlerWellFormed_b57 v1 M else bnd v1 3 (bnd v1 3 ((if (M.1 9 0 (v1 : Int32).toNatClampNeg) ≤ (M.1 8 0 (v1 : Int32).toNatClampNeg) then F_O_isHandlerWellFormed_b57 v1 M else bnd v1 3 ((if (M.1 4 0 3) < (M.1 9 0 (v1 : Int32).toNatClampNeg) then F_O_isHandlerWellFormed_b57 v1 M else F_O_isHandlerWellFormed_b58 v1 1 M)))))))
def F_G_widthOf (v0 : Int32) (M : Mm) : Option (Int32 × Mm) := (if v0 = 3 then some (2, M) else (if v0 = 4 then some (2, M) else some (1, M)))
def P_G_widthOf (v0 : Int32) (M : Mm) : Int32 := (if v0 = 3 then 2 else (if v0 = 4 then 2 else 1))
theorem p_G_widthOf (v0 : Int32) (M : Mm) : F_G_widthOf v0 M = some (P_G_widthOf v0 M, M) := by
  unfold F_G_widthOf P_G_widthOf
  refine q_i ?_ ?_
  · rfl
  · refine q_i ?_ ?_
    · rfl
    · rfl
def F_O_haveArgumentsRoom_b4  : Nat → Int32 → Int32 → Mm → Option (Int32 × Mm)
  | 0, _, _, _ => none
  | n + 1, v1, v2, M => (if (M.1 4 0 10) ≤ v2 then (if (M.1 4 0 12) < v1 then some (0, M) else some (1, M)) else bnd v2 6 (lt (P_G_widthOf (M.1 12 0 (v2 : Int32).toNatClampNeg) M) fun r5 => lt (v1 + r5 : Int32) fun n6 => lt (v2 + 1) fun n7 => (F_O_haveArgumentsRoom_b4 n) n6 n7 M))
def F_O_haveArgumentsRoom  (M : Mm) : Option (Int32 × Mm) := F_O_haveArgumentsRoom_b4 fuel 0 0 M
def F_O_findFault_b69  : Nat → Int32 → Mm → Option (Int32 × Mm)
  | 0, _, _ => none
  | n + 1, v1, M => (if (M.1 4 0 8) ≤ v1 then bd (F_O_haveArgumentsRoom M) (fun r4 M3 => (if r4 = 0 then some (200, M3) else some ((-1), M3))) else bd (F_O_isHandlerWellFormed v1 M) (fun r8 M7 => (if r8 = 0 then some ((100 : Int32) + v1, M7) else lt (v1 + 1) fun n10 => (F_O_findFault_b69 n) n10 M7)))
def F_O_findFault_b14  : Nat → Int32 → Mm → Option (Int32 × Mm)
  | 0, _, _ => none
  | n + 1, v1, M => (if (M.1 4 0 3) ≤ v1 then F_O_findFault_b69 fuel 0 M else bnd v1 48 (bnd v1 48 (bnd v1 48 (lt (P_O_isWellFormed (M.1 5 0 (v1 : Int32).toNatClampNeg) (M.1 6 0 (v1 : Int32).toNatClampNeg) (M.1 7 0 (v1 : Int32).toNatClampNeg) M) fun r16 => (if r16 = 0 then some (v1, M) else lt (v1 + 1) fun n18 => (F_O_findFault_b14 n) n18 M)))))
def F_O_findFault  (M : Mm) : Option (Int32 × Mm) := (if (M.1 4 0 3) = 0 then some (0, M) else F_O_findFault_b14 fuel 0 M)
def F_R_start_b30  : Nat → Nat → Int32 → Int32 → Mm → Option (Mm)
  | 0, _, _, _, _ => none
  | n + 1, i0, v2, v3, M => (if (M.1 4 0 10) ≤ v3 then some M else (if 12 ≤ v2 then some M else bnd v3 6 (bnd v2 12 (lt (sI M 20 i0 (v2 : Int32).toNatClampNeg (M.1 12 0 (v3 : Int32).toNatClampNeg)) fun M5 => bnd v3 6 (lt (P_G_widthOf (M5.1 12 0 (v3 : Int32).toNatClampNeg) M5) fun r8 => lt (v2 + r8 : Int32) fun n9 => lt (v3 + 1) fun n10 => (F_R_start_b30 n) i0 n9 n10 M5)))))
def F_R_start (i0 : Nat) (M : Mm) : Option (Mm) := lt (F_fillI 20 i0 0 M) fun M11 => lt (F_fillI 22 i0 0 M11) fun M12 => lt (sI M12 19 i0 2 0) fun M13 => lt (sL M13 19 i0 3 0) fun M14 => F_R_start_b30 fuel i0 0 0 M14
def F_G_isRaw (v0 : Int32) (M : Mm) : Option (Int32 × Mm) := (if v0 < 1000 then some (0, M) else (if 1048 ≤ v0 then some (0, M) else some (1, M)))
def P_G_isRaw (v0 : Int32) (M : Mm) : Int32 := (if v0 < 1000 then 0 else (if 1048 ≤ v0 then 0 else 1))
theorem p_G_isRaw (v0 : Int32) (M : Mm) : F_G_isRaw v0 M = some (P_G_isRaw v0 M, M) := by
  unfold F_G_isRaw P_G_isRaw
  refine q_i ?_ ?_
  · rfl
  · refine q_i ?_ ?_
    · rfl
    · rfl
theorem z_G_isRaw (v0 : Int32) (M : Mm) : zo (P_G_isRaw v0 M) := by
  rw [P_G_isRaw]
  refine zo_i ?_ ?_
  · exact zo_0
  · refine zo_i ?_ ?_
    · exact zo_0
    · exact zo_1
def F_R_hasRawLocal_b2  : Nat → Nat → Int32 → Mm → Option (Int32 × Mm)
  | 0, _, _, _ => none
  | n + 1, i0, v1, M => (if 12 ≤ v1 then some (0, M) else bnd v1 12 (lt (P_G_isRaw (M.1 20 i0 (v1 : Int32).toNatClampNeg) M) fun r4 => (if r4 = 0 then lt (v1 + 1) fun n6 => (F_R_hasRawLocal_b2 n) i0 n6 M else some (1, M))))
def F_R_hasRawLocal (i0 : Nat) (M : Mm) : Option (Int32 × Mm) := F_R_hasRawLocal_b2 fuel i0 0 M
def F_R_hasRaw_b2  : Nat → Nat → Int32 → Mm → Option (Int32 × Mm)
  | 0, _, _, _ => none
  | n + 1, i0, v1, M => (if (M.1 19 i0 2) ≤ v1 then bd (F_R_hasRawLocal i0 M) (fun r4 M3 => bnz r4 (some (r4, M3))) else bnd v1 12 (lt (P_G_isRaw (M.1 21 i0 (v1 : Int32).toNatClampNeg) M) fun r8 => (if r8 = 0 then lt (v1 + 1) fun n10 => (F_R_hasRaw_b2 n) i0 n10 M else some (1, M))))
def F_R_hasRaw (i0 : Nat) (M : Mm) : Option (Int32 × Mm) := F_R_hasRaw_b2 fuel i0 0 M
def F_R_copy (i0 : Nat) (i1 : Nat) (M : Mm) : Option (Mm) := lt (sA M 20 i0 (va_cpy (M.1 20 i1) (M.1 20 i0) (0 : Int32).toNatClampNeg (0 : Int32).toNatClampNeg (12 : Int32).toNatClampNeg)) fun M1 => lt (sA M1 21 i0 (va_cpy (M1.1 21 i1) (M1.1 21 i0) (0 : Int32).toNatClampNeg (0 : Int32).toNatClampNeg (12 : Int32).toNatClampNeg)) fun M2 => lt (sA M2 22 i0 (va_cpy (M2.1 22 i1) (M2.1 22 i0) (0 : Int32).toNatClampNeg (0 : Int32).toNatClampNeg (48 : Int32).toNatClampNeg)) fun M3 => lt (sI M3 19 i0 2 (M3.1 19 i1 2)) fun M4 => lt (sL M4 19 i0 3 (M4.2 19 i1 3)) fun M5 => some M5
def F_W_reach (v1 : Int32) (i2 : Nat) (M : Mm) : Option (Mm) := bnd v1 48 (bv (F_R_copy ((v1 : Int32).toNatClampNeg + 2) i2 M) (fun M3 => bnd v1 48 (lt (sI M3 16 0 (v1 : Int32).toNatClampNeg (vp_nar .boolean 1)) fun M5 => bnd v1 48 (lt (sI M5 17 0 (v1 : Int32).toNatClampNeg (vp_nar .boolean 1)) fun M7 => lt (sI M7 14 0 10 ((M7.1 14 0 10) + 1)) fun M8 => bnd v1 48 ((if (M8.1 5 0 (v1 : Int32).toNatClampNeg) = 15 then bnd v1 48 (lt (sL M8 14 0 11 ((M8.2 14 0 11) ||| ((1 : Int64) <<< ((M8.1 7 0 (v1 : Int32).toNatClampNeg : Int32).toInt64 &&& 63)))) fun M12 => some M12) else some M8))))))
def F_R_isIn (i0 : Nat) (v1 : Int32) (M : Mm) : Option (Int32 × Mm) := (if (lg_cmp ((M.2 19 i0 3 : Int64) >>> ((v1 : Int32).toInt64 &&& 63) &&& 1) 0) = 0 then some (0, M) else some (1, M))
def P_R_isIn (i0 : Nat) (v1 : Int32) (M : Mm) : Int32 := (if (lg_cmp ((M.2 19 i0 3 : Int64) >>> ((v1 : Int32).toInt64 &&& 63) &&& 1) 0) = 0 then 0 else 1)
theorem p_R_isIn (i0 : Nat) (v1 : Int32) (M : Mm) : F_R_isIn i0 v1 M = some (P_R_isIn i0 v1 M, M) := by
  unfold F_R_isIn P_R_isIn
  refine q_i ?_ ?_
  · rfl
  · rfl
theorem z_R_isIn (i0 : Nat) (v1 : Int32) (M : Mm) : zo (P_R_isIn i0 v1 M) := by
  rw [P_R_isIn]
  refine zo_i ?_ ?_
  · exact zo_0
  · exact zo_1
def F_R_absorbSubs_b98 (K37 : Nat → Nat → Int64 → Int32 → Int32 → Mm → Option (Int32 × Mm)) (i0 : Nat) (i1 : Nat) (v2 : Int64) (v4 : Int32) (v5 : Int32) (v6 : Int32) (M : Mm) : Option (Int32 × Mm) := bnd v5 48 (lt (sI M 22 i0 (v5 : Int32).toNatClampNeg v6) fun M2 => lt (v5 + 1) fun n3 => K37 i0 i1 v2 v4 n3 M2)
def F_R_absorbSubs_b81 (K37 : Nat → Nat → Int64 → Int32 → Int32 → Mm → Option (Int32 × Mm)) (i0 : Nat) (i1 : Nat) (v2 : Int64) (v4 : Int32) (v5 : Int32) (s0 : Int32) (M : Mm) : Option (Int32 × Mm) := bnd v5 48 ((if s0 = (M.1 22 i0 (v5 : Int32).toNatClampNeg) then F_R_absorbSubs_b98 K37 i0 i1 v2 v4 v5 s0 M else F_R_absorbSubs_b98 K37 i0 i1 v2 1 v5 s0 M))
def F_R_absorbSubs_b37  : Nat → Nat → Nat → Int64 → Int32 → Int32 → Mm → Option (Int32 × Mm)
  | 0, _, _, _, _, _, _ => none
  | n + 1, i0, i1, v2, v4, v5, M => (if 48 ≤ v5 then bnz v4 (some (v4, M)) else (if (lg_cmp ((v2 : Int64) >>> ((v5 : Int32).toInt64 &&& 63)) 0) = 0 then bnz v4 (some (v4, M)) else lt (P_R_isIn i0 v5 M) fun r11 => (if r11 = 0 then F_R_absorbSubs_b81 (F_R_absorbSubs_b37 n) i0 i1 v2 v4 v5 0 M else bnd v5 48 (bnd v5 48 (F_R_absorbSubs_b81 (F_R_absorbSubs_b37 n) i0 i1 v2 v4 v5 ((M.1 22 i0 (v5 : Int32).toNatClampNeg) ||| (M.1 22 i1 (v5 : Int32).toNatClampNeg)) M)))))
def F_R_absorbSubs_b32  (i0 : Nat) (i1 : Nat) (v2 : Int64) (s0 : Int32) (M : Mm) : Option (Int32 × Mm) := F_R_absorbSubs_b37 fuel i0 i1 v2 s0 0 M
def F_R_absorbSubs (i0 : Nat) (i1 : Nat) (M : Mm) : Option (Int32 × Mm) := lt (M.2 19 i0 3 : Int64) fun n15 => lt (sL M 19 i0 3 ((M.2 19 i0 3) &&& (M.2 19 i1 3))) fun M16 => (if (lg_cmp (M16.2 19 i0 3) n15) = 0 then F_R_absorbSubs_b32 i0 i1 n15 0 M16 else F_R_absorbSubs_b32 i0 i1 n15 1 M16)
def F_T_joinedClasses_b53  : Nat → Int32 → Int32 → Mm → Option (Int32 × Mm)
  | 0, _, _, _ => none
  | n + 1, v3, v4, M => (if v4 ≤ 0 then some (16, M) else (if ((v3 >>> (v4 &&& 31)) &&& 1) = 0 then lt (v4 + (-1)) fun n3 => (F_T_joinedClasses_b53 n) v3 n3 M else some ((16 : Int32) + v4, M)))
def F_T_joinedClasses (v1 : Int32) (v2 : Int32) (M : Mm) : Option (Int32 × Mm) := bnd (v1 - 16) 10 ((if (M.1 3 0 (v1 - 16 : Int32).toNatClampNeg) = 0 then bnd (v2 - 16) 10 ((if (M.1 3 0 (v2 - 16 : Int32).toNatClampNeg) = 0 then bnd (v1 - 16) 10 (bnd (v2 - 16) 10 (lt ((M.1 2 0 (v1 - 16 : Int32).toNatClampNeg) &&& (M.1 2 0 (v2 - 16 : Int32).toNatClampNeg) : Int32) fun n10 => lt (v1 - 16 : Int32) fun n11 => F_T_joinedClasses_b53 fuel n10 n11 M)) else some (16, M))) else some (16, M)))
def F_T_joined_b106  (v7 : Int32) (M : Mm) : Option (Int32 × Mm) := some ((64 : Int32) * (v7 - 1) + 16, M)
def P_T_joined_b106 (v7 : Int32) (M : Mm) : Int32 := (64 : Int32) * (v7 - 1) + 16
theorem p_T_joined_b106 (v7 : Int32) (M : Mm) : F_T_joined_b106 v7 M = some (P_T_joined_b106 v7 M, M) := by
  unfold F_T_joined_b106 P_T_joined_b106
  rfl
def F_T_joined_b80  (v1 : Int32) (v2 : Int32) (v5 : Int32) (v6 : Int32) (s0 : Int32) (M : Mm) : Option (Int32 × Mm) := (if (v1 - ((64 : Int32) * s0)) = 12 then F_T_joined_b106 s0 M else (if (v2 - ((64 : Int32) * s0)) = 12 then F_T_joined_b106 s0 M else (if v5 = v6 then bd (F_T_joinedClasses (v1 - ((64 : Int32) * s0)) (v2 - ((64 : Int32) * s0)) M) (fun r6 M5 => some ((64 : Int32) * s0 + r6, M5)) else some ((64 : Int32) * s0 + 16, M))))
def F_T_joined_b43  (v1 : Int32) (v2 : Int32) (v3 : Int32) (v4 : Int32) (M : Mm) : Option (Int32 × Mm) := (if v3 = 0 then some (0, M) else (if v4 = 0 then some (0, M) else lt (v1 >>> ((6 : Int32) &&& 31) : Int32) fun n9 => lt (v2 >>> ((6 : Int32) &&& 31) : Int32) fun n10 => (if n10 ≤ n9 then F_T_joined_b80 v1 v2 n9 n10 n10 M else F_T_joined_b80 v1 v2 n9 n10 n9 M)))
def F_T_joined_b31  (v1 : Int32) (v2 : Int32) (v3 : Int32) (v4 : Int32) (M : Mm) : Option (Int32 × Mm) := (if v4 = 0 then F_T_joined_b43 v1 v2 v3 v4 M else (if v1 = 5 then some (v2, M) else F_T_joined_b43 v1 v2 v3 v4 M))
def F_T_joined (v1 : Int32) (v2 : Int32) (M : Mm) : Option (Int32 × Mm) := (if v1 = v2 then some (v1, M) else lt (P_T_isRef v1 M) fun r16 => lt (P_T_isRef v2 M) fun r18 => (if r16 = 0 then F_T_joined_b31 v1 v2 r16 r18 M else (if v2 = 5 then some (v1, M) else F_T_joined_b31 v1 v2 r16 r18 M)))
def F_R_absorb_b59 (K9 : Nat → Nat → Int32 → Int32 → Mm → Option (Int32 × Mm)) (i0 : Nat) (i1 : Nat) (v3 : Int32) (v4 : Int32) (M : Mm) : Option (Int32 × Mm) := lt (v4 + 1) fun n1 => K9 i0 i1 v3 n1 M
def F_R_absorb_b120 (K68 : Nat → Nat → Int32 → Int32 → Mm → Option (Int32 × Mm)) (i0 : Nat) (i1 : Nat) (v3 : Int32) (v4 : Int32) (M : Mm) : Option (Int32 × Mm) := lt (v4 + 1) fun n2 => K68 i0 i1 v3 n2 M
def F_R_absorb_b68  : Nat → Nat → Nat → Int32 → Int32 → Mm → Option (Int32 × Mm)
  | 0, _, _, _, _, _ => none
  | n + 1, i0, i1, v3, v4, M => (if (M.1 19 i0 2) ≤ v4 then bnz v3 (some (v3, M)) else bnd v4 12 (lt (M.1 21 i0 (v4 : Int32).toNatClampNeg : Int32) fun n6 => bnd v4 12 (bd (F_T_joined n6 (M.1 21 i1 (v4 : Int32).toNatClampNeg) M) (fun r10 M9 => bnd v4 12 (lt (sI M9 21 i0 (v4 : Int32).toNatClampNeg r10) fun M12 => bnd v4 12 ((if (M12.1 21 i0 (v4 : Int32).toNatClampNeg) = n6 then F_R_absorb_b120 (F_R_absorb_b68 n) i0 i1 v3 v4 M12 else F_R_absorb_b120 (F_R_absorb_b68 n) i0 i1 1 v4 M12)))))))
def F_R_absorb_b9  : Nat → Nat → Nat → Int32 → Int32 → Mm → Option (Int32 × Mm)
  | 0, _, _, _, _, _ => none
  | n + 1, i0, i1, v3, v4, M => (if 12 ≤ v4 then F_R_absorb_b68 fuel i0 i1 v3 0 M else bnd v4 12 (lt (M.1 20 i0 (v4 : Int32).toNatClampNeg : Int32) fun n17 => bnd v4 12 (bd (F_T_joined n17 (M.1 20 i1 (v4 : Int32).toNatClampNeg) M) (fun r21 M20 => bnd v4 12 (lt (sI M20 20 i0 (v4 : Int32).toNatClampNeg r21) fun M23 => bnd v4 12 ((if (M23.1 20 i0 (v4 : Int32).toNatClampNeg) = n17 then F_R_absorb_b59 (F_R_absorb_b9 n) i0 i1 v3 v4 M23 else F_R_absorb_b59 (F_R_absorb_b9 n) i0 i1 1 v4 M23)))))))
def F_R_absorb (i0 : Nat) (i1 : Nat) (M : Mm) : Option (Int32 × Mm) := bd (F_R_absorbSubs i0 i1 M) (fun r28 M27 => F_R_absorb_b9 fuel i0 i1 r28 0 M27)
def F_W_meet_b28  (v2 : Int32) (i3 : Nat) (M : Mm) : Option (Int32 × Mm) := bnd v2 48 ((if (M.1 16 0 (v2 : Int32).toNatClampNeg) = 0 then bv (F_W_reach v2 i3 M) (fun M14 => some (0, M14)) else bnd v2 48 ((if (M.1 19 ((v2 : Int32).toNatClampNeg + 2) 2) = (M.1 19 i3 2) then bnd v2 48 (bd (F_R_absorb ((v2 : Int32).toNatClampNeg + 2) i3 M) (fun r8 M7 => (if r8 = 0 then some (0, M7) else bnd v2 48 (lt (sI M7 17 0 (v2 : Int32).toNatClampNeg (vp_nar .boolean 1)) fun M11 => some (0, M11))))) else lt (sI M 14 0 9 v2) fun M12 => some (4, M12)))))
def F_W_meet (v1 : Int32) (v2 : Int32) (i3 : Nat) (M : Mm) : Option (Int32 × Mm) := (if v2 < (M.1 4 0 3) then (if v1 < v2 then F_W_meet_b28 v2 i3 M else bd (F_R_hasRaw i3 M) (fun r19 M18 => (if r19 = 0 then F_W_meet_b28 v2 i3 M18 else some (8, M18)))) else some (5, M))
def F_M_covers (v1 : Int32) (v2 : Int32) (M : Mm) : Option (Int32 × Mm) := bnd v1 3 ((if v2 < (M.1 8 0 (v1 : Int32).toNatClampNeg) then some (0, M) else bnd v1 3 ((if (M.1 9 0 (v1 : Int32).toNatClampNeg) ≤ v2 then some (0, M) else some (1, M)))))
def F_R_catchIn (i0 : Nat) (i1 : Nat) (v2 : Int32) (M : Mm) : Option (Mm) := bv (F_R_copy i0 i1 M) (fun M2 => bnd 0 12 (lt (sI M2 21 i0 (0 : Int32).toNatClampNeg v2) fun M4 => lt (sI M4 19 i0 2 1) fun M5 => some M5))
def F_W_meetHandlers_b105 (K2 : Int32 → Int32 → Mm → Option (Int32 × Mm)) (v1 : Int32) (v2 : Int32) (M : Mm) : Option (Int32 × Mm) := lt (v2 + 1) fun n1 => K2 v1 n1 M
def F_W_meetHandlers_b2  : Nat → Int32 → Int32 → Mm → Option (Int32 × Mm)
  | 0, _, _, _ => none
  | n + 1, v1, v2, M => (if (M.1 4 0 8) ≤ v2 then some (0, M) else bd (F_M_covers v2 v1 M) (fun r5 M4 => (if r5 = 0 then F_W_meetHandlers_b105 (F_W_meetHandlers_b2 n) v1 v2 M4 else bnd v1 48 (bd (F_R_hasRawLocal ((v1 : Int32).toNatClampNeg + 2) M4) (fun r10 M9 => (if r10 = 0 then (if (M9.1 4 0 13) = 0 then some (3, M9) else bnd v1 48 (bnd v2 3 (bv (F_R_catchIn 1 ((v1 : Int32).toNatClampNeg + 2) ((16 : Int32) + (M9.1 11 0 (v2 : Int32).toNatClampNeg)) M9) (fun M16 => bnd v2 3 (bd (F_W_meet ((-1)) (M16.1 10 0 (v2 : Int32).toNatClampNeg) 1 M16) (fun r20 M19 => (if r20 = 0 then F_W_meetHandlers_b105 (F_W_meetHandlers_b2 n) v1 v2 M19 else some (r20, M19)))))))) else some (8, M9)))))))
def F_W_meetHandlers (v1 : Int32) (M : Mm) : Option (Int32 × Mm) := F_W_meetHandlers_b2 fuel v1 0 M
def F_G_isReturn (v0 : Int32) (M : Mm) : Option (Int32 × Mm) := (if v0 < 2000 then some (0, M) else (if 2048 ≤ v0 then some (0, M) else some (1, M)))
def P_G_isReturn (v0 : Int32) (M : Mm) : Int32 := (if v0 < 2000 then 0 else (if 2048 ≤ v0 then 0 else 1))
theorem p_G_isReturn (v0 : Int32) (M : Mm) : F_G_isReturn v0 M = some (P_G_isReturn v0 M, M) := by
  unfold F_G_isReturn P_G_isReturn
  refine q_i ?_ ?_
  · rfl
  · refine q_i ?_ ?_
    · rfl
    · rfl
theorem z_G_isReturn (v0 : Int32) (M : Mm) : zo (P_G_isReturn v0 M) := by
  rw [P_G_isReturn]
  refine zo_i ?_ ?_
  · exact zo_0
  · refine zo_i ?_ ?_
    · exact zo_0
    · exact zo_1
def F_W_fitsLocal (v1 : Int32) (v2 : Int32) (M : Mm) : Option (Int32 × Mm) := lt (P_G_widthOf v2 M) fun r2 => (if (M.1 4 0 12) < (v1 + r2) then some (0, M) else some (1, M))
def P_W_fitsLocal (v1 : Int32) (v2 : Int32) (M : Mm) : Int32 := lt (P_G_widthOf v2 M) fun r2 => (if (M.1 4 0 12) < (v1 + r2) then 0 else 1)
theorem p_W_fitsLocal (v1 : Int32) (v2 : Int32) (M : Mm) : F_W_fitsLocal v1 v2 M = some (P_W_fitsLocal v1 v2 M, M) := by
  unfold F_W_fitsLocal P_W_fitsLocal
  refine q_l ?_
  refine q_i ?_ ?_
  · rfl
  · rfl
theorem z_W_fitsLocal (v1 : Int32) (v2 : Int32) (M : Mm) : zo (P_W_fitsLocal v1 v2 M) := by
  rw [P_W_fitsLocal]
  refine zo_l ?_
  refine zo_i ?_ ?_
  · exact zo_0
  · exact zo_1
def F_G_isWide (v0 : Int32) (M : Mm) : Option (Int32 × Mm) := (if v0 = 3 then some (1, M) else (if v0 = 4 then some (1, M) else some (0, M)))
def P_G_isWide (v0 : Int32) (M : Mm) : Int32 := (if v0 = 3 then 1 else (if v0 = 4 then 1 else 0))
theorem p_G_isWide (v0 : Int32) (M : Mm) : F_G_isWide v0 M = some (P_G_isWide v0 M, M) := by
  unfold F_G_isWide P_G_isWide
  refine q_i ?_ ?_
  · rfl
  · refine q_i ?_ ?_
    · rfl
    · rfl
theorem z_G_isWide (v0 : Int32) (M : Mm) : zo (P_G_isWide v0 M) := by
  rw [P_G_isWide]
  refine zo_i ?_ ?_
  · exact zo_1
  · refine zo_i ?_ ?_
    · exact zo_1
    · exact zo_0
def F_R_touchAll_b37 (K2 : Nat → Int32 → Int32 → Mm → Option (Mm)) (i0 : Nat) (v1 : Int32) (v2 : Int32) (M : Mm) : Option (Mm) := lt (v2 + 1) fun n1 => K2 i0 v1 n1 M
def F_R_touchAll_b2  : Nat → Nat → Int32 → Int32 → Mm → Option (Mm)
  | 0, _, _, _, _ => none
  | n + 1, i0, v1, v2, M => (if 48 ≤ v2 then some M else (if (lg_cmp ((M.2 19 i0 3 : Int64) >>> ((v2 : Int32).toInt64 &&& 63)) 0) = 0 then some M else lt (P_R_isIn i0 v2 M) fun r5 => (if r5 = 0 then F_R_touchAll_b37 (F_R_touchAll_b2 n) i0 v1 v2 M else bnd v2 48 (bnd v2 48 (lt (sI M 22 i0 (v2 : Int32).toNatClampNeg ((M.1 22 i0 (v2 : Int32).toNatClampNeg) ||| v1)) fun M9 => F_R_touchAll_b37 (F_R_touchAll_b2 n) i0 v1 v2 M9)))))
def F_R_touchAll (i0 : Nat) (v1 : Int32) (M : Mm) : Option (Mm) := F_R_touchAll_b2 fuel i0 v1 0 M
def F_R_touch_b17  (j0 : Nat) (s1 : Int32) (M : Mm) : Option (Mm) := bv (F_R_touchAll j0 s1 M) (fun M2 => some M2)
def F_R_touch (i0 : Nat) (v1 : Int32) (v2 : Int32) (M : Mm) : Option (Mm) := lt (P_G_isWide v2 M) fun r4 => (if r4 = 0 then F_R_touch_b17 i0 ((1 : Int32) <<< (v1 &&& 31)) M else F_R_touch_b17 i0 ((3 : Int32) <<< (v1 &&& 31)) M)
def F_R_push_b8  : Nat → Nat → Int32 → Int32 → Int32 → Int32 → Mm → Option (Int32 × Mm)
  | 0, _, _, _, _, _, _ => none
  | n + 1, i0, v1, v2, v3, v4, M => (if (M.1 19 i0 2) ≤ v4 then (if v3 ≤ v2 then bnd (M.1 19 i0 2) 12 (lt (sI M 21 i0 (M.1 19 i0 2 : Int32).toNatClampNeg v1) fun M4 => lt (sI M4 19 i0 2 ((M4.1 19 i0 2) + 1)) fun M5 => some (0, M5)) else some (3, M)) else bnd v4 12 (lt (P_G_widthOf (M.1 21 i0 (v4 : Int32).toNatClampNeg) M) fun r8 => lt (v3 + r8 : Int32) fun n9 => lt (v4 + 1) fun n10 => (F_R_push_b8 n) i0 v1 v2 n9 n10 M))
def F_R_push (i0 : Nat) (v1 : Int32) (v2 : Int32) (M : Mm) : Option (Int32 × Mm) := lt (P_G_widthOf v1 M) fun r12 => F_R_push_b8 fuel i0 v1 v2 r12 0 M
def F_W_load (v1 : Int32) (M : Mm) : Option (Int32 × Mm) := bnd v1 12 (lt (M.1 20 0 (v1 : Int32).toNatClampNeg : Int32) fun n2 => (if n2 = 0 then some (2, M) else lt (P_G_isReturn n2 M) fun r5 => (if r5 = 0 then lt (P_W_fitsLocal v1 n2 M) fun r8 => (if r8 = 0 then some (2, M) else bv (F_R_touch 0 v1 n2 M) (fun M11 => bd (F_R_push 0 n2 (M11.1 4 0 13) M11) (fun r14 M13 => some (r14, M13)))) else some (2, M))))
def F_R_top (i0 : Nat) (v1 : Int32) (M : Mm) : Option (Int32 × Mm) := (if (M.1 19 i0 2) ≤ v1 then some ((-1), M) else bnd ((M.1 19 i0 2) - 1 - v1) 12 (some (M.1 21 i0 ((M.1 19 i0 2) - 1 - v1 : Int32).toNatClampNeg, M)))
def F_R_drop (i0 : Nat) (v1 : Int32) (M : Mm) : Option (Mm) := lt (sI M 19 i0 2 ((M.1 19 i0 2) - v1)) fun M1 => some M1
def F_R_store_b27  (i0 : Nat) (v1 : Int32) (v2 : Int32) (M : Mm) : Option (Mm) := bnd v1 12 (lt (sI M 20 i0 (v1 : Int32).toNatClampNeg v2) fun M2 => lt (P_G_isWide v2 M2) fun r4 => (if r4 = 0 then some M2 else bnd (v1 + 1) 12 (lt (sI M2 20 i0 (v1 + 1 : Int32).toNatClampNeg 0) fun M7 => some M7)))
def F_R_store (i0 : Nat) (v1 : Int32) (v2 : Int32) (M : Mm) : Option (Mm) := (if v1 ≤ 0 then F_R_store_b27 i0 v1 v2 M else bnd (v1 - 1) 12 (lt (P_G_isWide (M.1 20 i0 (v1 - 1 : Int32).toNatClampNeg) M) fun r11 => (if r11 = 0 then F_R_store_b27 i0 v1 v2 M else bnd (v1 - 1) 12 (lt (sI M 20 i0 (v1 - 1 : Int32).toNatClampNeg 0) fun M14 => F_R_store_b27 i0 v1 v2 M14))))
def F_W_store (v1 : Int32) (M : Mm) : Option (Int32 × Mm) := bd (F_R_top 0 0 M) (fun r3 M2 => (if r3 = ((-1)) then some (2, M2) else (if r3 = 0 then some (2, M2) else lt (P_W_fitsLocal v1 r3 M2) fun r7 => (if r7 = 0 then some (2, M2) else bv (F_R_drop 0 1 M2) (fun M10 => bv (F_R_store 0 v1 r3 M10) (fun M12 => bv (F_R_touch 0 v1 r3 M12) (fun M14 => some (0, M14))))))))
def F_W_increase (v1 : Int32) (M : Mm) : Option (Int32 × Mm) := bnd v1 12 ((if (M.1 20 0 (v1 : Int32).toNatClampNeg) = 1 then bv (F_R_touch 0 v1 1 M) (fun M4 => some (0, M4)) else some (2, M)))
def F_W_prepareReturn (v1 : Int32) (v2 : Int32) (M : Mm) : Option (Int32 × Mm) := bnd v2 12 (lt (M.1 20 0 (v2 : Int32).toNatClampNeg : Int32) fun n2 => lt (P_G_isReturn n2 M) fun r4 => (if r4 = 0 then some (2, M) else lt (n2 - 2000 : Int32) fun n6 => lt (P_R_isIn 0 n6 M) fun r8 => (if r8 = 0 then some (7, M) else bv (F_R_touch 0 v2 n2 M) (fun M11 => bnd v1 48 (bnd v1 48 (lt (sL M11 18 0 (v1 : Int32).toNatClampNeg ((M11.2 18 0 (v1 : Int32).toNatClampNeg) ||| ((1 : Int64) <<< ((n6 : Int32).toInt64 &&& 63)))) fun M14 => some (0, M14)))))))
def F_R_hasNarrow (i0 : Nat) (v1 : Int32) (M : Mm) : Option (Int32 × Mm) := (if (M.1 19 i0 2) ≤ v1 then some (0, M) else bnd ((M.1 19 i0 2) - 1 - v1) 12 (lt (P_G_isWide (M.1 21 i0 ((M.1 19 i0 2) - 1 - v1 : Int32).toNatClampNeg) M) fun r4 => (if r4 = 0 then some (1, M) else some (0, M))))
def F_W_takeIf (v1 : Int32) (v2 : Int32) (M : Mm) : Option (Int32 × Mm) := (if v1 = 0 then some (2, M) else bv (F_R_drop 0 v2 M) (fun M3 => some (0, M3)))
def F_W_pushBoth (v1 : Int32) (v2 : Int32) (M : Mm) : Option (Int32 × Mm) := bd (F_R_push 0 v1 (M.1 4 0 13) M) (fun r3 M2 => (if r3 = 0 then bd (F_R_push 0 v2 (M2.1 4 0 13) M2) (fun r7 M6 => some (r7, M6)) else some (r3, M2)))
def F_W_shuffle_b38  (v1 : Int32) (v2 : Int32) (M : Mm) : Option (Int32 × Mm) := bd (F_R_hasNarrow 0 0 M) (fun r3 M2 => (if r3 = 0 then some (2, M2) else (if v1 = 4 then bd (F_W_takeIf 1 1 M2) (fun r33 M32 => some (r33, M32)) else (if v1 = 5 then bd (F_R_push 0 v2 (M2.1 4 0 13) M2) (fun r30 M29 => some (r30, M29)) else bd (F_R_hasNarrow 0 1 M2) (fun r9 M8 => (if r9 = 0 then some (2, M8) else bd (F_R_top 0 1 M8) (fun r13 M12 => (if v1 = 8 then bd (F_W_pushBoth r13 v2 M12) (fun r27 M26 => some (r27, M26)) else bv (F_R_drop 0 2 M12) (fun M16 => bd (F_W_pushBoth v2 r13 M16) (fun r19 M18 => (if r19 = 0 then (if v1 = 6 then bd (F_R_push 0 v2 (M18.1 4 0 13) M18) (fun r24 M23 => some (r24, M23)) else some (r19, M18)) else some (r19, M18))))))))))))
def F_W_shuffle (v1 : Int32) (M : Mm) : Option (Int32 × Mm) := bd (F_R_top 0 0 M) (fun r36 M35 => (if v1 = 8 then lt (P_G_isWide r36 M35) fun r39 => (if r39 = 0 then F_W_shuffle_b38 v1 r36 M35 else bd (F_R_push 0 r36 (M35.1 4 0 13) M35) (fun r43 M42 => some (r43, M42))) else F_W_shuffle_b38 v1 r36 M35))
def F_W_exchangeIf (v1 : Int32) (v2 : Int32) (v3 : Int32) (M : Mm) : Option (Int32 × Mm) := (if v1 = 0 then some (2, M) else bv (F_R_drop 0 v2 M) (fun M3 => bd (F_R_push 0 v3 (M3.1 4 0 13) M3) (fun r6 M5 => some (r6, M5))))
def F_W_calculate_b90  (s1 : Int32) (s2 : Int32) (s3 : Int32) (M : Mm) : Option (Int32 × Mm) := bd (F_W_exchangeIf s1 s2 s3 M) (fun r3 M2 => some (r3, M2))
def F_W_calculate_b78  (v1 : Int32) (v2 : Int32) (s1 : Int32) (M : Mm) : Option (Int32 × Mm) := (if v1 = 9 then F_W_calculate_b90 s1 2 v2 M else F_W_calculate_b90 s1 2 1 M)
def F_W_calculate_b77  (v1 : Int32) (v2 : Int32) (M : Mm) : Option (Int32 × Mm) := F_W_calculate_b78 v1 v2 0 M
def F_W_calculate_b38  (v1 : Int32) (v2 : Int32) (v3 : Int32) (s0 : Int32) (M : Mm) : Option (Int32 × Mm) := (if v1 = 10 then bd (F_W_exchangeIf s0 1 v3 M) (fun r13 M12 => some (r13, M12)) else (if s0 = 0 then F_W_calculate_b77 v1 v2 M else bd (F_R_top 0 1 M) (fun r9 M8 => (if r9 = v2 then F_W_calculate_b78 v1 v2 1 M8 else F_W_calculate_b77 v1 v2 M8))))
def F_W_calculate (v1 : Int32) (v2 : Int32) (v3 : Int32) (M : Mm) : Option (Int32 × Mm) := (if v1 = 1 then bd (F_R_push 0 v2 (M.1 4 0 13) M) (fun r21 M20 => some (r21, M20)) else bd (F_R_top 0 0 M) (fun r17 M16 => (if r17 = v2 then F_W_calculate_b38 v1 v2 v3 1 M16 else F_W_calculate_b38 v1 v2 v3 0 M16)))
def F_T_isRefOrNull (v1 : Int32) (M : Mm) : Option (Int32 × Mm) := (if v1 = 5 then some (1, M) else lt (P_T_isRef v1 M) fun r3 => (if r3 = 0 then some (0, M) else some (1, M)))
def P_T_isRefOrNull (v1 : Int32) (M : Mm) : Int32 := (if v1 = 5 then 1 else lt (P_T_isRef v1 M) fun r3 => (if r3 = 0 then 0 else 1))
theorem p_T_isRefOrNull (v1 : Int32) (M : Mm) : F_T_isRefOrNull v1 M = some (P_T_isRefOrNull v1 M, M) := by
  unfold F_T_isRefOrNull P_T_isRefOrNull
  refine q_i ?_ ?_
  · rfl
  · refine q_l ?_
    refine q_i ?_ ?_
    · rfl
    · rfl
theorem z_T_isRefOrNull (v1 : Int32) (M : Mm) : zo (P_T_isRefOrNull v1 M) := by
  rw [P_T_isRefOrNull]
  refine zo_i ?_ ?_
  · exact zo_1
  · refine zo_l ?_
    refine zo_i ?_ ?_
    · exact zo_0
    · exact zo_1
def F_T_goesFor_b71  (v3 : Int32) (v4 : Int32) (M : Mm) : Option (Int32 × Mm) := (if v3 = 12 then some (0, M) else (if v4 = 12 then some (0, M) else (if v4 = 16 then some (1, M) else (if 64 ≤ v3 then some (0, M) else (if v4 < 64 then bnd (v4 - 16) 10 ((if (M.1 3 0 (v4 - 16 : Int32).toNatClampNeg) = 0 then bd (F_T_isBelow (v3 - 16) (v4 - 16) M) (fun r10 M9 => (if r10 = 0 then some (0, M9) else some (1, M9))) else some (1, M))) else some (0, M))))))
def F_T_goesFor_b40  : Nat → Int32 → Int32 → Int32 → Mm → Option (Int32 × Mm)
  | 0, _, _, _, _ => none
  | n + 1, v3, v4, v5, M => (if 3 ≤ v5 then F_T_goesFor_b71 v3 v4 M else (if v3 < 64 then F_T_goesFor_b71 v3 v4 M else (if v4 < 64 then F_T_goesFor_b71 v3 v4 M else lt (v3 + (-64)) fun n15 => lt (v4 + (-64)) fun n16 => lt (v5 + 1) fun n17 => (F_T_goesFor_b40 n) n15 n16 n17 M)))
def F_T_goesFor (v1 : Int32) (v2 : Int32) (M : Mm) : Option (Int32 × Mm) := (if v1 = v2 then some (1, M) else lt (P_T_isRefOrNull v1 M) fun r20 => (if r20 = 0 then some (0, M) else lt (P_T_isRef v2 M) fun r23 => (if r23 = 0 then some (0, M) else (if v1 = 5 then some (1, M) else F_T_goesFor_b40 fuel v1 v2 0 M))))
def F_W_decide_b120  (s1 : Int32) (M : Mm) : Option (Int32 × Mm) := bd (F_W_takeIf s1 1 M) (fun r3 M2 => some (r3, M2))
def F_W_decide (v1 : Int32) (M : Mm) : Option (Int32 × Mm) := bd (F_R_top 0 0 M) (fun r6 M5 => (if v1 = 13 then lt (P_T_isRefOrNull r6 M5) fun r9 => bd (F_W_takeIf r9 1 M5) (fun r12 M11 => some (r12, M11)) else (if v1 = 18 then (if (M5.1 4 0 11) = 0 then some (0, M5) else bd (F_T_goesFor r6 (M5.1 4 0 11) M5) (fun r16 M15 => bd (F_W_takeIf r16 1 M15) (fun r19 M18 => some (r19, M18)))) else (if v1 = 19 then bd (F_T_goesFor r6 17 M5) (fun r22 M21 => bd (F_W_takeIf r22 1 M21) (fun r25 M24 => some (r25, M24))) else (if r6 = 1 then F_W_decide_b120 1 M5 else F_W_decide_b120 0 M5)))))
def F_R_enter (i0 : Nat) (v1 : Int32) (M : Mm) : Option (Mm) := lt (sL M 19 i0 3 ((M.2 19 i0 3) ||| ((1 : Int64) <<< ((v1 : Int32).toInt64 &&& 63)))) fun M1 => bnd v1 48 (lt (sI M1 22 i0 (v1 : Int32).toNatClampNeg 0) fun M3 => some M3)
def F_W_enterSub (v1 : Int32) (M : Mm) : Option (Int32 × Mm) := lt (P_R_isIn 0 v1 M) fun r2 => (if r2 = 0 then bv (F_R_enter 0 v1 M) (fun M5 => bd (F_R_push 0 ((2000 : Int32) + v1) (M5.1 4 0 13) M5) (fun r8 M7 => some (r8, M7))) else some (6, M))
def F_R_isOnStack_b2  : Nat → Nat → Int32 → Int32 → Mm → Option (Int32 × Mm)
  | 0, _, _, _, _ => none
  | n + 1, i0, v1, v2, M => (if (M.1 19 i0 2) ≤ v2 then some (0, M) else bnd v2 12 ((if (M.1 21 i0 (v2 : Int32).toNatClampNeg) = v1 then some (1, M) else lt (v2 + 1) fun n4 => (F_R_isOnStack_b2 n) i0 v1 n4 M)))
def F_R_isOnStack (i0 : Nat) (v1 : Int32) (M : Mm) : Option (Int32 × Mm) := F_R_isOnStack_b2 fuel i0 v1 0 M
def F_R_replace_b25 (K2 : Nat → Int32 → Int32 → Int32 → Mm → Option (Mm)) (i0 : Nat) (v1 : Int32) (v2 : Int32) (v3 : Int32) (M : Mm) : Option (Mm) := lt (v3 + 1) fun n1 => K2 i0 v1 v2 n1 M
def F_R_replace_b58 (K33 : Nat → Int32 → Int32 → Int32 → Mm → Option (Mm)) (i0 : Nat) (v1 : Int32) (v2 : Int32) (v3 : Int32) (M : Mm) : Option (Mm) := lt (v3 + 1) fun n2 => K33 i0 v1 v2 n2 M
def F_R_replace_b33  : Nat → Nat → Int32 → Int32 → Int32 → Mm → Option (Mm)
  | 0, _, _, _, _, _ => none
  | n + 1, i0, v1, v2, v3, M => (if (M.1 19 i0 2) ≤ v3 then some M else bnd v3 12 ((if (M.1 21 i0 (v3 : Int32).toNatClampNeg) = v1 then bnd v3 12 (lt (sI M 21 i0 (v3 : Int32).toNatClampNeg v2) fun M7 => F_R_replace_b58 (F_R_replace_b33 n) i0 v1 v2 v3 M7) else F_R_replace_b58 (F_R_replace_b33 n) i0 v1 v2 v3 M)))
def F_R_replace_b2  : Nat → Nat → Int32 → Int32 → Int32 → Mm → Option (Mm)
  | 0, _, _, _, _, _ => none
  | n + 1, i0, v1, v2, v3, M => (if 12 ≤ v3 then F_R_replace_b33 fuel i0 v1 v2 0 M else bnd v3 12 ((if (M.1 20 i0 (v3 : Int32).toNatClampNeg) = v1 then bnd v3 12 (lt (sI M 20 i0 (v3 : Int32).toNatClampNeg v2) fun M12 => F_R_replace_b25 (F_R_replace_b2 n) i0 v1 v2 v3 M12) else F_R_replace_b25 (F_R_replace_b2 n) i0 v1 v2 v3 M)))
def F_R_replace (i0 : Nat) (v1 : Int32) (v2 : Int32) (M : Mm) : Option (Mm) := F_R_replace_b2 fuel i0 v1 v2 0 M
def F_W_create (v1 : Int32) (M : Mm) : Option (Int32 × Mm) := bd (F_R_isOnStack 0 ((1000 : Int32) + v1) M) (fun r3 M2 => (if r3 = 0 then bv (F_R_replace 0 ((1000 : Int32) + v1) 0 M2) (fun M6 => bd (F_R_push 0 ((1000 : Int32) + v1) (M6.1 4 0 13) M6) (fun r9 M8 => some (r9, M8))) else some (2, M2)))
def F_W_build (v1 : Int32) (M : Mm) : Option (Int32 × Mm) := bd (F_R_top 0 0 M) (fun r3 M2 => lt (P_G_isRaw r3 M2) fun r5 => (if r5 = 0 then some (2, M2) else bnd (r3 - 1000) 48 ((if (M2.1 6 0 (r3 - 1000 : Int32).toNatClampNeg) = v1 then bv (F_R_drop 0 1 M2) (fun M10 => bv (F_R_replace 0 r3 ((16 : Int32) + v1) M10) (fun M12 => some (0, M12))) else some (2, M2)))))
def F_W_useObject_b97  (s1 : Int32) (M : Mm) : Option (Int32 × Mm) := bd (F_W_takeIf s1 2 M) (fun r3 M2 => some (r3, M2))
def F_W_useObject_b96   (M : Mm) : Option (Int32 × Mm) := F_W_useObject_b97 0 M
def F_W_useObject (v1 : Int32) (v2 : Int32) (v3 : Int32) (M : Mm) : Option (Int32 × Mm) := bd (F_R_top 0 0 M) (fun r6 M5 => (if v1 = 22 then bd (F_T_goesFor r6 ((16 : Int32) + v2) M5) (fun r14 M13 => bd (F_W_exchangeIf r14 1 v3 M13) (fun r17 M16 => some (r17, M16))) else (if v1 = 23 then bd (F_T_goesFor r6 v3 M5) (fun r20 M19 => (if r20 = 0 then F_W_useObject_b96 M19 else bd (F_R_top 0 1 M19) (fun r24 M23 => bd (F_T_goesFor r24 ((16 : Int32) + v2) M23) (fun r27 M26 => (if r27 = 0 then F_W_useObject_b96 M26 else F_W_useObject_b97 1 M26))))) else (if v1 = 24 then bd (F_T_goesFor r6 v2 M5) (fun r31 M30 => bd (F_W_exchangeIf r31 1 v3 M30) (fun r34 M33 => some (r34, M33))) else lt (P_T_isRefOrNull r6 M5) fun r8 => bd (F_W_exchangeIf r8 1 v2 M5) (fun r11 M10 => some (r11, M10))))))
def F_W_isRowOf (v0 : Int32) (v1 : Int32) (M : Mm) : Option (Int32 × Mm) := (if v0 = 5 then some (1, M) else (if v0 = v1 then some (1, M) else some (0, M)))
def P_W_isRowOf (v0 : Int32) (v1 : Int32) (M : Mm) : Int32 := (if v0 = 5 then 1 else (if v0 = v1 then 1 else 0))
theorem p_W_isRowOf (v0 : Int32) (v1 : Int32) (M : Mm) : F_W_isRowOf v0 v1 M = some (P_W_isRowOf v0 v1 M, M) := by
  unfold F_W_isRowOf P_W_isRowOf
  refine q_i ?_ ?_
  · rfl
  · refine q_i ?_ ?_
    · rfl
    · rfl
theorem z_W_isRowOf (v0 : Int32) (v1 : Int32) (M : Mm) : zo (P_W_isRowOf v0 v1 M) := by
  rw [P_W_isRowOf]
  refine zo_i ?_ ?_
  · exact zo_1
  · refine zo_i ?_ ?_
    · exact zo_1
    · exact zo_0
def F_W_elementOf (v0 : Int32) (M : Mm) : Option (Int32 × Mm) := (if v0 = 76 then some (1, M) else some (v0 - 64, M))
def P_W_elementOf (v0 : Int32) (M : Mm) : Int32 := (if v0 = 76 then 1 else v0 - 64)
theorem p_W_elementOf (v0 : Int32) (M : Mm) : F_W_elementOf v0 M = some (P_W_elementOf v0 M, M) := by
  unfold F_W_elementOf P_W_elementOf
  refine q_i ?_ ?_
  · rfl
  · rfl
def F_W_useRow_b47  (v2 : Int32) (s1 : Int32) (M : Mm) : Option (Int32 × Mm) := bd (F_W_exchangeIf s1 1 (v2 + 64) M) (fun r3 M2 => some (r3, M2))
def F_W_useRow_b82  (v2 : Int32) (s1 : Int32) (M : Mm) : Option (Int32 × Mm) := lt (P_W_elementOf v2 M) fun r5 => bd (F_W_exchangeIf s1 2 r5 M) (fun r8 M7 => some (r8, M7))
def F_W_useRow_b81  (v2 : Int32) (M : Mm) : Option (Int32 × Mm) := F_W_useRow_b82 v2 0 M
def F_W_useRow_b139  (s1 : Int32) (M : Mm) : Option (Int32 × Mm) := bd (F_W_takeIf s1 3 M) (fun r11 M10 => some (r11, M10))
def F_W_useRow_b138   (M : Mm) : Option (Int32 × Mm) := F_W_useRow_b139 0 M
def F_W_useRow_b166  (s1 : Int32) (M : Mm) : Option (Int32 × Mm) := bd (F_W_exchangeIf s1 1 1 M) (fun r14 M13 => some (r14, M13))
def F_W_useRow_b161   (M : Mm) : Option (Int32 × Mm) := F_W_useRow_b166 1 M
def F_W_useRow (v1 : Int32) (v2 : Int32) (M : Mm) : Option (Int32 × Mm) := bd (F_R_top 0 0 M) (fun r17 M16 => (if v1 = 26 then (if r17 = 1 then F_W_useRow_b47 v2 1 M16 else F_W_useRow_b47 v2 0 M16) else (if v1 = 27 then (if r17 = 1 then bd (F_R_top 0 1 M16) (fun r26 M25 => lt (P_W_isRowOf r26 v2 M25) fun r28 => (if r28 = 0 then F_W_useRow_b81 v2 M25 else F_W_useRow_b82 v2 1 M25)) else F_W_useRow_b81 v2 M16) else (if v1 = 28 then lt (P_W_elementOf v2 M16) fun r31 => bd (F_T_goesFor r17 r31 M16) (fun r34 M33 => (if r34 = 0 then F_W_useRow_b138 M33 else bd (F_R_top 0 1 M33) (fun r38 M37 => (if r38 = 1 then bd (F_R_top 0 2 M37) (fun r42 M41 => lt (P_W_isRowOf r42 v2 M41) fun r44 => (if r44 = 0 then F_W_useRow_b138 M41 else F_W_useRow_b139 1 M41)) else F_W_useRow_b138 M37)))) else (if r17 = 5 then F_W_useRow_b161 M16 else lt (P_T_isRow r17 M16) fun r20 => (if r20 = 0 then F_W_useRow_b166 0 M16 else F_W_useRow_b161 M16))))))
def F_W_perform (v1 : Int32) (M : Mm) : Option (Int32 × Mm) := bnd v1 48 (lt (M.1 6 0 (v1 : Int32).toNatClampNeg : Int32) fun n2 => bnd v1 48 (lt (M.1 7 0 (v1 : Int32).toNatClampNeg : Int32) fun n4 => bnd v1 48 (lt (M.1 5 0 (v1 : Int32).toNatClampNeg : Int32) fun n6 => (if n6 = 1 then bd (F_W_calculate n6 n2 n4 M) (fun r9 M8 => some (r9, M8)) else (if n6 = 2 then bd (F_W_load n2 M) (fun r12 M11 => some (r12, M11)) else (if n6 = 3 then bd (F_W_store n2 M) (fun r15 M14 => some (r15, M14)) else (if n6 = 4 then bd (F_W_shuffle n6 M) (fun r18 M17 => some (r18, M17)) else (if n6 = 5 then bd (F_W_shuffle n6 M) (fun r21 M20 => some (r21, M20)) else (if n6 = 6 then bd (F_W_shuffle n6 M) (fun r24 M23 => some (r24, M23)) else (if n6 = 7 then bd (F_W_shuffle n6 M) (fun r27 M26 => some (r27, M26)) else (if n6 = 8 then bd (F_W_shuffle n6 M) (fun r30 M29 => some (r30, M29)) else (if n6 = 9 then bd (F_W_calculate n6 n2 n4 M) (fun r33 M32 => some (r33, M32)) else (if n6 = 10 then bd (F_W_calculate n6 n2 n4 M) (fun r36 M35 => some (r36, M35)) else (if n6 = 11 then bd (F_W_calculate n6 n2 n4 M) (fun r39 M38 => some (r39, M38)) else (if n6 = 12 then bd (F_W_decide n6 M) (fun r42 M41 => some (r42, M41)) else (if n6 = 13 then bd (F_W_decide n6 M) (fun r45 M44 => some (r45, M44)) else (if n6 = 14 then some (0, M) else (if n6 = 15 then bd (F_W_enterSub n4 M) (fun r48 M47 => some (r48, M47)) else (if n6 = 16 then bd (F_W_prepareReturn v1 n2 M) (fun r51 M50 => some (r51, M50)) else (if n6 = 17 then bd (F_W_decide n6 M) (fun r54 M53 => some (r54, M53)) else (if n6 = 18 then bd (F_W_decide n6 M) (fun r57 M56 => some (r57, M56)) else (if n6 = 19 then bd (F_W_decide n6 M) (fun r60 M59 => some (r60, M59)) else (if n6 = 20 then bd (F_W_create v1 M) (fun r63 M62 => some (r63, M62)) else (if n6 = 21 then bd (F_W_build n2 M) (fun r66 M65 => some (r66, M65)) else (if n6 = 22 then bd (F_W_useObject n6 n2 n4 M) (fun r69 M68 => some (r69, M68)) else (if n6 = 23 then bd (F_W_useObject n6 n2 n4 M) (fun r72 M71 => some (r72, M71)) else (if n6 = 24 then bd (F_W_useObject n6 n2 n4 M) (fun r75 M74 => some (r75, M74)) else (if n6 = 25 then bd (F_W_useObject n6 n2 n4 M) (fun r78 M77 => some (r78, M77)) else (if n6 = 26 then bd (F_W_useRow n6 n2 M) (fun r81 M80 => some (r81, M80)) else (if n6 = 27 then bd (F_W_useRow n6 n2 M) (fun r84 M83 => some (r84, M83)) else (if n6 = 28 then bd (F_W_useRow n6 n2 M) (fun r87 M86 => some (r87, M86)) else (if n6 = 29 then bd (F_W_useRow n6 n2 M) (fun r90 M89 => some (r90, M89)) else (if n6 = 30 then bd (F_W_increase n2 M) (fun r93 M92 => some (r93, M92)) else some (0, M))))))))))))))))))))))))))))))))))
def F_R_comeBack_b70 (K39 : Nat → Nat → Int32 → Int32 → Int32 → Mm → Option (Mm)) (i0 : Nat) (i1 : Nat) (v3 : Int32) (v4 : Int32) (v5 : Int32) (M : Mm) : Option (Mm) := lt (v5 + 1) fun n1 => K39 i0 i1 v3 v4 n1 M
def F_R_comeBack_b39  : Nat → Nat → Nat → Int32 → Int32 → Int32 → Mm → Option (Mm)
  | 0, _, _, _, _, _, _ => none
  | n + 1, i0, i1, v3, v4, v5, M => (if 12 ≤ v5 then bv (F_R_touchAll i0 v4 M) (fun M4 => bv (F_R_replace i0 ((2000 : Int32) + v3) 0 M4) (fun M6 => some M6)) else (if ((v4 >>> (v5 &&& 31)) &&& 1) = 0 then F_R_comeBack_b70 (F_R_comeBack_b39 n) i0 i1 v3 v4 v5 M else bnd v5 12 (bnd v5 12 (lt (sI M 20 i0 (v5 : Int32).toNatClampNeg (M.1 20 i1 (v5 : Int32).toNatClampNeg)) fun M10 => F_R_comeBack_b70 (F_R_comeBack_b39 n) i0 i1 v3 v4 v5 M10))))
def F_R_comeBack (i0 : Nat) (i1 : Nat) (i2 : Nat) (v3 : Int32) (M : Mm) : Option (Mm) := bv (F_R_copy i0 i2 M) (fun M12 => lt (sA M12 21 i0 (va_cpy (M12.1 21 i1) (M12.1 21 i0) (0 : Int32).toNatClampNeg (0 : Int32).toNatClampNeg (12 : Int32).toNatClampNeg)) fun M13 => lt (sI M13 19 i0 2 (M13.1 19 i1 2)) fun M14 => bnd v3 48 (lt (M14.1 22 i1 (v3 : Int32).toNatClampNeg : Int32) fun n16 => F_R_comeBack_b39 fuel i0 i1 v3 n16 0 M14))
def F_W_comeBack_b114 (K24 : Int32 → Int32 → Int32 → Mm → Option (Int32 × Mm)) (v1 : Int32) (v2 : Int32) (v3 : Int32) (M : Mm) : Option (Int32 × Mm) := lt (v3 + 1) fun n1 => K24 v1 v2 n1 M
def F_W_comeBack_b24  : Nat → Int32 → Int32 → Int32 → Mm → Option (Int32 × Mm)
  | 0, _, _, _, _ => none
  | n + 1, v1, v2, v3, M => (if (M.1 4 0 3) ≤ v3 then some (0, M) else bnd v3 48 ((if (M.1 16 0 (v3 : Int32).toNatClampNeg) = 0 then F_W_comeBack_b114 (F_W_comeBack_b24 n) v1 v2 v3 M else bnd v3 48 ((if (M.1 5 0 (v3 : Int32).toNatClampNeg) = 15 then bnd v3 48 ((if (M.1 7 0 (v3 : Int32).toNatClampNeg) = v2 then bnd v3 48 (bv (F_R_comeBack 1 0 ((v3 : Int32).toNatClampNeg + 2) v2 M) (fun M11 => bd (F_W_meet v1 (v3 + 1) 1 M11) (fun r14 M13 => (if r14 = 0 then F_W_comeBack_b114 (F_W_comeBack_b24 n) v1 v2 v3 M13 else some (r14, M13))))) else F_W_comeBack_b114 (F_W_comeBack_b24 n) v1 v2 v3 M)) else F_W_comeBack_b114 (F_W_comeBack_b24 n) v1 v2 v3 M)))))
def F_W_comeBack (v1 : Int32) (M : Mm) : Option (Int32 × Mm) := bnd v1 48 (bnd (M.1 6 0 (v1 : Int32).toNatClampNeg) 12 (lt ((M.1 20 0 (M.1 6 0 (v1 : Int32).toNatClampNeg : Int32).toNatClampNeg) - 2000 : Int32) fun n18 => F_W_comeBack_b24 fuel v1 n18 0 M))
def F_W_wakeReturns_b35 (K2 : Int32 → Int32 → Mm → Option (Mm)) (v1 : Int32) (v2 : Int32) (M : Mm) : Option (Mm) := lt (v2 + 1) fun n1 => K2 v1 n1 M
def F_W_wakeReturns_b2  : Nat → Int32 → Int32 → Mm → Option (Mm)
  | 0, _, _, _ => none
  | n + 1, v1, v2, M => (if (M.1 4 0 3) ≤ v2 then some M else bnd v2 48 ((if (lg_cmp ((M.2 18 0 (v2 : Int32).toNatClampNeg : Int64) >>> ((v1 : Int32).toInt64 &&& 63) &&& 1) 0) = 0 then F_W_wakeReturns_b35 (F_W_wakeReturns_b2 n) v1 v2 M else bnd v2 48 (lt (sI M 17 0 (v2 : Int32).toNatClampNeg (vp_nar .boolean 1)) fun M6 => F_W_wakeReturns_b35 (F_W_wakeReturns_b2 n) v1 v2 M6))))
def F_W_wakeReturns (v1 : Int32) (M : Mm) : Option (Mm) := F_W_wakeReturns_b2 fuel v1 0 M
def F_W_leave (v1 : Int32) (M : Mm) : Option (Int32 × Mm) := bnd v1 48 (lt (M.1 7 0 (v1 : Int32).toNatClampNeg : Int32) fun n2 => bnd v1 48 (lt (M.1 5 0 (v1 : Int32).toNatClampNeg : Int32) fun n4 => (if n4 = 12 then bd (F_W_meet v1 (v1 + 1) 0 M) (fun r10 M9 => (if r10 = 0 then bd (F_W_meet v1 n2 0 M9) (fun r14 M13 => some (r14, M13)) else some (r10, M9))) else (if n4 = 13 then bd (F_W_meet v1 (v1 + 1) 0 M) (fun r17 M16 => (if r17 = 0 then bd (F_W_meet v1 n2 0 M16) (fun r21 M20 => some (r21, M20)) else some (r17, M16))) else (if n4 = 14 then bd (F_W_meet v1 n2 0 M) (fun r24 M23 => some (r24, M23)) else (if n4 = 15 then bd (F_W_meet v1 n2 0 M) (fun r27 M26 => bv (F_W_wakeReturns n2 M26) (fun M29 => some (r27, M29))) else (if n4 = 16 then bd (F_W_meet v1 (v1 + 1) 0 M) (fun r32 M31 => some (r32, M31)) else (if n4 = 17 then bnd v1 48 (bd (F_W_meet v1 (M.1 6 0 (v1 : Int32).toNatClampNeg) 0 M) (fun r36 M35 => (if r36 = 0 then bd (F_W_meet v1 n2 0 M35) (fun r40 M39 => some (r40, M39)) else some (r36, M35)))) else (if n4 = 18 then some (0, M) else (if n4 = 19 then some (0, M) else bd (F_W_meet v1 (v1 + 1) 0 M) (fun r7 M6 => some (r7, M6))))))))))))
def F_W_look (v1 : Int32) (M : Mm) : Option (Int32 × Mm) := bnd v1 48 (lt (sI M 17 0 (v1 : Int32).toNatClampNeg (vp_nar .boolean 0)) fun M2 => lt (sI M2 14 0 9 v1) fun M3 => bd (F_W_meetHandlers v1 M3) (fun r6 M5 => (if r6 = 0 then bnd v1 48 (bv (F_R_copy 0 ((v1 : Int32).toNatClampNeg + 2) M5) (fun M10 => bd (F_W_perform v1 M10) (fun r13 M12 => (if r13 = 0 then bnd v1 48 ((if (M12.1 5 0 (v1 : Int32).toNatClampNeg) = 16 then bd (F_W_comeBack v1 M12) (fun r22 M21 => some (r22, M21)) else bd (F_W_leave v1 M12) (fun r19 M18 => some (r19, M18)))) else some (r13, M12))))) else some (r6, M5))))
def F_W_findChanged_b2  : Nat → Int32 → Mm → Option (Int32 × Mm)
  | 0, _, _ => none
  | n + 1, v1, M => (if (M.1 4 0 3) ≤ v1 then some (M.1 4 0 3, M) else bnd v1 48 ((if (M.1 17 0 (v1 : Int32).toNatClampNeg) = 0 then lt (v1 + 1) fun n4 => (F_W_findChanged_b2 n) n4 M else some (v1, M))))
def F_W_findChanged  (M : Mm) : Option (Int32 × Mm) := F_W_findChanged_b2 fuel 0 M
def F_W_run_b73  (v1 : Int32) (v2 : Int32) (M : Mm) : Option (Int32 × Mm) := (if v1 = 0 then (if (M.1 4 0 3) ≤ v2 then some (v1, M) else lt (sI M 14 0 9 v2) fun M3 => some (9, M3)) else some (v1, M))
def F_W_run_b24  : Nat → Int32 → Int32 → Mm → Option (Int32 × Mm)
  | 0, _, _, _ => none
  | n + 1, v1, v2, M => (if v1 = 0 then (if (M.1 4 0 3) ≤ v2 then F_W_run_b73 v1 v2 M else (if 2999 ≤ (M.1 14 0 8) then F_W_run_b73 v1 v2 M else lt (sI M 14 0 8 ((M.1 14 0 8) + 1)) fun M7 => bd (F_W_look v2 M7) (fun r10 M9 => bd (F_W_findChanged M9) (fun r13 M12 => (F_W_run_b24 n) r10 r13 M12)))) else F_W_run_b73 v1 v2 M)
def F_W_run  (M : Mm) : Option (Int32 × Mm) := bv (F_R_start 1 M) (fun M15 => bd (F_W_meet ((-1)) 0 1 M15) (fun r18 M17 => F_W_run_b24 fuel r18 0 M17))
def F_G_verify  (M : Mm) : Option (Int32 × Mm) := bv (F_W_forget M) (fun M2 => bd (F_O_findFault M2) (fun r5 M4 => lt (sI M4 0 0 4 r5) fun M6 => (if (M6.1 0 0 4) = ((-1)) then bd (F_W_run M6) (fun r10 M9 => (if r10 = 0 then lt (sI M9 0 0 5 ((M9.1 0 0 5) + 1)) fun M12 => some (0, M12) else lt (sI M9 0 0 4 (M9.1 14 0 9)) fun M13 => some (r10, M13))) else some (1, M6))))
def F_G_place  (M : Mm) : Option (Int32 × Mm) := some (M.1 0 0 4, M)
def P_G_place  (M : Mm) : Int32 := M.1 0 0 4
theorem p_G_place  (M : Mm) : F_G_place M = some (P_G_place M, M) := by
  unfold F_G_place P_G_place
  rfl
def F_JL_bitCount (v0 : Int64) (M : Mm) : Option (Int32 × Mm) := lt (v0 - (((v0 : Int64).toUInt64 >>> ((1 : Int32).toInt64.toUInt64 &&& Int64.toUInt64 63)).toInt64 &&& 6148914691236517205) : Int64) fun n1 => lt ((n1 &&& 3689348814741910323) + (((n1 : Int64).toUInt64 >>> ((2 : Int32).toInt64.toUInt64 &&& Int64.toUInt64 63)).toInt64 &&& 3689348814741910323) : Int64) fun n2 => lt ((n2 + (((n2 : Int64).toUInt64 >>> ((4 : Int32).toInt64.toUInt64 &&& Int64.toUInt64 63)).toInt64)) &&& 1085102592571150095 : Int64) fun n3 => lt (n3 + (((n3 : Int64).toUInt64 >>> ((8 : Int32).toInt64.toUInt64 &&& Int64.toUInt64 63)).toInt64) : Int64) fun n4 => lt (n4 + (((n4 : Int64).toUInt64 >>> ((16 : Int32).toInt64.toUInt64 &&& Int64.toUInt64 63)).toInt64) : Int64) fun n5 => lt (n5 + (((n5 : Int64).toUInt64 >>> ((32 : Int32).toInt64.toUInt64 &&& Int64.toUInt64 63)).toInt64) : Int64) fun n6 => some ((n6 : Int64).toInt32 &&& 127, M)
def P_JL_bitCount (v0 : Int64) (M : Mm) : Int32 := lt (v0 - (((v0 : Int64).toUInt64 >>> ((1 : Int32).toInt64.toUInt64 &&& Int64.toUInt64 63)).toInt64 &&& 6148914691236517205) : Int64) fun n1 => lt ((n1 &&& 3689348814741910323) + (((n1 : Int64).toUInt64 >>> ((2 : Int32).toInt64.toUInt64 &&& Int64.toUInt64 63)).toInt64 &&& 3689348814741910323) : Int64) fun n2 => lt ((n2 + (((n2 : Int64).toUInt64 >>> ((4 : Int32).toInt64.toUInt64 &&& Int64.toUInt64 63)).toInt64)) &&& 1085102592571150095 : Int64) fun n3 => lt (n3 + (((n3 : Int64).toUInt64 >>> ((8 : Int32).toInt64.toUInt64 &&& Int64.toUInt64 63)).toInt64) : Int64) fun n4 => lt (n4 + (((n4 : Int64).toUInt64 >>> ((16 : Int32).toInt64.toUInt64 &&& Int64.toUInt64 63)).toInt64) : Int64) fun n5 => lt (n5 + (((n5 : Int64).toUInt64 >>> ((32 : Int32).toInt64.toUInt64 &&& Int64.toUInt64 63)).toInt64) : Int64) fun n6 => (n6 : Int64).toInt32 &&& 127
theorem p_JL_bitCount (v0 : Int64) (M : Mm) : F_JL_bitCount v0 M = some (P_JL_bitCount v0 M, M) := by
  unfold F_JL_bitCount P_JL_bitCount
  refine q_l ?_
  refine q_l ?_
  refine q_l ?_
  refine q_l ?_
  refine q_l ?_
  refine q_l ?_
  rfl
def F_R_findSub_b31 (K4 : Nat → Int32 → Int32 → Int32 → Mm → Option (Int32 × Mm)) (i0 : Nat) (v1 : Int32) (v2 : Int32) (v3 : Int32) (M : Mm) : Option (Int32 × Mm) := lt (v3 + 1) fun n1 => K4 i0 v1 v2 n1 M
def F_R_findSub_b4  : Nat → Nat → Int32 → Int32 → Int32 → Mm → Option (Int32 × Mm)
  | 0, _, _, _, _, _ => none
  | n + 1, i0, v1, v2, v3, M => (if 48 ≤ v3 then some ((-1), M) else lt (P_R_isIn i0 v3 M) fun r4 => (if r4 = 0 then F_R_findSub_b31 (F_R_findSub_b4 n) i0 v1 v2 v3 M else (if v2 = v1 then some (v3, M) else lt (v2 + 1) fun n7 => F_R_findSub_b31 (F_R_findSub_b4 n) i0 v1 n7 v3 M)))
def F_R_findSub (i0 : Nat) (v1 : Int32) (M : Mm) : Option (Int32 × Mm) := F_R_findSub_b4 fuel i0 v1 0 0 M
def F_R_read_b90  (i0 : Nat) (v1 : Int32) (M : Mm) : Option (Int32 × Mm) := (if v1 < 40 then some ((-1), M) else (if v1 < 46 then bd (F_R_findSub i0 (v1 - 40) M) (fun r5 M4 => (if r5 = ((-1)) then some ((-1), M4) else bnd r5 48 (some (M4.1 22 i0 (r5 : Int32).toNatClampNeg, M4)))) else some ((-1), M)))
def F_R_read_b44  (i0 : Nat) (v1 : Int32) (M : Mm) : Option (Int32 × Mm) := (if v1 = 32 then some (M.1 19 i0 2, M) else (if v1 = 33 then lt (P_JL_bitCount (M.2 19 i0 3) M) fun r16 => some (r16, M) else (if v1 < 34 then F_R_read_b90 i0 v1 M else (if 40 ≤ v1 then F_R_read_b90 i0 v1 M else bd (F_R_findSub i0 (v1 - 34) M) (fun r14 M13 => some (r14, M13))))))
def F_R_read_b17  (i0 : Nat) (v1 : Int32) (M : Mm) : Option (Int32 × Mm) := (if v1 < 16 then F_R_read_b44 i0 v1 M else (if ((16 : Int32) + (M.1 19 i0 2)) ≤ v1 then F_R_read_b44 i0 v1 M else bnd (v1 - 16) 12 (some (M.1 21 i0 (v1 - 16 : Int32).toNatClampNeg, M))))
def F_R_read (i0 : Nat) (v1 : Int32) (M : Mm) : Option (Int32 × Mm) := (if v1 < 0 then F_R_read_b17 i0 v1 M else (if 12 ≤ v1 then F_R_read_b17 i0 v1 M else bnd v1 12 (some (M.1 20 i0 (v1 : Int32).toNatClampNeg, M))))
def F_G_state (v1 : Int32) (v2 : Int32) (M : Mm) : Option (Int32 × Mm) := (if v1 < 0 then some ((-1), M) else (if 48 ≤ v1 then some ((-1), M) else bnd v1 48 ((if (M.1 16 0 (v1 : Int32).toNatClampNeg) = 0 then some ((-1), M) else bnd v1 48 (bd (F_R_read ((v1 : Int32).toNatClampNeg + 2) v2 M) (fun r8 M7 => some (r8, M7)))))))
def F_T_isPlain_b9  (v1 : Int32) (M : Mm) : Option (Int32 × Mm) := lt (P_T_isRef v1 M) fun r2 => (if r2 = 0 then some (0, M) else some (1, M))
def P_T_isPlain_b9 (v1 : Int32) (M : Mm) : Int32 := lt (P_T_isRef v1 M) fun r2 => (if r2 = 0 then 0 else 1)
theorem p_T_isPlain_b9 (v1 : Int32) (M : Mm) : F_T_isPlain_b9 v1 M = some (P_T_isPlain_b9 v1 M, M) := by
  unfold F_T_isPlain_b9 P_T_isPlain_b9
  refine q_l ?_
  refine q_i ?_ ?_
  · rfl
  · rfl
theorem z_T_isPlain_b9 (v1 : Int32) (M : Mm) : zo (P_T_isPlain_b9 v1 M) := by
  rw [P_T_isPlain_b9]
  refine zo_l ?_
  refine zo_i ?_ ?_
  · exact zo_0
  · exact zo_1
def F_T_isPlain (v1 : Int32) (M : Mm) : Option (Int32 × Mm) := (if v1 < 0 then F_T_isPlain_b9 v1 M else (if v1 ≤ 5 then some (1, M) else F_T_isPlain_b9 v1 M))
def P_T_isPlain (v1 : Int32) (M : Mm) : Int32 := (if v1 < 0 then P_T_isPlain_b9 v1 M else (if v1 ≤ 5 then 1 else P_T_isPlain_b9 v1 M))
theorem p_T_isPlain (v1 : Int32) (M : Mm) : F_T_isPlain v1 M = some (P_T_isPlain v1 M, M) := by
  unfold F_T_isPlain P_T_isPlain
  refine q_i ?_ ?_
  · exact p_T_isPlain_b9 _ _
  · refine q_i ?_ ?_
    · rfl
    · exact p_T_isPlain_b9 _ _
theorem z_T_isPlain (v1 : Int32) (M : Mm) : zo (P_T_isPlain v1 M) := by
  rw [P_T_isPlain]
  refine zo_i ?_ ?_
  · exact z_T_isPlain_b9 _ _
  · refine zo_i ?_ ?_
    · exact zo_1
    · exact z_T_isPlain_b9 _ _
def F_G_join (v1 : Int32) (v2 : Int32) (M : Mm) : Option (Int32 × Mm) := lt (P_T_isPlain v1 M) fun r2 => (if r2 = 0 then some ((-1), M) else lt (P_T_isPlain v2 M) fun r5 => (if r5 = 0 then some ((-1), M) else bd (F_T_joined v1 v2 M) (fun r9 M8 => some (r9, M8))))
def F_G_goes (v1 : Int32) (v2 : Int32) (M : Mm) : Option (Int32 × Mm) := lt (P_T_isPlain v1 M) fun r2 => (if r2 = 0 then some ((-1), M) else lt (P_T_isPlain v2 M) fun r5 => (if r5 = 0 then some ((-1), M) else bd (F_T_goesFor v1 v2 M) (fun r9 M8 => (if r9 = 0 then some (0, M8) else some (1, M8)))))
def F_G_count (v1 : Int32) (M : Mm) : Option (Int32 × Mm) := (if v1 = 0 then some (M.1 1 0 2, M) else (if v1 = 1 then some (M.1 4 0 3, M) else (if v1 = 2 then some (M.1 4 0 8, M) else (if v1 = 3 then some (M.1 4 0 10, M) else (if v1 = 4 then some (M.1 14 0 8, M) else (if v1 = 5 then some (M.1 14 0 10, M) else (if v1 = 6 then some (M.1 0 0 5, M) else (if v1 = 7 then lt (P_JL_bitCount (M.2 14 0 11) M) fun r2 => some (r2, M) else some ((-1), M)))))))))
def P_G_count (v1 : Int32) (M : Mm) : Int32 := (if v1 = 0 then M.1 1 0 2 else (if v1 = 1 then M.1 4 0 3 else (if v1 = 2 then M.1 4 0 8 else (if v1 = 3 then M.1 4 0 10 else (if v1 = 4 then M.1 14 0 8 else (if v1 = 5 then M.1 14 0 10 else (if v1 = 6 then M.1 0 0 5 else (if v1 = 7 then lt (P_JL_bitCount (M.2 14 0 11) M) fun r2 => r2 else (-1)))))))))
theorem p_G_count (v1 : Int32) (M : Mm) : F_G_count v1 M = some (P_G_count v1 M, M) := by
  unfold F_G_count P_G_count
  refine q_i ?_ ?_
  · rfl
  · refine q_i ?_ ?_
    · rfl
    · refine q_i ?_ ?_
      · rfl
      · refine q_i ?_ ?_
        · rfl
        · refine q_i ?_ ?_
          · rfl
          · refine q_i ?_ ?_
            · rfl
            · refine q_i ?_ ?_
              · rfl
              · refine q_i ?_ ?_
                · refine q_l ?_
                  rfl
                · rfl
end
section
set_option maxHeartbeats 4000000 in
set_option maxRecDepth 100000 in
theorem ct_T_hasClass {Z : ZT} (hL : Lay Z sC) (v1 : Int32) (M : Mm)  {res : Int32 × Mm} (hw : F_T_hasClass v1 M = some res) : CtI Z y_T_hasClass ws_T_hasClass (({ frames := 0, cells := 0, slots := 0, locals := 0 })) [.ref (za Z 1 0), .int v1] M res := by
  refine CtI.of hL (cc := c_T_hasClass) (maxL := 2) (by decide) rfl (Nat.le_of_ble_eq_true rfl) (fun X h hQ => ?_)
  show G Z X M 0 [(0, .ref (za Z 1 0)), (1, .int v1)] []
  rw [F_T_hasClass] at hw
  refine g_iload_n h d_T_hasClass_0 rfl rfl ?_
  refine g_if_lt (tgt := 16) h d_T_hasClass_1 (by decide) (fun c1 => ?_) (fun c1 => ?_)
  · have hw := o_t c1 hw
    refine g_iconst (v := 0) h d_T_hasClass_16 (by decide) ?_
    exact g_zret h hQ d_T_hasClass_17 rfl hw
  · have hw := o_f c1 hw
    refine g_iload_n h d_T_hasClass_4 rfl rfl ?_
    refine g_aload_n h d_T_hasClass_5 rfl rfl ?_
    refine g_getI (t := 1) (i := 0) (k := 2) (C := "FlowGate$Types") (T := T_T) (N := 3) h hL rfl (by decide) ob_1 (by decide) rfl (fun w hw => mc (in_T w hw)) (mc m_fl_T_19) rfl d_T_hasClass_6 ?_
    refine g_icmp_ge (tgt := 16) h d_T_hasClass_9 (by decide) (fun c2 => ?_) (fun c2 => ?_)
    · have hw := o_t c2 hw
      refine g_iconst (v := 0) h d_T_hasClass_16 (by decide) ?_
      exact g_zret h hQ d_T_hasClass_17 rfl hw
    · have hw := o_f c2 hw
      refine g_iconst (v := 1) h d_T_hasClass_12 (by decide) ?_
      refine g_goto (tgt := 17) h d_T_hasClass_13 (by decide) ?_
      exact g_zret h hQ d_T_hasClass_17 rfl hw
set_option maxHeartbeats 4000000 in
set_option maxRecDepth 100000 in
theorem ct_T_append {Z : ZT} (hL : Lay Z sC) (v1 : Int32) (v2 : Int32) (M : Mm)  {res : Int32 × Mm} (hw : F_T_append v1 v2 M = some res) : CtI Z y_T_append ws_T_append (({ frames := 0, cells := 0, slots := 0, locals := 0 })) [.ref (za Z 1 0), .int v1, .int v2] M res := by
  refine CtI.of hL (cc := c_T_append) (maxL := 3) (by decide) rfl (Nat.le_of_ble_eq_true rfl) (fun X h hQ => ?_)
  show G Z X M 0 [(0, .ref (za Z 1 0)), (1, .int v1), (2, .int v2)] []
  rw [F_T_append] at hw
  refine g_aload_n h d_T_append_0 rfl rfl ?_
  refine g_getR (t := 1) (i := 0) (k := 0) (C := "FlowGate$Types") (T := T_T) (N := 3) h hL rfl (by decide) ob_1 (by decide) rfl (t' := 2) (i' := 0) rfl rfl (fun w hw => mc (in_T w hw)) (mc m_fl_T_9) rfl d_T_append_1 ?_
  refine g_aload_n h d_T_append_4 rfl rfl ?_
  refine g_getI (t := 1) (i := 0) (k := 2) (C := "FlowGate$Types") (T := T_T) (N := 3) h hL rfl (by decide) ob_1 (by decide) rfl (fun w hw => mc (in_T w hw)) (mc m_fl_T_19) rfl d_T_append_5 ?_
  refine g_aload_n h d_T_append_8 rfl rfl ?_
  refine g_getR (t := 1) (i := 0) (k := 0) (C := "FlowGate$Types") (T := T_T) (N := 3) h hL rfl (by decide) ob_1 (by decide) rfl (t' := 2) (i' := 0) rfl rfl (fun w hw => mc (in_T w hw)) (mc m_fl_T_9) rfl d_T_append_9 ?_
  refine g_iload_n h d_T_append_12 rfl rfl ?_
  obtain ⟨hv1, hw⟩ := o_in hw
  refine g_iald (t := 2) (i := 0) h hL rfl (by decide) rfl rfl hv1 d_T_append_13 ?_
  refine g_iconst (v := 1) h d_T_append_14 (by decide) ?_
  refine g_aload_n h d_T_append_15 rfl rfl ?_
  refine g_getI (t := 1) (i := 0) (k := 2) (C := "FlowGate$Types") (T := T_T) (N := 3) h hL rfl (by decide) ob_1 (by decide) rfl (fun w hw => mc (in_T w hw)) (mc m_fl_T_19) rfl d_T_append_16 ?_
  refine g_ishl h d_T_append_19 ?_
  refine g_ior h d_T_append_20 ?_
  obtain ⟨hv2, hw⟩ := o_in hw
  refine g_iast (t := 2) (i := 0) h hL rfl (by decide) rfl rfl hv2 d_T_append_21 ?_
  refine g_mem (fun M3 eM3 => ?_)
  have hw := o_l hw M3 eM3
  refine g_aload_n h d_T_append_22 rfl rfl ?_
  refine g_getR (t := 1) (i := 0) (k := 1) (C := "FlowGate$Types") (T := T_T) (N := 3) h hL rfl (by decide) ob_1 (by decide) rfl (t' := 3) (i' := 0) rfl rfl (fun w hw => mc (in_T w hw)) (mc m_fl_T_15) rfl d_T_append_23 ?_
  refine g_aload_n h d_T_append_26 rfl rfl ?_
  refine g_getI (t := 1) (i := 0) (k := 2) (C := "FlowGate$Types") (T := T_T) (N := 3) h hL rfl (by decide) ob_1 (by decide) rfl (fun w hw => mc (in_T w hw)) (mc m_fl_T_19) rfl d_T_append_27 ?_
  refine g_iload_n h d_T_append_30 rfl rfl ?_
  obtain ⟨hv4, hw⟩ := o_in hw
  refine g_zast (t := 3) (i := 0) h hL rfl (by decide) rfl rfl hv4 d_T_append_31 ?_
  refine g_mem (fun M5 eM5 => ?_)
  have hw := o_l hw M5 eM5
  refine g_aload_n h d_T_append_32 rfl rfl ?_
  refine g_dup h d_T_append_33 rfl ?_
  refine g_getI (t := 1) (i := 0) (k := 2) (C := "FlowGate$Types") (T := T_T) (N := 3) h hL rfl (by decide) ob_1 (by decide) rfl (fun w hw => mc (in_T w hw)) (mc m_fl_T_19) rfl d_T_append_34 ?_
  refine g_iconst (v := 1) h d_T_append_37 (by decide) ?_
  refine g_iadd h d_T_append_38 ?_
  refine g_putI (t := 1) (i := 0) (k := 2) (C := "FlowGate$Types") (T := T_T) (N := 3) h hL rfl (by decide) ob_1 (by decide) rfl (fun w hw => mc (in_T w hw)) ty_T ty_T_ok nm_T (mc m_fl_T_19) rfl rfl rfl d_T_append_39 ?_
  refine g_mem (fun M6 eM6 => ?_)
  have hw := o_l hw M6 eM6
  refine g_aload_n h d_T_append_42 rfl rfl ?_
  refine g_getI (t := 1) (i := 0) (k := 2) (C := "FlowGate$Types") (T := T_T) (N := 3) h hL rfl (by decide) ob_1 (by decide) rfl (fun w hw => mc (in_T w hw)) (mc m_fl_T_19) rfl d_T_append_43 ?_
  refine g_iconst (v := 1) h d_T_append_46 (by decide) ?_
  refine g_isub h d_T_append_47 ?_
  exact g_iret h hQ d_T_append_48 hw
set_option maxHeartbeats 4000000 in
set_option maxRecDepth 100000 in
theorem ct_G_cls {Z : ZT} (hL : Lay Z sC) (v1 : Int32) (v2 : Int32) (M : Mm)  {res : Int32 × Mm} (hw : F_G_cls v1 v2 M = some res) : CtI Z y_G_cls ws_G_cls (({ frames := 1, cells := 0, slots := 0, locals := 22 })) [.ref (za Z 0 0), .int v1, .int v2] M res := by
  refine CtI.of hL (cc := c_G_cls) (maxL := 3) (by decide) rfl (Nat.le_of_ble_eq_true rfl) (fun X h hQ => ?_)
  show G Z X M 0 [(0, .ref (za Z 0 0)), (1, .int v1), (2, .int v2)] []
  rw [F_G_cls] at hw
  refine g_aload_n h d_G_cls_0 rfl rfl ?_
  refine g_getR (t := 0) (i := 0) (k := 0) (C := "FlowGate") (T := T_G) (N := 6) h hL rfl (by decide) ob_0 (by decide) rfl (t' := 1) (i' := 0) rfl rfl (fun w hw => mc (in_G w hw)) (mc m_fl_G_10) rfl d_G_cls_1 ?_
  refine g_iload_n h d_G_cls_4 rfl rfl ?_
  refine g_calli h (g_runV (rest := []) h (ct_T_hasClass hL v1 M (p_T_hasClass v1 M)) (cwV 1 h.2.2.2.2.1 (g_V m_ml_G_43 m_im_T_hasClass m_se_T_hasClass m_in_T m_co_T_hasClass) rfl rfl rfl (by decide +kernel) ⟨Nat.le_of_ble_eq_true rfl, Nat.le_of_ble_eq_true rfl⟩) (hL.recv h rfl (by decide) ob_1) rfl rfl (by decide) d_G_cls_5) ?_
  refine g_topi (fun r2 er2 => ?_)
  have hw := o_l hw r2 er2
  refine g_if_ne (tgt := 13) h d_G_cls_8 (by decide) (fun c3 => ?_) (fun c3 => ?_)
  · have hw := o_f c3 hw
    refine g_aload_n h d_G_cls_13 rfl rfl ?_
    refine g_getR (t := 0) (i := 0) (k := 0) (C := "FlowGate") (T := T_G) (N := 6) h hL rfl (by decide) ob_0 (by decide) rfl (t' := 1) (i' := 0) rfl rfl (fun w hw => mc (in_G w hw)) (mc m_fl_G_10) rfl d_G_cls_14 ?_
    refine g_getI (t := 1) (i := 0) (k := 2) (C := "FlowGate$Types") (T := T_T) (N := 3) h hL rfl (by decide) ob_1 (by decide) rfl (fun w hw => mc (in_T w hw)) (mc m_fl_G_47) rfl d_G_cls_17 ?_
    refine g_bipush (v := 10) h d_G_cls_20 (by decide) ?_
    refine g_icmp_ne (tgt := 28) h d_G_cls_22 (by decide) (fun c4 => ?_) (fun c4 => ?_)
    · have hw := o_f c4 hw
      refine g_aload_n h d_G_cls_28 rfl rfl ?_
      refine g_getR (t := 0) (i := 0) (k := 0) (C := "FlowGate") (T := T_G) (N := 6) h hL rfl (by decide) ob_0 (by decide) rfl (t' := 1) (i' := 0) rfl rfl (fun w hw => mc (in_G w hw)) (mc m_fl_G_10) rfl d_G_cls_29 ?_
      refine g_iload_n h d_G_cls_32 rfl rfl ?_
      refine g_iload_n h d_G_cls_33 rfl rfl ?_
      obtain ⟨r7, M6, hc5, hw⟩ := o_b hw
      refine g_calli h (g_runV (rest := []) h (ct_T_append hL v1 v2 M hc5) (cwV 2 h.2.2.2.2.1 (g_V m_ml_G_50 m_im_T_append m_se_T_append m_in_T m_co_T_append) rfl rfl rfl (by decide +kernel) ⟨Nat.le_of_ble_eq_true rfl, Nat.le_of_ble_eq_true rfl⟩) (hL.recv h rfl (by decide) ob_1) rfl rfl (by decide) d_G_cls_34) ?_
      exact g_iret h hQ d_G_cls_37 hw
    · have hw := o_t c4 hw
      refine g_bipush (v := -2) h d_G_cls_25 (by decide) ?_
      exact g_iret h hQ d_G_cls_27 hw
  · have hw := o_t c3 hw
    refine g_iconst (v := -1) h d_G_cls_11 (by decide) ?_
    exact g_iret h hQ d_G_cls_12 hw
set_option maxHeartbeats 4000000 in
set_option maxRecDepth 100000 in
theorem ct_T_isRef {Z : ZT} (hL : Lay Z sC) (v1 : Int32) (M : Mm)  {res : Int32 × Mm} (hw : F_T_isRef v1 M = some res) : CtI Z y_T_isRef ws_T_isRef (({ frames := 0, cells := 0, slots := 0, locals := 0 })) [.ref (za Z 1 0), .int v1] M res := by
  refine CtI.of hL (cc := c_T_isRef) (maxL := 4) (by decide) rfl (Nat.le_of_ble_eq_true rfl) (fun X h hQ => ?_)
  show G Z X M 0 [(0, .ref (za Z 1 0)), (1, .int v1)] []
  rw [F_T_isRef] at hw
  refine g_iload_n h d_T_isRef_0 rfl rfl ?_
  refine g_bipush (v := 6) h d_T_isRef_1 (by decide) ?_
  refine g_ishr h d_T_isRef_3 ?_
  refine g_topi (fun n1 en1 => ?_)
  have hw := o_l hw n1 en1
  refine g_istore_n (lv' := [(2, .int n1), (0, .ref (za Z 1 0)), (1, .int v1)]) h d_T_isRef_4 rfl (by decide) rfl ?_
  refine g_iload_n h d_T_isRef_5 rfl rfl ?_
  refine g_if_lt (tgt := 14) h d_T_isRef_6 (by decide) (fun c2 => ?_) (fun c2 => ?_)
  · have hw := o_t c2 hw
    refine g_iconst (v := 0) h d_T_isRef_14 (by decide) ?_
    exact g_zret h hQ d_T_isRef_15 rfl hw
  · have hw := o_f c2 hw
    refine g_iload_n h d_T_isRef_9 rfl rfl ?_
    refine g_iconst (v := 3) h d_T_isRef_10 (by decide) ?_
    refine g_icmp_le (tgt := 16) h d_T_isRef_11 (by decide) (fun c3 => ?_) (fun c3 => ?_)
    · have hw := o_t c3 hw
      refine g_iload_n h d_T_isRef_16 rfl rfl ?_
      refine g_bipush (v := 63) h d_T_isRef_17 (by decide) ?_
      refine g_iand h d_T_isRef_19 ?_
      refine g_topi (fun n4 en4 => ?_)
      have hw := o_l hw n4 en4
      refine g_istore_n (lv' := [(3, .int n4), (2, .int n1), (0, .ref (za Z 1 0)), (1, .int v1)]) h d_T_isRef_20 rfl (by decide) rfl ?_
      refine g_iload_n h d_T_isRef_21 rfl rfl ?_
      refine g_bipush (v := 12) h d_T_isRef_22 (by decide) ?_
      refine g_icmp_ne (tgt := 37) h d_T_isRef_24 (by decide) (fun c5 => ?_) (fun c5 => ?_)
      · have hw := o_f c5 hw
        refine g_iload_n h d_T_isRef_37 rfl rfl ?_
        refine g_bipush (v := 16) h d_T_isRef_38 (by decide) ?_
        refine g_icmp_lt (tgt := 58) h d_T_isRef_40 (by decide) (fun c6 => ?_) (fun c6 => ?_)
        · have hw := o_t c6 hw
          refine g_iconst (v := 0) h d_T_isRef_58 (by decide) ?_
          exact g_zret h hQ d_T_isRef_59 rfl hw
        · have hw := o_f c6 hw
          refine g_iload_n h d_T_isRef_43 rfl rfl ?_
          refine g_bipush (v := 16) h d_T_isRef_44 (by decide) ?_
          refine g_aload_n h d_T_isRef_46 rfl rfl ?_
          refine g_getI (t := 1) (i := 0) (k := 2) (C := "FlowGate$Types") (T := T_T) (N := 3) h hL rfl (by decide) ob_1 (by decide) rfl (fun w hw => mc (in_T w hw)) (mc m_fl_T_19) rfl d_T_isRef_47 ?_
          refine g_iadd h d_T_isRef_50 ?_
          refine g_icmp_ge (tgt := 58) h d_T_isRef_51 (by decide) (fun c7 => ?_) (fun c7 => ?_)
          · have hw := o_t c7 hw
            refine g_iconst (v := 0) h d_T_isRef_58 (by decide) ?_
            exact g_zret h hQ d_T_isRef_59 rfl hw
          · have hw := o_f c7 hw
            refine g_iconst (v := 1) h d_T_isRef_54 (by decide) ?_
            refine g_goto (tgt := 59) h d_T_isRef_55 (by decide) ?_
            exact g_zret h hQ d_T_isRef_59 rfl hw
      · have hw := o_t c5 hw
        refine g_iload_n h d_T_isRef_27 rfl rfl ?_
        refine g_if_le (tgt := 35) h d_T_isRef_28 (by decide) (fun c8 => ?_) (fun c8 => ?_)
        · have hw := o_t c8 hw
          refine g_iconst (v := 0) h d_T_isRef_35 (by decide) ?_
          exact g_zret h hQ d_T_isRef_36 rfl hw
        · have hw := o_f c8 hw
          refine g_iconst (v := 1) h d_T_isRef_31 (by decide) ?_
          refine g_goto (tgt := 36) h d_T_isRef_32 (by decide) ?_
          exact g_zret h hQ d_T_isRef_36 rfl hw
    · have hw := o_f c3 hw
      refine g_iconst (v := 0) h d_T_isRef_14 (by decide) ?_
      exact g_zret h hQ d_T_isRef_15 rfl hw
set_option maxHeartbeats 4000000 in
set_option maxRecDepth 100000 in
theorem w_T_isValue_b10 {Z : ZT} {X : XT} (hL : Lay Z sC) (h : Ok Z X "FlowGate$Types" c_T_isValue ws_T_isValue 2 ({ frames := 1, cells := 0, slots := 0, locals := 23 })) {res : Int32 × Mm} (hQ : FinI Z X .boolean res)  (v1 : Int32) (M : Mm)  (hw : F_T_isValue_b10 v1 M = some res) : G Z X M 10 [(0, .ref (za Z 1 0)), (1, .int v1)] [] := by
  rw [F_T_isValue_b10] at hw
  refine g_aload_n h d_T_isValue_10 rfl rfl ?_
  refine g_iload_n h d_T_isValue_11 rfl rfl ?_
  refine g_calli h (g_runV (rest := []) h (ct_T_isRef hL v1 M (p_T_isRef v1 M)) (cwV 1 h.2.2.2.2.1 (g_V m_ml_T_23 m_im_T_isRef m_se_T_isRef m_in_T m_co_T_isRef) rfl rfl rfl (by decide +kernel) ⟨Nat.le_of_ble_eq_true rfl, Nat.le_of_ble_eq_true rfl⟩) (hL.recv h rfl (by decide) ob_1) rfl rfl (by decide) d_T_isValue_12) ?_
  refine g_topi (fun r2 er2 => ?_)
  have hw := o_l hw r2 er2
  refine g_if_eq (tgt := 22) h d_T_isValue_15 (by decide) (fun c3 => ?_) (fun c3 => ?_)
  · have hw := o_t c3 hw
    refine g_iconst (v := 0) h d_T_isValue_22 (by decide) ?_
    exact g_zret h hQ d_T_isValue_23 rfl hw
  · have hw := o_f c3 hw
    refine g_iconst (v := 1) h d_T_isValue_18 (by decide) ?_
    refine g_goto (tgt := 23) h d_T_isValue_19 (by decide) ?_
    exact g_zret h hQ d_T_isValue_23 rfl hw
set_option maxHeartbeats 4000000 in
set_option maxRecDepth 100000 in
theorem ct_T_isValue {Z : ZT} (hL : Lay Z sC) (v1 : Int32) (M : Mm)  {res : Int32 × Mm} (hw : F_T_isValue v1 M = some res) : CtI Z y_T_isValue ws_T_isValue (({ frames := 1, cells := 0, slots := 0, locals := 23 })) [.ref (za Z 1 0), .int v1] M res := by
  refine CtI.of hL (cc := c_T_isValue) (maxL := 2) (by decide) rfl (Nat.le_of_ble_eq_true rfl) (fun X h hQ => ?_)
  show G Z X M 0 [(0, .ref (za Z 1 0)), (1, .int v1)] []
  rw [F_T_isValue] at hw
  refine g_iload_n h d_T_isValue_0 rfl rfl ?_
  refine g_iconst (v := 1) h d_T_isValue_1 (by decide) ?_
  refine g_icmp_lt (tgt := 10) h d_T_isValue_2 (by decide) (fun c4 => ?_) (fun c4 => ?_)
  · have hw := o_t c4 hw
    refine g_sub [0, 1] rfl ?_
    exact w_T_isValue_b10 hL h hQ  v1 M hw
  · have hw := o_f c4 hw
    refine g_iload_n h d_T_isValue_5 rfl rfl ?_
    refine g_iconst (v := 4) h d_T_isValue_6 (by decide) ?_
    refine g_icmp_le (tgt := 18) h d_T_isValue_7 (by decide) (fun c5 => ?_) (fun c5 => ?_)
    · have hw := o_t c5 hw
      refine g_iconst (v := 1) h d_T_isValue_18 (by decide) ?_
      refine g_goto (tgt := 23) h d_T_isValue_19 (by decide) ?_
      exact g_zret h hQ d_T_isValue_23 rfl hw
    · have hw := o_f c5 hw
      refine g_sub [0, 1] rfl ?_
      exact w_T_isValue_b10 hL h hQ  v1 M hw
set_option maxHeartbeats 4000000 in
set_option maxRecDepth 100000 in
theorem ct_M_restart {Z : ZT} (hL : Lay Z sC) (v1 : Int32) (v2 : Int32) (v3 : Int32) (M : Mm)  {res : Mm} (hw : F_M_restart v1 v2 v3 M = some res) : CtV Z y_M_restart ws_M_restart (({ frames := 0, cells := 0, slots := 0, locals := 0 })) [.ref (za Z 4 0), .int v1, .int v2, .int v3] M res := by
  refine CtV.of hL (cc := c_M_restart) (maxL := 4) (by decide) rfl (Nat.le_of_ble_eq_true rfl) (fun X h hQ => ?_)
  show G Z X M 0 [(0, .ref (za Z 4 0)), (1, .int v1), (2, .int v2), (3, .int v3)] []
  rw [F_M_restart] at hw
  refine g_aload_n h d_M_restart_0 rfl rfl ?_
  refine g_iload_n h d_M_restart_1 rfl rfl ?_
  refine g_putI (t := 4) (i := 0) (k := 11) (C := "FlowGate$Method") (T := T_M) (N := 14) h hL rfl (by decide) ob_4 (by decide) rfl (fun w hw => mc (in_M w hw)) ty_M ty_M_ok nm_M (mc m_fl_M_36) rfl rfl rfl d_M_restart_2 ?_
  refine g_mem (fun M1 eM1 => ?_)
  have hw := o_l hw M1 eM1
  refine g_aload_n h d_M_restart_5 rfl rfl ?_
  refine g_iload_n h d_M_restart_6 rfl rfl ?_
  refine g_putI (t := 4) (i := 0) (k := 12) (C := "FlowGate$Method") (T := T_M) (N := 14) h hL rfl (by decide) ob_4 (by decide) rfl (fun w hw => mc (in_M w hw)) ty_M ty_M_ok nm_M (mc m_fl_M_40) rfl rfl rfl d_M_restart_7 ?_
  refine g_mem (fun M2 eM2 => ?_)
  have hw := o_l hw M2 eM2
  refine g_aload_n h d_M_restart_10 rfl rfl ?_
  refine g_iload_n h d_M_restart_11 rfl rfl ?_
  refine g_putI (t := 4) (i := 0) (k := 13) (C := "FlowGate$Method") (T := T_M) (N := 14) h hL rfl (by decide) ob_4 (by decide) rfl (fun w hw => mc (in_M w hw)) ty_M ty_M_ok nm_M (mc m_fl_M_43) rfl rfl rfl d_M_restart_12 ?_
  refine g_mem (fun M3 eM3 => ?_)
  have hw := o_l hw M3 eM3
  refine g_aload_n h d_M_restart_15 rfl rfl ?_
  refine g_iconst (v := 0) h d_M_restart_16 (by decide) ?_
  refine g_putI (t := 4) (i := 0) (k := 3) (C := "FlowGate$Method") (T := T_M) (N := 14) h hL rfl (by decide) ob_4 (by decide) rfl (fun w hw => mc (in_M w hw)) ty_M ty_M_ok nm_M (mc m_fl_M_46) rfl rfl rfl d_M_restart_17 ?_
  refine g_mem (fun M4 eM4 => ?_)
  have hw := o_l hw M4 eM4
  refine g_aload_n h d_M_restart_20 rfl rfl ?_
  refine g_iconst (v := 0) h d_M_restart_21 (by decide) ?_
  refine g_putI (t := 4) (i := 0) (k := 8) (C := "FlowGate$Method") (T := T_M) (N := 14) h hL rfl (by decide) ob_4 (by decide) rfl (fun w hw => mc (in_M w hw)) ty_M ty_M_ok nm_M (mc m_fl_M_49) rfl rfl rfl d_M_restart_22 ?_
  refine g_mem (fun M5 eM5 => ?_)
  have hw := o_l hw M5 eM5
  refine g_aload_n h d_M_restart_25 rfl rfl ?_
  refine g_iconst (v := 0) h d_M_restart_26 (by decide) ?_
  refine g_putI (t := 4) (i := 0) (k := 10) (C := "FlowGate$Method") (T := T_M) (N := 14) h hL rfl (by decide) ob_4 (by decide) rfl (fun w hw => mc (in_M w hw)) ty_M ty_M_ok nm_M (mc m_fl_M_52) rfl rfl rfl d_M_restart_27 ?_
  refine g_mem (fun M6 eM6 => ?_)
  have hw := o_l hw M6 eM6
  exact g_vret h hQ d_M_restart_30 hw
set_option maxHeartbeats 4000000 in
set_option maxRecDepth 100000 in
theorem w_G_begin_b17 {Z : ZT} {X : XT} (hL : Lay Z sC) (h : Ok Z X "FlowGate" c_G_begin ws_G_begin 4 ({ frames := 2, cells := 0, slots := 0, locals := 44 })) {res : Int32 × Mm} (hQ : FinI Z X .int res)  (v1 : Int32) (v2 : Int32) (v3 : Int32) (M : Mm)  (hw : F_G_begin_b17 v1 v2 v3 M = some res) : G Z X M 17 [(0, .ref (za Z 0 0)), (1, .int v1), (2, .int v2), (3, .int v3)] [] := by
  rw [F_G_begin_b17] at hw
  refine g_iload_n h d_G_begin_17 rfl rfl ?_
  refine g_if_lt (tgt := 37) h d_G_begin_18 (by decide) (fun c1 => ?_) (fun c1 => ?_)
  · have hw := o_t c1 hw
    refine g_iconst (v := -1) h d_G_begin_37 (by decide) ?_
    exact g_iret h hQ d_G_begin_38 hw
  · have hw := o_f c1 hw
    refine g_iload_n h d_G_begin_21 rfl rfl ?_
    refine g_bipush (v := 12) h d_G_begin_22 (by decide) ?_
    refine g_icmp_gt (tgt := 37) h d_G_begin_24 (by decide) (fun c2 => ?_) (fun c2 => ?_)
    · have hw := o_t c2 hw
      refine g_iconst (v := -1) h d_G_begin_37 (by decide) ?_
      exact g_iret h hQ d_G_begin_38 hw
    · have hw := o_f c2 hw
      refine g_iload_n h d_G_begin_27 rfl rfl ?_
      refine g_if_lt (tgt := 37) h d_G_begin_28 (by decide) (fun c3 => ?_) (fun c3 => ?_)
      · have hw := o_t c3 hw
        refine g_iconst (v := -1) h d_G_begin_37 (by decide) ?_
        exact g_iret h hQ d_G_begin_38 hw
      · have hw := o_f c3 hw
        refine g_iload_n h d_G_begin_31 rfl rfl ?_
        refine g_bipush (v := 12) h d_G_begin_32 (by decide) ?_
        refine g_icmp_le (tgt := 39) h d_G_begin_34 (by decide) (fun c4 => ?_) (fun c4 => ?_)
        · have hw := o_t c4 hw
          refine g_aload_n h d_G_begin_39 rfl rfl ?_
          refine g_getR (t := 0) (i := 0) (k := 1) (C := "FlowGate") (T := T_G) (N := 6) h hL rfl (by decide) ob_0 (by decide) rfl (t' := 4) (i' := 0) rfl rfl (fun w hw => mc (in_G w hw)) (mc m_fl_G_19) rfl d_G_begin_40 ?_
          refine g_iload_n h d_G_begin_43 rfl rfl ?_
          refine g_iload_n h d_G_begin_44 rfl rfl ?_
          refine g_iload_n h d_G_begin_45 rfl rfl ?_
          obtain ⟨M6, hc5, hw⟩ := o_v hw
          refine g_callv h (g_runV (rest := []) h (ct_M_restart hL v1 v2 v3 M hc5) (cwV 3 h.2.2.2.2.1 (g_V m_ml_G_57 m_im_M_restart m_se_M_restart m_in_M m_co_M_restart) rfl rfl rfl (by decide +kernel) ⟨Nat.le_of_ble_eq_true rfl, Nat.le_of_ble_eq_true rfl⟩) (hL.recv h rfl (by decide) ob_4) rfl rfl (by decide) d_G_begin_46) ?_
          refine g_iconst (v := 1) h d_G_begin_49 (by decide) ?_
          exact g_iret h hQ d_G_begin_50 hw
        · have hw := o_f c4 hw
          refine g_iconst (v := -1) h d_G_begin_37 (by decide) ?_
          exact g_iret h hQ d_G_begin_38 hw
set_option maxHeartbeats 4000000 in
set_option maxRecDepth 100000 in
theorem ct_G_begin {Z : ZT} (hL : Lay Z sC) (v1 : Int32) (v2 : Int32) (v3 : Int32) (M : Mm)  {res : Int32 × Mm} (hw : F_G_begin v1 v2 v3 M = some res) : CtI Z y_G_begin ws_G_begin (({ frames := 2, cells := 0, slots := 0, locals := 44 })) [.ref (za Z 0 0), .int v1, .int v2, .int v3] M res := by
  refine CtI.of hL (cc := c_G_begin) (maxL := 4) (by decide) rfl (Nat.le_of_ble_eq_true rfl) (fun X h hQ => ?_)
  show G Z X M 0 [(0, .ref (za Z 0 0)), (1, .int v1), (2, .int v2), (3, .int v3)] []
  rw [F_G_begin] at hw
  refine g_iload_n h d_G_begin_0 rfl rfl ?_
  refine g_if_eq (tgt := 17) h d_G_begin_1 (by decide) (fun c7 => ?_) (fun c7 => ?_)
  · have hw := o_t c7 hw
    refine g_sub [0, 1, 2, 3] rfl ?_
    exact w_G_begin_b17 hL h hQ  v1 v2 v3 M hw
  · have hw := o_f c7 hw
    refine g_aload_n h d_G_begin_4 rfl rfl ?_
    refine g_getR (t := 0) (i := 0) (k := 0) (C := "FlowGate") (T := T_G) (N := 6) h hL rfl (by decide) ob_0 (by decide) rfl (t' := 1) (i' := 0) rfl rfl (fun w hw => mc (in_G w hw)) (mc m_fl_G_10) rfl d_G_begin_5 ?_
    refine g_iload_n h d_G_begin_8 rfl rfl ?_
    refine g_calli h (g_runV (rest := []) h (ct_T_isValue hL v1 M (p_T_isValue v1 M)) (cwV 1 h.2.2.2.2.1 (g_V m_ml_G_54 m_im_T_isValue m_se_T_isValue m_in_T m_co_T_isValue) rfl rfl rfl (by decide +kernel) ⟨Nat.le_of_ble_eq_true rfl, Nat.le_of_ble_eq_true rfl⟩) (hL.recv h rfl (by decide) ob_1) rfl rfl (by decide) d_G_begin_9) ?_
    refine g_topi (fun r9 er9 => ?_)
    have hw := o_l hw r9 er9
    refine g_if_ne (tgt := 17) h d_G_begin_12 (by decide) (fun c10 => ?_) (fun c10 => ?_)
    · have hw := o_f c10 hw
      refine g_sub [0, 1, 2, 3] rfl ?_
      exact w_G_begin_b17 hL h hQ  v1 v2 v3 M hw
    · have hw := o_t c10 hw
      refine g_iconst (v := -1) h d_G_begin_15 (by decide) ?_
      exact g_iret h hQ d_G_begin_16 hw
set_option maxHeartbeats 4000000 in
set_option maxRecDepth 100000 in
theorem ct_M_appendArgument {Z : ZT} (hL : Lay Z sC) (v1 : Int32) (M : Mm)  {res : Int32 × Mm} (hw : F_M_appendArgument v1 M = some res) : CtI Z y_M_appendArgument ws_M_appendArgument (({ frames := 0, cells := 0, slots := 0, locals := 0 })) [.ref (za Z 4 0), .int v1] M res := by
  refine CtI.of hL (cc := c_M_appendArgument) (maxL := 2) (by decide) rfl (Nat.le_of_ble_eq_true rfl) (fun X h hQ => ?_)
  show G Z X M 0 [(0, .ref (za Z 4 0)), (1, .int v1)] []
  rw [F_M_appendArgument] at hw
  refine g_aload_n h d_M_appendArgument_0 rfl rfl ?_
  refine g_getR (t := 4) (i := 0) (k := 9) (C := "FlowGate$Method") (T := T_M) (N := 14) h hL rfl (by decide) ob_4 (by decide) rfl (t' := 12) (i' := 0) rfl rfl (fun w hw => mc (in_M w hw)) (mc m_fl_M_33) rfl d_M_appendArgument_1 ?_
  refine g_aload_n h d_M_appendArgument_4 rfl rfl ?_
  refine g_getI (t := 4) (i := 0) (k := 10) (C := "FlowGate$Method") (T := T_M) (N := 14) h hL rfl (by decide) ob_4 (by decide) rfl (fun w hw => mc (in_M w hw)) (mc m_fl_M_52) rfl d_M_appendArgument_5 ?_
  refine g_iload_n h d_M_appendArgument_8 rfl rfl ?_
  obtain ⟨hv1, hw⟩ := o_in hw
  refine g_iast (t := 12) (i := 0) h hL rfl (by decide) rfl rfl hv1 d_M_appendArgument_9 ?_
  refine g_mem (fun M2 eM2 => ?_)
  have hw := o_l hw M2 eM2
  refine g_aload_n h d_M_appendArgument_10 rfl rfl ?_
  refine g_dup h d_M_appendArgument_11 rfl ?_
  refine g_getI (t := 4) (i := 0) (k := 10) (C := "FlowGate$Method") (T := T_M) (N := 14) h hL rfl (by decide) ob_4 (by decide) rfl (fun w hw => mc (in_M w hw)) (mc m_fl_M_52) rfl d_M_appendArgument_12 ?_
  refine g_iconst (v := 1) h d_M_appendArgument_15 (by decide) ?_
  refine g_iadd h d_M_appendArgument_16 ?_
  refine g_putI (t := 4) (i := 0) (k := 10) (C := "FlowGate$Method") (T := T_M) (N := 14) h hL rfl (by decide) ob_4 (by decide) rfl (fun w hw => mc (in_M w hw)) ty_M ty_M_ok nm_M (mc m_fl_M_52) rfl rfl rfl d_M_appendArgument_17 ?_
  refine g_mem (fun M3 eM3 => ?_)
  have hw := o_l hw M3 eM3
  refine g_aload_n h d_M_appendArgument_20 rfl rfl ?_
  refine g_getI (t := 4) (i := 0) (k := 10) (C := "FlowGate$Method") (T := T_M) (N := 14) h hL rfl (by decide) ob_4 (by decide) rfl (fun w hw => mc (in_M w hw)) (mc m_fl_M_52) rfl d_M_appendArgument_21 ?_
  exact g_iret h hQ d_M_appendArgument_24 hw
set_option maxHeartbeats 4000000 in
set_option maxRecDepth 100000 in
theorem ct_G_argument {Z : ZT} (hL : Lay Z sC) (v1 : Int32) (M : Mm)  {res : Int32 × Mm} (hw : F_G_argument v1 M = some res) : CtI Z y_G_argument ws_G_argument (({ frames := 2, cells := 0, slots := 0, locals := 44 })) [.ref (za Z 0 0), .int v1] M res := by
  refine CtI.of hL (cc := c_G_argument) (maxL := 2) (by decide) rfl (Nat.le_of_ble_eq_true rfl) (fun X h hQ => ?_)
  show G Z X M 0 [(0, .ref (za Z 0 0)), (1, .int v1)] []
  rw [F_G_argument] at hw
  refine g_aload_n h d_G_argument_0 rfl rfl ?_
  refine g_getR (t := 0) (i := 0) (k := 0) (C := "FlowGate") (T := T_G) (N := 6) h hL rfl (by decide) ob_0 (by decide) rfl (t' := 1) (i' := 0) rfl rfl (fun w hw => mc (in_G w hw)) (mc m_fl_G_10) rfl d_G_argument_1 ?_
  refine g_iload_n h d_G_argument_4 rfl rfl ?_
  refine g_calli h (g_runV (rest := []) h (ct_T_isValue hL v1 M (p_T_isValue v1 M)) (cwV 1 h.2.2.2.2.1 (g_V m_ml_G_54 m_im_T_isValue m_se_T_isValue m_in_T m_co_T_isValue) rfl rfl rfl (by decide +kernel) ⟨Nat.le_of_ble_eq_true rfl, Nat.le_of_ble_eq_true rfl⟩) (hL.recv h rfl (by decide) ob_1) rfl rfl (by decide) d_G_argument_5) ?_
  refine g_topi (fun r2 er2 => ?_)
  have hw := o_l hw r2 er2
  refine g_if_ne (tgt := 13) h d_G_argument_8 (by decide) (fun c3 => ?_) (fun c3 => ?_)
  · have hw := o_f c3 hw
    refine g_aload_n h d_G_argument_13 rfl rfl ?_
    refine g_getR (t := 0) (i := 0) (k := 1) (C := "FlowGate") (T := T_G) (N := 6) h hL rfl (by decide) ob_0 (by decide) rfl (t' := 4) (i' := 0) rfl rfl (fun w hw => mc (in_G w hw)) (mc m_fl_G_19) rfl d_G_argument_14 ?_
    refine g_getI (t := 4) (i := 0) (k := 10) (C := "FlowGate$Method") (T := T_M) (N := 14) h hL rfl (by decide) ob_4 (by decide) rfl (fun w hw => mc (in_M w hw)) (mc m_fl_G_61) rfl d_G_argument_17 ?_
    refine g_bipush (v := 6) h d_G_argument_20 (by decide) ?_
    refine g_icmp_ne (tgt := 28) h d_G_argument_22 (by decide) (fun c4 => ?_) (fun c4 => ?_)
    · have hw := o_f c4 hw
      refine g_aload_n h d_G_argument_28 rfl rfl ?_
      refine g_getR (t := 0) (i := 0) (k := 1) (C := "FlowGate") (T := T_G) (N := 6) h hL rfl (by decide) ob_0 (by decide) rfl (t' := 4) (i' := 0) rfl rfl (fun w hw => mc (in_G w hw)) (mc m_fl_G_19) rfl d_G_argument_29 ?_
      refine g_iload_n h d_G_argument_32 rfl rfl ?_
      obtain ⟨r7, M6, hc5, hw⟩ := o_b hw
      refine g_calli h (g_runV (rest := []) h (ct_M_appendArgument hL v1 M hc5) (cwV 1 h.2.2.2.2.1 (g_V m_ml_G_64 m_im_M_appendArgument m_se_M_appendArgument m_in_M m_co_M_appendArgument) rfl rfl rfl (by decide +kernel) ⟨Nat.le_of_ble_eq_true rfl, Nat.le_of_ble_eq_true rfl⟩) (hL.recv h rfl (by decide) ob_4) rfl rfl (by decide) d_G_argument_33) ?_
      exact g_iret h hQ d_G_argument_36 hw
    · have hw := o_t c4 hw
      refine g_bipush (v := -2) h d_G_argument_25 (by decide) ?_
      exact g_iret h hQ d_G_argument_27 hw
  · have hw := o_t c3 hw
    refine g_iconst (v := -1) h d_G_argument_11 (by decide) ?_
    exact g_iret h hQ d_G_argument_12 hw
set_option maxHeartbeats 4000000 in
set_option maxRecDepth 100000 in
theorem ct_G_isOp {Z : ZT} (hL : Lay Z sC) (v0 : Int32) (M : Mm)  {res : Int32 × Mm} (hw : F_G_isOp v0 M = some res) : CtI Z y_G_isOp ws_G_isOp (({ frames := 0, cells := 0, slots := 0, locals := 0 })) [.int v0] M res := by
  refine CtI.of hL (cc := c_G_isOp) (maxL := 1) (by decide) rfl (Nat.le_of_ble_eq_true rfl) (fun X h hQ => ?_)
  show G Z X M 0 [(0, .int v0)] []
  rw [F_G_isOp] at hw
  refine g_iload_n h d_G_isOp_0 rfl rfl ?_
  refine g_if_lt (tgt := 14) h d_G_isOp_1 (by decide) (fun c1 => ?_) (fun c1 => ?_)
  · have hw := o_t c1 hw
    refine g_iconst (v := 0) h d_G_isOp_14 (by decide) ?_
    exact g_zret h hQ d_G_isOp_15 rfl hw
  · have hw := o_f c1 hw
    refine g_iload_n h d_G_isOp_4 rfl rfl ?_
    refine g_bipush (v := 30) h d_G_isOp_5 (by decide) ?_
    refine g_icmp_gt (tgt := 14) h d_G_isOp_7 (by decide) (fun c2 => ?_) (fun c2 => ?_)
    · have hw := o_t c2 hw
      refine g_iconst (v := 0) h d_G_isOp_14 (by decide) ?_
      exact g_zret h hQ d_G_isOp_15 rfl hw
    · have hw := o_f c2 hw
      refine g_iconst (v := 1) h d_G_isOp_10 (by decide) ?_
      refine g_goto (tgt := 15) h d_G_isOp_11 (by decide) ?_
      exact g_zret h hQ d_G_isOp_15 rfl hw
set_option maxHeartbeats 4000000 in
set_option maxRecDepth 100000 in
theorem ct_M_write {Z : ZT} (hL : Lay Z sC) (v1 : Int32) (v2 : Int32) (v3 : Int32) (v4 : Int32) (M : Mm)  {res : Mm} (hw : F_M_write v1 v2 v3 v4 M = some res) : CtV Z y_M_write ws_M_write (({ frames := 0, cells := 0, slots := 0, locals := 0 })) [.ref (za Z 4 0), .int v1, .int v2, .int v3, .int v4] M res := by
  refine CtV.of hL (cc := c_M_write) (maxL := 5) (by decide) rfl (Nat.le_of_ble_eq_true rfl) (fun X h hQ => ?_)
  show G Z X M 0 [(0, .ref (za Z 4 0)), (1, .int v1), (2, .int v2), (3, .int v3), (4, .int v4)] []
  rw [F_M_write] at hw
  refine g_aload_n h d_M_write_0 rfl rfl ?_
  refine g_getR (t := 4) (i := 0) (k := 0) (C := "FlowGate$Method") (T := T_M) (N := 14) h hL rfl (by decide) ob_4 (by decide) rfl (t' := 5) (i' := 0) rfl rfl (fun w hw => mc (in_M w hw)) (mc m_fl_M_9) rfl d_M_write_1 ?_
  refine g_iload_n h d_M_write_4 rfl rfl ?_
  refine g_iload_n h d_M_write_5 rfl rfl ?_
  obtain ⟨hv1, hw⟩ := o_in hw
  refine g_iast (t := 5) (i := 0) h hL rfl (by decide) rfl rfl hv1 d_M_write_6 ?_
  refine g_mem (fun M2 eM2 => ?_)
  have hw := o_l hw M2 eM2
  refine g_aload_n h d_M_write_7 rfl rfl ?_
  refine g_getR (t := 4) (i := 0) (k := 1) (C := "FlowGate$Method") (T := T_M) (N := 14) h hL rfl (by decide) ob_4 (by decide) rfl (t' := 6) (i' := 0) rfl rfl (fun w hw => mc (in_M w hw)) (mc m_fl_M_15) rfl d_M_write_8 ?_
  refine g_iload_n h d_M_write_11 rfl rfl ?_
  refine g_iload_n h d_M_write_12 rfl rfl ?_
  obtain ⟨hv3, hw⟩ := o_in hw
  refine g_iast (t := 6) (i := 0) h hL rfl (by decide) rfl rfl hv3 d_M_write_13 ?_
  refine g_mem (fun M4 eM4 => ?_)
  have hw := o_l hw M4 eM4
  refine g_aload_n h d_M_write_14 rfl rfl ?_
  refine g_getR (t := 4) (i := 0) (k := 2) (C := "FlowGate$Method") (T := T_M) (N := 14) h hL rfl (by decide) ob_4 (by decide) rfl (t' := 7) (i' := 0) rfl rfl (fun w hw => mc (in_M w hw)) (mc m_fl_M_18) rfl d_M_write_15 ?_
  refine g_iload_n h d_M_write_18 rfl rfl ?_
  refine g_iload h d_M_write_19 rfl ?_
  obtain ⟨hv5, hw⟩ := o_in hw
  refine g_iast (t := 7) (i := 0) h hL rfl (by decide) rfl rfl hv5 d_M_write_21 ?_
  refine g_mem (fun M6 eM6 => ?_)
  have hw := o_l hw M6 eM6
  exact g_vret h hQ d_M_write_22 hw
set_option maxHeartbeats 4000000 in
set_option maxRecDepth 100000 in
theorem ct_M_append {Z : ZT} (hL : Lay Z sC) (v1 : Int32) (v2 : Int32) (v3 : Int32) (M : Mm)  {res : Int32 × Mm} (hw : F_M_append v1 v2 v3 M = some res) : CtI Z y_M_append ws_M_append (({ frames := 1, cells := 0, slots := 0, locals := 24 })) [.ref (za Z 4 0), .int v1, .int v2, .int v3] M res := by
  refine CtI.of hL (cc := c_M_append) (maxL := 4) (by decide) rfl (Nat.le_of_ble_eq_true rfl) (fun X h hQ => ?_)
  show G Z X M 0 [(0, .ref (za Z 4 0)), (1, .int v1), (2, .int v2), (3, .int v3)] []
  rw [F_M_append] at hw
  refine g_aload_n h d_M_append_0 rfl rfl ?_
  refine g_aload_n h d_M_append_1 rfl rfl ?_
  refine g_getI (t := 4) (i := 0) (k := 3) (C := "FlowGate$Method") (T := T_M) (N := 14) h hL rfl (by decide) ob_4 (by decide) rfl (fun w hw => mc (in_M w hw)) (mc m_fl_M_46) rfl d_M_append_2 ?_
  refine g_iload_n h d_M_append_5 rfl rfl ?_
  refine g_iload_n h d_M_append_6 rfl rfl ?_
  refine g_iload_n h d_M_append_7 rfl rfl ?_
  obtain ⟨M2, hc1, hw⟩ := o_v hw
  refine g_callv h (g_runV (rest := []) h (ct_M_write hL (M.1 4 0 3) v1 v2 v3 M hc1) (cwV 4 h.2.2.2.2.1 (g_V m_ml_M_55 m_im_M_write m_se_M_write m_in_M m_co_M_write) rfl rfl rfl (by decide +kernel) ⟨Nat.le_of_ble_eq_true rfl, Nat.le_of_ble_eq_true rfl⟩) (hL.recv h rfl (by decide) ob_4) rfl rfl (by decide) d_M_append_8) ?_
  refine g_aload_n h d_M_append_11 rfl rfl ?_
  refine g_dup h d_M_append_12 rfl ?_
  refine g_getI (t := 4) (i := 0) (k := 3) (C := "FlowGate$Method") (T := T_M) (N := 14) h hL rfl (by decide) ob_4 (by decide) rfl (fun w hw => mc (in_M w hw)) (mc m_fl_M_46) rfl d_M_append_13 ?_
  refine g_iconst (v := 1) h d_M_append_16 (by decide) ?_
  refine g_iadd h d_M_append_17 ?_
  refine g_putI (t := 4) (i := 0) (k := 3) (C := "FlowGate$Method") (T := T_M) (N := 14) h hL rfl (by decide) ob_4 (by decide) rfl (fun w hw => mc (in_M w hw)) ty_M ty_M_ok nm_M (mc m_fl_M_46) rfl rfl rfl d_M_append_18 ?_
  refine g_mem (fun M3 eM3 => ?_)
  have hw := o_l hw M3 eM3
  refine g_aload_n h d_M_append_21 rfl rfl ?_
  refine g_getI (t := 4) (i := 0) (k := 3) (C := "FlowGate$Method") (T := T_M) (N := 14) h hL rfl (by decide) ob_4 (by decide) rfl (fun w hw => mc (in_M w hw)) (mc m_fl_M_46) rfl d_M_append_22 ?_
  refine g_iconst (v := 1) h d_M_append_25 (by decide) ?_
  refine g_isub h d_M_append_26 ?_
  exact g_iret h hQ d_M_append_27 hw
set_option maxHeartbeats 4000000 in
set_option maxRecDepth 100000 in
theorem ct_G_add {Z : ZT} (hL : Lay Z sC) (v1 : Int32) (v2 : Int32) (v3 : Int32) (M : Mm)  {res : Int32 × Mm} (hw : F_G_add v1 v2 v3 M = some res) : CtI Z y_G_add ws_G_add (({ frames := 2, cells := 0, slots := 0, locals := 47 })) [.ref (za Z 0 0), .int v1, .int v2, .int v3] M res := by
  refine CtI.of hL (cc := c_G_add) (maxL := 4) (by decide) rfl (Nat.le_of_ble_eq_true rfl) (fun X h hQ => ?_)
  show G Z X M 0 [(0, .ref (za Z 0 0)), (1, .int v1), (2, .int v2), (3, .int v3)] []
  rw [F_G_add] at hw
  refine g_iload_n h d_G_add_0 rfl rfl ?_
  refine g_calli h (g_runS (rest := []) h (ct_G_isOp hL v1 M (p_G_isOp v1 M)) (cwS 1 h.2.2.2.2.1 (g_S m_ml_G_68 m_st_G_isOp m_in_G m_co_G_isOp) rfl rfl rfl (by decide +kernel) ⟨Nat.le_of_ble_eq_true rfl, Nat.le_of_ble_eq_true rfl⟩) rfl rfl (by decide) d_G_add_1) ?_
  refine g_topi (fun r2 er2 => ?_)
  have hw := o_l hw r2 er2
  refine g_if_ne (tgt := 9) h d_G_add_4 (by decide) (fun c3 => ?_) (fun c3 => ?_)
  · have hw := o_f c3 hw
    refine g_aload_n h d_G_add_9 rfl rfl ?_
    refine g_getR (t := 0) (i := 0) (k := 1) (C := "FlowGate") (T := T_G) (N := 6) h hL rfl (by decide) ob_0 (by decide) rfl (t' := 4) (i' := 0) rfl rfl (fun w hw => mc (in_G w hw)) (mc m_fl_G_19) rfl d_G_add_10 ?_
    refine g_getI (t := 4) (i := 0) (k := 3) (C := "FlowGate$Method") (T := T_M) (N := 14) h hL rfl (by decide) ob_4 (by decide) rfl (fun w hw => mc (in_M w hw)) (mc m_fl_G_71) rfl d_G_add_13 ?_
    refine g_bipush (v := 48) h d_G_add_16 (by decide) ?_
    refine g_icmp_ne (tgt := 24) h d_G_add_18 (by decide) (fun c4 => ?_) (fun c4 => ?_)
    · have hw := o_f c4 hw
      refine g_aload_n h d_G_add_24 rfl rfl ?_
      refine g_getR (t := 0) (i := 0) (k := 1) (C := "FlowGate") (T := T_G) (N := 6) h hL rfl (by decide) ob_0 (by decide) rfl (t' := 4) (i' := 0) rfl rfl (fun w hw => mc (in_G w hw)) (mc m_fl_G_19) rfl d_G_add_25 ?_
      refine g_iload_n h d_G_add_28 rfl rfl ?_
      refine g_iload_n h d_G_add_29 rfl rfl ?_
      refine g_iload_n h d_G_add_30 rfl rfl ?_
      obtain ⟨r7, M6, hc5, hw⟩ := o_b hw
      refine g_calli h (g_runV (rest := []) h (ct_M_append hL v1 v2 v3 M hc5) (cwV 3 h.2.2.2.2.1 (g_V m_ml_G_72 m_im_M_append m_se_M_append m_in_M m_co_M_append) rfl rfl rfl (by decide +kernel) ⟨Nat.le_of_ble_eq_true rfl, Nat.le_of_ble_eq_true rfl⟩) (hL.recv h rfl (by decide) ob_4) rfl rfl (by decide) d_G_add_31) ?_
      exact g_iret h hQ d_G_add_34 hw
    · have hw := o_t c4 hw
      refine g_bipush (v := -2) h d_G_add_21 (by decide) ?_
      exact g_iret h hQ d_G_add_23 hw
  · have hw := o_t c3 hw
    refine g_iconst (v := -1) h d_G_add_7 (by decide) ?_
    exact g_iret h hQ d_G_add_8 hw
set_option maxHeartbeats 4000000 in
set_option maxRecDepth 100000 in
theorem ct_M_hasInstruction {Z : ZT} (hL : Lay Z sC) (v1 : Int32) (M : Mm)  {res : Int32 × Mm} (hw : F_M_hasInstruction v1 M = some res) : CtI Z y_M_hasInstruction ws_M_hasInstruction (({ frames := 0, cells := 0, slots := 0, locals := 0 })) [.ref (za Z 4 0), .int v1] M res := by
  refine CtI.of hL (cc := c_M_hasInstruction) (maxL := 2) (by decide) rfl (Nat.le_of_ble_eq_true rfl) (fun X h hQ => ?_)
  show G Z X M 0 [(0, .ref (za Z 4 0)), (1, .int v1)] []
  rw [F_M_hasInstruction] at hw
  refine g_iload_n h d_M_hasInstruction_0 rfl rfl ?_
  refine g_if_lt (tgt := 16) h d_M_hasInstruction_1 (by decide) (fun c1 => ?_) (fun c1 => ?_)
  · have hw := o_t c1 hw
    refine g_iconst (v := 0) h d_M_hasInstruction_16 (by decide) ?_
    exact g_zret h hQ d_M_hasInstruction_17 rfl hw
  · have hw := o_f c1 hw
    refine g_iload_n h d_M_hasInstruction_4 rfl rfl ?_
    refine g_aload_n h d_M_hasInstruction_5 rfl rfl ?_
    refine g_getI (t := 4) (i := 0) (k := 3) (C := "FlowGate$Method") (T := T_M) (N := 14) h hL rfl (by decide) ob_4 (by decide) rfl (fun w hw => mc (in_M w hw)) (mc m_fl_M_46) rfl d_M_hasInstruction_6 ?_
    refine g_icmp_ge (tgt := 16) h d_M_hasInstruction_9 (by decide) (fun c2 => ?_) (fun c2 => ?_)
    · have hw := o_t c2 hw
      refine g_iconst (v := 0) h d_M_hasInstruction_16 (by decide) ?_
      exact g_zret h hQ d_M_hasInstruction_17 rfl hw
    · have hw := o_f c2 hw
      refine g_iconst (v := 1) h d_M_hasInstruction_12 (by decide) ?_
      refine g_goto (tgt := 17) h d_M_hasInstruction_13 (by decide) ?_
      exact g_zret h hQ d_M_hasInstruction_17 rfl hw
set_option maxHeartbeats 4000000 in
set_option maxRecDepth 100000 in
theorem ct_G_change {Z : ZT} (hL : Lay Z sC) (v1 : Int32) (v2 : Int32) (v3 : Int32) (v4 : Int32) (M : Mm)  {res : Int32 × Mm} (hw : F_G_change v1 v2 v3 v4 M = some res) : CtI Z y_G_change ws_G_change (({ frames := 1, cells := 0, slots := 0, locals := 24 })) [.ref (za Z 0 0), .int v1, .int v2, .int v3, .int v4] M res := by
  refine CtI.of hL (cc := c_G_change) (maxL := 6) (by decide) rfl (Nat.le_of_ble_eq_true rfl) (fun X h hQ => ?_)
  show G Z X M 0 [(0, .ref (za Z 0 0)), (1, .int v1), (2, .int v2), (3, .int v3), (4, .int v4)] []
  rw [F_G_change] at hw
  refine g_aload_n h d_G_change_0 rfl rfl ?_
  refine g_getR (t := 0) (i := 0) (k := 1) (C := "FlowGate") (T := T_G) (N := 6) h hL rfl (by decide) ob_0 (by decide) rfl (t' := 4) (i' := 0) rfl rfl (fun w hw => mc (in_G w hw)) (mc m_fl_G_19) rfl d_G_change_1 ?_
  refine g_iload_n h d_G_change_4 rfl rfl ?_
  refine g_calli h (g_runV (rest := []) h (ct_M_hasInstruction hL v1 M (p_M_hasInstruction v1 M)) (cwV 1 h.2.2.2.2.1 (g_V m_ml_G_75 m_im_M_hasInstruction m_se_M_hasInstruction m_in_M m_co_M_hasInstruction) rfl rfl rfl (by decide +kernel) ⟨Nat.le_of_ble_eq_true rfl, Nat.le_of_ble_eq_true rfl⟩) (hL.recv h rfl (by decide) ob_4) rfl rfl (by decide) d_G_change_5) ?_
  refine g_topi (fun r2 er2 => ?_)
  have hw := o_l hw r2 er2
  refine g_if_eq (tgt := 18) h d_G_change_8 (by decide) (fun c3 => ?_) (fun c3 => ?_)
  · have hw := o_t c3 hw
    refine g_iconst (v := -1) h d_G_change_18 (by decide) ?_
    exact g_iret h hQ d_G_change_19 hw
  · have hw := o_f c3 hw
    refine g_iload_n h d_G_change_11 rfl rfl ?_
    refine g_calli h (g_runS (rest := []) h (ct_G_isOp hL v2 M (p_G_isOp v2 M)) (cwS 1 h.2.2.2.2.1 (g_S m_ml_G_68 m_st_G_isOp m_in_G m_co_G_isOp) rfl rfl rfl (by decide +kernel) ⟨Nat.le_of_ble_eq_true rfl, Nat.le_of_ble_eq_true rfl⟩) rfl rfl (by decide) d_G_change_12) ?_
    refine g_topi (fun r5 er5 => ?_)
    have hw := o_l hw r5 er5
    refine g_if_ne (tgt := 20) h d_G_change_15 (by decide) (fun c6 => ?_) (fun c6 => ?_)
    · have hw := o_f c6 hw
      refine g_aload_n h d_G_change_20 rfl rfl ?_
      refine g_getR (t := 0) (i := 0) (k := 1) (C := "FlowGate") (T := T_G) (N := 6) h hL rfl (by decide) ob_0 (by decide) rfl (t' := 4) (i' := 0) rfl rfl (fun w hw => mc (in_G w hw)) (mc m_fl_G_19) rfl d_G_change_21 ?_
      refine g_getR (t := 4) (i := 0) (k := 0) (C := "FlowGate$Method") (T := T_M) (N := 14) h hL rfl (by decide) ob_4 (by decide) rfl (t' := 5) (i' := 0) rfl rfl (fun w hw => mc (in_M w hw)) (mc m_fl_G_78) rfl d_G_change_24 ?_
      refine g_iload_n h d_G_change_27 rfl rfl ?_
      obtain ⟨hv7, hw⟩ := o_in hw
      refine g_iald (t := 5) (i := 0) h hL rfl (by decide) rfl rfl hv7 d_G_change_28 ?_
      refine g_topi (fun n8 en8 => ?_)
      have hw := o_l hw n8 en8
      refine g_istore (lv' := [(5, .int n8), (0, .ref (za Z 0 0)), (1, .int v1), (2, .int v2), (3, .int v3), (4, .int v4)]) h d_G_change_29 (by decide) rfl ?_
      refine g_aload_n h d_G_change_31 rfl rfl ?_
      refine g_getR (t := 0) (i := 0) (k := 1) (C := "FlowGate") (T := T_G) (N := 6) h hL rfl (by decide) ob_0 (by decide) rfl (t' := 4) (i' := 0) rfl rfl (fun w hw => mc (in_G w hw)) (mc m_fl_G_19) rfl d_G_change_32 ?_
      refine g_iload_n h d_G_change_35 rfl rfl ?_
      refine g_iload_n h d_G_change_36 rfl rfl ?_
      refine g_iload_n h d_G_change_37 rfl rfl ?_
      refine g_iload h d_G_change_38 rfl ?_
      obtain ⟨M10, hc9, hw⟩ := o_v hw
      refine g_callv h (g_runV (rest := []) h (ct_M_write hL v1 v2 v3 v4 M hc9) (cwV 4 h.2.2.2.2.1 (g_V m_ml_G_82 m_im_M_write m_se_M_write m_in_M m_co_M_write) rfl rfl rfl (by decide +kernel) ⟨Nat.le_of_ble_eq_true rfl, Nat.le_of_ble_eq_true rfl⟩) (hL.recv h rfl (by decide) ob_4) rfl rfl (by decide) d_G_change_40) ?_
      refine g_iload h d_G_change_43 rfl ?_
      exact g_iret h hQ d_G_change_45 hw
    · have hw := o_t c6 hw
      refine g_iconst (v := -1) h d_G_change_18 (by decide) ?_
      exact g_iret h hQ d_G_change_19 hw
set_option maxHeartbeats 4000000 in
set_option maxRecDepth 100000 in
theorem ct_M_appendHandler {Z : ZT} (hL : Lay Z sC) (v1 : Int32) (v2 : Int32) (v3 : Int32) (v4 : Int32) (M : Mm)  {res : Int32 × Mm} (hw : F_M_appendHandler v1 v2 v3 v4 M = some res) : CtI Z y_M_appendHandler ws_M_appendHandler (({ frames := 0, cells := 0, slots := 0, locals := 0 })) [.ref (za Z 4 0), .int v1, .int v2, .int v3, .int v4] M res := by
  refine CtI.of hL (cc := c_M_appendHandler) (maxL := 5) (by decide) rfl (Nat.le_of_ble_eq_true rfl) (fun X h hQ => ?_)
  show G Z X M 0 [(0, .ref (za Z 4 0)), (1, .int v1), (2, .int v2), (3, .int v3), (4, .int v4)] []
  rw [F_M_appendHandler] at hw
  refine g_aload_n h d_M_appendHandler_0 rfl rfl ?_
  refine g_getR (t := 4) (i := 0) (k := 4) (C := "FlowGate$Method") (T := T_M) (N := 14) h hL rfl (by decide) ob_4 (by decide) rfl (t' := 8) (i' := 0) rfl rfl (fun w hw => mc (in_M w hw)) (mc m_fl_M_21) rfl d_M_appendHandler_1 ?_
  refine g_aload_n h d_M_appendHandler_4 rfl rfl ?_
  refine g_getI (t := 4) (i := 0) (k := 8) (C := "FlowGate$Method") (T := T_M) (N := 14) h hL rfl (by decide) ob_4 (by decide) rfl (fun w hw => mc (in_M w hw)) (mc m_fl_M_49) rfl d_M_appendHandler_5 ?_
  refine g_iload_n h d_M_appendHandler_8 rfl rfl ?_
  obtain ⟨hv1, hw⟩ := o_in hw
  refine g_iast (t := 8) (i := 0) h hL rfl (by decide) rfl rfl hv1 d_M_appendHandler_9 ?_
  refine g_mem (fun M2 eM2 => ?_)
  have hw := o_l hw M2 eM2
  refine g_aload_n h d_M_appendHandler_10 rfl rfl ?_
  refine g_getR (t := 4) (i := 0) (k := 5) (C := "FlowGate$Method") (T := T_M) (N := 14) h hL rfl (by decide) ob_4 (by decide) rfl (t' := 9) (i' := 0) rfl rfl (fun w hw => mc (in_M w hw)) (mc m_fl_M_24) rfl d_M_appendHandler_11 ?_
  refine g_aload_n h d_M_appendHandler_14 rfl rfl ?_
  refine g_getI (t := 4) (i := 0) (k := 8) (C := "FlowGate$Method") (T := T_M) (N := 14) h hL rfl (by decide) ob_4 (by decide) rfl (fun w hw => mc (in_M w hw)) (mc m_fl_M_49) rfl d_M_appendHandler_15 ?_
  refine g_iload_n h d_M_appendHandler_18 rfl rfl ?_
  obtain ⟨hv3, hw⟩ := o_in hw
  refine g_iast (t := 9) (i := 0) h hL rfl (by decide) rfl rfl hv3 d_M_appendHandler_19 ?_
  refine g_mem (fun M4 eM4 => ?_)
  have hw := o_l hw M4 eM4
  refine g_aload_n h d_M_appendHandler_20 rfl rfl ?_
  refine g_getR (t := 4) (i := 0) (k := 6) (C := "FlowGate$Method") (T := T_M) (N := 14) h hL rfl (by decide) ob_4 (by decide) rfl (t' := 10) (i' := 0) rfl rfl (fun w hw => mc (in_M w hw)) (mc m_fl_M_27) rfl d_M_appendHandler_21 ?_
  refine g_aload_n h d_M_appendHandler_24 rfl rfl ?_
  refine g_getI (t := 4) (i := 0) (k := 8) (C := "FlowGate$Method") (T := T_M) (N := 14) h hL rfl (by decide) ob_4 (by decide) rfl (fun w hw => mc (in_M w hw)) (mc m_fl_M_49) rfl d_M_appendHandler_25 ?_
  refine g_iload_n h d_M_appendHandler_28 rfl rfl ?_
  obtain ⟨hv5, hw⟩ := o_in hw
  refine g_iast (t := 10) (i := 0) h hL rfl (by decide) rfl rfl hv5 d_M_appendHandler_29 ?_
  refine g_mem (fun M6 eM6 => ?_)
  have hw := o_l hw M6 eM6
  refine g_aload_n h d_M_appendHandler_30 rfl rfl ?_
  refine g_getR (t := 4) (i := 0) (k := 7) (C := "FlowGate$Method") (T := T_M) (N := 14) h hL rfl (by decide) ob_4 (by decide) rfl (t' := 11) (i' := 0) rfl rfl (fun w hw => mc (in_M w hw)) (mc m_fl_M_30) rfl d_M_appendHandler_31 ?_
  refine g_aload_n h d_M_appendHandler_34 rfl rfl ?_
  refine g_getI (t := 4) (i := 0) (k := 8) (C := "FlowGate$Method") (T := T_M) (N := 14) h hL rfl (by decide) ob_4 (by decide) rfl (fun w hw => mc (in_M w hw)) (mc m_fl_M_49) rfl d_M_appendHandler_35 ?_
  refine g_iload h d_M_appendHandler_38 rfl ?_
  obtain ⟨hv7, hw⟩ := o_in hw
  refine g_iast (t := 11) (i := 0) h hL rfl (by decide) rfl rfl hv7 d_M_appendHandler_40 ?_
  refine g_mem (fun M8 eM8 => ?_)
  have hw := o_l hw M8 eM8
  refine g_aload_n h d_M_appendHandler_41 rfl rfl ?_
  refine g_dup h d_M_appendHandler_42 rfl ?_
  refine g_getI (t := 4) (i := 0) (k := 8) (C := "FlowGate$Method") (T := T_M) (N := 14) h hL rfl (by decide) ob_4 (by decide) rfl (fun w hw => mc (in_M w hw)) (mc m_fl_M_49) rfl d_M_appendHandler_43 ?_
  refine g_iconst (v := 1) h d_M_appendHandler_46 (by decide) ?_
  refine g_iadd h d_M_appendHandler_47 ?_
  refine g_putI (t := 4) (i := 0) (k := 8) (C := "FlowGate$Method") (T := T_M) (N := 14) h hL rfl (by decide) ob_4 (by decide) rfl (fun w hw => mc (in_M w hw)) ty_M ty_M_ok nm_M (mc m_fl_M_49) rfl rfl rfl d_M_appendHandler_48 ?_
  refine g_mem (fun M9 eM9 => ?_)
  have hw := o_l hw M9 eM9
  refine g_aload_n h d_M_appendHandler_51 rfl rfl ?_
  refine g_getI (t := 4) (i := 0) (k := 8) (C := "FlowGate$Method") (T := T_M) (N := 14) h hL rfl (by decide) ob_4 (by decide) rfl (fun w hw => mc (in_M w hw)) (mc m_fl_M_49) rfl d_M_appendHandler_52 ?_
  exact g_iret h hQ d_M_appendHandler_55 hw
set_option maxHeartbeats 4000000 in
set_option maxRecDepth 100000 in
theorem ct_G_handler {Z : ZT} (hL : Lay Z sC) (v1 : Int32) (v2 : Int32) (v3 : Int32) (v4 : Int32) (M : Mm)  {res : Int32 × Mm} (hw : F_G_handler v1 v2 v3 v4 M = some res) : CtI Z y_G_handler ws_G_handler (({ frames := 1, cells := 0, slots := 0, locals := 24 })) [.ref (za Z 0 0), .int v1, .int v2, .int v3, .int v4] M res := by
  refine CtI.of hL (cc := c_G_handler) (maxL := 5) (by decide) rfl (Nat.le_of_ble_eq_true rfl) (fun X h hQ => ?_)
  show G Z X M 0 [(0, .ref (za Z 0 0)), (1, .int v1), (2, .int v2), (3, .int v3), (4, .int v4)] []
  rw [F_G_handler] at hw
  refine g_aload_n h d_G_handler_0 rfl rfl ?_
  refine g_getR (t := 0) (i := 0) (k := 1) (C := "FlowGate") (T := T_G) (N := 6) h hL rfl (by decide) ob_0 (by decide) rfl (t' := 4) (i' := 0) rfl rfl (fun w hw => mc (in_G w hw)) (mc m_fl_G_19) rfl d_G_handler_1 ?_
  refine g_getI (t := 4) (i := 0) (k := 8) (C := "FlowGate$Method") (T := T_M) (N := 14) h hL rfl (by decide) ob_4 (by decide) rfl (fun w hw => mc (in_M w hw)) (mc m_fl_G_86) rfl d_G_handler_4 ?_
  refine g_iconst (v := 3) h d_G_handler_7 (by decide) ?_
  refine g_icmp_ne (tgt := 14) h d_G_handler_8 (by decide) (fun c1 => ?_) (fun c1 => ?_)
  · have hw := o_f c1 hw
    refine g_aload_n h d_G_handler_14 rfl rfl ?_
    refine g_getR (t := 0) (i := 0) (k := 1) (C := "FlowGate") (T := T_G) (N := 6) h hL rfl (by decide) ob_0 (by decide) rfl (t' := 4) (i' := 0) rfl rfl (fun w hw => mc (in_G w hw)) (mc m_fl_G_19) rfl d_G_handler_15 ?_
    refine g_iload_n h d_G_handler_18 rfl rfl ?_
    refine g_iload_n h d_G_handler_19 rfl rfl ?_
    refine g_iload_n h d_G_handler_20 rfl rfl ?_
    refine g_iload h d_G_handler_21 rfl ?_
    obtain ⟨r4, M3, hc2, hw⟩ := o_b hw
    refine g_calli h (g_runV (rest := []) h (ct_M_appendHandler hL v1 v2 v3 v4 M hc2) (cwV 4 h.2.2.2.2.1 (g_V m_ml_G_89 m_im_M_appendHandler m_se_M_appendHandler m_in_M m_co_M_appendHandler) rfl rfl rfl (by decide +kernel) ⟨Nat.le_of_ble_eq_true rfl, Nat.le_of_ble_eq_true rfl⟩) (hL.recv h rfl (by decide) ob_4) rfl rfl (by decide) d_G_handler_23) ?_
    exact g_iret h hQ d_G_handler_26 hw
  · have hw := o_t c1 hw
    refine g_bipush (v := -2) h d_G_handler_11 (by decide) ?_
    exact g_iret h hQ d_G_handler_13 hw
set_option maxHeartbeats 4000000 in
set_option maxRecDepth 100000 in
theorem w_W_forget_b10 {Z : ZT} {X : XT} (hL : Lay Z sC) (h : Ok Z X "FlowGate$Flow" c_W_forget ws_W_forget 2 ({ frames := 1, cells := 0, slots := 0, locals := 24 })) {res : Mm} (hQ : FinV Z X res)  : ∀ (n : Nat) (v1 : Int32) (M : Mm), F_W_forget_b10  n v1 M = some res → G Z X M 10 [(0, .ref (za Z 14 0)), (1, .int v1)] [] := by
  intro n
  induction n with
  | zero =>
    intro v1 M hw
    cases hw
  | succ n hK10 =>
    intro v1 M hw
    rw [F_W_forget_b10] at hw
    refine g_iload_n h d_W_forget_10 rfl rfl ?_
    refine g_bipush (v := 48) h d_W_forget_11 (by decide) ?_
    refine g_icmp_ge (tgt := 36) h d_W_forget_13 (by decide) (fun c1 => ?_) (fun c1 => ?_)
    · have hw := o_t c1 hw
      refine g_aload_n h d_W_forget_36 rfl rfl ?_
      refine g_iconst (v := 0) h d_W_forget_37 (by decide) ?_
      refine g_putI (t := 14) (i := 0) (k := 8) (C := "FlowGate$Flow") (T := T_W) (N := 12) h hL rfl (by decide) ob_14 (by decide) rfl (fun w hw => mc (in_W w hw)) ty_W ty_W_ok nm_W (mc m_fl_W_50) rfl rfl rfl d_W_forget_38 ?_
      refine g_mem (fun M2 eM2 => ?_)
      have hw := o_l hw M2 eM2
      refine g_aload_n h d_W_forget_41 rfl rfl ?_
      refine g_iconst (v := 0) h d_W_forget_42 (by decide) ?_
      refine g_putI (t := 14) (i := 0) (k := 10) (C := "FlowGate$Flow") (T := T_W) (N := 12) h hL rfl (by decide) ob_14 (by decide) rfl (fun w hw => mc (in_W w hw)) ty_W ty_W_ok nm_W (mc m_fl_W_54) rfl rfl rfl d_W_forget_43 ?_
      refine g_mem (fun M3 eM3 => ?_)
      have hw := o_l hw M3 eM3
      refine g_aload_n h d_W_forget_46 rfl rfl ?_
      refine g_lconst (v := 0) h d_W_forget_47 rfl ?_
      refine g_putL (t := 14) (i := 0) (k := 11) (C := "FlowGate$Flow") (T := T_W) (N := 12) h hL rfl (by decide) ob_14 (by decide) rfl (fun w hw => mc (in_W w hw)) ty_W ty_W_ok nm_W (mc m_fl_W_57) rfl rfl rfl d_W_forget_48 ?_
      refine g_mem (fun M4 eM4 => ?_)
      have hw := o_l hw M4 eM4
      exact g_vret h hQ d_W_forget_51 hw
    · have hw := o_f c1 hw
      refine g_aload_n h d_W_forget_16 rfl rfl ?_
      refine g_getR (t := 14) (i := 0) (k := 3) (C := "FlowGate$Flow") (T := T_W) (N := 12) h hL rfl (by decide) ob_14 (by decide) rfl (t' := 16) (i' := 0) rfl rfl (fun w hw => mc (in_W w hw)) (mc m_fl_W_17) rfl d_W_forget_17 ?_
      refine g_iload_n h d_W_forget_20 rfl rfl ?_
      refine g_iconst (v := 0) h d_W_forget_21 (by decide) ?_
      obtain ⟨hv5, hw⟩ := o_in hw
      refine g_zast (t := 16) (i := 0) h hL rfl (by decide) rfl rfl hv5 d_W_forget_22 ?_
      refine g_mem (fun M6 eM6 => ?_)
      have hw := o_l hw M6 eM6
      refine g_aload_n h d_W_forget_23 rfl rfl ?_
      refine g_getR (t := 14) (i := 0) (k := 4) (C := "FlowGate$Flow") (T := T_W) (N := 12) h hL rfl (by decide) ob_14 (by decide) rfl (t' := 17) (i' := 0) rfl rfl (fun w hw => mc (in_W w hw)) (mc m_fl_W_21) rfl d_W_forget_24 ?_
      refine g_iload_n h d_W_forget_27 rfl rfl ?_
      refine g_iconst (v := 0) h d_W_forget_28 (by decide) ?_
      obtain ⟨hv7, hw⟩ := o_in hw
      refine g_zast (t := 17) (i := 0) h hL rfl (by decide) rfl rfl hv7 d_W_forget_29 ?_
      refine g_mem (fun M8 eM8 => ?_)
      have hw := o_l hw M8 eM8
      refine g_iinc (n' := 1) (lw := fun y => [(1, .int y), (0, .ref (za Z 14 0))]) h d_W_forget_30 rfl (by decide) (by decide) (fun _ => rfl) (fun n9 en9 => ?_)
      have hw := o_l hw n9 en9
      refine g_goto (tgt := 10) h d_W_forget_33 (by decide) ?_
      refine g_sub [1, 0] rfl ?_
      exact hK10 n9 M8 hw
set_option maxHeartbeats 4000000 in
set_option maxRecDepth 100000 in
theorem ct_W_forget {Z : ZT} (hL : Lay Z sC)  (M : Mm)  {res : Mm} (hw : F_W_forget M = some res) : CtV Z y_W_forget ws_W_forget (({ frames := 1, cells := 0, slots := 0, locals := 24 })) [.ref (za Z 14 0)] M res := by
  refine CtV.of hL (cc := c_W_forget) (maxL := 2) (by decide) rfl (Nat.le_of_ble_eq_true rfl) (fun X h hQ => ?_)
  show G Z X M 0 [(0, .ref (za Z 14 0))] []
  rw [F_W_forget] at hw
  refine g_aload_n h d_W_forget_0 rfl rfl ?_
  refine g_getR (t := 14) (i := 0) (k := 5) (C := "FlowGate$Flow") (T := T_W) (N := 12) h hL rfl (by decide) ob_14 (by decide) rfl (t' := 18) (i' := 0) rfl rfl (fun w hw => mc (in_W w hw)) (mc m_fl_W_24) rfl d_W_forget_1 ?_
  refine g_lconst (v := 0) h d_W_forget_4 rfl ?_
  refine g_callv h (g_runS (rest := []) h (ct_fillJ hL (t := 18) (i := 0) rfl (by decide) rfl 0 M) ⟨callB_of 2 h.2.2.2.2.1 (g_C m_co_JA_fillJ) rfl rfl rfl (h.2.2.2.2.1 _ (mc m_in_JA)) (h.2.2.2.2.1 _ (mc m_ml_W_44)) (by decide +kernel) ⟨Nat.le_of_ble_eq_true rfl, Nat.le_of_ble_eq_true rfl⟩, h.2.2.2.2.1 _ (mc m_st_JA_fillJ)⟩ rfl rfl (by decide) d_W_forget_5) ?_
  refine g_mem (fun M10 eM10 => ?_)
  have hw := o_l hw M10 eM10
  refine g_iconst (v := 0) h d_W_forget_8 (by decide) ?_
  refine g_istore_n (lv' := [(1, .int 0), (0, .ref (za Z 14 0))]) h d_W_forget_9 rfl (by decide) rfl ?_
  refine g_sub [1, 0] rfl ?_
  exact w_W_forget_b10 hL h hQ  fuel 0 M10 hw
set_option maxHeartbeats 4000000 in
set_option maxRecDepth 100000 in
theorem ct_M_hasLocal {Z : ZT} (hL : Lay Z sC) (v1 : Int32) (M : Mm)  {res : Int32 × Mm} (hw : F_M_hasLocal v1 M = some res) : CtI Z y_M_hasLocal ws_M_hasLocal (({ frames := 0, cells := 0, slots := 0, locals := 0 })) [.ref (za Z 4 0), .int v1] M res := by
  refine CtI.of hL (cc := c_M_hasLocal) (maxL := 2) (by decide) rfl (Nat.le_of_ble_eq_true rfl) (fun X h hQ => ?_)
  show G Z X M 0 [(0, .ref (za Z 4 0)), (1, .int v1)] []
  rw [F_M_hasLocal] at hw
  refine g_iload_n h d_M_hasLocal_0 rfl rfl ?_
  refine g_if_lt (tgt := 16) h d_M_hasLocal_1 (by decide) (fun c1 => ?_) (fun c1 => ?_)
  · have hw := o_t c1 hw
    refine g_iconst (v := 0) h d_M_hasLocal_16 (by decide) ?_
    exact g_zret h hQ d_M_hasLocal_17 rfl hw
  · have hw := o_f c1 hw
    refine g_iload_n h d_M_hasLocal_4 rfl rfl ?_
    refine g_aload_n h d_M_hasLocal_5 rfl rfl ?_
    refine g_getI (t := 4) (i := 0) (k := 12) (C := "FlowGate$Method") (T := T_M) (N := 14) h hL rfl (by decide) ob_4 (by decide) rfl (fun w hw => mc (in_M w hw)) (mc m_fl_M_40) rfl d_M_hasLocal_6 ?_
    refine g_icmp_ge (tgt := 16) h d_M_hasLocal_9 (by decide) (fun c2 => ?_) (fun c2 => ?_)
    · have hw := o_t c2 hw
      refine g_iconst (v := 0) h d_M_hasLocal_16 (by decide) ?_
      exact g_zret h hQ d_M_hasLocal_17 rfl hw
    · have hw := o_f c2 hw
      refine g_iconst (v := 1) h d_M_hasLocal_12 (by decide) ?_
      refine g_goto (tgt := 17) h d_M_hasLocal_13 (by decide) ?_
      exact g_zret h hQ d_M_hasLocal_17 rfl hw
end
