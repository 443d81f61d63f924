-- ===== PART A: goes FIRST, ahead of the names: the tables' words, and 'selects' of the private methods out of them =====
/-- a private method of a class that the tables say can be made, by its rows of tables_1 -/
def lw_okq (q : MethodName × Nat) : Prop := (q.1.cls ≠ "java/lang/invoke/MethodHandle" ∧ q.1.cls ≠ "java/lang/invoke/VarHandle") ∧ Cond.instantiable q.1.cls q.2 ∈ tables_1 ∧ Cond.privateMethod q.1 ∈ tables_1 ∧ Cond.instanceMethod q.1 ∈ tables_1
theorem lw_p0 : lw_okq (⟨"SkewPlan$Net", "begin", "(I)V"⟩, 10) := ⟨⟨by decide +kernel, by decide +kernel⟩, List.mem_of_getElem? (i := 49) (by decide +kernel), List.mem_of_getElem? (i := 55) (by decide +kernel), List.mem_of_getElem? (i := 56) (by decide +kernel)⟩
theorem lw_p1 : lw_okq (⟨"SkewPlan$Text", "advance", "()V"⟩, 5) := ⟨⟨by decide +kernel, by decide +kernel⟩, List.mem_of_getElem? (i := 26) (by decide +kernel), List.mem_of_getElem? (i := 252) (by decide +kernel), List.mem_of_getElem? (i := 253) (by decide +kernel)⟩
theorem lw_p2 : lw_okq (⟨"SkewPlan$Text", "isAtEnd", "()Z"⟩, 5) := ⟨⟨by decide +kernel, by decide +kernel⟩, List.mem_of_getElem? (i := 26) (by decide +kernel), List.mem_of_getElem? (i := 256) (by decide +kernel), List.mem_of_getElem? (i := 257) (by decide +kernel)⟩
theorem lw_p3 : lw_okq (⟨"SkewPlan$Text", "readClause", "(LSkewPlan$Net;)Z"⟩, 5) := ⟨⟨by decide +kernel, by decide +kernel⟩, List.mem_of_getElem? (i := 26) (by decide +kernel), List.mem_of_getElem? (i := 266) (by decide +kernel), List.mem_of_getElem? (i := 267) (by decide +kernel)⟩
theorem lw_p4 : lw_okq (⟨"SkewPlan$Text", "wordHere", "()I"⟩, 5) := ⟨⟨by decide +kernel, by decide +kernel⟩, List.mem_of_getElem? (i := 26) (by decide +kernel), List.mem_of_getElem? (i := 270) (by decide +kernel), List.mem_of_getElem? (i := 271) (by decide +kernel)⟩
theorem lw_p5 : lw_okq (⟨"SkewPlan$Text", "isSpelled", "(Ljava/lang/String;)Z"⟩, 5) := ⟨⟨by decide +kernel, by decide +kernel⟩, List.mem_of_getElem? (i := 26) (by decide +kernel), List.mem_of_getElem? (i := 276) (by decide +kernel), List.mem_of_getElem? (i := 277) (by decide +kernel)⟩
theorem lw_p6 : lw_okq (⟨"SkewPlan$Text", "readPath", "(LSkewPlan$Net;)Z"⟩, 5) := ⟨⟨by decide +kernel, by decide +kernel⟩, List.mem_of_getElem? (i := 26) (by decide +kernel), List.mem_of_getElem? (i := 334) (by decide +kernel), List.mem_of_getElem? (i := 335) (by decide +kernel)⟩
theorem lw_p7 : lw_okq (⟨"SkewPlan$Text", "readNumber", "(II)I"⟩, 5) := ⟨⟨by decide +kernel, by decide +kernel⟩, List.mem_of_getElem? (i := 26) (by decide +kernel), List.mem_of_getElem? (i := 338) (by decide +kernel), List.mem_of_getElem? (i := 339) (by decide +kernel)⟩
theorem lw_p8 : lw_okq (⟨"SkewPlan", "isPath", "(I)Z"⟩, 9) := ⟨⟨by decide +kernel, by decide +kernel⟩, List.mem_of_getElem? (i := 18) (by decide +kernel), List.mem_of_getElem? (i := 381) (by decide +kernel), List.mem_of_getElem? (i := 382) (by decide +kernel)⟩
theorem lw_p9 : lw_okq (⟨"SkewPlan$Planner", "settlesWithMargin", "(LSkewPlan$Net;I)Z"⟩, 7) := ⟨⟨by decide +kernel, by decide +kernel⟩, List.mem_of_getElem? (i := 132) (by decide +kernel), List.mem_of_getElem? (i := 448) (by decide +kernel), List.mem_of_getElem? (i := 449) (by decide +kernel)⟩
theorem lw_p10 : lw_okq (⟨"SkewPlan$Planner", "layBounds", "(LSkewPlan$Net;IIII)V"⟩, 7) := ⟨⟨by decide +kernel, by decide +kernel⟩, List.mem_of_getElem? (i := 132) (by decide +kernel), List.mem_of_getElem? (i := 452) (by decide +kernel), List.mem_of_getElem? (i := 453) (by decide +kernel)⟩
theorem lw_p11 : lw_okq (⟨"SkewPlan$Planner", "tighten", "(IIII)V"⟩, 7) := ⟨⟨by decide +kernel, by decide +kernel⟩, List.mem_of_getElem? (i := 132) (by decide +kernel), List.mem_of_getElem? (i := 458) (by decide +kernel), List.mem_of_getElem? (i := 459) (by decide +kernel)⟩
theorem lw_p12 : lw_okq (⟨"SkewPlan$Planner", "settle", "()Z"⟩, 7) := ⟨⟨by decide +kernel, by decide +kernel⟩, List.mem_of_getElem? (i := 132) (by decide +kernel), List.mem_of_getElem? (i := 466) (by decide +kernel), List.mem_of_getElem? (i := 467) (by decide +kernel)⟩
theorem lw_p13 : lw_okq (⟨"SkewPlan$Planner", "lowerOnce", "()Z"⟩, 7) := ⟨⟨by decide +kernel, by decide +kernel⟩, List.mem_of_getElem? (i := 132) (by decide +kernel), List.mem_of_getElem? (i := 470) (by decide +kernel), List.mem_of_getElem? (i := 471) (by decide +kernel)⟩
theorem lw_p14 : lw_okq (⟨"SkewPlan$Planner", "leastPeriodAbove", "(LSkewPlan$Net;II)I"⟩, 7) := ⟨⟨by decide +kernel, by decide +kernel⟩, List.mem_of_getElem? (i := 132) (by decide +kernel), List.mem_of_getElem? (i := 490) (by decide +kernel), List.mem_of_getElem? (i := 491) (by decide +kernel)⟩
theorem lw_p15 : lw_okq (⟨"SkewPlan$Planner", "settlesAtPeriod", "(LSkewPlan$Net;III)Z"⟩, 7) := ⟨⟨by decide +kernel, by decide +kernel⟩, List.mem_of_getElem? (i := 132) (by decide +kernel), List.mem_of_getElem? (i := 494) (by decide +kernel), List.mem_of_getElem? (i := 495) (by decide +kernel)⟩
def lw_privs_1 : List (MethodName × Nat) := [(⟨"SkewPlan$Net", "begin", "(I)V"⟩, 10), (⟨"SkewPlan$Text", "advance", "()V"⟩, 5), (⟨"SkewPlan$Text", "isAtEnd", "()Z"⟩, 5), (⟨"SkewPlan$Text", "readClause", "(LSkewPlan$Net;)Z"⟩, 5), (⟨"SkewPlan$Text", "wordHere", "()I"⟩, 5), (⟨"SkewPlan$Text", "isSpelled", "(Ljava/lang/String;)Z"⟩, 5), (⟨"SkewPlan$Text", "readPath", "(LSkewPlan$Net;)Z"⟩, 5), (⟨"SkewPlan$Text", "readNumber", "(II)I"⟩, 5), (⟨"SkewPlan", "isPath", "(I)Z"⟩, 9), (⟨"SkewPlan$Planner", "settlesWithMargin", "(LSkewPlan$Net;I)Z"⟩, 7), (⟨"SkewPlan$Planner", "layBounds", "(LSkewPlan$Net;IIII)V"⟩, 7), (⟨"SkewPlan$Planner", "tighten", "(IIII)V"⟩, 7), (⟨"SkewPlan$Planner", "settle", "()Z"⟩, 7), (⟨"SkewPlan$Planner", "lowerOnce", "()Z"⟩, 7), (⟨"SkewPlan$Planner", "leastPeriodAbove", "(LSkewPlan$Net;II)I"⟩, 7), (⟨"SkewPlan$Planner", "settlesAtPeriod", "(LSkewPlan$Net;III)Z"⟩, 7)]
theorem lw_r1 : ∀ q ∈ lw_privs_1, lw_okq q := List.forall_mem_cons.mpr ⟨lw_p0, List.forall_mem_cons.mpr ⟨lw_p1, List.forall_mem_cons.mpr ⟨lw_p2, List.forall_mem_cons.mpr ⟨lw_p3, List.forall_mem_cons.mpr ⟨lw_p4, List.forall_mem_cons.mpr ⟨lw_p5, List.forall_mem_cons.mpr ⟨lw_p6, List.forall_mem_cons.mpr ⟨lw_p7, List.forall_mem_cons.mpr ⟨lw_p8, List.forall_mem_cons.mpr ⟨lw_p9, List.forall_mem_cons.mpr ⟨lw_p10, List.forall_mem_cons.mpr ⟨lw_p11, List.forall_mem_cons.mpr ⟨lw_p12, List.forall_mem_cons.mpr ⟨lw_p13, List.forall_mem_cons.mpr ⟨lw_p14, List.forall_mem_cons.mpr ⟨lw_p15, fun _ h => absurd h List.not_mem_nil⟩⟩⟩⟩⟩⟩⟩⟩⟩⟩⟩⟩⟩⟩⟩⟩
theorem lw_p16 : lw_okq (⟨"SkewPlan$Planner", "closesFrom", "(II)Z"⟩, 7) := ⟨⟨by decide +kernel, by decide +kernel⟩, List.mem_of_getElem? (i := 132) (by decide +kernel), List.mem_of_getElem? (i := 534) (by decide +kernel), List.mem_of_getElem? (i := 535) (by decide +kernel)⟩
theorem lw_p17 : lw_okq (⟨"SkewPlan$Planner", "isInRing", "(II)Z"⟩, 7) := ⟨⟨by decide +kernel, by decide +kernel⟩, List.mem_of_getElem? (i := 132) (by decide +kernel), List.mem_of_getElem? (i := 538) (by decide +kernel), List.mem_of_getElem? (i := 539) (by decide +kernel)⟩
theorem lw_p18 : lw_okq (⟨"SkewPlan$Trace", "putNumber", "(ID)V"⟩, 5) := ⟨⟨by decide +kernel, by decide +kernel⟩, List.mem_of_getElem? (i := 163) (by decide +kernel), List.mem_of_getElem? (i := 571) (by decide +kernel), List.mem_of_getElem? (i := 572) (by decide +kernel)⟩
theorem lw_p19 : lw_okq (⟨"SkewPlan$Trace", "putNoNumber", "(I)V"⟩, 5) := ⟨⟨by decide +kernel, by decide +kernel⟩, List.mem_of_getElem? (i := 163) (by decide +kernel), List.mem_of_getElem? (i := 591) (by decide +kernel), List.mem_of_getElem? (i := 592) (by decide +kernel)⟩
theorem lw_p20 : lw_okq (⟨"SkewPlan", "traceRefusal", "(IIII)I"⟩, 9) := ⟨⟨by decide +kernel, by decide +kernel⟩, List.mem_of_getElem? (i := 18) (by decide +kernel), List.mem_of_getElem? (i := 613) (by decide +kernel), List.mem_of_getElem? (i := 614) (by decide +kernel)⟩
theorem lw_p21 : lw_okq (⟨"SkewPlan", "placesOfAllTraces", "()I"⟩, 9) := ⟨⟨by decide +kernel, by decide +kernel⟩, List.mem_of_getElem? (i := 18) (by decide +kernel), List.mem_of_getElem? (i := 668) (by decide +kernel), List.mem_of_getElem? (i := 669) (by decide +kernel)⟩
theorem lw_p22 : lw_okq (⟨"SkewPlanModel", "anew", "(I)V"⟩, 35) := ⟨⟨by decide +kernel, by decide +kernel⟩, List.mem_of_getElem? (i := 677) (by decide +kernel), List.mem_of_getElem? (i := 683) (by decide +kernel), List.mem_of_getElem? (i := 684) (by decide +kernel)⟩
theorem lw_p23 : lw_okq (⟨"SkewPlanModel", "copyRow", "(II)V"⟩, 35) := ⟨⟨by decide +kernel, by decide +kernel⟩, List.mem_of_getElem? (i := 677) (by decide +kernel), List.mem_of_getElem? (i := 687) (by decide +kernel), List.mem_of_getElem? (i := 688) (by decide +kernel)⟩
theorem lw_p24 : lw_okq (⟨"SkewPlanModel", "reads", "(Z)Z"⟩, 35) := ⟨⟨by decide +kernel, by decide +kernel⟩, List.mem_of_getElem? (i := 677) (by decide +kernel), List.mem_of_getElem? (i := 814) (by decide +kernel), List.mem_of_getElem? (i := 815) (by decide +kernel)⟩
theorem lw_p25 : lw_okq (⟨"SkewPlanModel", "nextToken", "()V"⟩, 35) := ⟨⟨by decide +kernel, by decide +kernel⟩, List.mem_of_getElem? (i := 677) (by decide +kernel), List.mem_of_getElem? (i := 818) (by decide +kernel), List.mem_of_getElem? (i := 819) (by decide +kernel)⟩
theorem lw_p26 : lw_okq (⟨"SkewPlanModel", "readsClause", "()Z"⟩, 35) := ⟨⟨by decide +kernel, by decide +kernel⟩, List.mem_of_getElem? (i := 677) (by decide +kernel), List.mem_of_getElem? (i := 832) (by decide +kernel), List.mem_of_getElem? (i := 833) (by decide +kernel)⟩
theorem lw_p27 : lw_okq (⟨"SkewPlanModel", "wordHere", "()I"⟩, 35) := ⟨⟨by decide +kernel, by decide +kernel⟩, List.mem_of_getElem? (i := 677) (by decide +kernel), List.mem_of_getElem? (i := 836) (by decide +kernel), List.mem_of_getElem? (i := 837) (by decide +kernel)⟩
theorem lw_p28 : lw_okq (⟨"SkewPlanModel", "isWord", "([I)Z"⟩, 35) := ⟨⟨by decide +kernel, by decide +kernel⟩, List.mem_of_getElem? (i := 677) (by decide +kernel), List.mem_of_getElem? (i := 840) (by decide +kernel), List.mem_of_getElem? (i := 841) (by decide +kernel)⟩
theorem lw_p29 : lw_okq (⟨"SkewPlanModel", "readsNumbers", "(I)Z"⟩, 35) := ⟨⟨by decide +kernel, by decide +kernel⟩, List.mem_of_getElem? (i := 677) (by decide +kernel), List.mem_of_getElem? (i := 844) (by decide +kernel), List.mem_of_getElem? (i := 845) (by decide +kernel)⟩
theorem lw_p30 : lw_okq (⟨"SkewPlanModel", "number", "(III)Z"⟩, 35) := ⟨⟨by decide +kernel, by decide +kernel⟩, List.mem_of_getElem? (i := 677) (by decide +kernel), List.mem_of_getElem? (i := 848) (by decide +kernel), List.mem_of_getElem? (i := 849) (by decide +kernel)⟩
theorem lw_p31 : lw_okq (⟨"SkewPlanModel", "does", "(I)V"⟩, 35) := ⟨⟨by decide +kernel, by decide +kernel⟩, List.mem_of_getElem? (i := 677) (by decide +kernel), List.mem_of_getElem? (i := 852) (by decide +kernel), List.mem_of_getElem? (i := 853) (by decide +kernel)⟩
def lw_privs_2 : List (MethodName × Nat) := [(⟨"SkewPlan$Planner", "closesFrom", "(II)Z"⟩, 7), (⟨"SkewPlan$Planner", "isInRing", "(II)Z"⟩, 7), (⟨"SkewPlan$Trace", "putNumber", "(ID)V"⟩, 5), (⟨"SkewPlan$Trace", "putNoNumber", "(I)V"⟩, 5), (⟨"SkewPlan", "traceRefusal", "(IIII)I"⟩, 9), (⟨"SkewPlan", "placesOfAllTraces", "()I"⟩, 9), (⟨"SkewPlanModel", "anew", "(I)V"⟩, 35), (⟨"SkewPlanModel", "copyRow", "(II)V"⟩, 35), (⟨"SkewPlanModel", "reads", "(Z)Z"⟩, 35), (⟨"SkewPlanModel", "nextToken", "()V"⟩, 35), (⟨"SkewPlanModel", "readsClause", "()Z"⟩, 35), (⟨"SkewPlanModel", "wordHere", "()I"⟩, 35), (⟨"SkewPlanModel", "isWord", "([I)Z"⟩, 35), (⟨"SkewPlanModel", "readsNumbers", "(I)Z"⟩, 35), (⟨"SkewPlanModel", "number", "(III)Z"⟩, 35), (⟨"SkewPlanModel", "does", "(I)V"⟩, 35)]
theorem lw_r2 : ∀ q ∈ lw_privs_2, lw_okq q := List.forall_mem_cons.mpr ⟨lw_p16, List.forall_mem_cons.mpr ⟨lw_p17, List.forall_mem_cons.mpr ⟨lw_p18, List.forall_mem_cons.mpr ⟨lw_p19, List.forall_mem_cons.mpr ⟨lw_p20, List.forall_mem_cons.mpr ⟨lw_p21, List.forall_mem_cons.mpr ⟨lw_p22, List.forall_mem_cons.mpr ⟨lw_p23, List.forall_mem_cons.mpr ⟨lw_p24, List.forall_mem_cons.mpr ⟨lw_p25, List.forall_mem_cons.mpr ⟨lw_p26, List.forall_mem_cons.mpr ⟨lw_p27, List.forall_mem_cons.mpr ⟨lw_p28, List.forall_mem_cons.mpr ⟨lw_p29, List.forall_mem_cons.mpr ⟨lw_p30, List.forall_mem_cons.mpr ⟨lw_p31, fun _ h => absurd h List.not_mem_nil⟩⟩⟩⟩⟩⟩⟩⟩⟩⟩⟩⟩⟩⟩⟩⟩
theorem lw_p32 : lw_okq (⟨"SkewPlanModel", "isPath", "(I)Z"⟩, 35) := ⟨⟨by decide +kernel, by decide +kernel⟩, List.mem_of_getElem? (i := 677) (by decide +kernel), List.mem_of_getElem? (i := 864) (by decide +kernel), List.mem_of_getElem? (i := 865) (by decide +kernel)⟩
theorem lw_p33 : lw_okq (⟨"SkewPlanModel", "lateOf", "(II)I"⟩, 35) := ⟨⟨by decide +kernel, by decide +kernel⟩, List.mem_of_getElem? (i := 677) (by decide +kernel), List.mem_of_getElem? (i := 868) (by decide +kernel), List.mem_of_getElem? (i := 869) (by decide +kernel)⟩
theorem lw_p34 : lw_okq (⟨"SkewPlanModel", "soonOf", "(I)I"⟩, 35) := ⟨⟨by decide +kernel, by decide +kernel⟩, List.mem_of_getElem? (i := 677) (by decide +kernel), List.mem_of_getElem? (i := 872) (by decide +kernel), List.mem_of_getElem? (i := 873) (by decide +kernel)⟩
theorem lw_p35 : lw_okq (⟨"SkewPlanModel", "keepPast", "()V"⟩, 35) := ⟨⟨by decide +kernel, by decide +kernel⟩, List.mem_of_getElem? (i := 677) (by decide +kernel), List.mem_of_getElem? (i := 881) (by decide +kernel), List.mem_of_getElem? (i := 882) (by decide +kernel)⟩
theorem lw_p36 : lw_okq (⟨"SkewPlanModel", "isFeasible", "(II)Z"⟩, 35) := ⟨⟨by decide +kernel, by decide +kernel⟩, List.mem_of_getElem? (i := 677) (by decide +kernel), List.mem_of_getElem? (i := 906) (by decide +kernel), List.mem_of_getElem? (i := 907) (by decide +kernel)⟩
theorem lw_p37 : lw_okq (⟨"SkewPlanModel", "layBounds", "(II)V"⟩, 35) := ⟨⟨by decide +kernel, by decide +kernel⟩, List.mem_of_getElem? (i := 677) (by decide +kernel), List.mem_of_getElem? (i := 910) (by decide +kernel), List.mem_of_getElem? (i := 911) (by decide +kernel)⟩
theorem lw_p38 : lw_okq (⟨"SkewPlanModel", "areThere", "()Z"⟩, 35) := ⟨⟨by decide +kernel, by decide +kernel⟩, List.mem_of_getElem? (i := 677) (by decide +kernel), List.mem_of_getElem? (i := 917) (by decide +kernel), List.mem_of_getElem? (i := 918) (by decide +kernel)⟩
theorem lw_p39 : lw_okq (⟨"SkewPlanModel", "makesLess", "(III)Z"⟩, 35) := ⟨⟨by decide +kernel, by decide +kernel⟩, List.mem_of_getElem? (i := 677) (by decide +kernel), List.mem_of_getElem? (i := 921) (by decide +kernel), List.mem_of_getElem? (i := 922) (by decide +kernel)⟩
theorem lw_p40 : lw_okq (⟨"SkewPlanModel", "isRegister", "(I)Z"⟩, 35) := ⟨⟨by decide +kernel, by decide +kernel⟩, List.mem_of_getElem? (i := 677) (by decide +kernel), List.mem_of_getElem? (i := 929) (by decide +kernel), List.mem_of_getElem? (i := 930) (by decide +kernel)⟩
theorem lw_p41 : lw_okq (⟨"SkewPlanModel", "leastOf", "()I"⟩, 35) := ⟨⟨by decide +kernel, by decide +kernel⟩, List.mem_of_getElem? (i := 677) (by decide +kernel), List.mem_of_getElem? (i := 937) (by decide +kernel), List.mem_of_getElem? (i := 938) (by decide +kernel)⟩
theorem lw_p42 : lw_okq (⟨"SkewPlanModel", "isFeasibleBy", "(II)Z"⟩, 35) := ⟨⟨by decide +kernel, by decide +kernel⟩, List.mem_of_getElem? (i := 677) (by decide +kernel), List.mem_of_getElem? (i := 945) (by decide +kernel), List.mem_of_getElem? (i := 946) (by decide +kernel)⟩
theorem lw_p43 : lw_okq (⟨"SkewPlanModel", "layLeast", "()V"⟩, 35) := ⟨⟨by decide +kernel, by decide +kernel⟩, List.mem_of_getElem? (i := 677) (by decide +kernel), List.mem_of_getElem? (i := 961) (by decide +kernel), List.mem_of_getElem? (i := 962) (by decide +kernel)⟩
theorem lw_p44 : lw_okq (⟨"SkewPlanModel", "isBelow", "()Z"⟩, 35) := ⟨⟨by decide +kernel, by decide +kernel⟩, List.mem_of_getElem? (i := 677) (by decide +kernel), List.mem_of_getElem? (i := 966) (by decide +kernel), List.mem_of_getElem? (i := 967) (by decide +kernel)⟩
theorem lw_p45 : lw_okq (⟨"SkewPlanModel", "goOn", "()V"⟩, 35) := ⟨⟨by decide +kernel, by decide +kernel⟩, List.mem_of_getElem? (i := 677) (by decide +kernel), List.mem_of_getElem? (i := 970) (by decide +kernel), List.mem_of_getElem? (i := 971) (by decide +kernel)⟩
theorem lw_p46 : lw_okq (⟨"SkewPlanModel", "nextFrom", "(I)I"⟩, 35) := ⟨⟨by decide +kernel, by decide +kernel⟩, List.mem_of_getElem? (i := 677) (by decide +kernel), List.mem_of_getElem? (i := 974) (by decide +kernel), List.mem_of_getElem? (i := 975) (by decide +kernel)⟩
theorem lw_p47 : lw_okq (⟨"SkewPlanModel", "isInRing", "(I)Z"⟩, 35) := ⟨⟨by decide +kernel, by decide +kernel⟩, List.mem_of_getElem? (i := 677) (by decide +kernel), List.mem_of_getElem? (i := 978) (by decide +kernel), List.mem_of_getElem? (i := 979) (by decide +kernel)⟩
def lw_privs_3 : List (MethodName × Nat) := [(⟨"SkewPlanModel", "isPath", "(I)Z"⟩, 35), (⟨"SkewPlanModel", "lateOf", "(II)I"⟩, 35), (⟨"SkewPlanModel", "soonOf", "(I)I"⟩, 35), (⟨"SkewPlanModel", "keepPast", "()V"⟩, 35), (⟨"SkewPlanModel", "isFeasible", "(II)Z"⟩, 35), (⟨"SkewPlanModel", "layBounds", "(II)V"⟩, 35), (⟨"SkewPlanModel", "areThere", "()Z"⟩, 35), (⟨"SkewPlanModel", "makesLess", "(III)Z"⟩, 35), (⟨"SkewPlanModel", "isRegister", "(I)Z"⟩, 35), (⟨"SkewPlanModel", "leastOf", "()I"⟩, 35), (⟨"SkewPlanModel", "isFeasibleBy", "(II)Z"⟩, 35), (⟨"SkewPlanModel", "layLeast", "()V"⟩, 35), (⟨"SkewPlanModel", "isBelow", "()Z"⟩, 35), (⟨"SkewPlanModel", "goOn", "()V"⟩, 35), (⟨"SkewPlanModel", "nextFrom", "(I)I"⟩, 35), (⟨"SkewPlanModel", "isInRing", "(I)Z"⟩, 35)]
theorem lw_r3 : ∀ q ∈ lw_privs_3, lw_okq q := List.forall_mem_cons.mpr ⟨lw_p32, List.forall_mem_cons.mpr ⟨lw_p33, List.forall_mem_cons.mpr ⟨lw_p34, List.forall_mem_cons.mpr ⟨lw_p35, List.forall_mem_cons.mpr ⟨lw_p36, List.forall_mem_cons.mpr ⟨lw_p37, List.forall_mem_cons.mpr ⟨lw_p38, List.forall_mem_cons.mpr ⟨lw_p39, List.forall_mem_cons.mpr ⟨lw_p40, List.forall_mem_cons.mpr ⟨lw_p41, List.forall_mem_cons.mpr ⟨lw_p42, List.forall_mem_cons.mpr ⟨lw_p43, List.forall_mem_cons.mpr ⟨lw_p44, List.forall_mem_cons.mpr ⟨lw_p45, List.forall_mem_cons.mpr ⟨lw_p46, List.forall_mem_cons.mpr ⟨lw_p47, fun _ h => absurd h List.not_mem_nil⟩⟩⟩⟩⟩⟩⟩⟩⟩⟩⟩⟩⟩⟩⟩⟩
theorem lw_p48 : lw_okq (⟨"SkewPlanModel", "noPlace", "(IIII)I"⟩, 35) := ⟨⟨by decide +kernel, by decide +kernel⟩, List.mem_of_getElem? (i := 677) (by decide +kernel), List.mem_of_getElem? (i := 1000) (by decide +kernel), List.mem_of_getElem? (i := 1001) (by decide +kernel)⟩
theorem lw_p49 : lw_okq (⟨"SkewPlanModel", "thousand", "(II)I"⟩, 35) := ⟨⟨by decide +kernel, by decide +kernel⟩, List.mem_of_getElem? (i := 677) (by decide +kernel), List.mem_of_getElem? (i := 1004) (by decide +kernel), List.mem_of_getElem? (i := 1005) (by decide +kernel)⟩
theorem lw_p50 : lw_okq (⟨"SkewPlanModel", "valueOf", "(II)D"⟩, 35) := ⟨⟨by decide +kernel, by decide +kernel⟩, List.mem_of_getElem? (i := 677) (by decide +kernel), List.mem_of_getElem? (i := 1030) (by decide +kernel), List.mem_of_getElem? (i := 1031) (by decide +kernel)⟩
theorem lw_p51 : lw_okq (⟨"SkewPlanModel", "allPlaces", "()I"⟩, 35) := ⟨⟨by decide +kernel, by decide +kernel⟩, List.mem_of_getElem? (i := 677) (by decide +kernel), List.mem_of_getElem? (i := 1046) (by decide +kernel), List.mem_of_getElem? (i := 1047) (by decide +kernel)⟩
theorem lw_p52 : lw_okq (⟨"SkewPlanModel", "tooSoon", "()I"⟩, 35) := ⟨⟨by decide +kernel, by decide +kernel⟩, List.mem_of_getElem? (i := 677) (by decide +kernel), List.mem_of_getElem? (i := 1050) (by decide +kernel), List.mem_of_getElem? (i := 1051) (by decide +kernel)⟩
def lw_privs_4 : List (MethodName × Nat) := [(⟨"SkewPlanModel", "noPlace", "(IIII)I"⟩, 35), (⟨"SkewPlanModel", "thousand", "(II)I"⟩, 35), (⟨"SkewPlanModel", "valueOf", "(II)D"⟩, 35), (⟨"SkewPlanModel", "allPlaces", "()I"⟩, 35), (⟨"SkewPlanModel", "tooSoon", "()I"⟩, 35)]
theorem lw_r4 : ∀ q ∈ lw_privs_4, lw_okq q := List.forall_mem_cons.mpr ⟨lw_p48, List.forall_mem_cons.mpr ⟨lw_p49, List.forall_mem_cons.mpr ⟨lw_p50, List.forall_mem_cons.mpr ⟨lw_p51, List.forall_mem_cons.mpr ⟨lw_p52, fun _ h => absurd h List.not_mem_nil⟩⟩⟩⟩⟩
def lw_privs : List (MethodName × Nat) := lw_privs_1 ++ (lw_privs_2 ++ (lw_privs_3 ++ (lw_privs_4)))
def lw_tbl : List Cond := k2_sels lw_privs ++ tables_1
theorem lw_privs_ok : ∀ q ∈ lw_privs, lw_okq q := by
  show ∀ q ∈ lw_privs_1 ++ (lw_privs_2 ++ (lw_privs_3 ++ (lw_privs_4))), lw_okq q
  exact List.forall_mem_append.mpr ⟨lw_r1, List.forall_mem_append.mpr ⟨lw_r2, List.forall_mem_append.mpr ⟨lw_r3, lw_r4⟩⟩⟩
/-- the streams that the claim lets the run draw from -/
abbrev lw_cs : List Choice := [Jvm.Choice.named "NaN.bits"]
theorem lw_bits : nanBits ∈ lw_cs := by first | decide | exact List.mem_cons_self | simp [lw_cs, nanBits]
-- ===== end of PART A; then your names; then what follows =====
/-! ===== BEGIN words of one list among another's, by their places ===== -/
theorem goodIn_r {big : List Cond} (ws : List Cond) (ps : List Nat) (hp : ws = ps.filterMap (fun i => big[i]?)) (h : ws.all goodWord = true) : GoodIn big ws := by
  intro w hw
  have h1 := List.all_eq_true.mp h w hw
  rw [hp] at hw
  obtain ⟨i, -, hi⟩ := List.mem_filterMap.mp hw
  have hm : w ∈ big := by first | exact List.mem_of_getElem? hi | exact List.getElem?_mem hi
  exact ⟨hm, good_of_word h1⟩
theorem goodIn_app {big a b : List Cond} (ha : GoodIn big a) (hb : GoodIn big b) : GoodIn big (a ++ b) := fun w h => (List.mem_append.mp h).elim (ha w) (hb w)
theorem goodIn_ca {big a b : List Cond} {c : Cond} (ha : GoodIn big (c :: a)) (hb : GoodIn big b) : GoodIn big (c :: (a ++ b)) := fun w h => (List.mem_cons.mp h).elim (fun e => ha w (List.mem_cons.mpr (Or.inl e))) (fun h => (List.mem_append.mp h).elim (fun h => ha w (List.mem_cons.mpr (Or.inr h))) (hb w))
theorem goodIn_sub {big ws : List Cond} (hm : ∀ w ∈ ws, w ∈ big) (h : ws.all goodWord = true) : GoodIn big ws := fun w hw => ⟨hm w hw, good_of_word (List.all_eq_true.mp h w hw)⟩
/-! ===== END ===== -/

/-! ===== BEGIN new T[n][m]: the outer array a place, the inner ones among the pooled ===== -/
/-- f, but v at every address of l -/
def vr_up {α : Type} (f : Nat → α) (l : List Nat) (v : α) : Nat → α := fun a => if a ∈ l then v else f a
theorem vr_up_in {α : Type} {f : Nat → α} {l : List Nat} {v : α} {a : Nat} (h : a ∈ l) : vr_up f l v a = v := if_pos h
theorem vr_up_ne {α : Type} {f : Nat → α} {l : List Nat} {v : α} {a : Nat} (h : a ∉ l) : vr_up f l v a = f a := if_neg h
theorem vr_rows {L l : List Nat} {f : Nat → va_E} {e : va_E} (h : ∀ a, a ∈ l → a ∉ L) : va_pl L f ++ l.map (fun a => (a, e)) = va_pl (L ++ l) (vr_up f l e) := by
  unfold va_pl
  rw [List.map_append]
  congr 1
  · apply List.map_congr_left
    intro a ha
    rw [vr_up_ne (fun q => h a q ha)]
  · apply List.map_congr_left
    intro a ha
    rw [vr_up_in ha]
theorem vr_lay {X rows : va_W} {x : Nat × va_E} {pl : va_W} {D : va_G} {cl : List vw_C} {H : Heap} (hP : va_P D cl (((X ++ pl) ++ [x]) ++ rows) H) : va_P D cl ((X ++ [x]) ++ (pl ++ rows)) H := by
  rw [List.append_assoc (X ++ pl)] at hP
  have h := va_P.swap hP
  rw [← List.append_assoc X] at h
  have h2 := va_P.swap h
  rw [List.append_assoc (X ++ [x])] at h2
  exact h2
theorem vr_layD {X rows : va_W} {x : Nat × va_E} {pl : va_W} {A : Nat → Prop} (hD : va_D A (((X ++ pl) ++ [x]) ++ rows)) : va_D A ((X ++ [x]) ++ (pl ++ rows)) := by
  rw [List.append_assoc (X ++ pl)] at hD
  have h := va_D.swap hD
  rw [← List.append_assoc X] at h
  have h2 := va_D.swap h
  rw [List.append_assoc (X ++ [x])] at h2
  exact h2
theorem vr_outer (c : ClassId) (N h0 : Nat) : ∀ i : Nat, Jvm.Free.Multi.outerC c N h0 i = arrV c N (fun j => va_rf (if j < i then some (h0 + 1 + j) else none))
  | 0 => by
    show ({ cls := c, slots := Array.replicate N .null, vm := .none } : Cell) = _
    rw [arrV_new]
    refine congrArg (arrV c N) (funext fun j => ?_)
    simp [va_rf]
  | i + 1 => by
    show (Jvm.Free.Multi.outerC c N h0 i).setSlot i (.ref (h0 + 1 + i)) = _
    rw [vr_outer c N h0 i, arrV_store]
    refine congrArg (arrV c N) (funext fun j => ?_)
    by_cases e : j = i
    · subst e
      simp [updV, va_rf]
    · by_cases h : j < i
      · simp [updV, e, h, Nat.lt_succ_of_lt h]
      · simp [updV, e, h, show ¬ j < i + 1 by omega]
section VGM
variable {p : Program} {l : Launch} {e : Env} {R : Room} {s : State} {m : MethodId} {args : Array Value} {below : List Frame} {meth : Method} {c : Code} {H : Heap} {locs : List Loc} {cells slots : Nat} {Q : State → Prop}
variable {cc : ByteArray} {pc : Nat} {ls : Array Slot} {rest : List Value} {D : va_G} {cl : List vw_C} {A : Nat → Prop} {a : Nat} {tys : List (ClassId × FieldType)} {ws : va_W} {H0 : Heap}
theorem va_mna {X : va_W} {L : List Nat} {f : Nat → va_E} {cc : ByteArray} (hexec : p.tables.exec = Jvm.exec) (hb : c.code = cc) {own : String} {index : Nat} {ty : FieldType} {cy : ClassId} (hown : s.vm.findClass own = some m.cls) (hclink : (Cond.classLink own index ("[" ++ (FieldType.array ty).toString)).before args s = true) (hover : va_AOA ty s) (harr : (Cond.arrayClass ty).before args s = true) (hcy : s.vm.findClass (FieldType.array ty).toString = some cy)
    (hK : va_K D cl tys s) (hP : va_P D cl (X ++ va_pl L f) H) (hD : va_D A (X ++ va_pl L f)) (hS : va_S A H0 H locs) (hA : ∀ q, H0.size ≤ q → A q) {n k : Int32} {N' K' : Nat} {z : vp_A} (hn : ¬ n < 0) (hk : ¬ k < 0) (hN : n.toNatClampNeg = N') (hM : k.toNatClampNeg = K')
    (hb1 : N' * 4 ≤ 536870912) (hb2 : K' * componentBytes ty ≤ 536870912) (hb3 : K' ≤ 536870912) (hdf : fits ty (defaultValue ty) = true) (hdd : (defaultValue ty).isDefault = true) (hcells : cells + (1 + N') ≤ R.cells) (hslots : slots + (N' + N' * K') ≤ R.slots) (hz : ∀ c : ClassId, Jvm.Free.Multi.innerC c K' (defaultValue ty) = vp_cell c z) (hdg : decode cc pc = .ok (.multianewarray index 2, 4))
    (kk : ∀ (q : Nat) (r : Nat → Nat) (cA : ClassId) (H1 : Heap), (∀ i j : Nat, i < N' → j < N' → r i = r j → i = j) → (∀ i : Nat, i < N' → r i ∉ L) → va_K D cl (tys ++ [(cA, .array ty)]) s →
      va_P D cl ((X ++ [(q, .inl (cA, N', .inr (.inr (.inr (.inr (fun i => if i < N' then some (r i) else none))))))]) ++ va_pl (L ++ (List.range N').map r) (vr_up f ((List.range N').map r) (.inl (cy, z)))) H1 → va_D A ((X ++ [(q, .inl (cA, N', .inr (.inr (.inr (.inr (fun i => if i < N' then some (r i) else none))))))]) ++ va_pl (L ++ (List.range N').map r) (vr_up f ((List.range N').map r) (.inl (cy, z)))) → va_S A H0 H1 locs →
      W p l e R s m args below meth c H1 locs (cells + 1 + N') (slots + N' + N' * K') Q (F0 m (pc + 4) ls (.ref q :: rest))) : W p l e R s m args below meth c H locs cells slots Q (F0 m pc ls (.int k :: .int n :: rest)) := by
  subst hN
  subst hM
  intro T hT Xs
  obtain ⟨vm₁, cA, comp, -, fA, fC, hO, -, X', step⟩ := Xs.multianewarray2F hexec hown hclink (va_AOA.use hover) harr (g := F0 m pc ls (.int k :: .int n :: rest)) rfl (by rw [hb]; exact hdg) rfl hn hk hb1 hb2 hb3 hdf hdd hcells hslots
  have ec : some cy = some comp := hcy.symm.trans fC
  cases ec
  generalize hF : Jvm.Free.Multi.fill (T.setVm vm₁) cA cy n.toNatClampNeg k.toNatClampNeg (defaultValue ty) n.toNatClampNeg = F at X' step
  have hTh : (T.setVm vm₁).heap = H := hT
  obtain ⟨f1, f2, -, -⟩ := Jvm.Free.Multi.fill_facts (T.setVm vm₁) cA cy n.toNatClampNeg k.toNatClampNeg (defaultValue ty) n.toNatClampNeg
  rw [hF, hTh] at f1 f2
  have hold : ∀ x : Nat, x < H.size → F.heap[x]? = H[x]? := fun x hx => by
    have := Jvm.Free.Multi.fill_old (T.setVm vm₁) cA cy n.toNatClampNeg k.toNatClampNeg (defaultValue ty) (a := x) (by rw [hTh]; exact hx) n.toNatClampNeg
    rw [hF, hTh] at this
    exact this
  have hrow : ∀ j : Nat, j < n.toNatClampNeg → F.heap[H.size + 1 + j]? = some (vp_cell cy z) := fun j hj => by
    have := Jvm.Free.Multi.fill_inner (T.setVm vm₁) cA cy n.toNatClampNeg k.toNatClampNeg (defaultValue ty) n.toNatClampNeg j hj
    rw [hF, hTh, hz] at this
    exact this
  have hout : Jvm.Free.Multi.outerC cA n.toNatClampNeg H.size n.toNatClampNeg = vp_cell cA (n.toNatClampNeg, .inr (.inr (.inr (.inr (fun i => if i < n.toNatClampNeg then some (H.size + 1 + i) else none))))) := by
    rw [vp_cell_q]
    exact vr_outer cA n.toNatClampNeg H.size n.toNatClampNeg
  rw [hout] at f2
  have hlt : ∀ a, a ∈ L → a < H.size := fun a ha => by
    obtain ⟨k9, hk9⟩ := va_pl_get (X := X) (f := f) ha
    exact (hP k9 _ hk9).lt
  have hnl : ∀ i : Nat, i < n.toNatClampNeg → H.size + 1 + i ∉ L := fun i _ h => by
    have := hlt _ h
    omega
  have hnm : ∀ a, a ∈ (List.range n.toNatClampNeg).map (fun i => H.size + 1 + i) → a ∉ L := fun a ha h => by
    obtain ⟨i, -, rfl⟩ := List.mem_map.mp ha
    have := hlt _ h
    omega
  have hP0 : va_P D cl (X ++ va_pl L f) F.heap := hP.kept (fun k9 x hx => hold x.1 ((hP k9 x hx).lt))
  have hP1 : va_P D cl ((X ++ va_pl L f) ++ [(H.size, .inl (cA, n.toNatClampNeg, .inr (.inr (.inr (.inr (fun i => if i < n.toNatClampNeg then some (H.size + 1 + i) else none))))))]) F.heap := hP0.app (fun k9 x hx => by
    have h0 : k9 < 1 := (List.getElem?_eq_some_iff.mp hx).1
    rw [show k9 = 0 by omega] at hx
    cases hx
    exact f2)
  have hP2 : va_P D cl (((X ++ va_pl L f) ++ [(H.size, .inl (cA, n.toNatClampNeg, .inr (.inr (.inr (.inr (fun i => if i < n.toNatClampNeg then some (H.size + 1 + i) else none))))))]) ++ ((List.range n.toNatClampNeg).map (fun i => H.size + 1 + i)).map (fun a => (a, .inl (cy, z)))) F.heap := hP1.app (fun k9 x hx => by
    obtain ⟨a, ha, rfl⟩ := List.mem_map.mp (List.mem_of_getElem? hx)
    obtain ⟨i, hi, rfl⟩ := List.mem_map.mp ha
    exact hrow i (List.mem_range.mp hi))
  have hD2 : va_D A (((X ++ va_pl L f) ++ [(H.size, .inl (cA, n.toNatClampNeg, .inr (.inr (.inr (.inr (fun i => if i < n.toNatClampNeg then some (H.size + 1 + i) else none))))))]) ++ ((List.range n.toNatClampNeg).map (fun i => H.size + 1 + i)).map (fun a => (a, .inl (cy, z)))) := by
    have hD1 := hD.push (e := .inl (cA, n.toNatClampNeg, .inr (.inr (.inr (.inr (fun i => if i < n.toNatClampNeg then some (H.size + 1 + i) else none)))))) hP rfl (hA _ hS.1)
    generalize hW1 : (X ++ va_pl L f) ++ [(H.size, .inl (cA, n.toNatClampNeg, .inr (.inr (.inr (.inr (fun i => if i < n.toNatClampNeg then some (H.size + 1 + i) else none))))))] = W1 at hD1 hP1 ⊢
    have hle : ∀ (k9 : Nat) (x : Nat × va_E), W1[k9]? = some x → x.1 ≤ H.size := fun k9 x hx => by
      rw [← hW1] at hx
      by_cases hl : k9 < (X ++ va_pl L f).length
      · rw [List.getElem?_append_left hl] at hx
        exact Nat.le_of_lt ((hP k9 x hx).lt)
      · rw [List.getElem?_append_right (by omega)] at hx
        have h0 : k9 - (X ++ va_pl L f).length < 1 := (List.getElem?_eq_some_iff.mp hx).1
        rw [show k9 - (X ++ va_pl L f).length = 0 by omega] at hx
        cases hx
        exact Nat.le_refl _
    have hr : ∀ (k9 : Nat) (x : Nat × va_E), (((List.range n.toNatClampNeg).map (fun i => H.size + 1 + i)).map (fun a => ((a, .inl (cy, z)) : Nat × va_E)))[k9]? = some x → x.1 = H.size + 1 + k9 := fun k9 x hx => by
      rw [List.getElem?_map, List.getElem?_map] at hx
      by_cases h9 : k9 < n.toNatClampNeg
      · rw [List.getElem?_range h9] at hx
        cases hx
        rfl
      · have hn0 : (List.range n.toNatClampNeg)[k9]? = none := List.getElem?_eq_none (by rw [List.length_range]; omega)
        rw [hn0] at hx
        cases hx
    refine ⟨fun i j x y hi hj hxy => ?_, fun k9 x hx => ?_⟩
    · by_cases h1 : i < W1.length <;> by_cases h2 : j < W1.length
      · rw [List.getElem?_append_left h1] at hi
        rw [List.getElem?_append_left h2] at hj
        exact hD1.1 i j x y hi hj hxy
      · rw [List.getElem?_append_left h1] at hi
        rw [List.getElem?_append_right (by omega)] at hj
        have := hle _ _ hi
        have := hr _ _ hj
        omega
      · rw [List.getElem?_append_right (by omega)] at hi
        rw [List.getElem?_append_left h2] at hj
        have := hle _ _ hj
        have := hr _ _ hi
        omega
      · rw [List.getElem?_append_right (by omega)] at hi hj
        have := hr _ _ hi
        have := hr _ _ hj
        omega
    · by_cases h1 : k9 < W1.length
      · rw [List.getElem?_append_left h1] at hx
        exact hD1.2 k9 x hx
      · rw [List.getElem?_append_right (by omega)] at hx
        have := hr _ _ hx
        exact hA _ (by have := hS.1; omega)
  have hAr : ArrOfT s cA (.array ty) := fun N9 z9 => by
    obtain ⟨-, k9, hk9, cm9, hkk9⟩ := (hO 0 0 0).1
    exact ⟨(fun q hq => by cases hq), k9, hk9, cm9, hkk9⟩
  have hK2 : va_K D cl (tys ++ [(cA, .array ty)]) s := ⟨hK.1, fun k9 x hx => by
    by_cases hl : k9 < tys.length
    · rw [List.getElem?_append_left hl] at hx
      exact hK.2 k9 x hx
    · rw [List.getElem?_append_right (by omega)] at hx
      have h0 : k9 - tys.length < 1 := (List.getElem?_eq_some_iff.mp hx).1
      rw [show k9 - tys.length = 0 by omega] at hx
      cases hx
      exact ⟨hAr, fA⟩⟩
  obtain ⟨t, a1, b1⟩ := kk H.size (fun i => H.size + 1 + i) cA F.heap (fun i j _ _ h => by have h9 : H.size + 1 + i = H.size + 1 + j := h; omega) hnl hK2 (by rw [← vr_rows hnm]; exact vr_lay hP2) (by rw [← vr_rows hnm]; exact vr_layD hD2) ⟨by rw [f1]; have := hS.1; omega, fun x h1 h2 => (hold x (Nat.lt_of_lt_of_le h1 hS.1)).trans (hS.2.1 x h1 h2), hS.2.2⟩ F rfl X'
  refine ⟨t, step t ?_, b1⟩
  have e : T.heap.size = H.size := by rw [hT]
  rw [e]
  exact a1
end VGM
/-! ===== END ===== -/

/-! ===== BEGIN printed: names, fields, word lists, decode rows ===== -/
def RX0 : String := "SkewPlan$1"
def TX0 : u_T := fun k => match k with
  | _ => ("", "", "", false)
def tyX0 : Nat → FieldType := fun k => match k with
  | _ => .int
abbrev wsX00 : List Cond := u_ws RX0 TX0 0
theorem nmX0 : ∀ a, a < 0 → ∀ b, b < 0 → a ≠ b → (TX0 a).2.1 ≠ (TX0 b).2.1 := by decide +kernel
theorem tyX0_ok : ∀ k, k < 0 → parseFieldDescriptor (TX0 k).2.2.1 = some (tyX0 k) := by decide +kernel
def RX1 : String := "SkewPlan$History"
def TX1 : u_T := fun k => match k with
  | 0 => ("SkewPlan$History", "paths", "[I", true)
  | 1 => ("SkewPlan$History", "amounts", "[I", true)
  | 2 => ("SkewPlan$History", "next", "I", false)
  | _ => ("SkewPlan$History", "size", "I", false)
def tyX1 : Nat → FieldType := fun k => match k with
  | 0 => .array .int
  | 1 => .array .int
  | 2 => .int
  | _ => .int
abbrev wsX10 : List Cond := u_ws RX1 TX1 4
theorem nmX1 : ∀ a, a < 4 → ∀ b, b < 4 → a ≠ b → (TX1 a).2.1 ≠ (TX1 b).2.1 := by decide +kernel
theorem tyX1_ok : ∀ k, k < 4 → parseFieldDescriptor (TX1 k).2.2.1 = some (tyX1 k) := by decide +kernel
abbrev cX1_init : ByteArray := prog_3_method_1_code
def yX1_init : MethodName := ⟨RX1, "<init>", "()V"⟩
abbrev cX1_size : ByteArray := prog_3_method_2_code
def yX1_size : MethodName := ⟨RX1, "size", "()I"⟩
abbrev cX1_clear : ByteArray := prog_3_method_3_code
def yX1_clear : MethodName := ⟨RX1, "clear", "()V"⟩
abbrev cX1_push : ByteArray := prog_3_method_4_code
def yX1_push : MethodName := ⟨RX1, "push", "(II)V"⟩
abbrev cX1_revertLatest : ByteArray := prog_3_method_5_code
def yX1_revertLatest : MethodName := ⟨RX1, "revertLatest", "(LSkewPlan$Net;)V"⟩
def RX2 : String := "SkewPlan$Net"
def TX2 : u_T := fun k => match k with
  | 0 => ("SkewPlan$Net", "registers", "I", false)
  | 1 => ("SkewPlan$Net", "setup", "I", false)
  | 2 => ("SkewPlan$Net", "hold", "I", false)
  | 3 => ("SkewPlan$Net", "step", "I", false)
  | 4 => ("SkewPlan$Net", "period", "I", false)
  | 5 => ("SkewPlan$Net", "paths", "I", false)
  | 6 => ("SkewPlan$Net", "from", "[I", true)
  | 7 => ("SkewPlan$Net", "to", "[I", true)
  | 8 => ("SkewPlan$Net", "longs", "[I", true)
  | _ => ("SkewPlan$Net", "shorts", "[I", true)
def tyX2 : Nat → FieldType := fun k => match k with
  | 0 => .int
  | 1 => .int
  | 2 => .int
  | 3 => .int
  | 4 => .int
  | 5 => .int
  | 6 => .array .int
  | 7 => .array .int
  | 8 => .array .int
  | _ => .array .int
abbrev wsX20 : List Cond := u_ws RX2 TX2 10
theorem nmX2 : ∀ a, a < 10 → ∀ b, b < 10 → a ≠ b → (TX2 a).2.1 ≠ (TX2 b).2.1 := by decide +kernel
theorem tyX2_ok : ∀ k, k < 10 → parseFieldDescriptor (TX2 k).2.2.1 = some (tyX2 k) := by decide +kernel
abbrev cX2_init : ByteArray := prog_4_method_1_code
def yX2_init : MethodName := ⟨RX2, "<init>", "()V"⟩
abbrev cX2_begin : ByteArray := prog_4_method_2_code
def yX2_begin : MethodName := ⟨RX2, "begin", "(I)V"⟩
abbrev cX2_copyFrom : ByteArray := prog_4_method_3_code
def yX2_copyFrom : MethodName := ⟨RX2, "copyFrom", "(LSkewPlan$Net;)V"⟩
abbrev cX2_tell : ByteArray := prog_4_method_4_code
def yX2_tell : MethodName := ⟨RX2, "tell", "(LSkewPlan$Word;I)V"⟩
abbrev cX2_hasAllPaths : ByteArray := prog_4_method_5_code
def yX2_hasAllPaths : MethodName := ⟨RX2, "hasAllPaths", "()Z"⟩
abbrev cX2_addPath : ByteArray := prog_4_method_6_code
def yX2_addPath : MethodName := ⟨RX2, "addPath", "(IIII)V"⟩
abbrev cX2_canBeSlower : ByteArray := prog_4_method_7_code
def yX2_canBeSlower : MethodName := ⟨RX2, "canBeSlower", "(II)Z"⟩
abbrev cX2_delay : ByteArray := prog_4_method_8_code
def yX2_delay : MethodName := ⟨RX2, "delay", "(II)V"⟩
abbrev cX2_lateBound : ByteArray := prog_4_method_9_code
def yX2_lateBound : MethodName := ⟨RX2, "lateBound", "(I)I"⟩
abbrev cX2_soonBound : ByteArray := prog_4_method_10_code
def yX2_soonBound : MethodName := ⟨RX2, "soonBound", "(I)I"⟩
abbrev cX2_tooSoonCount : ByteArray := prog_4_method_11_code
def yX2_tooSoonCount : MethodName := ⟨RX2, "tooSoonCount", "()I"⟩
def RX3 : String := "SkewPlan$Planner"
def TX3 : u_T := fun k => match k with
  | 0 => ("SkewPlan$Planner", "bounds", "[[I", true)
  | 1 => ("SkewPlan$Planner", "shifts", "[I", true)
  | 2 => ("SkewPlan$Planner", "ring", "[I", true)
  | 3 => ("SkewPlan$Planner", "registers", "I", false)
  | 4 => ("SkewPlan$Planner", "ringLength", "I", false)
  | 5 => ("SkewPlan$Planner", "rateAbove", "I", false)
  | _ => ("SkewPlan$Planner", "rateBelow", "I", false)
def tyX3 : Nat → FieldType := fun k => match k with
  | 0 => .array (.array .int)
  | 1 => .array .int
  | 2 => .array .int
  | 3 => .int
  | 4 => .int
  | 5 => .int
  | _ => .int
abbrev wsX30 : List Cond := u_ws RX3 TX3 7
theorem nmX3 : ∀ a, a < 7 → ∀ b, b < 7 → a ≠ b → (TX3 a).2.1 ≠ (TX3 b).2.1 := by decide +kernel
theorem tyX3_ok : ∀ k, k < 7 → parseFieldDescriptor (TX3 k).2.2.1 = some (tyX3 k) := by decide +kernel
abbrev cX3_init : ByteArray := prog_5_method_1_code
def yX3_init : MethodName := ⟨RX3, "<init>", "()V"⟩
abbrev cX3_shiftOf : ByteArray := prog_5_method_2_code
def yX3_shiftOf : MethodName := ⟨RX3, "shiftOf", "(I)I"⟩
abbrev cX3_ringLength : ByteArray := prog_5_method_3_code
def yX3_ringLength : MethodName := ⟨RX3, "ringLength", "()I"⟩
abbrev cX3_ringRegister : ByteArray := prog_5_method_4_code
def yX3_ringRegister : MethodName := ⟨RX3, "ringRegister", "(I)I"⟩
abbrev cX3_rateAbove : ByteArray := prog_5_method_5_code
def yX3_rateAbove : MethodName := ⟨RX3, "rateAbove", "()I"⟩
abbrev cX3_rateBelow : ByteArray := prog_5_method_6_code
def yX3_rateBelow : MethodName := ⟨RX3, "rateBelow", "()I"⟩
abbrev cX3_settlesNow : ByteArray := prog_5_method_7_code
def yX3_settlesNow : MethodName := ⟨RX3, "settlesNow", "(LSkewPlan$Net;)Z"⟩
abbrev cX3_settlesWithMargin : ByteArray := prog_5_method_8_code
def yX3_settlesWithMargin : MethodName := ⟨RX3, "settlesWithMargin", "(LSkewPlan$Net;I)Z"⟩
abbrev cX3_settlesAtPeriod : ByteArray := prog_5_method_9_code
def yX3_settlesAtPeriod : MethodName := ⟨RX3, "settlesAtPeriod", "(LSkewPlan$Net;III)Z"⟩
abbrev cX3_leastPeriod : ByteArray := prog_5_method_10_code
def yX3_leastPeriod : MethodName := ⟨RX3, "leastPeriod", "(LSkewPlan$Net;)I"⟩
abbrev cX3_leastPeriodAbove : ByteArray := prog_5_method_11_code
def yX3_leastPeriodAbove : MethodName := ⟨RX3, "leastPeriodAbove", "(LSkewPlan$Net;II)I"⟩
abbrev cX3_findRate : ByteArray := prog_5_method_12_code
def yX3_findRate : MethodName := ⟨RX3, "findRate", "(LSkewPlan$Net;)Z"⟩
abbrev cX3_greatestMargin : ByteArray := prog_5_method_13_code
def yX3_greatestMargin : MethodName := ⟨RX3, "greatestMargin", "(LSkewPlan$Net;)I"⟩
abbrev cX3_layBounds : ByteArray := prog_5_method_14_code
def yX3_layBounds : MethodName := ⟨RX3, "layBounds", "(LSkewPlan$Net;IIII)V"⟩
abbrev cX3_tighten : ByteArray := prog_5_method_15_code
def yX3_tighten : MethodName := ⟨RX3, "tighten", "(IIII)V"⟩
abbrev cX3_settle : ByteArray := prog_5_method_16_code
def yX3_settle : MethodName := ⟨RX3, "settle", "()Z"⟩
abbrev cX3_lowerOnce : ByteArray := prog_5_method_17_code
def yX3_lowerOnce : MethodName := ⟨RX3, "lowerOnce", "()Z"⟩
abbrev cX3_findRing : ByteArray := prog_5_method_18_code
def yX3_findRing : MethodName := ⟨RX3, "findRing", "()Z"⟩
abbrev cX3_closesFrom : ByteArray := prog_5_method_19_code
def yX3_closesFrom : MethodName := ⟨RX3, "closesFrom", "(II)Z"⟩
abbrev cX3_isInRing : ByteArray := prog_5_method_20_code
def yX3_isInRing : MethodName := ⟨RX3, "isInRing", "(II)Z"⟩
def RX4 : String := "SkewPlan$Text"
def TX4 : u_T := fun k => match k with
  | 0 => ("SkewPlan$Text", "letters", "[C", true)
  | 1 => ("SkewPlan$Text", "length", "I", false)
  | 2 => ("SkewPlan$Text", "clauses", "I", false)
  | 3 => ("SkewPlan$Text", "tokenStart", "I", false)
  | _ => ("SkewPlan$Text", "tokenEnd", "I", false)
def tyX4 : Nat → FieldType := fun k => match k with
  | 0 => .array .char
  | 1 => .int
  | 2 => .int
  | 3 => .int
  | _ => .int
abbrev wsX40 : List Cond := u_ws RX4 TX4 5
theorem nmX4 : ∀ a, a < 5 → ∀ b, b < 5 → a ≠ b → (TX4 a).2.1 ≠ (TX4 b).2.1 := by decide +kernel
theorem tyX4_ok : ∀ k, k < 5 → parseFieldDescriptor (TX4 k).2.2.1 = some (tyX4 k) := by decide +kernel
abbrev cX4_init : ByteArray := prog_6_method_1_code
def yX4_init : MethodName := ⟨RX4, "<init>", "()V"⟩
abbrev cX4_letterCount : ByteArray := prog_6_method_2_code
def yX4_letterCount : MethodName := ⟨RX4, "letterCount", "()I"⟩
abbrev cX4_clauseCount : ByteArray := prog_6_method_3_code
def yX4_clauseCount : MethodName := ⟨RX4, "clauseCount", "()I"⟩
abbrev cX4_clear : ByteArray := prog_6_method_4_code
def yX4_clear : MethodName := ⟨RX4, "clear", "()V"⟩
abbrev cX4_append : ByteArray := prog_6_method_5_code
def yX4_append : MethodName := ⟨RX4, "append", "(C)Z"⟩
abbrev cX4_read : ByteArray := prog_6_method_6_code
def yX4_read : MethodName := ⟨RX4, "read", "(LSkewPlan$Net;LSkewPlan$Net;)I"⟩
abbrev cX4_isAtEnd : ByteArray := prog_6_method_7_code
def yX4_isAtEnd : MethodName := ⟨RX4, "isAtEnd", "()Z"⟩
abbrev cX4_advance : ByteArray := prog_6_method_8_code
def yX4_advance : MethodName := ⟨RX4, "advance", "()V"⟩
abbrev cX4_isSmall : ByteArray := prog_6_method_9_code
def yX4_isSmall : MethodName := ⟨RX4, "isSmall", "(C)Z"⟩
abbrev cX4_isDigit : ByteArray := prog_6_method_10_code
def yX4_isDigit : MethodName := ⟨RX4, "isDigit", "(C)Z"⟩
abbrev cX4_readClause : ByteArray := prog_6_method_11_code
def yX4_readClause : MethodName := ⟨RX4, "readClause", "(LSkewPlan$Net;)Z"⟩
abbrev cX4_readPath : ByteArray := prog_6_method_12_code
def yX4_readPath : MethodName := ⟨RX4, "readPath", "(LSkewPlan$Net;)Z"⟩
abbrev cX4_wordHere : ByteArray := prog_6_method_13_code
def yX4_wordHere : MethodName := ⟨RX4, "wordHere", "()I"⟩
abbrev cX4_isSpelled : ByteArray := prog_6_method_14_code
def yX4_isSpelled : MethodName := ⟨RX4, "isSpelled", "(Ljava/lang/String;)Z"⟩
abbrev cX4_readNumber : ByteArray := prog_6_method_15_code
def yX4_readNumber : MethodName := ⟨RX4, "readNumber", "(II)I"⟩
def RX5 : String := "SkewPlan$Trace"
def TX5 : u_T := fun k => match k with
  | 0 => ("SkewPlan$Trace", "values", "[D", true)
  | 1 => ("SkewPlan$Trace", "isNoNumber", "[Z", true)
  | 2 => ("SkewPlan$Trace", "isPresent", "Z", false)
  | 3 => ("SkewPlan$Trace", "sort", "I", false)
  | _ => ("SkewPlan$Trace", "places", "I", false)
def tyX5 : Nat → FieldType := fun k => match k with
  | 0 => .array .double
  | 1 => .array .boolean
  | 2 => .boolean
  | 3 => .int
  | _ => .int
abbrev wsX50 : List Cond := u_ws RX5 TX5 5
theorem nmX5 : ∀ a, a < 5 → ∀ b, b < 5 → a ≠ b → (TX5 a).2.1 ≠ (TX5 b).2.1 := by decide +kernel
theorem tyX5_ok : ∀ k, k < 5 → parseFieldDescriptor (TX5 k).2.2.1 = some (tyX5 k) := by decide +kernel
abbrev cX5_init : ByteArray := prog_7_method_1_code
def yX5_init : MethodName := ⟨RX5, "<init>", "()V"⟩
abbrev cX5_isMissing : ByteArray := prog_7_method_2_code
def yX5_isMissing : MethodName := ⟨RX5, "isMissing", "()Z"⟩
abbrev cX5_placeCount : ByteArray := prog_7_method_3_code
def yX5_placeCount : MethodName := ⟨RX5, "placeCount", "()I"⟩
abbrev cX5_lose : ByteArray := prog_7_method_4_code
def yX5_lose : MethodName := ⟨RX5, "lose", "()V"⟩
abbrev cX5_renew : ByteArray := prog_7_method_5_code
def yX5_renew : MethodName := ⟨RX5, "renew", "(II)V"⟩
abbrev cX5_finding : ByteArray := prog_7_method_6_code
def yX5_finding : MethodName := ⟨RX5, "finding", "(III)I"⟩
abbrev cX5_putNumber : ByteArray := prog_7_method_7_code
def yX5_putNumber : MethodName := ⟨RX5, "putNumber", "(ID)V"⟩
abbrev cX5_putNoNumber : ByteArray := prog_7_method_8_code
def yX5_putNoNumber : MethodName := ⟨RX5, "putNoNumber", "(I)V"⟩
abbrev cX5_putQuotient : ByteArray := prog_7_method_9_code
def yX5_putQuotient : MethodName := ⟨RX5, "putQuotient", "(III)V"⟩
abbrev cX5_putRemainder : ByteArray := prog_7_method_10_code
def yX5_putRemainder : MethodName := ⟨RX5, "putRemainder", "(II)V"⟩
abbrev cX5_remainder : ByteArray := prog_7_method_11_code
def yX5_remainder : MethodName := ⟨RX5, "remainder", "(DD)D"⟩
abbrev cX5_isEndless : ByteArray := prog_7_method_12_code
def yX5_isEndless : MethodName := ⟨RX5, "isEndless", "(D)Z"⟩
abbrev cX5_order : ByteArray := prog_7_method_13_code
def yX5_order : MethodName := ⟨RX5, "order", "(II)I"⟩
abbrev cX5_thousandAt : ByteArray := prog_7_method_14_code
def yX5_thousandAt : MethodName := ⟨RX5, "thousandAt", "(I)I"⟩
abbrev cX5_thousandOfAll : ByteArray := prog_7_method_15_code
def yX5_thousandOfAll : MethodName := ⟨RX5, "thousandOfAll", "()I"⟩
abbrev cX5_cutThousand : ByteArray := prog_7_method_16_code
def yX5_cutThousand : MethodName := ⟨RX5, "cutThousand", "(D)I"⟩
abbrev cX5_noNumberCount : ByteArray := prog_7_method_17_code
def yX5_noNumberCount : MethodName := ⟨RX5, "noNumberCount", "()I"⟩
def RX6 : String := "SkewPlan$Word"
def TX6 : u_T := fun k => match k with
  | _ => ("", "", "", false)
def tyX6 : Nat → FieldType := fun k => match k with
  | _ => .int
abbrev wsX60 : List Cond := u_ws RX6 TX6 0
theorem nmX6 : ∀ a, a < 0 → ∀ b, b < 0 → a ≠ b → (TX6 a).2.1 ≠ (TX6 b).2.1 := by decide +kernel
theorem tyX6_ok : ∀ k, k < 0 → parseFieldDescriptor (TX6 k).2.2.1 = some (tyX6 k) := by decide +kernel
def RX7 : String := "SkewPlan"
def TX7 : u_T := fun k => match k with
  | 0 => ("SkewPlan", "text", "LSkewPlan$Text;", true)
  | 1 => ("SkewPlan", "told", "LSkewPlan$Net;", true)
  | 2 => ("SkewPlan", "now", "LSkewPlan$Net;", true)
  | 3 => ("SkewPlan", "scratch", "LSkewPlan$Net;", true)
  | 4 => ("SkewPlan", "kept", "[LSkewPlan$Net;", true)
  | 5 => ("SkewPlan", "isKept", "[Z", true)
  | 6 => ("SkewPlan", "history", "LSkewPlan$History;", true)
  | 7 => ("SkewPlan", "planner", "LSkewPlan$Planner;", true)
  | _ => ("SkewPlan", "traces", "[LSkewPlan$Trace;", true)
def tyX7 : Nat → FieldType := fun k => match k with
  | 0 => .object "SkewPlan$Text"
  | 1 => .object "SkewPlan$Net"
  | 2 => .object "SkewPlan$Net"
  | 3 => .object "SkewPlan$Net"
  | 4 => .array (.object "SkewPlan$Net")
  | 5 => .array .boolean
  | 6 => .object "SkewPlan$History"
  | 7 => .object "SkewPlan$Planner"
  | _ => .array (.object "SkewPlan$Trace")
abbrev wsX70 : List Cond := u_ws RX7 TX7 9
theorem nmX7 : ∀ a, a < 9 → ∀ b, b < 9 → a ≠ b → (TX7 a).2.1 ≠ (TX7 b).2.1 := by decide +kernel
theorem tyX7_ok : ∀ k, k < 9 → parseFieldDescriptor (TX7 k).2.2.1 = some (tyX7 k) := by decide +kernel
abbrev cX7_init : ByteArray := prog_1_method_1_code
def yX7_init : MethodName := ⟨RX7, "<init>", "()V"⟩
abbrev cX7_write : ByteArray := prog_1_method_2_code
def yX7_write : MethodName := ⟨RX7, "write", "(I)I"⟩
abbrev cX7_erase : ByteArray := prog_1_method_3_code
def yX7_erase : MethodName := ⟨RX7, "erase", "()I"⟩
abbrev cX7_fault : ByteArray := prog_1_method_4_code
def yX7_fault : MethodName := ⟨RX7, "fault", "()I"⟩
abbrev cX7_net : ByteArray := prog_1_method_5_code
def yX7_net : MethodName := ⟨RX7, "net", "()I"⟩
abbrev cX7_path : ByteArray := prog_1_method_6_code
def yX7_path : MethodName := ⟨RX7, "path", "(II)I"⟩
abbrev cX7_period : ByteArray := prog_1_method_7_code
def yX7_period : MethodName := ⟨RX7, "period", "(I)I"⟩
abbrev cX7_slower : ByteArray := prog_1_method_8_code
def yX7_slower : MethodName := ⟨RX7, "slower", "(II)I"⟩
abbrev cX7_undo : ByteArray := prog_1_method_9_code
def yX7_undo : MethodName := ⟨RX7, "undo", "()I"⟩
abbrev cX7_keep : ByteArray := prog_1_method_10_code
def yX7_keep : MethodName := ⟨RX7, "keep", "(I)I"⟩
abbrev cX7_back : ByteArray := prog_1_method_11_code
def yX7_back : MethodName := ⟨RX7, "back", "(I)I"⟩
abbrev cX7_feasible : ByteArray := prog_1_method_12_code
def yX7_feasible : MethodName := ⟨RX7, "feasible", "()I"⟩
abbrev cX7_shift : ByteArray := prog_1_method_13_code
def yX7_shift : MethodName := ⟨RX7, "shift", "(I)I"⟩
abbrev cX7_least : ByteArray := prog_1_method_14_code
def yX7_least : MethodName := ⟨RX7, "least", "()I"⟩
abbrev cX7_rate : ByteArray := prog_1_method_15_code
def yX7_rate : MethodName := ⟨RX7, "rate", "(I)I"⟩
abbrev cX7_margin : ByteArray := prog_1_method_16_code
def yX7_margin : MethodName := ⟨RX7, "margin", "()I"⟩
abbrev cX7_spare : ByteArray := prog_1_method_17_code
def yX7_spare : MethodName := ⟨RX7, "spare", "(II)I"⟩
abbrev cX7_cycle : ByteArray := prog_1_method_18_code
def yX7_cycle : MethodName := ⟨RX7, "cycle", "(I)I"⟩
abbrev cX7_buffer : ByteArray := prog_1_method_19_code
def yX7_buffer : MethodName := ⟨RX7, "buffer", "(I)I"⟩
abbrev cX7_trace : ByteArray := prog_1_method_20_code
def yX7_trace : MethodName := ⟨RX7, "trace", "(III)I"⟩
abbrev cX7_set : ByteArray := prog_1_method_21_code
def yX7_set : MethodName := ⟨RX7, "set", "(IIIII)I"⟩
abbrev cX7_get : ByteArray := prog_1_method_22_code
def yX7_get : MethodName := ⟨RX7, "get", "(III)I"⟩
abbrev cX7_rest : ByteArray := prog_1_method_23_code
def yX7_rest : MethodName := ⟨RX7, "rest", "(IIII)I"⟩
abbrev cX7_compare : ByteArray := prog_1_method_24_code
def yX7_compare : MethodName := ⟨RX7, "compare", "(IIII)I"⟩
abbrev cX7_sum : ByteArray := prog_1_method_25_code
def yX7_sum : MethodName := ⟨RX7, "sum", "(II)I"⟩
abbrev cX7_drop : ByteArray := prog_1_method_26_code
def yX7_drop : MethodName := ⟨RX7, "drop", "(I)I"⟩
abbrev cX7_count : ByteArray := prog_1_method_27_code
def yX7_count : MethodName := ⟨RX7, "count", "(I)I"⟩
abbrev cX7_isWithin : ByteArray := prog_1_method_28_code
def yX7_isWithin : MethodName := ⟨RX7, "isWithin", "(III)Z"⟩
abbrev cX7_isPath : ByteArray := prog_1_method_29_code
def yX7_isPath : MethodName := ⟨RX7, "isPath", "(I)Z"⟩
abbrev cX7_isKeptPlace : ByteArray := prog_1_method_30_code
def yX7_isKeptPlace : MethodName := ⟨RX7, "isKeptPlace", "(I)Z"⟩
abbrev cX7_isTrace : ByteArray := prog_1_method_31_code
def yX7_isTrace : MethodName := ⟨RX7, "isTrace", "(I)Z"⟩
abbrev cX7_isSort : ByteArray := prog_1_method_32_code
def yX7_isSort : MethodName := ⟨RX7, "isSort", "(I)Z"⟩
abbrev cX7_isQuotientPart : ByteArray := prog_1_method_33_code
def yX7_isQuotientPart : MethodName := ⟨RX7, "isQuotientPart", "(I)Z"⟩
abbrev cX7_traceRefusal : ByteArray := prog_1_method_34_code
def yX7_traceRefusal : MethodName := ⟨RX7, "traceRefusal", "(IIII)I"⟩
abbrev cX7_placesOfAllTraces : ByteArray := prog_1_method_35_code
def yX7_placesOfAllTraces : MethodName := ⟨RX7, "placesOfAllTraces", "()I"⟩
abbrev cX7_orAboveAll : ByteArray := prog_1_method_36_code
def yX7_orAboveAll : MethodName := ⟨RX7, "orAboveAll", "(I)I"⟩
def RX8 : String := "SkewPlanModel"
def TX8 : u_T := fun k => match k with
  | 0 => ("SkewPlanModel", "row", "[I", true)
  | 1 => ("SkewPlanModel", "registers", "I", false)
  | 2 => ("SkewPlanModel", "paths", "I", false)
  | 3 => ("SkewPlanModel", "from", "[I", true)
  | 4 => ("SkewPlanModel", "to", "[I", true)
  | 5 => ("SkewPlanModel", "setup", "I", false)
  | 6 => ("SkewPlanModel", "hold", "I", false)
  | 7 => ("SkewPlanModel", "step", "I", false)
  | 8 => ("SkewPlanModel", "undos", "I", false)
  | 9 => ("SkewPlanModel", "isKept", "[Z", true)
  | 10 => ("SkewPlanModel", "text", "[I", true)
  | 11 => ("SkewPlanModel", "length", "I", false)
  | 12 => ("SkewPlanModel", "sorts", "[I", true)
  | 13 => ("SkewPlanModel", "sizes", "[I", true)
  | 14 => ("SkewPlanModel", "floats", "[F", true)
  | 15 => ("SkewPlanModel", "doubles", "[D", true)
  | 16 => ("SkewPlanModel", "first", "I", false)
  | 17 => ("SkewPlanModel", "behind", "I", false)
  | 18 => ("SkewPlanModel", "readRegisters", "I", false)
  | 19 => ("SkewPlanModel", "readPaths", "I", false)
  | 20 => ("SkewPlanModel", "clauses", "I", false)
  | 21 => ("SkewPlanModel", "doing", "Z", false)
  | 22 => ("SkewPlanModel", "numbers", "[I", true)
  | 23 => ("SkewPlanModel", "netWord", "[I", true)
  | 24 => ("SkewPlanModel", "pathWord", "[I", true)
  | 25 => ("SkewPlanModel", "setupWord", "[I", true)
  | 26 => ("SkewPlanModel", "holdWord", "[I", true)
  | 27 => ("SkewPlanModel", "stepWord", "[I", true)
  | 28 => ("SkewPlanModel", "periodWord", "[I", true)
  | 29 => ("SkewPlanModel", "lates", "[I", true)
  | 30 => ("SkewPlanModel", "soons", "[I", true)
  | 31 => ("SkewPlanModel", "shifts", "[I", true)
  | 32 => ("SkewPlanModel", "bounds", "[I", true)
  | 33 => ("SkewPlanModel", "ring", "[I", true)
  | _ => ("SkewPlanModel", "ringMany", "I", false)
def tyX8 : Nat → FieldType := fun k => match k with
  | 0 => .array .int
  | 1 => .int
  | 2 => .int
  | 3 => .array .int
  | 4 => .array .int
  | 5 => .int
  | 6 => .int
  | 7 => .int
  | 8 => .int
  | 9 => .array .boolean
  | 10 => .array .int
  | 11 => .int
  | 12 => .array .int
  | 13 => .array .int
  | 14 => .array .float
  | 15 => .array .double
  | 16 => .int
  | 17 => .int
  | 18 => .int
  | 19 => .int
  | 20 => .int
  | 21 => .boolean
  | 22 => .array .int
  | 23 => .array .int
  | 24 => .array .int
  | 25 => .array .int
  | 26 => .array .int
  | 27 => .array .int
  | 28 => .array .int
  | 29 => .array .int
  | 30 => .array .int
  | 31 => .array .int
  | 32 => .array .int
  | 33 => .array .int
  | _ => .int
abbrev wsX80 : List Cond := u_ws RX8 TX8 35
theorem nmX8 : ∀ a, a < 35 → ∀ b, b < 35 → a ≠ b → (TX8 a).2.1 ≠ (TX8 b).2.1 := by decide +kernel
theorem tyX8_ok : ∀ k, k < 35 → parseFieldDescriptor (TX8 k).2.2.1 = some (tyX8 k) := by decide +kernel
abbrev cX8_init : ByteArray := prog_10_method_1_code
def yX8_init : MethodName := ⟨RX8, "<init>", "()V"⟩
abbrev cX8_in : ByteArray := prog_10_method_2_code
def yX8_in : MethodName := ⟨RX8, "in", "(JJJ)Z"⟩
abbrev cX8_copyRow : ByteArray := prog_10_method_3_code
def yX8_copyRow : MethodName := ⟨RX8, "copyRow", "(II)V"⟩
abbrev cX8_anew : ByteArray := prog_10_method_4_code
def yX8_anew : MethodName := ⟨RX8, "anew", "(I)V"⟩
abbrev cX8_write : ByteArray := prog_10_method_5_code
def yX8_write : MethodName := ⟨RX8, "write", "(I)I"⟩
abbrev cX8_erase : ByteArray := prog_10_method_6_code
def yX8_erase : MethodName := ⟨RX8, "erase", "()I"⟩
abbrev cX8_isLetter : ByteArray := prog_10_method_7_code
def yX8_isLetter : MethodName := ⟨RX8, "isLetter", "(I)Z"⟩
abbrev cX8_isDigit : ByteArray := prog_10_method_8_code
def yX8_isDigit : MethodName := ⟨RX8, "isDigit", "(I)Z"⟩
abbrev cX8_nextToken : ByteArray := prog_10_method_9_code
def yX8_nextToken : MethodName := ⟨RX8, "nextToken", "()V"⟩
abbrev cX8_isWord : ByteArray := prog_10_method_10_code
def yX8_isWord : MethodName := ⟨RX8, "isWord", "([I)Z"⟩
abbrev cX8_number : ByteArray := prog_10_method_11_code
def yX8_number : MethodName := ⟨RX8, "number", "(III)Z"⟩
abbrev cX8_wordHere : ByteArray := prog_10_method_12_code
def yX8_wordHere : MethodName := ⟨RX8, "wordHere", "()I"⟩
abbrev cX8_readsNumbers : ByteArray := prog_10_method_13_code
def yX8_readsNumbers : MethodName := ⟨RX8, "readsNumbers", "(I)Z"⟩
abbrev cX8_does : ByteArray := prog_10_method_14_code
def yX8_does : MethodName := ⟨RX8, "does", "(I)V"⟩
abbrev cX8_readsClause : ByteArray := prog_10_method_15_code
def yX8_readsClause : MethodName := ⟨RX8, "readsClause", "()Z"⟩
abbrev cX8_reads : ByteArray := prog_10_method_16_code
def yX8_reads : MethodName := ⟨RX8, "reads", "(Z)Z"⟩
abbrev cX8_fault : ByteArray := prog_10_method_17_code
def yX8_fault : MethodName := ⟨RX8, "fault", "()I"⟩
abbrev cX8_net : ByteArray := prog_10_method_18_code
def yX8_net : MethodName := ⟨RX8, "net", "()I"⟩
abbrev cX8_isPath : ByteArray := prog_10_method_19_code
def yX8_isPath : MethodName := ⟨RX8, "isPath", "(I)Z"⟩
abbrev cX8_isRegister : ByteArray := prog_10_method_20_code
def yX8_isRegister : MethodName := ⟨RX8, "isRegister", "(I)Z"⟩
abbrev cX8_lateOf : ByteArray := prog_10_method_21_code
def yX8_lateOf : MethodName := ⟨RX8, "lateOf", "(II)I"⟩
abbrev cX8_soonOf : ByteArray := prog_10_method_22_code
def yX8_soonOf : MethodName := ⟨RX8, "soonOf", "(I)I"⟩
abbrev cX8_path : ByteArray := prog_10_method_23_code
def yX8_path : MethodName := ⟨RX8, "path", "(II)I"⟩
abbrev cX8_keepPast : ByteArray := prog_10_method_24_code
def yX8_keepPast : MethodName := ⟨RX8, "keepPast", "()V"⟩
abbrev cX8_period : ByteArray := prog_10_method_25_code
def yX8_period : MethodName := ⟨RX8, "period", "(I)I"⟩
abbrev cX8_slower : ByteArray := prog_10_method_26_code
def yX8_slower : MethodName := ⟨RX8, "slower", "(II)I"⟩
abbrev cX8_undo : ByteArray := prog_10_method_27_code
def yX8_undo : MethodName := ⟨RX8, "undo", "()I"⟩
abbrev cX8_keep : ByteArray := prog_10_method_28_code
def yX8_keep : MethodName := ⟨RX8, "keep", "(I)I"⟩
abbrev cX8_back : ByteArray := prog_10_method_29_code
def yX8_back : MethodName := ⟨RX8, "back", "(I)I"⟩
abbrev cX8_floor : ByteArray := prog_10_method_30_code
def yX8_floor : MethodName := ⟨RX8, "floor", "(II)I"⟩
abbrev cX8_layBounds : ByteArray := prog_10_method_31_code
def yX8_layBounds : MethodName := ⟨RX8, "layBounds", "(II)V"⟩
abbrev cX8_makesLess : ByteArray := prog_10_method_32_code
def yX8_makesLess : MethodName := ⟨RX8, "makesLess", "(III)Z"⟩
abbrev cX8_areThere : ByteArray := prog_10_method_33_code
def yX8_areThere : MethodName := ⟨RX8, "areThere", "()Z"⟩
abbrev cX8_isFeasible : ByteArray := prog_10_method_34_code
def yX8_isFeasible : MethodName := ⟨RX8, "isFeasible", "(II)Z"⟩
abbrev cX8_feasible : ByteArray := prog_10_method_35_code
def yX8_feasible : MethodName := ⟨RX8, "feasible", "()I"⟩
abbrev cX8_shift : ByteArray := prog_10_method_36_code
def yX8_shift : MethodName := ⟨RX8, "shift", "(I)I"⟩
abbrev cX8_leastOf : ByteArray := prog_10_method_37_code
def yX8_leastOf : MethodName := ⟨RX8, "leastOf", "()I"⟩
abbrev cX8_least : ByteArray := prog_10_method_38_code
def yX8_least : MethodName := ⟨RX8, "least", "()I"⟩
abbrev cX8_isFeasibleBy : ByteArray := prog_10_method_39_code
def yX8_isFeasibleBy : MethodName := ⟨RX8, "isFeasibleBy", "(II)Z"⟩
abbrev cX8_rate : ByteArray := prog_10_method_40_code
def yX8_rate : MethodName := ⟨RX8, "rate", "(I)I"⟩
abbrev cX8_margin : ByteArray := prog_10_method_41_code
def yX8_margin : MethodName := ⟨RX8, "margin", "()I"⟩
abbrev cX8_spare : ByteArray := prog_10_method_42_code
def yX8_spare : MethodName := ⟨RX8, "spare", "(II)I"⟩
abbrev cX8_layLeast : ByteArray := prog_10_method_43_code
def yX8_layLeast : MethodName := ⟨RX8, "layLeast", "()V"⟩
abbrev cX8_isInRing : ByteArray := prog_10_method_44_code
def yX8_isInRing : MethodName := ⟨RX8, "isInRing", "(I)Z"⟩
abbrev cX8_isBelow : ByteArray := prog_10_method_45_code
def yX8_isBelow : MethodName := ⟨RX8, "isBelow", "()Z"⟩
abbrev cX8_nextFrom : ByteArray := prog_10_method_46_code
def yX8_nextFrom : MethodName := ⟨RX8, "nextFrom", "(I)I"⟩
abbrev cX8_goOn : ByteArray := prog_10_method_47_code
def yX8_goOn : MethodName := ⟨RX8, "goOn", "()V"⟩
abbrev cX8_cycle : ByteArray := prog_10_method_48_code
def yX8_cycle : MethodName := ⟨RX8, "cycle", "(I)I"⟩
abbrev cX8_buffer : ByteArray := prog_10_method_49_code
def yX8_buffer : MethodName := ⟨RX8, "buffer", "(I)I"⟩
abbrev cX8_isTrace : ByteArray := prog_10_method_50_code
def yX8_isTrace : MethodName := ⟨RX8, "isTrace", "(I)Z"⟩
abbrev cX8_trace : ByteArray := prog_10_method_51_code
def yX8_trace : MethodName := ⟨RX8, "trace", "(III)I"⟩
abbrev cX8_cut : ByteArray := prog_10_method_52_code
def yX8_cut : MethodName := ⟨RX8, "cut", "(D)I"⟩
abbrev cX8_thousand : ByteArray := prog_10_method_53_code
def yX8_thousand : MethodName := ⟨RX8, "thousand", "(II)I"⟩
abbrev cX8_noPlace : ByteArray := prog_10_method_54_code
def yX8_noPlace : MethodName := ⟨RX8, "noPlace", "(IIII)I"⟩
abbrev cX8_set : ByteArray := prog_10_method_55_code
def yX8_set : MethodName := ⟨RX8, "set", "(IIIII)I"⟩
abbrev cX8_get : ByteArray := prog_10_method_56_code
def yX8_get : MethodName := ⟨RX8, "get", "(III)I"⟩
abbrev cX8_rest : ByteArray := prog_10_method_57_code
def yX8_rest : MethodName := ⟨RX8, "rest", "(IIII)I"⟩
abbrev cX8_valueOf : ByteArray := prog_10_method_58_code
def yX8_valueOf : MethodName := ⟨RX8, "valueOf", "(II)D"⟩
abbrev cX8_compare : ByteArray := prog_10_method_59_code
def yX8_compare : MethodName := ⟨RX8, "compare", "(IIII)I"⟩
abbrev cX8_sum : ByteArray := prog_10_method_60_code
def yX8_sum : MethodName := ⟨RX8, "sum", "(II)I"⟩
abbrev cX8_drop : ByteArray := prog_10_method_61_code
def yX8_drop : MethodName := ⟨RX8, "drop", "(I)I"⟩
abbrev cX8_allPlaces : ByteArray := prog_10_method_62_code
def yX8_allPlaces : MethodName := ⟨RX8, "allPlaces", "()I"⟩
abbrev cX8_tooSoon : ByteArray := prog_10_method_63_code
def yX8_tooSoon : MethodName := ⟨RX8, "tooSoon", "()I"⟩
abbrev cX8_count : ByteArray := prog_10_method_64_code
def yX8_count : MethodName := ⟨RX8, "count", "(I)I"⟩
def RJx29ce0 : String := "java/lang/Enum"
def TJx29ce0 : u_T := fun k => match k with
  | _ => ("", "", "", false)
def tyJx29ce0 : Nat → FieldType := fun k => match k with
  | _ => .int
abbrev wsJx29ce00 : List Cond := u_ws RJx29ce0 TJx29ce0 0
theorem nmJx29ce0 : ∀ a, a < 0 → ∀ b, b < 0 → a ≠ b → (TJx29ce0 a).2.1 ≠ (TJx29ce0 b).2.1 := by decide +kernel
theorem tyJx29ce0_ok : ∀ k, k < 0 → parseFieldDescriptor (TJx29ce0 k).2.2.1 = some (tyJx29ce0 k) := by decide +kernel
abbrev cJx29ce0_ordinal_8abf5 : ByteArray := prog_11_method_2_code
def yJx29ce0_ordinal_8abf5 : MethodName := ⟨RJx29ce0, "ordinal", "()I"⟩
def RJ9 : String := "java/lang/Math"
def TJ9 : u_T := fun k => match k with
  | _ => ("", "", "", false)
def tyJ9 : Nat → FieldType := fun k => match k with
  | _ => .int
abbrev wsJ90 : List Cond := u_ws RJ9 TJ9 0
theorem nmJ9 : ∀ a, a < 0 → ∀ b, b < 0 → a ≠ b → (TJ9 a).2.1 ≠ (TJ9 b).2.1 := by decide +kernel
theorem tyJ9_ok : ∀ k, k < 0 → parseFieldDescriptor (TJ9 k).2.2.1 = some (tyJ9 k) := by decide +kernel
abbrev cJ9_floorDiv_7cf53 : ByteArray := prog_12_method_47_code
def yJ9_floorDiv_7cf53 : MethodName := ⟨RJ9, "floorDiv", "(II)I"⟩
abbrev cJ9_min_7cf53 : ByteArray := prog_12_method_69_code
def yJ9_min_7cf53 : MethodName := ⟨RJ9, "min", "(II)I"⟩
def RJ0 : String := "java/lang/String"
def TJ0 : u_T := fun k => match k with
  | _ => ("", "", "", false)
def tyJ0 : Nat → FieldType := fun k => match k with
  | _ => .int
abbrev wsJ00 : List Cond := u_ws RJ0 TJ0 0
theorem nmJ0 : ∀ a, a < 0 → ∀ b, b < 0 → a ≠ b → (TJ0 a).2.1 ≠ (TJ0 b).2.1 := by decide +kernel
theorem tyJ0_ok : ∀ k, k < 0 → parseFieldDescriptor (TJ0 k).2.2.1 = some (tyJ0 k) := by decide +kernel
abbrev cJ0_length_8abf5 : ByteArray := prog_13_method_54_code
def yJ0_length_8abf5 : MethodName := ⟨RJ0, "length", "()I"⟩
abbrev cJ0_charAt_5068e : ByteArray := prog_13_method_56_code
def yJ0_charAt_5068e : MethodName := ⟨RJ0, "charAt", "(I)C"⟩
abbrev cJ0_coder_7d493 : ByteArray := prog_13_method_152_code
def yJ0_coder_7d493 : MethodName := ⟨RJ0, "coder", "()B"⟩
abbrev cJ0_isLatin1_aae02 : ByteArray := prog_13_method_154_code
def yJ0_isLatin1_aae02 : MethodName := ⟨RJ0, "isLatin1", "()Z"⟩
abbrev cJ0_checkIndex_df160 : ByteArray := prog_13_method_155_code
def yJ0_checkIndex_df160 : MethodName := ⟨RJ0, "checkIndex", "(II)V"⟩
def RJ1 : String := "java/lang/StringLatin1"
def TJ1 : u_T := fun k => match k with
  | _ => ("", "", "", false)
def tyJ1 : Nat → FieldType := fun k => match k with
  | _ => .int
abbrev wsJ10 : List Cond := u_ws RJ1 TJ1 0
theorem nmJ1 : ∀ a, a < 0 → ∀ b, b < 0 → a ≠ b → (TJ1 a).2.1 ≠ (TJ1 b).2.1 := by decide +kernel
theorem tyJ1_ok : ∀ k, k < 0 → parseFieldDescriptor (TJ1 k).2.2.1 = some (tyJ1 k) := by decide +kernel
abbrev cJ1_charAt_3b067 : ByteArray := prog_14_method_2_code
def yJ1_charAt_3b067 : MethodName := ⟨RJ1, "charAt", "([BI)C"⟩
def RJ2 : String := "java/lang/StringUTF16"
def TJ2 : u_T := fun k => match k with
  | _ => ("", "", "", false)
def tyJ2 : Nat → FieldType := fun k => match k with
  | _ => .int
abbrev wsJ20 : List Cond := u_ws RJ2 TJ2 0
theorem nmJ2 : ∀ a, a < 0 → ∀ b, b < 0 → a ≠ b → (TJ2 a).2.1 ≠ (TJ2 b).2.1 := by decide +kernel
theorem tyJ2_ok : ∀ k, k < 0 → parseFieldDescriptor (TJ2 k).2.2.1 = some (tyJ2 k) := by decide +kernel
abbrev cJ2_getChar_3b067 : ByteArray := prog_15_method_5_code
def yJ2_getChar_3b067 : MethodName := ⟨RJ2, "getChar", "([BI)C"⟩
abbrev cJ2_length_9d52b : ByteArray := prog_15_method_6_code
def yJ2_length_9d52b : MethodName := ⟨RJ2, "length", "([B)I"⟩
abbrev cJ2_charAt_3b067 : ByteArray := prog_15_method_83_code
def yJ2_charAt_3b067 : MethodName := ⟨RJ2, "charAt", "([BI)C"⟩
abbrev cJ2_checkIndex_2214a : ByteArray := prog_15_method_91_code
def yJ2_checkIndex_2214a : MethodName := ⟨RJ2, "checkIndex", "(I[B)V"⟩
def RJ10 : String := "java/lang/System"
def TJ10 : u_T := fun k => match k with
  | _ => ("", "", "", false)
def tyJ10 : Nat → FieldType := fun k => match k with
  | _ => .int
abbrev wsJ100 : List Cond := u_ws RJ10 TJ10 0
theorem nmJ10 : ∀ a, a < 0 → ∀ b, b < 0 → a ≠ b → (TJ10 a).2.1 ≠ (TJ10 b).2.1 := by decide +kernel
theorem tyJ10_ok : ∀ k, k < 0 → parseFieldDescriptor (TJ10 k).2.2.1 = some (tyJ10 k) := by decide +kernel
def RJ3 : String := "jdk/internal/util/Preconditions"
def TJ3 : u_T := fun k => match k with
  | _ => ("", "", "", false)
def tyJ3 : Nat → FieldType := fun k => match k with
  | _ => .int
abbrev wsJ30 : List Cond := u_ws RJ3 TJ3 0
theorem nmJ3 : ∀ a, a < 0 → ∀ b, b < 0 → a ≠ b → (TJ3 a).2.1 ≠ (TJ3 b).2.1 := by decide +kernel
theorem tyJ3_ok : ∀ k, k < 0 → parseFieldDescriptor (TJ3 k).2.2.1 = some (tyJ3 k) := by decide +kernel
abbrev cJ3_checkIndex_8e157 : ByteArray := prog_17_method_11_code
def yJ3_checkIndex_8e157 : MethodName := ⟨RJ3, "checkIndex", "(IILjava/util/function/BiFunction;)I"⟩
def RL : String := "SkewPlanLaw"
abbrev cL_law : ByteArray := code
def yL_law : MethodName := ⟨RL, "law", "([I)Z"⟩
def wsX1_init : List Cond := .code yX1_init cX1_init 1 none :: ([.methodLink RX1 3 objectInit, .instanceMethod objectInit, .code objectInit ⟨#[0xb1]⟩ 1 none, .arrayClass .int, .fieldLink RX1 9 "SkewPlan$History" "paths" "[I", .fieldLink RX1 15 "SkewPlan$History" "amounts" "[I"] ++ wsX10)
def wsX1_size : List Cond := .code yX1_size cX1_size 1 (some .int) :: ([.fieldLink RX1 18 "SkewPlan$History" "size" "I"] ++ wsX10)
def wsX1_clear : List Cond := .code yX1_clear cX1_clear 1 none :: ([.fieldLink RX1 18 "SkewPlan$History" "size" "I"] ++ wsX10)
def wsX1_push : List Cond := .code yX1_push cX1_push 3 none :: ([.fieldLink RX1 9 "SkewPlan$History" "paths" "[I", .fieldLink RX1 22 "SkewPlan$History" "next" "I", .fieldLink RX1 15 "SkewPlan$History" "amounts" "[I", .fieldLink RX1 18 "SkewPlan$History" "size" "I", .methodLink RX1 25 Lib.Math.min.name, .static Lib.Math.min.name, .initialized "java/lang/Math", .code Lib.Math.min.name Lib.Math.min.code 2 (some .int)] ++ wsX10)
def wsX2_delay : List Cond := .code yX2_delay cX2_delay 3 none :: ([.fieldLink RX2 18 "SkewPlan$Net" "longs" "[I", .fieldLink RX2 21 "SkewPlan$Net" "shorts" "[I"] ++ wsX20)
def wsX1_revertLatest : List Cond := .code yX1_revertLatest cX1_revertLatest 2 none :: ([.fieldLink RX1 18 "SkewPlan$History" "size" "I", .fieldLink RX1 22 "SkewPlan$History" "next" "I", .fieldLink RX1 9 "SkewPlan$History" "paths" "[I", .fieldLink RX1 15 "SkewPlan$History" "amounts" "[I", .methodLink RX1 36 yX2_delay, .instanceMethod yX2_delay, .selects RX2 yX2_delay yX2_delay, .initialized RX2, .code yX2_delay cX2_delay 3 none, .fieldLink RX2 18 "SkewPlan$Net" "longs" "[I", .fieldLink RX2 21 "SkewPlan$Net" "shorts" "[I"] ++ wsX10 ++ wsX20)
def wsX2_begin : List Cond := .code yX2_begin cX2_begin 2 none :: ([.fieldLink RX2 28 "SkewPlan$Net" "registers" "I", .fieldLink RX2 32 "SkewPlan$Net" "setup" "I", .fieldLink RX2 35 "SkewPlan$Net" "hold" "I", .fieldLink RX2 38 "SkewPlan$Net" "step" "I", .fieldLink RX2 41 "SkewPlan$Net" "period" "I", .fieldLink RX2 44 "SkewPlan$Net" "paths" "I"] ++ wsX20)
def wsX2_init : List Cond := .code yX2_init cX2_init 1 none :: ([.methodLink RX2 3 objectInit, .instanceMethod objectInit, .code objectInit ⟨#[0xb1]⟩ 1 none, .arrayClass .int, .fieldLink RX2 9 "SkewPlan$Net" "from" "[I", .fieldLink RX2 15 "SkewPlan$Net" "to" "[I", .fieldLink RX2 18 "SkewPlan$Net" "longs" "[I", .fieldLink RX2 21 "SkewPlan$Net" "shorts" "[I", .methodLink RX2 24 yX2_begin, .instanceMethod yX2_begin, .selects RX2 yX2_begin yX2_begin, .initialized RX2, .code yX2_begin cX2_begin 2 none, .fieldLink RX2 28 "SkewPlan$Net" "registers" "I", .fieldLink RX2 32 "SkewPlan$Net" "setup" "I", .fieldLink RX2 35 "SkewPlan$Net" "hold" "I", .fieldLink RX2 38 "SkewPlan$Net" "step" "I", .fieldLink RX2 41 "SkewPlan$Net" "period" "I", .fieldLink RX2 44 "SkewPlan$Net" "paths" "I"] ++ wsX20)
def wsX2_copyFrom : List Cond := .code yX2_copyFrom cX2_copyFrom 2 none :: ([.fieldLink RX2 28 "SkewPlan$Net" "registers" "I", .fieldLink RX2 32 "SkewPlan$Net" "setup" "I", .fieldLink RX2 35 "SkewPlan$Net" "hold" "I", .fieldLink RX2 38 "SkewPlan$Net" "step" "I", .fieldLink RX2 41 "SkewPlan$Net" "period" "I", .fieldLink RX2 44 "SkewPlan$Net" "paths" "I", .fieldLink RX2 9 "SkewPlan$Net" "from" "[I", .methodLink RX2 47 arraycopyName, .native arraycopyName, .static arraycopyName, .initialized "java/lang/System", .fieldLink RX2 15 "SkewPlan$Net" "to" "[I", .fieldLink RX2 18 "SkewPlan$Net" "longs" "[I", .fieldLink RX2 21 "SkewPlan$Net" "shorts" "[I"] ++ wsX20)
def wsJx29ce0_ordinal_8abf5 : List Cond := .code yJx29ce0_ordinal_8abf5 cJx29ce0_ordinal_8abf5 1 (some .int) :: ([.fieldLink RJx29ce0 7 "java/lang/Enum" "ordinal" "I"])
def wsX2_tell : List Cond := .code yX2_tell cX2_tell 3 none :: ([.fieldLink RX2 53 "SkewPlan$1" "$SwitchMap$SkewPlan$Word" "[I", .fieldLink RX2 32 "SkewPlan$Net" "setup" "I", .fieldLink RX2 35 "SkewPlan$Net" "hold" "I", .fieldLink RX2 38 "SkewPlan$Net" "step" "I", .fieldLink RX2 41 "SkewPlan$Net" "period" "I", .methodLink RX2 58 ⟨"SkewPlan$Word", "ordinal", "()I"⟩, .sameMethod "SkewPlan$Word" "java/lang/Enum" "ordinal" "()I", .selects RX6 ⟨"SkewPlan$Word", "ordinal", "()I"⟩ yJx29ce0_ordinal_8abf5, .instanceMethod yJx29ce0_ordinal_8abf5, .initialized RJx29ce0, .code yJx29ce0_ordinal_8abf5 cJx29ce0_ordinal_8abf5 1 (some .int), .fieldLink RJx29ce0 7 "java/lang/Enum" "ordinal" "I", .methodLink RX2 24 yX2_begin, .instanceMethod yX2_begin, .selects RX2 yX2_begin yX2_begin, .initialized RX2, .code yX2_begin cX2_begin 2 none, .fieldLink RX2 28 "SkewPlan$Net" "registers" "I", .fieldLink RX2 44 "SkewPlan$Net" "paths" "I"] ++ wsX20)
def wsX2_hasAllPaths : List Cond := .code yX2_hasAllPaths cX2_hasAllPaths 1 (some .boolean) :: ([.fieldLink RX2 44 "SkewPlan$Net" "paths" "I"] ++ wsX20)
def wsX2_addPath : List Cond := .code yX2_addPath cX2_addPath 5 none :: ([.fieldLink RX2 9 "SkewPlan$Net" "from" "[I", .fieldLink RX2 44 "SkewPlan$Net" "paths" "I", .fieldLink RX2 15 "SkewPlan$Net" "to" "[I", .fieldLink RX2 18 "SkewPlan$Net" "longs" "[I", .fieldLink RX2 21 "SkewPlan$Net" "shorts" "[I", .methodLink RX2 64 yX2_hasAllPaths, .instanceMethod yX2_hasAllPaths, .selects RX2 yX2_hasAllPaths yX2_hasAllPaths, .initialized RX2, .code yX2_hasAllPaths cX2_hasAllPaths 1 (some .boolean)] ++ wsX20)
def wsX2_canBeSlower : List Cond := .code yX2_canBeSlower cX2_canBeSlower 3 (some .boolean) :: ([.fieldLink RX2 18 "SkewPlan$Net" "longs" "[I"] ++ wsX20)
def wsX2_lateBound : List Cond := .code yX2_lateBound cX2_lateBound 2 (some .int) :: ([.fieldLink RX2 41 "SkewPlan$Net" "period" "I", .fieldLink RX2 18 "SkewPlan$Net" "longs" "[I", .fieldLink RX2 32 "SkewPlan$Net" "setup" "I"] ++ wsX20)
def wsX2_soonBound : List Cond := .code yX2_soonBound cX2_soonBound 2 (some .int) :: ([.fieldLink RX2 21 "SkewPlan$Net" "shorts" "[I", .fieldLink RX2 35 "SkewPlan$Net" "hold" "I"] ++ wsX20)
def wsX2_tooSoonCount : List Cond := .code yX2_tooSoonCount cX2_tooSoonCount 3 (some .int) :: ([.fieldLink RX2 44 "SkewPlan$Net" "paths" "I", .methodLink RX2 68 yX2_soonBound, .instanceMethod yX2_soonBound, .selects RX2 yX2_soonBound yX2_soonBound, .initialized RX2, .code yX2_soonBound cX2_soonBound 2 (some .int), .fieldLink RX2 21 "SkewPlan$Net" "shorts" "[I", .fieldLink RX2 35 "SkewPlan$Net" "hold" "I"] ++ wsX20)
def wsX3_init : List Cond := .code yX3_init cX3_init 1 none :: ([.methodLink RX3 5 objectInit, .instanceMethod objectInit, .code objectInit ⟨#[0xb1]⟩ 1 none, .classLink RX3 11 "[[I", .arrayClass .int, .fieldLink RX3 13 "SkewPlan$Planner" "bounds" "[[I", .fieldLink RX3 18 "SkewPlan$Planner" "shifts" "[I", .fieldLink RX3 22 "SkewPlan$Planner" "ring" "[I"] ++ wsX30)
def wsX3_shiftOf : List Cond := .code yX3_shiftOf cX3_shiftOf 2 (some .int) :: ([.fieldLink RX3 18 "SkewPlan$Planner" "shifts" "[I"] ++ wsX30)
def wsX3_ringLength : List Cond := .code yX3_ringLength cX3_ringLength 1 (some .int) :: ([.fieldLink RX3 25 "SkewPlan$Planner" "ringLength" "I"] ++ wsX30)
def wsX3_ringRegister : List Cond := .code yX3_ringRegister cX3_ringRegister 2 (some .int) :: ([.fieldLink RX3 22 "SkewPlan$Planner" "ring" "[I"] ++ wsX30)
def wsX3_rateAbove : List Cond := .code yX3_rateAbove cX3_rateAbove 1 (some .int) :: ([.fieldLink RX3 29 "SkewPlan$Planner" "rateAbove" "I"] ++ wsX30)
def wsX3_rateBelow : List Cond := .code yX3_rateBelow cX3_rateBelow 1 (some .int) :: ([.fieldLink RX3 32 "SkewPlan$Planner" "rateBelow" "I"] ++ wsX30)
def wsJ9_floorDiv_7cf53 : List Cond := .code yJ9_floorDiv_7cf53 cJ9_floorDiv_7cf53 3 (some .int) :: ([])
def wsX3_tighten : List Cond := .code yX3_tighten cX3_tighten 5 none :: ([.fieldLink RX3 13 "SkewPlan$Planner" "bounds" "[[I", .methodLink RX3 97 Lib.Math.min.name, .static Lib.Math.min.name, .initialized "java/lang/Math", .code Lib.Math.min.name Lib.Math.min.code 2 (some .int), .methodLink RX3 66 yJ9_floorDiv_7cf53, .static yJ9_floorDiv_7cf53, .initialized RJ9, .code yJ9_floorDiv_7cf53 cJ9_floorDiv_7cf53 3 (some .int)] ++ wsX30)
def wsX3_layBounds : List Cond := .code yX3_layBounds cX3_layBounds 11 none :: ([.fieldLink RX3 72 "SkewPlan$Planner" "registers" "I", .fieldLink RX3 13 "SkewPlan$Planner" "bounds" "[[I", .constant RX3 73 (2147483647), .methodLink RX3 89 yX2_soonBound, .instanceMethod yX2_soonBound, .selects RX2 yX2_soonBound yX2_soonBound, .initialized RX2, .code yX2_soonBound cX2_soonBound 2 (some .int), .fieldLink RX2 21 "SkewPlan$Net" "shorts" "[I", .fieldLink RX2 35 "SkewPlan$Net" "hold" "I", .methodLink RX3 93 yX3_tighten, .instanceMethod yX3_tighten, .selects RX3 yX3_tighten yX3_tighten, .initialized RX3, .code yX3_tighten cX3_tighten 5 none, .methodLink RX3 97 Lib.Math.min.name, .static Lib.Math.min.name, .initialized "java/lang/Math", .code Lib.Math.min.name Lib.Math.min.code 2 (some .int), .methodLink RX3 66 yJ9_floorDiv_7cf53, .static yJ9_floorDiv_7cf53, .initialized RJ9, .code yJ9_floorDiv_7cf53 cJ9_floorDiv_7cf53 3 (some .int)] ++ wsX20 ++ wsX30)
def wsX3_lowerOnce : List Cond := .code yX3_lowerOnce cX3_lowerOnce 5 (some .boolean) :: ([.fieldLink RX3 72 "SkewPlan$Planner" "registers" "I", .fieldLink RX3 13 "SkewPlan$Planner" "bounds" "[[I", .constant RX3 73 (2147483647), .fieldLink RX3 18 "SkewPlan$Planner" "shifts" "[I"] ++ wsX30)
def wsX3_settle : List Cond := .code yX3_settle cX3_settle 2 (some .boolean) :: ([.fieldLink RX3 72 "SkewPlan$Planner" "registers" "I", .fieldLink RX3 18 "SkewPlan$Planner" "shifts" "[I", .methodLink RX3 100 yX3_lowerOnce, .instanceMethod yX3_lowerOnce, .selects RX3 yX3_lowerOnce yX3_lowerOnce, .initialized RX3, .code yX3_lowerOnce cX3_lowerOnce 5 (some .boolean), .fieldLink RX3 13 "SkewPlan$Planner" "bounds" "[[I", .constant RX3 73 (2147483647)] ++ wsX30)
def wsX3_settlesWithMargin_r1 : List Cond := [Cond.methodLink RX3 47 yX3_layBounds, Cond.instanceMethod yX3_layBounds, Cond.selects RX3 yX3_layBounds yX3_layBounds, Cond.initialized RX3, Cond.code yX3_layBounds cX3_layBounds 11 none, Cond.fieldLink RX3 72 "SkewPlan$Planner" "registers" "I", Cond.fieldLink RX3 13 "SkewPlan$Planner" "bounds" "[[I", Cond.constant RX3 73 (2147483647), Cond.methodLink RX3 89 yX2_soonBound, Cond.instanceMethod yX2_soonBound, Cond.selects RX2 yX2_soonBound yX2_soonBound, Cond.initialized RX2, Cond.code yX2_soonBound cX2_soonBound 2 (some .int), Cond.fieldLink RX2 21 "SkewPlan$Net" "shorts" "[I", Cond.fieldLink RX2 35 "SkewPlan$Net" "hold" "I", Cond.methodLink RX3 93 yX3_tighten, Cond.instanceMethod yX3_tighten, Cond.selects RX3 yX3_tighten yX3_tighten, Cond.code yX3_tighten cX3_tighten 5 none, Cond.methodLink RX3 97 Lib.Math.min.name, Cond.static Lib.Math.min.name, Cond.initialized "java/lang/Math", Cond.code Lib.Math.min.name Lib.Math.min.code 2 (some .int), Cond.methodLink RX3 66 yJ9_floorDiv_7cf53]
def wsX3_settlesWithMargin_r2 : List Cond := [Cond.static yJ9_floorDiv_7cf53, Cond.initialized RJ9, Cond.code yJ9_floorDiv_7cf53 cJ9_floorDiv_7cf53 3 (some .int), Cond.methodLink RX3 51 yX3_settle, Cond.instanceMethod yX3_settle, Cond.selects RX3 yX3_settle yX3_settle, Cond.code yX3_settle cX3_settle 2 (some .boolean), Cond.fieldLink RX3 18 "SkewPlan$Planner" "shifts" "[I", Cond.methodLink RX3 100 yX3_lowerOnce, Cond.instanceMethod yX3_lowerOnce, Cond.selects RX3 yX3_lowerOnce yX3_lowerOnce, Cond.code yX3_lowerOnce cX3_lowerOnce 5 (some .boolean)]
def wsX3_settlesWithMargin : List Cond := .code yX3_settlesWithMargin cX3_settlesWithMargin 3 (some .boolean) :: ((wsX3_settlesWithMargin_r1 ++ wsX3_settlesWithMargin_r2) ++ wsX20 ++ wsX30)
def wsX3_settlesNow_r1 : List Cond := [Cond.methodLink RX3 35 yX3_settlesWithMargin, Cond.instanceMethod yX3_settlesWithMargin, Cond.selects RX3 yX3_settlesWithMargin yX3_settlesWithMargin, Cond.initialized RX3, Cond.code yX3_settlesWithMargin cX3_settlesWithMargin 3 (some .boolean), Cond.methodLink RX3 47 yX3_layBounds, Cond.instanceMethod yX3_layBounds, Cond.selects RX3 yX3_layBounds yX3_layBounds, Cond.code yX3_layBounds cX3_layBounds 11 none, Cond.fieldLink RX3 72 "SkewPlan$Planner" "registers" "I", Cond.fieldLink RX3 13 "SkewPlan$Planner" "bounds" "[[I", Cond.constant RX3 73 (2147483647), Cond.methodLink RX3 89 yX2_soonBound, Cond.instanceMethod yX2_soonBound, Cond.selects RX2 yX2_soonBound yX2_soonBound, Cond.initialized RX2, Cond.code yX2_soonBound cX2_soonBound 2 (some .int), Cond.fieldLink RX2 21 "SkewPlan$Net" "shorts" "[I", Cond.fieldLink RX2 35 "SkewPlan$Net" "hold" "I", Cond.methodLink RX3 93 yX3_tighten, Cond.instanceMethod yX3_tighten, Cond.selects RX3 yX3_tighten yX3_tighten, Cond.code yX3_tighten cX3_tighten 5 none, Cond.methodLink RX3 97 Lib.Math.min.name]
def wsX3_settlesNow_r2 : List Cond := [Cond.static Lib.Math.min.name, Cond.initialized "java/lang/Math", Cond.code Lib.Math.min.name Lib.Math.min.code 2 (some .int), Cond.methodLink RX3 66 yJ9_floorDiv_7cf53, Cond.static yJ9_floorDiv_7cf53, Cond.initialized RJ9, Cond.code yJ9_floorDiv_7cf53 cJ9_floorDiv_7cf53 3 (some .int), Cond.methodLink RX3 51 yX3_settle, Cond.instanceMethod yX3_settle, Cond.selects RX3 yX3_settle yX3_settle, Cond.code yX3_settle cX3_settle 2 (some .boolean), Cond.fieldLink RX3 18 "SkewPlan$Planner" "shifts" "[I", Cond.methodLink RX3 100 yX3_lowerOnce, Cond.instanceMethod yX3_lowerOnce, Cond.selects RX3 yX3_lowerOnce yX3_lowerOnce, Cond.code yX3_lowerOnce cX3_lowerOnce 5 (some .boolean)]
def wsX3_settlesNow : List Cond := .code yX3_settlesNow cX3_settlesNow 2 (some .boolean) :: ((wsX3_settlesNow_r1 ++ wsX3_settlesNow_r2) ++ wsX20 ++ wsX30)
def wsX3_settlesAtPeriod_r1 : List Cond := [Cond.methodLink RX3 47 yX3_layBounds, Cond.instanceMethod yX3_layBounds, Cond.selects RX3 yX3_layBounds yX3_layBounds, Cond.initialized RX3, Cond.code yX3_layBounds cX3_layBounds 11 none, Cond.fieldLink RX3 72 "SkewPlan$Planner" "registers" "I", Cond.fieldLink RX3 13 "SkewPlan$Planner" "bounds" "[[I", Cond.constant RX3 73 (2147483647), Cond.methodLink RX3 89 yX2_soonBound, Cond.instanceMethod yX2_soonBound, Cond.selects RX2 yX2_soonBound yX2_soonBound, Cond.initialized RX2, Cond.code yX2_soonBound cX2_soonBound 2 (some .int), Cond.fieldLink RX2 21 "SkewPlan$Net" "shorts" "[I", Cond.fieldLink RX2 35 "SkewPlan$Net" "hold" "I", Cond.methodLink RX3 93 yX3_tighten, Cond.instanceMethod yX3_tighten, Cond.selects RX3 yX3_tighten yX3_tighten, Cond.code yX3_tighten cX3_tighten 5 none, Cond.methodLink RX3 97 Lib.Math.min.name, Cond.static Lib.Math.min.name, Cond.initialized "java/lang/Math", Cond.code Lib.Math.min.name Lib.Math.min.code 2 (some .int), Cond.methodLink RX3 66 yJ9_floorDiv_7cf53]
def wsX3_settlesAtPeriod_r2 : List Cond := [Cond.static yJ9_floorDiv_7cf53, Cond.initialized RJ9, Cond.code yJ9_floorDiv_7cf53 cJ9_floorDiv_7cf53 3 (some .int), Cond.methodLink RX3 51 yX3_settle, Cond.instanceMethod yX3_settle, Cond.selects RX3 yX3_settle yX3_settle, Cond.code yX3_settle cX3_settle 2 (some .boolean), Cond.fieldLink RX3 18 "SkewPlan$Planner" "shifts" "[I", Cond.methodLink RX3 100 yX3_lowerOnce, Cond.instanceMethod yX3_lowerOnce, Cond.selects RX3 yX3_lowerOnce yX3_lowerOnce, Cond.code yX3_lowerOnce cX3_lowerOnce 5 (some .boolean)]
def wsX3_settlesAtPeriod : List Cond := .code yX3_settlesAtPeriod cX3_settlesAtPeriod 5 (some .boolean) :: ((wsX3_settlesAtPeriod_r1 ++ wsX3_settlesAtPeriod_r2) ++ wsX20 ++ wsX30)
def wsX3_leastPeriodAbove_r1 : List Cond := [Cond.methodLink RX3 59 yX3_settlesAtPeriod, Cond.instanceMethod yX3_settlesAtPeriod, Cond.selects RX3 yX3_settlesAtPeriod yX3_settlesAtPeriod, Cond.initialized RX3, Cond.code yX3_settlesAtPeriod cX3_settlesAtPeriod 5 (some .boolean), Cond.methodLink RX3 47 yX3_layBounds, Cond.instanceMethod yX3_layBounds, Cond.selects RX3 yX3_layBounds yX3_layBounds, Cond.code yX3_layBounds cX3_layBounds 11 none, Cond.fieldLink RX3 72 "SkewPlan$Planner" "registers" "I", Cond.fieldLink RX3 13 "SkewPlan$Planner" "bounds" "[[I", Cond.constant RX3 73 (2147483647), Cond.methodLink RX3 89 yX2_soonBound, Cond.instanceMethod yX2_soonBound, Cond.selects RX2 yX2_soonBound yX2_soonBound, Cond.initialized RX2, Cond.code yX2_soonBound cX2_soonBound 2 (some .int), Cond.fieldLink RX2 21 "SkewPlan$Net" "shorts" "[I", Cond.fieldLink RX2 35 "SkewPlan$Net" "hold" "I", Cond.methodLink RX3 93 yX3_tighten, Cond.instanceMethod yX3_tighten, Cond.selects RX3 yX3_tighten yX3_tighten, Cond.code yX3_tighten cX3_tighten 5 none, Cond.methodLink RX3 97 Lib.Math.min.name]
def wsX3_leastPeriodAbove_r2 : List Cond := [Cond.static Lib.Math.min.name, Cond.initialized "java/lang/Math", Cond.code Lib.Math.min.name Lib.Math.min.code 2 (some .int), Cond.methodLink RX3 66 yJ9_floorDiv_7cf53, Cond.static yJ9_floorDiv_7cf53, Cond.initialized RJ9, Cond.code yJ9_floorDiv_7cf53 cJ9_floorDiv_7cf53 3 (some .int), Cond.methodLink RX3 51 yX3_settle, Cond.instanceMethod yX3_settle, Cond.selects RX3 yX3_settle yX3_settle, Cond.code yX3_settle cX3_settle 2 (some .boolean), Cond.fieldLink RX3 18 "SkewPlan$Planner" "shifts" "[I", Cond.methodLink RX3 100 yX3_lowerOnce, Cond.instanceMethod yX3_lowerOnce, Cond.selects RX3 yX3_lowerOnce yX3_lowerOnce, Cond.code yX3_lowerOnce cX3_lowerOnce 5 (some .boolean)]
def wsX3_leastPeriodAbove : List Cond := .code yX3_leastPeriodAbove cX3_leastPeriodAbove 8 (some .int) :: ((wsX3_leastPeriodAbove_r1 ++ wsX3_leastPeriodAbove_r2) ++ wsX20 ++ wsX30)
def wsX3_leastPeriod_r1 : List Cond := [Cond.methodLink RX3 55 yX3_leastPeriodAbove, Cond.instanceMethod yX3_leastPeriodAbove, Cond.selects RX3 yX3_leastPeriodAbove yX3_leastPeriodAbove, Cond.initialized RX3, Cond.code yX3_leastPeriodAbove cX3_leastPeriodAbove 8 (some .int), Cond.methodLink RX3 59 yX3_settlesAtPeriod, Cond.instanceMethod yX3_settlesAtPeriod, Cond.selects RX3 yX3_settlesAtPeriod yX3_settlesAtPeriod, Cond.code yX3_settlesAtPeriod cX3_settlesAtPeriod 5 (some .boolean), Cond.methodLink RX3 47 yX3_layBounds, Cond.instanceMethod yX3_layBounds, Cond.selects RX3 yX3_layBounds yX3_layBounds, Cond.code yX3_layBounds cX3_layBounds 11 none, Cond.fieldLink RX3 72 "SkewPlan$Planner" "registers" "I", Cond.fieldLink RX3 13 "SkewPlan$Planner" "bounds" "[[I", Cond.constant RX3 73 (2147483647), Cond.methodLink RX3 89 yX2_soonBound, Cond.instanceMethod yX2_soonBound, Cond.selects RX2 yX2_soonBound yX2_soonBound, Cond.initialized RX2, Cond.code yX2_soonBound cX2_soonBound 2 (some .int), Cond.fieldLink RX2 21 "SkewPlan$Net" "shorts" "[I", Cond.fieldLink RX2 35 "SkewPlan$Net" "hold" "I", Cond.methodLink RX3 93 yX3_tighten]
def wsX3_leastPeriod_r2 : List Cond := [Cond.instanceMethod yX3_tighten, Cond.selects RX3 yX3_tighten yX3_tighten, Cond.code yX3_tighten cX3_tighten 5 none, Cond.methodLink RX3 97 Lib.Math.min.name, Cond.static Lib.Math.min.name, Cond.initialized "java/lang/Math", Cond.code Lib.Math.min.name Lib.Math.min.code 2 (some .int), Cond.methodLink RX3 66 yJ9_floorDiv_7cf53, Cond.static yJ9_floorDiv_7cf53, Cond.initialized RJ9, Cond.code yJ9_floorDiv_7cf53 cJ9_floorDiv_7cf53 3 (some .int), Cond.methodLink RX3 51 yX3_settle, Cond.instanceMethod yX3_settle, Cond.selects RX3 yX3_settle yX3_settle, Cond.code yX3_settle cX3_settle 2 (some .boolean), Cond.fieldLink RX3 18 "SkewPlan$Planner" "shifts" "[I", Cond.methodLink RX3 100 yX3_lowerOnce, Cond.instanceMethod yX3_lowerOnce, Cond.selects RX3 yX3_lowerOnce yX3_lowerOnce, Cond.code yX3_lowerOnce cX3_lowerOnce 5 (some .boolean)]
def wsX3_leastPeriod : List Cond := .code yX3_leastPeriod cX3_leastPeriod 2 (some .int) :: ((wsX3_leastPeriod_r1 ++ wsX3_leastPeriod_r2) ++ wsX20 ++ wsX30)
def wsX3_findRate_r1 : List Cond := [Cond.fieldLink RX3 29 "SkewPlan$Planner" "rateAbove" "I", Cond.fieldLink RX3 32 "SkewPlan$Planner" "rateBelow" "I", Cond.methodLink RX3 55 yX3_leastPeriodAbove, Cond.instanceMethod yX3_leastPeriodAbove, Cond.selects RX3 yX3_leastPeriodAbove yX3_leastPeriodAbove, Cond.initialized RX3, Cond.code yX3_leastPeriodAbove cX3_leastPeriodAbove 8 (some .int), Cond.methodLink RX3 59 yX3_settlesAtPeriod, Cond.instanceMethod yX3_settlesAtPeriod, Cond.selects RX3 yX3_settlesAtPeriod yX3_settlesAtPeriod, Cond.code yX3_settlesAtPeriod cX3_settlesAtPeriod 5 (some .boolean), Cond.methodLink RX3 47 yX3_layBounds, Cond.instanceMethod yX3_layBounds, Cond.selects RX3 yX3_layBounds yX3_layBounds, Cond.code yX3_layBounds cX3_layBounds 11 none, Cond.fieldLink RX3 72 "SkewPlan$Planner" "registers" "I", Cond.fieldLink RX3 13 "SkewPlan$Planner" "bounds" "[[I", Cond.constant RX3 73 (2147483647), Cond.methodLink RX3 89 yX2_soonBound, Cond.instanceMethod yX2_soonBound, Cond.selects RX2 yX2_soonBound yX2_soonBound, Cond.initialized RX2, Cond.code yX2_soonBound cX2_soonBound 2 (some .int), Cond.fieldLink RX2 21 "SkewPlan$Net" "shorts" "[I"]
def wsX3_findRate_r2 : List Cond := [Cond.fieldLink RX2 35 "SkewPlan$Net" "hold" "I", Cond.methodLink RX3 93 yX3_tighten, Cond.instanceMethod yX3_tighten, Cond.selects RX3 yX3_tighten yX3_tighten, Cond.code yX3_tighten cX3_tighten 5 none, Cond.methodLink RX3 97 Lib.Math.min.name, Cond.static Lib.Math.min.name, Cond.initialized "java/lang/Math", Cond.code Lib.Math.min.name Lib.Math.min.code 2 (some .int), Cond.methodLink RX3 66 yJ9_floorDiv_7cf53, Cond.static yJ9_floorDiv_7cf53, Cond.initialized RJ9, Cond.code yJ9_floorDiv_7cf53 cJ9_floorDiv_7cf53 3 (some .int), Cond.methodLink RX3 51 yX3_settle, Cond.instanceMethod yX3_settle, Cond.selects RX3 yX3_settle yX3_settle, Cond.code yX3_settle cX3_settle 2 (some .boolean), Cond.fieldLink RX3 18 "SkewPlan$Planner" "shifts" "[I", Cond.methodLink RX3 100 yX3_lowerOnce, Cond.instanceMethod yX3_lowerOnce, Cond.selects RX3 yX3_lowerOnce yX3_lowerOnce, Cond.code yX3_lowerOnce cX3_lowerOnce 5 (some .boolean)]
def wsX3_findRate : List Cond := .code yX3_findRate cX3_findRate 4 (some .boolean) :: ((wsX3_findRate_r1 ++ wsX3_findRate_r2) ++ wsX30 ++ wsX20)
def wsX3_greatestMargin_r1 : List Cond := [Cond.methodLink RX3 66 yJ9_floorDiv_7cf53, Cond.static yJ9_floorDiv_7cf53, Cond.initialized RJ9, Cond.code yJ9_floorDiv_7cf53 cJ9_floorDiv_7cf53 3 (some .int), Cond.methodLink RX3 35 yX3_settlesWithMargin, Cond.instanceMethod yX3_settlesWithMargin, Cond.selects RX3 yX3_settlesWithMargin yX3_settlesWithMargin, Cond.initialized RX3, Cond.code yX3_settlesWithMargin cX3_settlesWithMargin 3 (some .boolean), Cond.methodLink RX3 47 yX3_layBounds, Cond.instanceMethod yX3_layBounds, Cond.selects RX3 yX3_layBounds yX3_layBounds, Cond.code yX3_layBounds cX3_layBounds 11 none, Cond.fieldLink RX3 72 "SkewPlan$Planner" "registers" "I", Cond.fieldLink RX3 13 "SkewPlan$Planner" "bounds" "[[I", Cond.constant RX3 73 (2147483647), Cond.methodLink RX3 89 yX2_soonBound, Cond.instanceMethod yX2_soonBound, Cond.selects RX2 yX2_soonBound yX2_soonBound, Cond.initialized RX2, Cond.code yX2_soonBound cX2_soonBound 2 (some .int), Cond.fieldLink RX2 21 "SkewPlan$Net" "shorts" "[I", Cond.fieldLink RX2 35 "SkewPlan$Net" "hold" "I", Cond.methodLink RX3 93 yX3_tighten]
def wsX3_greatestMargin_r2 : List Cond := [Cond.instanceMethod yX3_tighten, Cond.selects RX3 yX3_tighten yX3_tighten, Cond.code yX3_tighten cX3_tighten 5 none, Cond.methodLink RX3 97 Lib.Math.min.name, Cond.static Lib.Math.min.name, Cond.initialized "java/lang/Math", Cond.code Lib.Math.min.name Lib.Math.min.code 2 (some .int), Cond.methodLink RX3 51 yX3_settle, Cond.instanceMethod yX3_settle, Cond.selects RX3 yX3_settle yX3_settle, Cond.code yX3_settle cX3_settle 2 (some .boolean), Cond.fieldLink RX3 18 "SkewPlan$Planner" "shifts" "[I", Cond.methodLink RX3 100 yX3_lowerOnce, Cond.instanceMethod yX3_lowerOnce, Cond.selects RX3 yX3_lowerOnce yX3_lowerOnce, Cond.code yX3_lowerOnce cX3_lowerOnce 5 (some .boolean)]
def wsX3_greatestMargin : List Cond := .code yX3_greatestMargin cX3_greatestMargin 6 (some .int) :: ((wsX3_greatestMargin_r1 ++ wsX3_greatestMargin_r2) ++ wsX20 ++ wsX30)
def wsX3_isInRing : List Cond := .code yX3_isInRing cX3_isInRing 4 (some .boolean) :: ([.fieldLink RX3 22 "SkewPlan$Planner" "ring" "[I"] ++ wsX30)
def wsX3_closesFrom : List Cond := .code yX3_closesFrom cX3_closesFrom 8 (some .boolean) :: ([.fieldLink RX3 22 "SkewPlan$Planner" "ring" "[I", .fieldLink RX3 13 "SkewPlan$Planner" "bounds" "[[I", .constant RX3 73 (2147483647), .fieldLink RX3 25 "SkewPlan$Planner" "ringLength" "I", .fieldLink RX3 72 "SkewPlan$Planner" "registers" "I", .methodLink RX3 107 yX3_isInRing, .instanceMethod yX3_isInRing, .selects RX3 yX3_isInRing yX3_isInRing, .initialized RX3, .code yX3_isInRing cX3_isInRing 4 (some .boolean), .methodLink RX3 103 yX3_closesFrom, .instanceMethod yX3_closesFrom, .selects RX3 yX3_closesFrom yX3_closesFrom] ++ wsX30)
def wsX3_findRing : List Cond := .code yX3_findRing cX3_findRing 2 (some .boolean) :: ([.fieldLink RX3 25 "SkewPlan$Planner" "ringLength" "I", .fieldLink RX3 72 "SkewPlan$Planner" "registers" "I", .fieldLink RX3 22 "SkewPlan$Planner" "ring" "[I", .methodLink RX3 103 yX3_closesFrom, .instanceMethod yX3_closesFrom, .selects RX3 yX3_closesFrom yX3_closesFrom, .initialized RX3, .code yX3_closesFrom cX3_closesFrom 8 (some .boolean), .fieldLink RX3 13 "SkewPlan$Planner" "bounds" "[[I", .constant RX3 73 (2147483647), .methodLink RX3 107 yX3_isInRing, .instanceMethod yX3_isInRing, .selects RX3 yX3_isInRing yX3_isInRing, .code yX3_isInRing cX3_isInRing 4 (some .boolean)] ++ wsX30)
def wsX4_init : List Cond := .code yX4_init cX4_init 1 none :: ([.methodLink RX4 3 objectInit, .instanceMethod objectInit, .code objectInit ⟨#[0xb1]⟩ 1 none, .arrayClass .char, .fieldLink RX4 9 "SkewPlan$Text" "letters" "[C"] ++ wsX40)
def wsX4_letterCount : List Cond := .code yX4_letterCount cX4_letterCount 1 (some .int) :: ([.fieldLink RX4 15 "SkewPlan$Text" "length" "I"] ++ wsX40)
def wsX4_clauseCount : List Cond := .code yX4_clauseCount cX4_clauseCount 1 (some .int) :: ([.fieldLink RX4 19 "SkewPlan$Text" "clauses" "I"] ++ wsX40)
def wsX4_clear : List Cond := .code yX4_clear cX4_clear 1 none :: ([.fieldLink RX4 15 "SkewPlan$Text" "length" "I"] ++ wsX40)
def wsX4_append : List Cond := .code yX4_append cX4_append 2 (some .boolean) :: ([.fieldLink RX4 15 "SkewPlan$Text" "length" "I", .fieldLink RX4 9 "SkewPlan$Text" "letters" "[C"] ++ wsX40)
def wsX4_isAtEnd : List Cond := .code yX4_isAtEnd cX4_isAtEnd 1 (some .boolean) :: ([.fieldLink RX4 38 "SkewPlan$Text" "tokenStart" "I", .fieldLink RX4 15 "SkewPlan$Text" "length" "I"] ++ wsX40)
def wsX4_isSmall : List Cond := .code yX4_isSmall cX4_isSmall 1 (some .boolean) :: ([])
def wsX4_isDigit : List Cond := .code yX4_isDigit cX4_isDigit 1 (some .boolean) :: ([])
def wsX4_advance : List Cond := .code yX4_advance cX4_advance 2 none :: ([.fieldLink RX4 28 "SkewPlan$Text" "tokenEnd" "I", .fieldLink RX4 38 "SkewPlan$Text" "tokenStart" "I", .fieldLink RX4 15 "SkewPlan$Text" "length" "I", .fieldLink RX4 9 "SkewPlan$Text" "letters" "[C", .methodLink RX4 41 yX4_isAtEnd, .instanceMethod yX4_isAtEnd, .selects RX4 yX4_isAtEnd yX4_isAtEnd, .initialized RX4, .code yX4_isAtEnd cX4_isAtEnd 1 (some .boolean), .methodLink RX4 45 yX4_isSmall, .static yX4_isSmall, .code yX4_isSmall cX4_isSmall 1 (some .boolean), .methodLink RX4 49 yX4_isDigit, .static yX4_isDigit, .code yX4_isDigit cX4_isDigit 1 (some .boolean)] ++ wsX40)
def wsJ0_coder_7d493 : List Cond := .code yJ0_coder_7d493 cJ0_coder_7d493 1 (some .byte) :: ([.fieldLink RJ0 38 "java/lang/String" "COMPACT_STRINGS" "Z", .fieldLink RJ0 15 "java/lang/String" "coder" "B"])
def wsJ0_length_8abf5 : List Cond := .code yJ0_length_8abf5 cJ0_length_8abf5 1 (some .int) :: ([.fieldLink RJ0 9 "java/lang/String" "value" "[B", .methodLink RJ0 335 yJ0_coder_7d493, .instanceMethod yJ0_coder_7d493, .selects RJ0 yJ0_coder_7d493 yJ0_coder_7d493, .initialized RJ0, .code yJ0_coder_7d493 cJ0_coder_7d493 1 (some .byte), .fieldLink RJ0 38 "java/lang/String" "COMPACT_STRINGS" "Z", .fieldLink RJ0 15 "java/lang/String" "coder" "B"])
def wsJ0_isLatin1_aae02 : List Cond := .code yJ0_isLatin1_aae02 cJ0_isLatin1_aae02 1 (some .boolean) :: ([.fieldLink RJ0 38 "java/lang/String" "COMPACT_STRINGS" "Z", .fieldLink RJ0 15 "java/lang/String" "coder" "B"])
def wsJ3_checkIndex_8e157 : List Cond := .code yJ3_checkIndex_8e157 cJ3_checkIndex_8e157 3 (some .int) :: ([])
def wsJ0_checkIndex_df160 : List Cond := .code yJ0_checkIndex_df160 cJ0_checkIndex_df160 2 none :: ([.fieldLink RJ0 1053 "jdk/internal/util/Preconditions" "SIOOBE_FORMATTER" "Ljava/util/function/BiFunction;", .methodLink RJ0 1059 yJ3_checkIndex_8e157, .static yJ3_checkIndex_8e157, .initialized RJ3, .code yJ3_checkIndex_8e157 cJ3_checkIndex_8e157 3 (some .int)])
def wsJ1_charAt_3b067 : List Cond := .code yJ1_charAt_3b067 cJ1_charAt_3b067 2 (some .char) :: ([.methodLink RJ1 9 yJ0_checkIndex_df160, .static yJ0_checkIndex_df160, .initialized RJ0, .code yJ0_checkIndex_df160 cJ0_checkIndex_df160 2 none, .fieldLink RJ0 1053 "jdk/internal/util/Preconditions" "SIOOBE_FORMATTER" "Ljava/util/function/BiFunction;", .methodLink RJ0 1059 yJ3_checkIndex_8e157, .static yJ3_checkIndex_8e157, .initialized RJ3, .code yJ3_checkIndex_8e157 cJ3_checkIndex_8e157 3 (some .int)])
def wsJ2_length_9d52b : List Cond := .code yJ2_length_9d52b cJ2_length_9d52b 1 (some .int) :: ([])
def wsJ2_checkIndex_2214a : List Cond := .code yJ2_checkIndex_2214a cJ2_checkIndex_2214a 2 none :: ([.methodLink RJ2 48 yJ2_length_9d52b, .static yJ2_length_9d52b, .initialized RJ2, .code yJ2_length_9d52b cJ2_length_9d52b 1 (some .int), .methodLink RJ2 414 yJ0_checkIndex_df160, .static yJ0_checkIndex_df160, .initialized RJ0, .code yJ0_checkIndex_df160 cJ0_checkIndex_df160 2 none, .fieldLink RJ0 1053 "jdk/internal/util/Preconditions" "SIOOBE_FORMATTER" "Ljava/util/function/BiFunction;", .methodLink RJ0 1059 yJ3_checkIndex_8e157, .static yJ3_checkIndex_8e157, .initialized RJ3, .code yJ3_checkIndex_8e157 cJ3_checkIndex_8e157 3 (some .int)])
def wsJ2_getChar_3b067 : List Cond := .code yJ2_getChar_3b067 cJ2_getChar_3b067 2 (some .char) :: ([.fieldLink RJ2 44 "java/lang/StringUTF16" "$assertionsDisabled" "Z", .fieldLink RJ2 59 "java/lang/StringUTF16" "HI_BYTE_SHIFT" "I", .fieldLink RJ2 63 "java/lang/StringUTF16" "LO_BYTE_SHIFT" "I", .methodLink RJ2 48 yJ2_length_9d52b, .static yJ2_length_9d52b, .initialized RJ2, .code yJ2_length_9d52b cJ2_length_9d52b 1 (some .int)])
def wsJ2_charAt_3b067 : List Cond := .code yJ2_charAt_3b067 cJ2_charAt_3b067 2 (some .char) :: ([.methodLink RJ2 67 yJ2_checkIndex_2214a, .static yJ2_checkIndex_2214a, .initialized RJ2, .code yJ2_checkIndex_2214a cJ2_checkIndex_2214a 2 none, .methodLink RJ2 48 yJ2_length_9d52b, .static yJ2_length_9d52b, .code yJ2_length_9d52b cJ2_length_9d52b 1 (some .int), .methodLink RJ2 414 yJ0_checkIndex_df160, .static yJ0_checkIndex_df160, .initialized RJ0, .code yJ0_checkIndex_df160 cJ0_checkIndex_df160 2 none, .fieldLink RJ0 1053 "jdk/internal/util/Preconditions" "SIOOBE_FORMATTER" "Ljava/util/function/BiFunction;", .methodLink RJ0 1059 yJ3_checkIndex_8e157, .static yJ3_checkIndex_8e157, .initialized RJ3, .code yJ3_checkIndex_8e157 cJ3_checkIndex_8e157 3 (some .int), .methodLink RJ2 71 yJ2_getChar_3b067, .static yJ2_getChar_3b067, .code yJ2_getChar_3b067 cJ2_getChar_3b067 2 (some .char), .fieldLink RJ2 44 "java/lang/StringUTF16" "$assertionsDisabled" "Z", .fieldLink RJ2 59 "java/lang/StringUTF16" "HI_BYTE_SHIFT" "I", .fieldLink RJ2 63 "java/lang/StringUTF16" "LO_BYTE_SHIFT" "I"])
def wsJ0_charAt_5068e_r1 : List Cond := [Cond.fieldLink RJ0 9 "java/lang/String" "value" "[B", Cond.methodLink RJ0 492 yJ0_isLatin1_aae02, Cond.instanceMethod yJ0_isLatin1_aae02, Cond.selects RJ0 yJ0_isLatin1_aae02 yJ0_isLatin1_aae02, Cond.initialized RJ0, Cond.code yJ0_isLatin1_aae02 cJ0_isLatin1_aae02 1 (some .boolean), Cond.fieldLink RJ0 38 "java/lang/String" "COMPACT_STRINGS" "Z", Cond.fieldLink RJ0 15 "java/lang/String" "coder" "B", Cond.methodLink RJ0 495 yJ1_charAt_3b067, Cond.static yJ1_charAt_3b067, Cond.initialized RJ1, Cond.code yJ1_charAt_3b067 cJ1_charAt_3b067 2 (some .char), Cond.methodLink RJ1 9 yJ0_checkIndex_df160, Cond.static yJ0_checkIndex_df160, Cond.code yJ0_checkIndex_df160 cJ0_checkIndex_df160 2 none, Cond.fieldLink RJ0 1053 "jdk/internal/util/Preconditions" "SIOOBE_FORMATTER" "Ljava/util/function/BiFunction;", Cond.methodLink RJ0 1059 yJ3_checkIndex_8e157, Cond.static yJ3_checkIndex_8e157, Cond.initialized RJ3, Cond.code yJ3_checkIndex_8e157 cJ3_checkIndex_8e157 3 (some .int), Cond.methodLink RJ0 498 yJ2_charAt_3b067, Cond.static yJ2_charAt_3b067, Cond.initialized RJ2, Cond.code yJ2_charAt_3b067 cJ2_charAt_3b067 2 (some .char)]
def wsJ0_charAt_5068e_r2 : List Cond := [Cond.methodLink RJ2 67 yJ2_checkIndex_2214a, Cond.static yJ2_checkIndex_2214a, Cond.code yJ2_checkIndex_2214a cJ2_checkIndex_2214a 2 none, Cond.methodLink RJ2 48 yJ2_length_9d52b, Cond.static yJ2_length_9d52b, Cond.code yJ2_length_9d52b cJ2_length_9d52b 1 (some .int), Cond.methodLink RJ2 414 yJ0_checkIndex_df160, Cond.methodLink RJ2 71 yJ2_getChar_3b067, Cond.static yJ2_getChar_3b067, Cond.code yJ2_getChar_3b067 cJ2_getChar_3b067 2 (some .char), Cond.fieldLink RJ2 44 "java/lang/StringUTF16" "$assertionsDisabled" "Z", Cond.fieldLink RJ2 59 "java/lang/StringUTF16" "HI_BYTE_SHIFT" "I", Cond.fieldLink RJ2 63 "java/lang/StringUTF16" "LO_BYTE_SHIFT" "I"]
def wsJ0_charAt_5068e : List Cond := .code yJ0_charAt_5068e cJ0_charAt_5068e 2 (some .char) :: ((wsJ0_charAt_5068e_r1 ++ wsJ0_charAt_5068e_r2))
def wsX4_isSpelled_r1 : List Cond := [Cond.fieldLink RX4 28 "SkewPlan$Text" "tokenEnd" "I", Cond.fieldLink RX4 38 "SkewPlan$Text" "tokenStart" "I", Cond.fieldLink RX4 9 "SkewPlan$Text" "letters" "[C", Cond.methodLink RX4 101 yJ0_length_8abf5, Cond.instanceMethod yJ0_length_8abf5, Cond.selects RJ0 yJ0_length_8abf5 yJ0_length_8abf5, Cond.initialized RJ0, Cond.code yJ0_length_8abf5 cJ0_length_8abf5 1 (some .int), Cond.fieldLink RJ0 9 "java/lang/String" "value" "[B", Cond.methodLink RJ0 335 yJ0_coder_7d493, Cond.instanceMethod yJ0_coder_7d493, Cond.selects RJ0 yJ0_coder_7d493 yJ0_coder_7d493, Cond.code yJ0_coder_7d493 cJ0_coder_7d493 1 (some .byte), Cond.fieldLink RJ0 38 "java/lang/String" "COMPACT_STRINGS" "Z", Cond.fieldLink RJ0 15 "java/lang/String" "coder" "B", Cond.methodLink RX4 105 yJ0_charAt_5068e, Cond.instanceMethod yJ0_charAt_5068e, Cond.selects RJ0 yJ0_charAt_5068e yJ0_charAt_5068e, Cond.code yJ0_charAt_5068e cJ0_charAt_5068e 2 (some .char), Cond.methodLink RJ0 492 yJ0_isLatin1_aae02, Cond.instanceMethod yJ0_isLatin1_aae02, Cond.selects RJ0 yJ0_isLatin1_aae02 yJ0_isLatin1_aae02, Cond.code yJ0_isLatin1_aae02 cJ0_isLatin1_aae02 1 (some .boolean), Cond.methodLink RJ0 495 yJ1_charAt_3b067]
def wsX4_isSpelled_r2 : List Cond := [Cond.static yJ1_charAt_3b067, Cond.initialized RJ1, Cond.code yJ1_charAt_3b067 cJ1_charAt_3b067 2 (some .char), Cond.methodLink RJ1 9 yJ0_checkIndex_df160, Cond.static yJ0_checkIndex_df160, Cond.code yJ0_checkIndex_df160 cJ0_checkIndex_df160 2 none, Cond.fieldLink RJ0 1053 "jdk/internal/util/Preconditions" "SIOOBE_FORMATTER" "Ljava/util/function/BiFunction;", Cond.methodLink RJ0 1059 yJ3_checkIndex_8e157, Cond.static yJ3_checkIndex_8e157, Cond.initialized RJ3, Cond.code yJ3_checkIndex_8e157 cJ3_checkIndex_8e157 3 (some .int), Cond.methodLink RJ0 498 yJ2_charAt_3b067, Cond.static yJ2_charAt_3b067, Cond.initialized RJ2, Cond.code yJ2_charAt_3b067 cJ2_charAt_3b067 2 (some .char), Cond.methodLink RJ2 67 yJ2_checkIndex_2214a, Cond.static yJ2_checkIndex_2214a, Cond.code yJ2_checkIndex_2214a cJ2_checkIndex_2214a 2 none, Cond.methodLink RJ2 48 yJ2_length_9d52b, Cond.static yJ2_length_9d52b, Cond.code yJ2_length_9d52b cJ2_length_9d52b 1 (some .int), Cond.methodLink RJ2 414 yJ0_checkIndex_df160, Cond.methodLink RJ2 71 yJ2_getChar_3b067, Cond.static yJ2_getChar_3b067]
def wsX4_isSpelled_r3 : List Cond := [Cond.code yJ2_getChar_3b067 cJ2_getChar_3b067 2 (some .char), Cond.fieldLink RJ2 44 "java/lang/StringUTF16" "$assertionsDisabled" "Z", Cond.fieldLink RJ2 59 "java/lang/StringUTF16" "HI_BYTE_SHIFT" "I", Cond.fieldLink RJ2 63 "java/lang/StringUTF16" "LO_BYTE_SHIFT" "I"]
def wsX4_isSpelled : List Cond := .code yX4_isSpelled cX4_isSpelled 3 (some .boolean) :: ((wsX4_isSpelled_r1 ++ (wsX4_isSpelled_r2 ++ wsX4_isSpelled_r3)) ++ wsX40)
def wsX4_wordHere_r1 : List Cond := [Cond.methodLink RX4 97 yX4_isSpelled, Cond.instanceMethod yX4_isSpelled, Cond.selects RX4 yX4_isSpelled yX4_isSpelled, Cond.initialized RX4, Cond.code yX4_isSpelled cX4_isSpelled 3 (some .boolean), Cond.fieldLink RX4 28 "SkewPlan$Text" "tokenEnd" "I", Cond.fieldLink RX4 38 "SkewPlan$Text" "tokenStart" "I", Cond.fieldLink RX4 9 "SkewPlan$Text" "letters" "[C", Cond.methodLink RX4 101 yJ0_length_8abf5, Cond.instanceMethod yJ0_length_8abf5, Cond.selects RJ0 yJ0_length_8abf5 yJ0_length_8abf5, Cond.initialized RJ0, Cond.code yJ0_length_8abf5 cJ0_length_8abf5 1 (some .int), Cond.fieldLink RJ0 9 "java/lang/String" "value" "[B", Cond.methodLink RJ0 335 yJ0_coder_7d493, Cond.instanceMethod yJ0_coder_7d493, Cond.selects RJ0 yJ0_coder_7d493 yJ0_coder_7d493, Cond.code yJ0_coder_7d493 cJ0_coder_7d493 1 (some .byte), Cond.fieldLink RJ0 38 "java/lang/String" "COMPACT_STRINGS" "Z", Cond.fieldLink RJ0 15 "java/lang/String" "coder" "B", Cond.methodLink RX4 105 yJ0_charAt_5068e, Cond.instanceMethod yJ0_charAt_5068e, Cond.selects RJ0 yJ0_charAt_5068e yJ0_charAt_5068e, Cond.code yJ0_charAt_5068e cJ0_charAt_5068e 2 (some .char)]
def wsX4_wordHere_r2 : List Cond := [Cond.methodLink RJ0 492 yJ0_isLatin1_aae02, Cond.instanceMethod yJ0_isLatin1_aae02, Cond.selects RJ0 yJ0_isLatin1_aae02 yJ0_isLatin1_aae02, Cond.code yJ0_isLatin1_aae02 cJ0_isLatin1_aae02 1 (some .boolean), Cond.methodLink RJ0 495 yJ1_charAt_3b067, Cond.static yJ1_charAt_3b067, Cond.initialized RJ1, Cond.code yJ1_charAt_3b067 cJ1_charAt_3b067 2 (some .char), Cond.methodLink RJ1 9 yJ0_checkIndex_df160, Cond.static yJ0_checkIndex_df160, Cond.code yJ0_checkIndex_df160 cJ0_checkIndex_df160 2 none, Cond.fieldLink RJ0 1053 "jdk/internal/util/Preconditions" "SIOOBE_FORMATTER" "Ljava/util/function/BiFunction;", Cond.methodLink RJ0 1059 yJ3_checkIndex_8e157, Cond.static yJ3_checkIndex_8e157, Cond.initialized RJ3, Cond.code yJ3_checkIndex_8e157 cJ3_checkIndex_8e157 3 (some .int), Cond.methodLink RJ0 498 yJ2_charAt_3b067, Cond.static yJ2_charAt_3b067, Cond.initialized RJ2, Cond.code yJ2_charAt_3b067 cJ2_charAt_3b067 2 (some .char), Cond.methodLink RJ2 67 yJ2_checkIndex_2214a, Cond.static yJ2_checkIndex_2214a, Cond.code yJ2_checkIndex_2214a cJ2_checkIndex_2214a 2 none, Cond.methodLink RJ2 48 yJ2_length_9d52b]
def wsX4_wordHere_r3 : List Cond := [Cond.static yJ2_length_9d52b, Cond.code yJ2_length_9d52b cJ2_length_9d52b 1 (some .int), Cond.methodLink RJ2 414 yJ0_checkIndex_df160, Cond.methodLink RJ2 71 yJ2_getChar_3b067, Cond.static yJ2_getChar_3b067, Cond.code yJ2_getChar_3b067 cJ2_getChar_3b067 2 (some .char), Cond.fieldLink RJ2 44 "java/lang/StringUTF16" "$assertionsDisabled" "Z", Cond.fieldLink RJ2 59 "java/lang/StringUTF16" "HI_BYTE_SHIFT" "I", Cond.fieldLink RJ2 63 "java/lang/StringUTF16" "LO_BYTE_SHIFT" "I"]
def wsX4_wordHere : List Cond := .code yX4_wordHere cX4_wordHere 2 (some .int) :: ((wsX4_wordHere_r1 ++ (wsX4_wordHere_r2 ++ wsX4_wordHere_r3)) ++ wsX40)
def wsX7_isWithin : List Cond := .code yX7_isWithin cX7_isWithin 3 (some .boolean) :: ([])
def wsX4_readNumber : List Cond := .code yX4_readNumber cX4_readNumber 5 (some .int) :: ([.fieldLink RX4 9 "SkewPlan$Text" "letters" "[C", .fieldLink RX4 38 "SkewPlan$Text" "tokenStart" "I", .fieldLink RX4 28 "SkewPlan$Text" "tokenEnd" "I", .methodLink RX4 41 yX4_isAtEnd, .instanceMethod yX4_isAtEnd, .selects RX4 yX4_isAtEnd yX4_isAtEnd, .initialized RX4, .code yX4_isAtEnd cX4_isAtEnd 1 (some .boolean), .fieldLink RX4 15 "SkewPlan$Text" "length" "I", .methodLink RX4 49 yX4_isDigit, .static yX4_isDigit, .code yX4_isDigit cX4_isDigit 1 (some .boolean), .static yX7_isWithin, .initialized RX7, .code yX7_isWithin cX7_isWithin 3 (some .boolean), .methodLink RX4 31 yX4_advance, .instanceMethod yX4_advance, .selects RX4 yX4_advance yX4_advance, .code yX4_advance cX4_advance 2 none, .methodLink RX4 45 yX4_isSmall, .static yX4_isSmall, .code yX4_isSmall cX4_isSmall 1 (some .boolean)] ++ wsX40)
def wsX4_readPath_r1 : List Cond := [Cond.methodLink RX4 31 yX4_advance, Cond.instanceMethod yX4_advance, Cond.selects RX4 yX4_advance yX4_advance, Cond.initialized RX4, Cond.code yX4_advance cX4_advance 2 none, Cond.fieldLink RX4 28 "SkewPlan$Text" "tokenEnd" "I", Cond.fieldLink RX4 38 "SkewPlan$Text" "tokenStart" "I", Cond.fieldLink RX4 15 "SkewPlan$Text" "length" "I", Cond.fieldLink RX4 9 "SkewPlan$Text" "letters" "[C", Cond.methodLink RX4 41 yX4_isAtEnd, Cond.instanceMethod yX4_isAtEnd, Cond.selects RX4 yX4_isAtEnd yX4_isAtEnd, Cond.code yX4_isAtEnd cX4_isAtEnd 1 (some .boolean), Cond.methodLink RX4 45 yX4_isSmall, Cond.static yX4_isSmall, Cond.code yX4_isSmall cX4_isSmall 1 (some .boolean), Cond.methodLink RX4 49 yX4_isDigit, Cond.static yX4_isDigit, Cond.code yX4_isDigit cX4_isDigit 1 (some .boolean), Cond.methodLink RX4 78 yX4_readNumber, Cond.instanceMethod yX4_readNumber, Cond.selects RX4 yX4_readNumber yX4_readNumber, Cond.code yX4_readNumber cX4_readNumber 5 (some .int), Cond.static yX7_isWithin]
def wsX4_readPath_r2 : List Cond := [Cond.initialized RX7, Cond.code yX7_isWithin cX7_isWithin 3 (some .boolean), Cond.methodLink RX4 89 yX2_addPath, Cond.instanceMethod yX2_addPath, Cond.selects RX2 yX2_addPath yX2_addPath, Cond.initialized RX2, Cond.code yX2_addPath cX2_addPath 5 none, Cond.fieldLink RX2 9 "SkewPlan$Net" "from" "[I", Cond.fieldLink RX2 44 "SkewPlan$Net" "paths" "I", Cond.fieldLink RX2 15 "SkewPlan$Net" "to" "[I", Cond.fieldLink RX2 18 "SkewPlan$Net" "longs" "[I", Cond.fieldLink RX2 21 "SkewPlan$Net" "shorts" "[I", Cond.methodLink RX2 64 yX2_hasAllPaths, Cond.instanceMethod yX2_hasAllPaths, Cond.selects RX2 yX2_hasAllPaths yX2_hasAllPaths, Cond.code yX2_hasAllPaths cX2_hasAllPaths 1 (some .boolean)]
def wsX4_readPath : List Cond := .code yX4_readPath cX4_readPath 6 (some .boolean) :: ((wsX4_readPath_r1 ++ wsX4_readPath_r2) ++ wsX20 ++ wsX40)
def wsX4_readClause_r1 : List Cond := [Cond.fieldLink RX4 60 "SkewPlan$Word" "PATH" "LSkewPlan$Word;", Cond.methodLink RX4 52 yX4_wordHere, Cond.instanceMethod yX4_wordHere, Cond.selects RX4 yX4_wordHere yX4_wordHere, Cond.initialized RX4, Cond.code yX4_wordHere cX4_wordHere 2 (some .int), Cond.methodLink RX4 97 yX4_isSpelled, Cond.instanceMethod yX4_isSpelled, Cond.selects RX4 yX4_isSpelled yX4_isSpelled, Cond.code yX4_isSpelled cX4_isSpelled 3 (some .boolean), Cond.fieldLink RX4 28 "SkewPlan$Text" "tokenEnd" "I", Cond.fieldLink RX4 38 "SkewPlan$Text" "tokenStart" "I", Cond.fieldLink RX4 9 "SkewPlan$Text" "letters" "[C", Cond.methodLink RX4 101 yJ0_length_8abf5, Cond.instanceMethod yJ0_length_8abf5, Cond.selects RJ0 yJ0_length_8abf5 yJ0_length_8abf5, Cond.initialized RJ0, Cond.code yJ0_length_8abf5 cJ0_length_8abf5 1 (some .int), Cond.fieldLink RJ0 9 "java/lang/String" "value" "[B", Cond.methodLink RJ0 335 yJ0_coder_7d493, Cond.instanceMethod yJ0_coder_7d493, Cond.selects RJ0 yJ0_coder_7d493 yJ0_coder_7d493, Cond.code yJ0_coder_7d493 cJ0_coder_7d493 1 (some .byte), Cond.fieldLink RJ0 38 "java/lang/String" "COMPACT_STRINGS" "Z"]
def wsX4_readClause_r2 : List Cond := [Cond.fieldLink RJ0 15 "java/lang/String" "coder" "B", Cond.methodLink RX4 105 yJ0_charAt_5068e, Cond.instanceMethod yJ0_charAt_5068e, Cond.selects RJ0 yJ0_charAt_5068e yJ0_charAt_5068e, Cond.code yJ0_charAt_5068e cJ0_charAt_5068e 2 (some .char), Cond.methodLink RJ0 492 yJ0_isLatin1_aae02, Cond.instanceMethod yJ0_isLatin1_aae02, Cond.selects RJ0 yJ0_isLatin1_aae02 yJ0_isLatin1_aae02, Cond.code yJ0_isLatin1_aae02 cJ0_isLatin1_aae02 1 (some .boolean), Cond.methodLink RJ0 495 yJ1_charAt_3b067, Cond.static yJ1_charAt_3b067, Cond.initialized RJ1, Cond.code yJ1_charAt_3b067 cJ1_charAt_3b067 2 (some .char), Cond.methodLink RJ1 9 yJ0_checkIndex_df160, Cond.static yJ0_checkIndex_df160, Cond.code yJ0_checkIndex_df160 cJ0_checkIndex_df160 2 none, Cond.fieldLink RJ0 1053 "jdk/internal/util/Preconditions" "SIOOBE_FORMATTER" "Ljava/util/function/BiFunction;", Cond.methodLink RJ0 1059 yJ3_checkIndex_8e157, Cond.static yJ3_checkIndex_8e157, Cond.initialized RJ3, Cond.code yJ3_checkIndex_8e157 cJ3_checkIndex_8e157 3 (some .int), Cond.methodLink RJ0 498 yJ2_charAt_3b067, Cond.static yJ2_charAt_3b067, Cond.initialized RJ2]
def wsX4_readClause_r3 : List Cond := [Cond.code yJ2_charAt_3b067 cJ2_charAt_3b067 2 (some .char), Cond.methodLink RJ2 67 yJ2_checkIndex_2214a, Cond.static yJ2_checkIndex_2214a, Cond.code yJ2_checkIndex_2214a cJ2_checkIndex_2214a 2 none, Cond.methodLink RJ2 48 yJ2_length_9d52b, Cond.static yJ2_length_9d52b, Cond.code yJ2_length_9d52b cJ2_length_9d52b 1 (some .int), Cond.methodLink RJ2 414 yJ0_checkIndex_df160, Cond.methodLink RJ2 71 yJ2_getChar_3b067, Cond.static yJ2_getChar_3b067, Cond.code yJ2_getChar_3b067 cJ2_getChar_3b067 2 (some .char), Cond.fieldLink RJ2 44 "java/lang/StringUTF16" "$assertionsDisabled" "Z", Cond.fieldLink RJ2 59 "java/lang/StringUTF16" "HI_BYTE_SHIFT" "I", Cond.fieldLink RJ2 63 "java/lang/StringUTF16" "LO_BYTE_SHIFT" "I", Cond.methodLink RX4 66 yX2_hasAllPaths, Cond.instanceMethod yX2_hasAllPaths, Cond.selects RX2 yX2_hasAllPaths yX2_hasAllPaths, Cond.initialized RX2, Cond.code yX2_hasAllPaths cX2_hasAllPaths 1 (some .boolean), Cond.fieldLink RX2 44 "SkewPlan$Net" "paths" "I", Cond.methodLink RX4 69 yX4_readPath, Cond.instanceMethod yX4_readPath, Cond.selects RX4 yX4_readPath yX4_readPath, Cond.code yX4_readPath cX4_readPath 6 (some .boolean)]
def wsX4_readClause_r4 : List Cond := [Cond.methodLink RX4 31 yX4_advance, Cond.instanceMethod yX4_advance, Cond.selects RX4 yX4_advance yX4_advance, Cond.code yX4_advance cX4_advance 2 none, Cond.fieldLink RX4 15 "SkewPlan$Text" "length" "I", Cond.methodLink RX4 41 yX4_isAtEnd, Cond.instanceMethod yX4_isAtEnd, Cond.selects RX4 yX4_isAtEnd yX4_isAtEnd, Cond.code yX4_isAtEnd cX4_isAtEnd 1 (some .boolean), Cond.methodLink RX4 45 yX4_isSmall, Cond.static yX4_isSmall, Cond.code yX4_isSmall cX4_isSmall 1 (some .boolean), Cond.methodLink RX4 49 yX4_isDigit, Cond.static yX4_isDigit, Cond.code yX4_isDigit cX4_isDigit 1 (some .boolean), Cond.methodLink RX4 78 yX4_readNumber, Cond.instanceMethod yX4_readNumber, Cond.selects RX4 yX4_readNumber yX4_readNumber, Cond.code yX4_readNumber cX4_readNumber 5 (some .int), Cond.static yX7_isWithin, Cond.initialized RX7, Cond.code yX7_isWithin cX7_isWithin 3 (some .boolean), Cond.methodLink RX4 89 yX2_addPath, Cond.instanceMethod yX2_addPath]
def wsX4_readClause_r5 : List Cond := [Cond.selects RX2 yX2_addPath yX2_addPath, Cond.code yX2_addPath cX2_addPath 5 none, Cond.fieldLink RX2 9 "SkewPlan$Net" "from" "[I", Cond.fieldLink RX2 15 "SkewPlan$Net" "to" "[I", Cond.fieldLink RX2 18 "SkewPlan$Net" "longs" "[I", Cond.fieldLink RX2 21 "SkewPlan$Net" "shorts" "[I", Cond.methodLink RX2 64 yX2_hasAllPaths, Cond.methodLink RX4 82 yX2_tell, Cond.instanceMethod yX2_tell, Cond.selects RX2 yX2_tell yX2_tell, Cond.code yX2_tell cX2_tell 3 none, Cond.fieldLink RX2 53 "SkewPlan$1" "$SwitchMap$SkewPlan$Word" "[I", Cond.fieldLink RX2 32 "SkewPlan$Net" "setup" "I", Cond.fieldLink RX2 35 "SkewPlan$Net" "hold" "I", Cond.fieldLink RX2 38 "SkewPlan$Net" "step" "I", Cond.fieldLink RX2 41 "SkewPlan$Net" "period" "I", Cond.methodLink RX2 58 ⟨"SkewPlan$Word", "ordinal", "()I"⟩, Cond.sameMethod "SkewPlan$Word" "java/lang/Enum" "ordinal" "()I", Cond.selects RX6 ⟨"SkewPlan$Word", "ordinal", "()I"⟩ yJx29ce0_ordinal_8abf5, Cond.instanceMethod yJx29ce0_ordinal_8abf5, Cond.initialized RJx29ce0, Cond.code yJx29ce0_ordinal_8abf5 cJx29ce0_ordinal_8abf5 1 (some .int), Cond.fieldLink RJx29ce0 7 "java/lang/Enum" "ordinal" "I", Cond.methodLink RX2 24 yX2_begin]
def wsX4_readClause_r6 : List Cond := [Cond.instanceMethod yX2_begin, Cond.selects RX2 yX2_begin yX2_begin, Cond.code yX2_begin cX2_begin 2 none, Cond.fieldLink RX2 28 "SkewPlan$Net" "registers" "I"]
def wsX4_readClause : List Cond := .code yX4_readClause cX4_readClause 5 (some .boolean) :: ((wsX4_readClause_r1 ++ (wsX4_readClause_r2 ++ (wsX4_readClause_r3 ++ (wsX4_readClause_r4 ++ (wsX4_readClause_r5 ++ wsX4_readClause_r6))))) ++ wsX40 ++ wsX20)
def wsX4_read_r1 : List Cond := [Cond.fieldLink RX4 19 "SkewPlan$Text" "clauses" "I", Cond.fieldLink RX4 28 "SkewPlan$Text" "tokenEnd" "I", Cond.fieldLink RX4 38 "SkewPlan$Text" "tokenStart" "I", Cond.fieldLink RX4 9 "SkewPlan$Text" "letters" "[C", Cond.methodLink RX4 22 yX2_copyFrom, Cond.instanceMethod yX2_copyFrom, Cond.selects RX2 yX2_copyFrom yX2_copyFrom, Cond.initialized RX2, Cond.code yX2_copyFrom cX2_copyFrom 2 none, Cond.fieldLink RX2 28 "SkewPlan$Net" "registers" "I", Cond.fieldLink RX2 32 "SkewPlan$Net" "setup" "I", Cond.fieldLink RX2 35 "SkewPlan$Net" "hold" "I", Cond.fieldLink RX2 38 "SkewPlan$Net" "step" "I", Cond.fieldLink RX2 41 "SkewPlan$Net" "period" "I", Cond.fieldLink RX2 44 "SkewPlan$Net" "paths" "I", Cond.fieldLink RX2 9 "SkewPlan$Net" "from" "[I", Cond.methodLink RX2 47 arraycopyName, Cond.native arraycopyName, Cond.static arraycopyName, Cond.initialized "java/lang/System", Cond.fieldLink RX2 15 "SkewPlan$Net" "to" "[I", Cond.fieldLink RX2 18 "SkewPlan$Net" "longs" "[I", Cond.fieldLink RX2 21 "SkewPlan$Net" "shorts" "[I", Cond.methodLink RX4 31 yX4_advance]
def wsX4_read_r2 : List Cond := [Cond.instanceMethod yX4_advance, Cond.selects RX4 yX4_advance yX4_advance, Cond.initialized RX4, Cond.code yX4_advance cX4_advance 2 none, Cond.fieldLink RX4 15 "SkewPlan$Text" "length" "I", Cond.methodLink RX4 41 yX4_isAtEnd, Cond.instanceMethod yX4_isAtEnd, Cond.selects RX4 yX4_isAtEnd yX4_isAtEnd, Cond.code yX4_isAtEnd cX4_isAtEnd 1 (some .boolean), Cond.methodLink RX4 45 yX4_isSmall, Cond.static yX4_isSmall, Cond.code yX4_isSmall cX4_isSmall 1 (some .boolean), Cond.methodLink RX4 49 yX4_isDigit, Cond.static yX4_isDigit, Cond.code yX4_isDigit cX4_isDigit 1 (some .boolean), Cond.methodLink RX4 34 yX4_readClause, Cond.instanceMethod yX4_readClause, Cond.selects RX4 yX4_readClause yX4_readClause, Cond.code yX4_readClause cX4_readClause 5 (some .boolean), Cond.fieldLink RX4 60 "SkewPlan$Word" "PATH" "LSkewPlan$Word;", Cond.methodLink RX4 52 yX4_wordHere, Cond.instanceMethod yX4_wordHere, Cond.selects RX4 yX4_wordHere yX4_wordHere, Cond.code yX4_wordHere cX4_wordHere 2 (some .int)]
def wsX4_read_r3 : List Cond := [Cond.methodLink RX4 97 yX4_isSpelled, Cond.instanceMethod yX4_isSpelled, Cond.selects RX4 yX4_isSpelled yX4_isSpelled, Cond.code yX4_isSpelled cX4_isSpelled 3 (some .boolean), Cond.methodLink RX4 101 yJ0_length_8abf5, Cond.instanceMethod yJ0_length_8abf5, Cond.selects RJ0 yJ0_length_8abf5 yJ0_length_8abf5, Cond.initialized RJ0, Cond.code yJ0_length_8abf5 cJ0_length_8abf5 1 (some .int), Cond.fieldLink RJ0 9 "java/lang/String" "value" "[B", Cond.methodLink RJ0 335 yJ0_coder_7d493, Cond.instanceMethod yJ0_coder_7d493, Cond.selects RJ0 yJ0_coder_7d493 yJ0_coder_7d493, Cond.code yJ0_coder_7d493 cJ0_coder_7d493 1 (some .byte), Cond.fieldLink RJ0 38 "java/lang/String" "COMPACT_STRINGS" "Z", Cond.fieldLink RJ0 15 "java/lang/String" "coder" "B", Cond.methodLink RX4 105 yJ0_charAt_5068e, Cond.instanceMethod yJ0_charAt_5068e, Cond.selects RJ0 yJ0_charAt_5068e yJ0_charAt_5068e, Cond.code yJ0_charAt_5068e cJ0_charAt_5068e 2 (some .char), Cond.methodLink RJ0 492 yJ0_isLatin1_aae02, Cond.instanceMethod yJ0_isLatin1_aae02, Cond.selects RJ0 yJ0_isLatin1_aae02 yJ0_isLatin1_aae02, Cond.code yJ0_isLatin1_aae02 cJ0_isLatin1_aae02 1 (some .boolean)]
def wsX4_read_r4 : List Cond := [Cond.methodLink RJ0 495 yJ1_charAt_3b067, Cond.static yJ1_charAt_3b067, Cond.initialized RJ1, Cond.code yJ1_charAt_3b067 cJ1_charAt_3b067 2 (some .char), Cond.methodLink RJ1 9 yJ0_checkIndex_df160, Cond.static yJ0_checkIndex_df160, Cond.code yJ0_checkIndex_df160 cJ0_checkIndex_df160 2 none, Cond.fieldLink RJ0 1053 "jdk/internal/util/Preconditions" "SIOOBE_FORMATTER" "Ljava/util/function/BiFunction;", Cond.methodLink RJ0 1059 yJ3_checkIndex_8e157, Cond.static yJ3_checkIndex_8e157, Cond.initialized RJ3, Cond.code yJ3_checkIndex_8e157 cJ3_checkIndex_8e157 3 (some .int), Cond.methodLink RJ0 498 yJ2_charAt_3b067, Cond.static yJ2_charAt_3b067, Cond.initialized RJ2, Cond.code yJ2_charAt_3b067 cJ2_charAt_3b067 2 (some .char), Cond.methodLink RJ2 67 yJ2_checkIndex_2214a, Cond.static yJ2_checkIndex_2214a, Cond.code yJ2_checkIndex_2214a cJ2_checkIndex_2214a 2 none, Cond.methodLink RJ2 48 yJ2_length_9d52b, Cond.static yJ2_length_9d52b, Cond.code yJ2_length_9d52b cJ2_length_9d52b 1 (some .int), Cond.methodLink RJ2 414 yJ0_checkIndex_df160, Cond.methodLink RJ2 71 yJ2_getChar_3b067]
def wsX4_read_r5 : List Cond := [Cond.static yJ2_getChar_3b067, Cond.code yJ2_getChar_3b067 cJ2_getChar_3b067 2 (some .char), Cond.fieldLink RJ2 44 "java/lang/StringUTF16" "$assertionsDisabled" "Z", Cond.fieldLink RJ2 59 "java/lang/StringUTF16" "HI_BYTE_SHIFT" "I", Cond.fieldLink RJ2 63 "java/lang/StringUTF16" "LO_BYTE_SHIFT" "I", Cond.methodLink RX4 66 yX2_hasAllPaths, Cond.instanceMethod yX2_hasAllPaths, Cond.selects RX2 yX2_hasAllPaths yX2_hasAllPaths, Cond.code yX2_hasAllPaths cX2_hasAllPaths 1 (some .boolean), Cond.methodLink RX4 69 yX4_readPath, Cond.instanceMethod yX4_readPath, Cond.selects RX4 yX4_readPath yX4_readPath, Cond.code yX4_readPath cX4_readPath 6 (some .boolean), Cond.methodLink RX4 78 yX4_readNumber, Cond.instanceMethod yX4_readNumber, Cond.selects RX4 yX4_readNumber yX4_readNumber, Cond.code yX4_readNumber cX4_readNumber 5 (some .int), Cond.static yX7_isWithin, Cond.initialized RX7, Cond.code yX7_isWithin cX7_isWithin 3 (some .boolean), Cond.methodLink RX4 89 yX2_addPath, Cond.instanceMethod yX2_addPath, Cond.selects RX2 yX2_addPath yX2_addPath, Cond.code yX2_addPath cX2_addPath 5 none]
def wsX4_read_r6 : List Cond := [Cond.methodLink RX2 64 yX2_hasAllPaths, Cond.methodLink RX4 82 yX2_tell, Cond.instanceMethod yX2_tell, Cond.selects RX2 yX2_tell yX2_tell, Cond.code yX2_tell cX2_tell 3 none, Cond.fieldLink RX2 53 "SkewPlan$1" "$SwitchMap$SkewPlan$Word" "[I", Cond.methodLink RX2 58 ⟨"SkewPlan$Word", "ordinal", "()I"⟩, Cond.sameMethod "SkewPlan$Word" "java/lang/Enum" "ordinal" "()I", Cond.selects RX6 ⟨"SkewPlan$Word", "ordinal", "()I"⟩ yJx29ce0_ordinal_8abf5, Cond.instanceMethod yJx29ce0_ordinal_8abf5, Cond.initialized RJx29ce0, Cond.code yJx29ce0_ordinal_8abf5 cJx29ce0_ordinal_8abf5 1 (some .int), Cond.fieldLink RJx29ce0 7 "java/lang/Enum" "ordinal" "I", Cond.methodLink RX2 24 yX2_begin, Cond.instanceMethod yX2_begin, Cond.selects RX2 yX2_begin yX2_begin, Cond.code yX2_begin cX2_begin 2 none]
def wsX4_read : List Cond := .code yX4_read cX4_read 4 (some .int) :: ((wsX4_read_r1 ++ (wsX4_read_r2 ++ (wsX4_read_r3 ++ (wsX4_read_r4 ++ (wsX4_read_r5 ++ wsX4_read_r6))))) ++ wsX40 ++ wsX20)
def wsX5_init : List Cond := .code yX5_init cX5_init 1 none :: ([.methodLink RX5 3 objectInit, .instanceMethod objectInit, .code objectInit ⟨#[0xb1]⟩ 1 none, .arrayClass .double, .fieldLink RX5 9 "SkewPlan$Trace" "values" "[D", .arrayClass .boolean, .fieldLink RX5 15 "SkewPlan$Trace" "isNoNumber" "[Z"] ++ wsX50)
def wsX5_isMissing : List Cond := .code yX5_isMissing cX5_isMissing 1 (some .boolean) :: ([.fieldLink RX5 19 "SkewPlan$Trace" "isPresent" "Z"] ++ wsX50)
def wsX5_placeCount : List Cond := .code yX5_placeCount cX5_placeCount 1 (some .int) :: ([.fieldLink RX5 23 "SkewPlan$Trace" "places" "I"] ++ wsX50)
def wsX5_lose : List Cond := .code yX5_lose cX5_lose 1 none :: ([.fieldLink RX5 19 "SkewPlan$Trace" "isPresent" "Z", .fieldLink RX5 23 "SkewPlan$Trace" "places" "I"] ++ wsX50)
def wsX5_putNumber : List Cond := .code yX5_putNumber cX5_putNumber 4 none :: ([.fieldLink RX5 9 "SkewPlan$Trace" "values" "[D", .fieldLink RX5 15 "SkewPlan$Trace" "isNoNumber" "[Z"] ++ wsX50)
def wsX5_renew : List Cond := .code yX5_renew cX5_renew 4 none :: ([.fieldLink RX5 19 "SkewPlan$Trace" "isPresent" "Z", .fieldLink RX5 27 "SkewPlan$Trace" "sort" "I", .fieldLink RX5 23 "SkewPlan$Trace" "places" "I", .methodLink RX5 30 yX5_putNumber, .instanceMethod yX5_putNumber, .selects RX5 yX5_putNumber yX5_putNumber, .initialized RX5, .code yX5_putNumber cX5_putNumber 4 none, .fieldLink RX5 9 "SkewPlan$Trace" "values" "[D", .fieldLink RX5 15 "SkewPlan$Trace" "isNoNumber" "[Z"] ++ wsX50)
def wsX5_finding : List Cond := .code yX5_finding cX5_finding 4 (some .int) :: ([.fieldLink RX5 19 "SkewPlan$Trace" "isPresent" "Z", .fieldLink RX5 27 "SkewPlan$Trace" "sort" "I", .fieldLink RX5 23 "SkewPlan$Trace" "places" "I", .static yX7_isWithin, .initialized RX7, .code yX7_isWithin cX7_isWithin 3 (some .boolean)] ++ wsX50)
def wsX5_putNoNumber : List Cond := .code yX5_putNoNumber cX5_putNoNumber 2 none :: ([.fieldLink RX5 9 "SkewPlan$Trace" "values" "[D", .fieldLink RX5 15 "SkewPlan$Trace" "isNoNumber" "[Z"] ++ wsX50)
def wsX5_putQuotient : List Cond := .code yX5_putQuotient cX5_putQuotient 4 none :: ([.fieldLink RX5 27 "SkewPlan$Trace" "sort" "I", .methodLink RX5 38 yX5_putNoNumber, .instanceMethod yX5_putNoNumber, .selects RX5 yX5_putNoNumber yX5_putNoNumber, .initialized RX5, .code yX5_putNoNumber cX5_putNoNumber 2 none, .fieldLink RX5 9 "SkewPlan$Trace" "values" "[D", .fieldLink RX5 15 "SkewPlan$Trace" "isNoNumber" "[Z", .methodLink RX5 30 yX5_putNumber, .instanceMethod yX5_putNumber, .selects RX5 yX5_putNumber yX5_putNumber, .code yX5_putNumber cX5_putNumber 4 none] ++ wsX50)
def wsX5_isEndless : List Cond := .code yX5_isEndless cX5_isEndless 2 (some .boolean) :: ([.constantDouble RX5 52 (4696837146684686336), .constantDouble RX5 54 (13920209183539462144)])
def wsX5_remainder : List Cond := .code yX5_remainder cX5_remainder 10 (some .double) :: ([.constantDouble RX5 50 (4611686018427387904)])
def wsX5_putRemainder : List Cond := .code yX5_putRemainder cX5_putRemainder 3 none :: ([.fieldLink RX5 15 "SkewPlan$Trace" "isNoNumber" "[Z", .fieldLink RX5 9 "SkewPlan$Trace" "values" "[D", .methodLink RX5 42 yX5_isEndless, .static yX5_isEndless, .initialized RX5, .code yX5_isEndless cX5_isEndless 2 (some .boolean), .constantDouble RX5 52 (4696837146684686336), .constantDouble RX5 54 (13920209183539462144), .methodLink RX5 38 yX5_putNoNumber, .instanceMethod yX5_putNoNumber, .selects RX5 yX5_putNoNumber yX5_putNoNumber, .code yX5_putNoNumber cX5_putNoNumber 2 none, .methodLink RX5 46 yX5_remainder, .static yX5_remainder, .code yX5_remainder cX5_remainder 10 (some .double), .constantDouble RX5 50 (4611686018427387904), .methodLink RX5 30 yX5_putNumber, .instanceMethod yX5_putNumber, .selects RX5 yX5_putNumber yX5_putNumber, .code yX5_putNumber cX5_putNumber 4 none] ++ wsX50)
def wsX5_order : List Cond := .code yX5_order cX5_order 3 (some .int) :: ([.fieldLink RX5 15 "SkewPlan$Trace" "isNoNumber" "[Z", .fieldLink RX5 9 "SkewPlan$Trace" "values" "[D"] ++ wsX50)
def wsX5_cutThousand : List Cond := .code yX5_cutThousand cX5_cutThousand 2 (some .int) :: ([.constantDouble RX5 52 (4696837146684686336), .constant RX5 64 (3000000), .constantDouble RX5 54 (13920209183539462144), .constant RX5 65 (1000000), .constant RX5 56 (2000000)])
def wsX5_thousandAt : List Cond := .code yX5_thousandAt cX5_thousandAt 2 (some .int) :: ([.fieldLink RX5 15 "SkewPlan$Trace" "isNoNumber" "[Z", .constant RX5 56 (2000000), .fieldLink RX5 27 "SkewPlan$Trace" "sort" "I", .fieldLink RX5 9 "SkewPlan$Trace" "values" "[D", .constantFloat RX5 57 (1148846080), .constantDouble RX5 62 (4652007308841189376), .methodLink RX5 58 yX5_cutThousand, .static yX5_cutThousand, .initialized RX5, .code yX5_cutThousand cX5_cutThousand 2 (some .int), .constantDouble RX5 52 (4696837146684686336), .constant RX5 64 (3000000), .constantDouble RX5 54 (13920209183539462144), .constant RX5 65 (1000000)] ++ wsX50)
def wsX5_thousandOfAll : List Cond := .code yX5_thousandOfAll cX5_thousandOfAll 7 (some .int) :: ([.fieldLink RX5 23 "SkewPlan$Trace" "places" "I", .fieldLink RX5 9 "SkewPlan$Trace" "values" "[D", .fieldLink RX5 15 "SkewPlan$Trace" "isNoNumber" "[Z", .constant RX5 56 (2000000), .constantDouble RX5 62 (4652007308841189376), .methodLink RX5 42 yX5_isEndless, .static yX5_isEndless, .initialized RX5, .code yX5_isEndless cX5_isEndless 2 (some .boolean), .constantDouble RX5 52 (4696837146684686336), .constantDouble RX5 54 (13920209183539462144), .methodLink RX5 58 yX5_cutThousand, .static yX5_cutThousand, .code yX5_cutThousand cX5_cutThousand 2 (some .int), .constant RX5 64 (3000000), .constant RX5 65 (1000000)] ++ wsX50)
def wsX5_noNumberCount : List Cond := .code yX5_noNumberCount cX5_noNumberCount 3 (some .int) :: ([.fieldLink RX5 23 "SkewPlan$Trace" "places" "I", .fieldLink RX5 15 "SkewPlan$Trace" "isNoNumber" "[Z"] ++ wsX50)
def wsX7_init_r1 : List Cond := [Cond.methodLink RX7 1 objectInit, Cond.instanceMethod objectInit, Cond.code objectInit ⟨#[0xb1]⟩ 1 none, Cond.classLink RX7 7 RX4, Cond.instantiable RX4 5, Cond.initialized RX4, Cond.fieldLink RX7 10 "SkewPlan" "text" "LSkewPlan$Text;", Cond.classLink RX7 16 RX2, Cond.instantiable RX2 10, Cond.initialized RX2, Cond.fieldLink RX7 19 "SkewPlan" "told" "LSkewPlan$Net;", Cond.fieldLink RX7 23 "SkewPlan" "now" "LSkewPlan$Net;", Cond.fieldLink RX7 26 "SkewPlan" "scratch" "LSkewPlan$Net;", Cond.fieldLink RX7 29 "SkewPlan" "kept" "[LSkewPlan$Net;", Cond.arrayClass .boolean, Cond.fieldLink RX7 33 "SkewPlan" "isKept" "[Z", Cond.classLink RX7 37 RX1, Cond.instantiable RX1 4, Cond.initialized RX1, Cond.fieldLink RX7 40 "SkewPlan" "history" "LSkewPlan$History;", Cond.classLink RX7 44 RX3, Cond.instantiable RX3 7, Cond.initialized RX3, Cond.fieldLink RX7 47 "SkewPlan" "planner" "LSkewPlan$Planner;"]
def wsX7_init_r2 : List Cond := [Cond.classLink RX7 51 RX5, Cond.fieldLink RX7 53 "SkewPlan" "traces" "[LSkewPlan$Trace;", Cond.instantiable RX5 5, Cond.initialized RX5, Cond.instanceMethod yX4_init, Cond.code yX4_init cX4_init 1 none, Cond.methodLink RX4 3 objectInit, Cond.arrayClass .char, Cond.fieldLink RX4 9 "SkewPlan$Text" "letters" "[C", Cond.methodLink RX7 18 yX2_init, Cond.instanceMethod yX2_init, Cond.code yX2_init cX2_init 1 none, Cond.methodLink RX2 3 objectInit, Cond.arrayClass .int, Cond.fieldLink RX2 9 "SkewPlan$Net" "from" "[I", Cond.fieldLink RX2 15 "SkewPlan$Net" "to" "[I", Cond.fieldLink RX2 18 "SkewPlan$Net" "longs" "[I", Cond.fieldLink RX2 21 "SkewPlan$Net" "shorts" "[I", Cond.methodLink RX2 24 yX2_begin, Cond.instanceMethod yX2_begin, Cond.selects RX2 yX2_begin yX2_begin, Cond.code yX2_begin cX2_begin 2 none, Cond.fieldLink RX2 28 "SkewPlan$Net" "registers" "I", Cond.fieldLink RX2 32 "SkewPlan$Net" "setup" "I"]
def wsX7_init_r3 : List Cond := [Cond.fieldLink RX2 35 "SkewPlan$Net" "hold" "I", Cond.fieldLink RX2 38 "SkewPlan$Net" "step" "I", Cond.fieldLink RX2 41 "SkewPlan$Net" "period" "I", Cond.fieldLink RX2 44 "SkewPlan$Net" "paths" "I", Cond.instanceMethod yX1_init, Cond.code yX1_init cX1_init 1 none, Cond.methodLink RX1 3 objectInit, Cond.fieldLink RX1 9 "SkewPlan$History" "paths" "[I", Cond.fieldLink RX1 15 "SkewPlan$History" "amounts" "[I", Cond.instanceMethod yX3_init, Cond.code yX3_init cX3_init 1 none, Cond.methodLink RX3 5 objectInit, Cond.classLink RX3 11 "[[I", Cond.fieldLink RX3 13 "SkewPlan$Planner" "bounds" "[[I", Cond.fieldLink RX3 18 "SkewPlan$Planner" "shifts" "[I", Cond.fieldLink RX3 22 "SkewPlan$Planner" "ring" "[I", Cond.instanceMethod yX5_init, Cond.code yX5_init cX5_init 1 none, Cond.methodLink RX5 3 objectInit, Cond.arrayClass .double, Cond.fieldLink RX5 9 "SkewPlan$Trace" "values" "[D", Cond.fieldLink RX5 15 "SkewPlan$Trace" "isNoNumber" "[Z"]
def wsX7_init : List Cond := .code yX7_init cX7_init 2 none :: ((wsX7_init_r1 ++ (wsX7_init_r2 ++ wsX7_init_r3)) ++ wsX40 ++ wsX70 ++ wsX20 ++ wsX10 ++ wsX30 ++ wsX50)
def wsX7_write : List Cond := .code yX7_write cX7_write 2 (some .int) :: ([.fieldLink RX7 10 "SkewPlan" "text" "LSkewPlan$Text;", .methodLink RX7 58 yX7_isWithin, .static yX7_isWithin, .initialized RX7, .code yX7_isWithin cX7_isWithin 3 (some .boolean), .methodLink RX7 62 yX4_append, .instanceMethod yX4_append, .selects RX4 yX4_append yX4_append, .initialized RX4, .code yX4_append cX4_append 2 (some .boolean), .fieldLink RX4 15 "SkewPlan$Text" "length" "I", .fieldLink RX4 9 "SkewPlan$Text" "letters" "[C", .methodLink RX7 66 yX4_letterCount, .instanceMethod yX4_letterCount, .selects RX4 yX4_letterCount yX4_letterCount, .code yX4_letterCount cX4_letterCount 1 (some .int)] ++ wsX70 ++ wsX40)
def wsX7_erase : List Cond := .code yX7_erase cX7_erase 2 (some .int) :: ([.fieldLink RX7 10 "SkewPlan" "text" "LSkewPlan$Text;", .methodLink RX7 66 yX4_letterCount, .instanceMethod yX4_letterCount, .selects RX4 yX4_letterCount yX4_letterCount, .initialized RX4, .code yX4_letterCount cX4_letterCount 1 (some .int), .fieldLink RX4 15 "SkewPlan$Text" "length" "I", .methodLink RX7 70 yX4_clear, .instanceMethod yX4_clear, .selects RX4 yX4_clear yX4_clear, .code yX4_clear cX4_clear 1 none] ++ wsX70 ++ wsX40)
def wsX7_fault_r1 : List Cond := [Cond.fieldLink RX7 10 "SkewPlan" "text" "LSkewPlan$Text;", Cond.fieldLink RX7 19 "SkewPlan" "told" "LSkewPlan$Net;", Cond.fieldLink RX7 26 "SkewPlan" "scratch" "LSkewPlan$Net;", Cond.methodLink RX7 73 yX4_read, Cond.instanceMethod yX4_read, Cond.selects RX4 yX4_read yX4_read, Cond.initialized RX4, Cond.code yX4_read cX4_read 4 (some .int), Cond.fieldLink RX4 19 "SkewPlan$Text" "clauses" "I", Cond.fieldLink RX4 28 "SkewPlan$Text" "tokenEnd" "I", Cond.fieldLink RX4 38 "SkewPlan$Text" "tokenStart" "I", Cond.fieldLink RX4 9 "SkewPlan$Text" "letters" "[C", Cond.methodLink RX4 22 yX2_copyFrom, Cond.instanceMethod yX2_copyFrom, Cond.selects RX2 yX2_copyFrom yX2_copyFrom, Cond.initialized RX2, Cond.code yX2_copyFrom cX2_copyFrom 2 none, Cond.fieldLink RX2 28 "SkewPlan$Net" "registers" "I", Cond.fieldLink RX2 32 "SkewPlan$Net" "setup" "I", Cond.fieldLink RX2 35 "SkewPlan$Net" "hold" "I", Cond.fieldLink RX2 38 "SkewPlan$Net" "step" "I", Cond.fieldLink RX2 41 "SkewPlan$Net" "period" "I", Cond.fieldLink RX2 44 "SkewPlan$Net" "paths" "I", Cond.fieldLink RX2 9 "SkewPlan$Net" "from" "[I"]
def wsX7_fault_r2 : List Cond := [Cond.methodLink RX2 47 arraycopyName, Cond.native arraycopyName, Cond.static arraycopyName, Cond.initialized "java/lang/System", Cond.fieldLink RX2 15 "SkewPlan$Net" "to" "[I", Cond.fieldLink RX2 18 "SkewPlan$Net" "longs" "[I", Cond.fieldLink RX2 21 "SkewPlan$Net" "shorts" "[I", Cond.methodLink RX4 31 yX4_advance, Cond.instanceMethod yX4_advance, Cond.selects RX4 yX4_advance yX4_advance, Cond.code yX4_advance cX4_advance 2 none, Cond.fieldLink RX4 15 "SkewPlan$Text" "length" "I", Cond.methodLink RX4 41 yX4_isAtEnd, Cond.instanceMethod yX4_isAtEnd, Cond.selects RX4 yX4_isAtEnd yX4_isAtEnd, Cond.code yX4_isAtEnd cX4_isAtEnd 1 (some .boolean), Cond.methodLink RX4 45 yX4_isSmall, Cond.static yX4_isSmall, Cond.code yX4_isSmall cX4_isSmall 1 (some .boolean), Cond.methodLink RX4 49 yX4_isDigit, Cond.static yX4_isDigit, Cond.code yX4_isDigit cX4_isDigit 1 (some .boolean), Cond.methodLink RX4 34 yX4_readClause, Cond.instanceMethod yX4_readClause]
def wsX7_fault_r3 : List Cond := [Cond.selects RX4 yX4_readClause yX4_readClause, Cond.code yX4_readClause cX4_readClause 5 (some .boolean), Cond.fieldLink RX4 60 "SkewPlan$Word" "PATH" "LSkewPlan$Word;", Cond.methodLink RX4 52 yX4_wordHere, Cond.instanceMethod yX4_wordHere, Cond.selects RX4 yX4_wordHere yX4_wordHere, Cond.code yX4_wordHere cX4_wordHere 2 (some .int), Cond.methodLink RX4 97 yX4_isSpelled, Cond.instanceMethod yX4_isSpelled, Cond.selects RX4 yX4_isSpelled yX4_isSpelled, Cond.code yX4_isSpelled cX4_isSpelled 3 (some .boolean), Cond.methodLink RX4 101 yJ0_length_8abf5, Cond.instanceMethod yJ0_length_8abf5, Cond.selects RJ0 yJ0_length_8abf5 yJ0_length_8abf5, Cond.initialized RJ0, Cond.code yJ0_length_8abf5 cJ0_length_8abf5 1 (some .int), Cond.fieldLink RJ0 9 "java/lang/String" "value" "[B", Cond.methodLink RJ0 335 yJ0_coder_7d493, Cond.instanceMethod yJ0_coder_7d493, Cond.selects RJ0 yJ0_coder_7d493 yJ0_coder_7d493, Cond.code yJ0_coder_7d493 cJ0_coder_7d493 1 (some .byte), Cond.fieldLink RJ0 38 "java/lang/String" "COMPACT_STRINGS" "Z", Cond.fieldLink RJ0 15 "java/lang/String" "coder" "B", Cond.methodLink RX4 105 yJ0_charAt_5068e]
def wsX7_fault_r4 : List Cond := [Cond.instanceMethod yJ0_charAt_5068e, Cond.selects RJ0 yJ0_charAt_5068e yJ0_charAt_5068e, Cond.code yJ0_charAt_5068e cJ0_charAt_5068e 2 (some .char), Cond.methodLink RJ0 492 yJ0_isLatin1_aae02, Cond.instanceMethod yJ0_isLatin1_aae02, Cond.selects RJ0 yJ0_isLatin1_aae02 yJ0_isLatin1_aae02, Cond.code yJ0_isLatin1_aae02 cJ0_isLatin1_aae02 1 (some .boolean), Cond.methodLink RJ0 495 yJ1_charAt_3b067, Cond.static yJ1_charAt_3b067, Cond.initialized RJ1, Cond.code yJ1_charAt_3b067 cJ1_charAt_3b067 2 (some .char), Cond.methodLink RJ1 9 yJ0_checkIndex_df160, Cond.static yJ0_checkIndex_df160, Cond.code yJ0_checkIndex_df160 cJ0_checkIndex_df160 2 none, Cond.fieldLink RJ0 1053 "jdk/internal/util/Preconditions" "SIOOBE_FORMATTER" "Ljava/util/function/BiFunction;", Cond.methodLink RJ0 1059 yJ3_checkIndex_8e157, Cond.static yJ3_checkIndex_8e157, Cond.initialized RJ3, Cond.code yJ3_checkIndex_8e157 cJ3_checkIndex_8e157 3 (some .int), Cond.methodLink RJ0 498 yJ2_charAt_3b067, Cond.static yJ2_charAt_3b067, Cond.initialized RJ2, Cond.code yJ2_charAt_3b067 cJ2_charAt_3b067 2 (some .char), Cond.methodLink RJ2 67 yJ2_checkIndex_2214a]
def wsX7_fault_r5 : List Cond := [Cond.static yJ2_checkIndex_2214a, Cond.code yJ2_checkIndex_2214a cJ2_checkIndex_2214a 2 none, Cond.methodLink RJ2 48 yJ2_length_9d52b, Cond.static yJ2_length_9d52b, Cond.code yJ2_length_9d52b cJ2_length_9d52b 1 (some .int), Cond.methodLink RJ2 414 yJ0_checkIndex_df160, Cond.methodLink RJ2 71 yJ2_getChar_3b067, Cond.static yJ2_getChar_3b067, Cond.code yJ2_getChar_3b067 cJ2_getChar_3b067 2 (some .char), Cond.fieldLink RJ2 44 "java/lang/StringUTF16" "$assertionsDisabled" "Z", Cond.fieldLink RJ2 59 "java/lang/StringUTF16" "HI_BYTE_SHIFT" "I", Cond.fieldLink RJ2 63 "java/lang/StringUTF16" "LO_BYTE_SHIFT" "I", Cond.methodLink RX4 66 yX2_hasAllPaths, Cond.instanceMethod yX2_hasAllPaths, Cond.selects RX2 yX2_hasAllPaths yX2_hasAllPaths, Cond.code yX2_hasAllPaths cX2_hasAllPaths 1 (some .boolean), Cond.methodLink RX4 69 yX4_readPath, Cond.instanceMethod yX4_readPath, Cond.selects RX4 yX4_readPath yX4_readPath, Cond.code yX4_readPath cX4_readPath 6 (some .boolean), Cond.methodLink RX4 78 yX4_readNumber, Cond.instanceMethod yX4_readNumber, Cond.selects RX4 yX4_readNumber yX4_readNumber, Cond.code yX4_readNumber cX4_readNumber 5 (some .int)]
def wsX7_fault_r6 : List Cond := [Cond.static yX7_isWithin, Cond.initialized RX7, Cond.code yX7_isWithin cX7_isWithin 3 (some .boolean), Cond.methodLink RX4 89 yX2_addPath, Cond.instanceMethod yX2_addPath, Cond.selects RX2 yX2_addPath yX2_addPath, Cond.code yX2_addPath cX2_addPath 5 none, Cond.methodLink RX2 64 yX2_hasAllPaths, Cond.methodLink RX4 82 yX2_tell, Cond.instanceMethod yX2_tell, Cond.selects RX2 yX2_tell yX2_tell, Cond.code yX2_tell cX2_tell 3 none, Cond.fieldLink RX2 53 "SkewPlan$1" "$SwitchMap$SkewPlan$Word" "[I", Cond.methodLink RX2 58 ⟨"SkewPlan$Word", "ordinal", "()I"⟩, Cond.sameMethod "SkewPlan$Word" "java/lang/Enum" "ordinal" "()I", Cond.selects RX6 ⟨"SkewPlan$Word", "ordinal", "()I"⟩ yJx29ce0_ordinal_8abf5, Cond.instanceMethod yJx29ce0_ordinal_8abf5, Cond.initialized RJx29ce0, Cond.code yJx29ce0_ordinal_8abf5 cJx29ce0_ordinal_8abf5 1 (some .int), Cond.fieldLink RJx29ce0 7 "java/lang/Enum" "ordinal" "I", Cond.methodLink RX2 24 yX2_begin, Cond.instanceMethod yX2_begin, Cond.selects RX2 yX2_begin yX2_begin, Cond.code yX2_begin cX2_begin 2 none]
def wsX7_fault : List Cond := .code yX7_fault cX7_fault 1 (some .int) :: ((wsX7_fault_r1 ++ (wsX7_fault_r2 ++ (wsX7_fault_r3 ++ (wsX7_fault_r4 ++ (wsX7_fault_r5 ++ wsX7_fault_r6))))) ++ wsX70 ++ wsX40 ++ wsX20)
def wsX7_net_r1 : List Cond := [Cond.fieldLink RX7 10 "SkewPlan" "text" "LSkewPlan$Text;", Cond.fieldLink RX7 19 "SkewPlan" "told" "LSkewPlan$Net;", Cond.fieldLink RX7 26 "SkewPlan" "scratch" "LSkewPlan$Net;", Cond.fieldLink RX7 23 "SkewPlan" "now" "LSkewPlan$Net;", Cond.fieldLink RX7 40 "SkewPlan" "history" "LSkewPlan$History;", Cond.fieldLink RX7 33 "SkewPlan" "isKept" "[Z", Cond.fieldLink RX7 53 "SkewPlan" "traces" "[LSkewPlan$Trace;", Cond.methodLink RX7 73 yX4_read, Cond.instanceMethod yX4_read, Cond.selects RX4 yX4_read yX4_read, Cond.initialized RX4, Cond.code yX4_read cX4_read 4 (some .int), Cond.fieldLink RX4 19 "SkewPlan$Text" "clauses" "I", Cond.fieldLink RX4 28 "SkewPlan$Text" "tokenEnd" "I", Cond.fieldLink RX4 38 "SkewPlan$Text" "tokenStart" "I", Cond.fieldLink RX4 9 "SkewPlan$Text" "letters" "[C", Cond.methodLink RX4 22 yX2_copyFrom, Cond.instanceMethod yX2_copyFrom, Cond.selects RX2 yX2_copyFrom yX2_copyFrom, Cond.initialized RX2, Cond.code yX2_copyFrom cX2_copyFrom 2 none, Cond.fieldLink RX2 28 "SkewPlan$Net" "registers" "I", Cond.fieldLink RX2 32 "SkewPlan$Net" "setup" "I", Cond.fieldLink RX2 35 "SkewPlan$Net" "hold" "I"]
def wsX7_net_r2 : List Cond := [Cond.fieldLink RX2 38 "SkewPlan$Net" "step" "I", Cond.fieldLink RX2 41 "SkewPlan$Net" "period" "I", Cond.fieldLink RX2 44 "SkewPlan$Net" "paths" "I", Cond.fieldLink RX2 9 "SkewPlan$Net" "from" "[I", Cond.methodLink RX2 47 arraycopyName, Cond.native arraycopyName, Cond.static arraycopyName, Cond.initialized "java/lang/System", Cond.fieldLink RX2 15 "SkewPlan$Net" "to" "[I", Cond.fieldLink RX2 18 "SkewPlan$Net" "longs" "[I", Cond.fieldLink RX2 21 "SkewPlan$Net" "shorts" "[I", Cond.methodLink RX4 31 yX4_advance, Cond.instanceMethod yX4_advance, Cond.selects RX4 yX4_advance yX4_advance, Cond.code yX4_advance cX4_advance 2 none, Cond.fieldLink RX4 15 "SkewPlan$Text" "length" "I", Cond.methodLink RX4 41 yX4_isAtEnd, Cond.instanceMethod yX4_isAtEnd, Cond.selects RX4 yX4_isAtEnd yX4_isAtEnd, Cond.code yX4_isAtEnd cX4_isAtEnd 1 (some .boolean), Cond.methodLink RX4 45 yX4_isSmall, Cond.static yX4_isSmall, Cond.code yX4_isSmall cX4_isSmall 1 (some .boolean), Cond.methodLink RX4 49 yX4_isDigit]
def wsX7_net_r3 : List Cond := [Cond.static yX4_isDigit, Cond.code yX4_isDigit cX4_isDigit 1 (some .boolean), Cond.methodLink RX4 34 yX4_readClause, Cond.instanceMethod yX4_readClause, Cond.selects RX4 yX4_readClause yX4_readClause, Cond.code yX4_readClause cX4_readClause 5 (some .boolean), Cond.fieldLink RX4 60 "SkewPlan$Word" "PATH" "LSkewPlan$Word;", Cond.methodLink RX4 52 yX4_wordHere, Cond.instanceMethod yX4_wordHere, Cond.selects RX4 yX4_wordHere yX4_wordHere, Cond.code yX4_wordHere cX4_wordHere 2 (some .int), Cond.methodLink RX4 97 yX4_isSpelled, Cond.instanceMethod yX4_isSpelled, Cond.selects RX4 yX4_isSpelled yX4_isSpelled, Cond.code yX4_isSpelled cX4_isSpelled 3 (some .boolean), Cond.methodLink RX4 101 yJ0_length_8abf5, Cond.instanceMethod yJ0_length_8abf5, Cond.selects RJ0 yJ0_length_8abf5 yJ0_length_8abf5, Cond.initialized RJ0, Cond.code yJ0_length_8abf5 cJ0_length_8abf5 1 (some .int), Cond.fieldLink RJ0 9 "java/lang/String" "value" "[B", Cond.methodLink RJ0 335 yJ0_coder_7d493, Cond.instanceMethod yJ0_coder_7d493, Cond.selects RJ0 yJ0_coder_7d493 yJ0_coder_7d493]
def wsX7_net_r4 : List Cond := [Cond.code yJ0_coder_7d493 cJ0_coder_7d493 1 (some .byte), Cond.fieldLink RJ0 38 "java/lang/String" "COMPACT_STRINGS" "Z", Cond.fieldLink RJ0 15 "java/lang/String" "coder" "B", Cond.methodLink RX4 105 yJ0_charAt_5068e, Cond.instanceMethod yJ0_charAt_5068e, Cond.selects RJ0 yJ0_charAt_5068e yJ0_charAt_5068e, Cond.code yJ0_charAt_5068e cJ0_charAt_5068e 2 (some .char), Cond.methodLink RJ0 492 yJ0_isLatin1_aae02, Cond.instanceMethod yJ0_isLatin1_aae02, Cond.selects RJ0 yJ0_isLatin1_aae02 yJ0_isLatin1_aae02, Cond.code yJ0_isLatin1_aae02 cJ0_isLatin1_aae02 1 (some .boolean), Cond.methodLink RJ0 495 yJ1_charAt_3b067, Cond.static yJ1_charAt_3b067, Cond.initialized RJ1, Cond.code yJ1_charAt_3b067 cJ1_charAt_3b067 2 (some .char), Cond.methodLink RJ1 9 yJ0_checkIndex_df160, Cond.static yJ0_checkIndex_df160, Cond.code yJ0_checkIndex_df160 cJ0_checkIndex_df160 2 none, Cond.fieldLink RJ0 1053 "jdk/internal/util/Preconditions" "SIOOBE_FORMATTER" "Ljava/util/function/BiFunction;", Cond.methodLink RJ0 1059 yJ3_checkIndex_8e157, Cond.static yJ3_checkIndex_8e157, Cond.initialized RJ3, Cond.code yJ3_checkIndex_8e157 cJ3_checkIndex_8e157 3 (some .int), Cond.methodLink RJ0 498 yJ2_charAt_3b067]
def wsX7_net_r5 : List Cond := [Cond.static yJ2_charAt_3b067, Cond.initialized RJ2, Cond.code yJ2_charAt_3b067 cJ2_charAt_3b067 2 (some .char), Cond.methodLink RJ2 67 yJ2_checkIndex_2214a, Cond.static yJ2_checkIndex_2214a, Cond.code yJ2_checkIndex_2214a cJ2_checkIndex_2214a 2 none, Cond.methodLink RJ2 48 yJ2_length_9d52b, Cond.static yJ2_length_9d52b, Cond.code yJ2_length_9d52b cJ2_length_9d52b 1 (some .int), Cond.methodLink RJ2 414 yJ0_checkIndex_df160, Cond.methodLink RJ2 71 yJ2_getChar_3b067, Cond.static yJ2_getChar_3b067, Cond.code yJ2_getChar_3b067 cJ2_getChar_3b067 2 (some .char), Cond.fieldLink RJ2 44 "java/lang/StringUTF16" "$assertionsDisabled" "Z", Cond.fieldLink RJ2 59 "java/lang/StringUTF16" "HI_BYTE_SHIFT" "I", Cond.fieldLink RJ2 63 "java/lang/StringUTF16" "LO_BYTE_SHIFT" "I", Cond.methodLink RX4 66 yX2_hasAllPaths, Cond.instanceMethod yX2_hasAllPaths, Cond.selects RX2 yX2_hasAllPaths yX2_hasAllPaths, Cond.code yX2_hasAllPaths cX2_hasAllPaths 1 (some .boolean), Cond.methodLink RX4 69 yX4_readPath, Cond.instanceMethod yX4_readPath, Cond.selects RX4 yX4_readPath yX4_readPath, Cond.code yX4_readPath cX4_readPath 6 (some .boolean)]
def wsX7_net_r6 : List Cond := [Cond.methodLink RX4 78 yX4_readNumber, Cond.instanceMethod yX4_readNumber, Cond.selects RX4 yX4_readNumber yX4_readNumber, Cond.code yX4_readNumber cX4_readNumber 5 (some .int), Cond.static yX7_isWithin, Cond.initialized RX7, Cond.code yX7_isWithin cX7_isWithin 3 (some .boolean), Cond.methodLink RX4 89 yX2_addPath, Cond.instanceMethod yX2_addPath, Cond.selects RX2 yX2_addPath yX2_addPath, Cond.code yX2_addPath cX2_addPath 5 none, Cond.methodLink RX2 64 yX2_hasAllPaths, Cond.methodLink RX4 82 yX2_tell, Cond.instanceMethod yX2_tell, Cond.selects RX2 yX2_tell yX2_tell, Cond.code yX2_tell cX2_tell 3 none, Cond.fieldLink RX2 53 "SkewPlan$1" "$SwitchMap$SkewPlan$Word" "[I", Cond.methodLink RX2 58 ⟨"SkewPlan$Word", "ordinal", "()I"⟩, Cond.sameMethod "SkewPlan$Word" "java/lang/Enum" "ordinal" "()I", Cond.selects RX6 ⟨"SkewPlan$Word", "ordinal", "()I"⟩ yJx29ce0_ordinal_8abf5, Cond.instanceMethod yJx29ce0_ordinal_8abf5, Cond.initialized RJx29ce0, Cond.code yJx29ce0_ordinal_8abf5 cJx29ce0_ordinal_8abf5 1 (some .int), Cond.fieldLink RJx29ce0 7 "java/lang/Enum" "ordinal" "I"]
def wsX7_net_r7 : List Cond := [Cond.methodLink RX2 24 yX2_begin, Cond.instanceMethod yX2_begin, Cond.selects RX2 yX2_begin yX2_begin, Cond.code yX2_begin cX2_begin 2 none, Cond.methodLink RX7 77 yX2_copyFrom, Cond.methodLink RX7 81 yX1_clear, Cond.instanceMethod yX1_clear, Cond.selects RX1 yX1_clear yX1_clear, Cond.initialized RX1, Cond.code yX1_clear cX1_clear 1 none, Cond.fieldLink RX1 18 "SkewPlan$History" "size" "I", Cond.methodLink RX7 82 yX5_lose, Cond.instanceMethod yX5_lose, Cond.selects RX5 yX5_lose yX5_lose, Cond.initialized RX5, Cond.code yX5_lose cX5_lose 1 none, Cond.fieldLink RX5 19 "SkewPlan$Trace" "isPresent" "Z", Cond.fieldLink RX5 23 "SkewPlan$Trace" "places" "I", Cond.methodLink RX7 70 yX4_clear, Cond.instanceMethod yX4_clear, Cond.selects RX4 yX4_clear yX4_clear, Cond.code yX4_clear cX4_clear 1 none, Cond.methodLink RX7 85 yX4_clauseCount, Cond.instanceMethod yX4_clauseCount]
def wsX7_net_r8 : List Cond := [Cond.selects RX4 yX4_clauseCount yX4_clauseCount, Cond.code yX4_clauseCount cX4_clauseCount 1 (some .int)]
def wsX7_net : List Cond := .code yX7_net cX7_net 2 (some .int) :: ((wsX7_net_r1 ++ (wsX7_net_r2 ++ (wsX7_net_r3 ++ (wsX7_net_r4 ++ (wsX7_net_r5 ++ (wsX7_net_r6 ++ (wsX7_net_r7 ++ wsX7_net_r8))))))) ++ wsX70 ++ wsX40 ++ wsX20 ++ wsX10 ++ wsX50)
def wsX7_isPath : List Cond := .code yX7_isPath cX7_isPath 2 (some .boolean) :: ([.fieldLink RX7 23 "SkewPlan" "now" "LSkewPlan$Net;", .methodLink RX7 58 yX7_isWithin, .static yX7_isWithin, .initialized RX7, .code yX7_isWithin cX7_isWithin 3 (some .boolean)] ++ wsX70 ++ wsX20)
def wsX7_path : List Cond := .code yX7_path cX7_path 3 (some .int) :: ([.fieldLink RX7 23 "SkewPlan" "now" "LSkewPlan$Net;", .methodLink RX7 88 yX7_isPath, .instanceMethod yX7_isPath, .selects RX7 yX7_isPath yX7_isPath, .initialized RX7, .code yX7_isPath cX7_isPath 2 (some .boolean), .methodLink RX7 58 yX7_isWithin, .static yX7_isWithin, .code yX7_isWithin cX7_isWithin 3 (some .boolean), .methodLink RX7 105 yX2_lateBound, .instanceMethod yX2_lateBound, .selects RX2 yX2_lateBound yX2_lateBound, .initialized RX2, .code yX2_lateBound cX2_lateBound 2 (some .int), .fieldLink RX2 41 "SkewPlan$Net" "period" "I", .fieldLink RX2 18 "SkewPlan$Net" "longs" "[I", .fieldLink RX2 32 "SkewPlan$Net" "setup" "I", .methodLink RX7 109 yX2_soonBound, .instanceMethod yX2_soonBound, .selects RX2 yX2_soonBound yX2_soonBound, .code yX2_soonBound cX2_soonBound 2 (some .int), .fieldLink RX2 21 "SkewPlan$Net" "shorts" "[I", .fieldLink RX2 35 "SkewPlan$Net" "hold" "I"] ++ wsX70 ++ wsX20)
def wsX7_period : List Cond := .code yX7_period cX7_period 3 (some .int) :: ([.fieldLink RX7 23 "SkewPlan" "now" "LSkewPlan$Net;", .fieldLink RX7 40 "SkewPlan" "history" "LSkewPlan$History;", .methodLink RX7 58 yX7_isWithin, .static yX7_isWithin, .initialized RX7, .code yX7_isWithin cX7_isWithin 3 (some .boolean), .methodLink RX7 116 yX1_push, .instanceMethod yX1_push, .selects RX1 yX1_push yX1_push, .initialized RX1, .code yX1_push cX1_push 3 none, .fieldLink RX1 9 "SkewPlan$History" "paths" "[I", .fieldLink RX1 22 "SkewPlan$History" "next" "I", .fieldLink RX1 15 "SkewPlan$History" "amounts" "[I", .fieldLink RX1 18 "SkewPlan$History" "size" "I", .methodLink RX1 25 Lib.Math.min.name, .static Lib.Math.min.name, .initialized "java/lang/Math", .code Lib.Math.min.name Lib.Math.min.code 2 (some .int)] ++ wsX70 ++ wsX20 ++ wsX10)
def wsX7_slower_r1 : List Cond := [Cond.fieldLink RX7 23 "SkewPlan" "now" "LSkewPlan$Net;", Cond.fieldLink RX7 40 "SkewPlan" "history" "LSkewPlan$History;", Cond.methodLink RX7 88 yX7_isPath, Cond.instanceMethod yX7_isPath, Cond.selects RX7 yX7_isPath yX7_isPath, Cond.initialized RX7, Cond.code yX7_isPath cX7_isPath 2 (some .boolean), Cond.methodLink RX7 58 yX7_isWithin, Cond.static yX7_isWithin, Cond.code yX7_isWithin cX7_isWithin 3 (some .boolean), Cond.methodLink RX7 120 yX2_canBeSlower, Cond.instanceMethod yX2_canBeSlower, Cond.selects RX2 yX2_canBeSlower yX2_canBeSlower, Cond.initialized RX2, Cond.code yX2_canBeSlower cX2_canBeSlower 3 (some .boolean), Cond.fieldLink RX2 18 "SkewPlan$Net" "longs" "[I", Cond.methodLink RX7 116 yX1_push, Cond.instanceMethod yX1_push, Cond.selects RX1 yX1_push yX1_push, Cond.initialized RX1, Cond.code yX1_push cX1_push 3 none, Cond.fieldLink RX1 9 "SkewPlan$History" "paths" "[I", Cond.fieldLink RX1 22 "SkewPlan$History" "next" "I", Cond.fieldLink RX1 15 "SkewPlan$History" "amounts" "[I"]
def wsX7_slower_r2 : List Cond := [Cond.fieldLink RX1 18 "SkewPlan$History" "size" "I", Cond.methodLink RX1 25 Lib.Math.min.name, Cond.static Lib.Math.min.name, Cond.initialized "java/lang/Math", Cond.code Lib.Math.min.name Lib.Math.min.code 2 (some .int), Cond.methodLink RX7 124 yX2_delay, Cond.instanceMethod yX2_delay, Cond.selects RX2 yX2_delay yX2_delay, Cond.code yX2_delay cX2_delay 3 none, Cond.fieldLink RX2 21 "SkewPlan$Net" "shorts" "[I"]
def wsX7_slower : List Cond := .code yX7_slower cX7_slower 3 (some .int) :: ((wsX7_slower_r1 ++ wsX7_slower_r2) ++ wsX70 ++ wsX20 ++ wsX10)
def wsX7_undo : List Cond := .code yX7_undo cX7_undo 1 (some .int) :: ([.fieldLink RX7 40 "SkewPlan" "history" "LSkewPlan$History;", .fieldLink RX7 23 "SkewPlan" "now" "LSkewPlan$Net;", .methodLink RX7 127 yX1_size, .instanceMethod yX1_size, .selects RX1 yX1_size yX1_size, .initialized RX1, .code yX1_size cX1_size 1 (some .int), .fieldLink RX1 18 "SkewPlan$History" "size" "I", .methodLink RX7 130 yX1_revertLatest, .instanceMethod yX1_revertLatest, .selects RX1 yX1_revertLatest yX1_revertLatest, .code yX1_revertLatest cX1_revertLatest 2 none, .fieldLink RX1 22 "SkewPlan$History" "next" "I", .fieldLink RX1 9 "SkewPlan$History" "paths" "[I", .fieldLink RX1 15 "SkewPlan$History" "amounts" "[I", .methodLink RX1 36 yX2_delay, .instanceMethod yX2_delay, .selects RX2 yX2_delay yX2_delay, .initialized RX2, .code yX2_delay cX2_delay 3 none, .fieldLink RX2 18 "SkewPlan$Net" "longs" "[I", .fieldLink RX2 21 "SkewPlan$Net" "shorts" "[I"] ++ wsX70 ++ wsX10 ++ wsX20)
def wsX7_isKeptPlace : List Cond := .code yX7_isKeptPlace cX7_isKeptPlace 1 (some .boolean) :: ([.methodLink RX7 58 yX7_isWithin, .static yX7_isWithin, .initialized RX7, .code yX7_isWithin cX7_isWithin 3 (some .boolean)])
def wsX7_keep_r1 : List Cond := [Cond.fieldLink RX7 29 "SkewPlan" "kept" "[LSkewPlan$Net;", Cond.fieldLink RX7 23 "SkewPlan" "now" "LSkewPlan$Net;", Cond.fieldLink RX7 33 "SkewPlan" "isKept" "[Z", Cond.methodLink RX7 133 yX7_isKeptPlace, Cond.static yX7_isKeptPlace, Cond.initialized RX7, Cond.code yX7_isKeptPlace cX7_isKeptPlace 1 (some .boolean), Cond.methodLink RX7 58 yX7_isWithin, Cond.static yX7_isWithin, Cond.code yX7_isWithin cX7_isWithin 3 (some .boolean), Cond.methodLink RX7 77 yX2_copyFrom, Cond.instanceMethod yX2_copyFrom, Cond.selects RX2 yX2_copyFrom yX2_copyFrom, Cond.initialized RX2, Cond.code yX2_copyFrom cX2_copyFrom 2 none, Cond.fieldLink RX2 28 "SkewPlan$Net" "registers" "I", Cond.fieldLink RX2 32 "SkewPlan$Net" "setup" "I", Cond.fieldLink RX2 35 "SkewPlan$Net" "hold" "I", Cond.fieldLink RX2 38 "SkewPlan$Net" "step" "I", Cond.fieldLink RX2 41 "SkewPlan$Net" "period" "I", Cond.fieldLink RX2 44 "SkewPlan$Net" "paths" "I", Cond.fieldLink RX2 9 "SkewPlan$Net" "from" "[I", Cond.methodLink RX2 47 arraycopyName, Cond.native arraycopyName]
def wsX7_keep_r2 : List Cond := [Cond.static arraycopyName, Cond.initialized "java/lang/System", Cond.fieldLink RX2 15 "SkewPlan$Net" "to" "[I", Cond.fieldLink RX2 18 "SkewPlan$Net" "longs" "[I", Cond.fieldLink RX2 21 "SkewPlan$Net" "shorts" "[I"]
def wsX7_keep : List Cond := .code yX7_keep cX7_keep 2 (some .int) :: ((wsX7_keep_r1 ++ wsX7_keep_r2) ++ wsX70 ++ wsX20)
def wsX7_back_r1 : List Cond := [Cond.fieldLink RX7 33 "SkewPlan" "isKept" "[Z", Cond.fieldLink RX7 23 "SkewPlan" "now" "LSkewPlan$Net;", Cond.fieldLink RX7 29 "SkewPlan" "kept" "[LSkewPlan$Net;", Cond.fieldLink RX7 40 "SkewPlan" "history" "LSkewPlan$History;", Cond.methodLink RX7 133 yX7_isKeptPlace, Cond.static yX7_isKeptPlace, Cond.initialized RX7, Cond.code yX7_isKeptPlace cX7_isKeptPlace 1 (some .boolean), Cond.methodLink RX7 58 yX7_isWithin, Cond.static yX7_isWithin, Cond.code yX7_isWithin cX7_isWithin 3 (some .boolean), Cond.methodLink RX7 77 yX2_copyFrom, Cond.instanceMethod yX2_copyFrom, Cond.selects RX2 yX2_copyFrom yX2_copyFrom, Cond.initialized RX2, Cond.code yX2_copyFrom cX2_copyFrom 2 none, Cond.fieldLink RX2 28 "SkewPlan$Net" "registers" "I", Cond.fieldLink RX2 32 "SkewPlan$Net" "setup" "I", Cond.fieldLink RX2 35 "SkewPlan$Net" "hold" "I", Cond.fieldLink RX2 38 "SkewPlan$Net" "step" "I", Cond.fieldLink RX2 41 "SkewPlan$Net" "period" "I", Cond.fieldLink RX2 44 "SkewPlan$Net" "paths" "I", Cond.fieldLink RX2 9 "SkewPlan$Net" "from" "[I", Cond.methodLink RX2 47 arraycopyName]
def wsX7_back_r2 : List Cond := [Cond.native arraycopyName, Cond.static arraycopyName, Cond.initialized "java/lang/System", Cond.fieldLink RX2 15 "SkewPlan$Net" "to" "[I", Cond.fieldLink RX2 18 "SkewPlan$Net" "longs" "[I", Cond.fieldLink RX2 21 "SkewPlan$Net" "shorts" "[I", Cond.methodLink RX7 81 yX1_clear, Cond.instanceMethod yX1_clear, Cond.selects RX1 yX1_clear yX1_clear, Cond.initialized RX1, Cond.code yX1_clear cX1_clear 1 none, Cond.fieldLink RX1 18 "SkewPlan$History" "size" "I"]
def wsX7_back : List Cond := .code yX7_back cX7_back 2 (some .int) :: ((wsX7_back_r1 ++ wsX7_back_r2) ++ wsX70 ++ wsX20 ++ wsX10)
def wsX7_feasible_r1 : List Cond := [Cond.fieldLink RX7 47 "SkewPlan" "planner" "LSkewPlan$Planner;", Cond.fieldLink RX7 23 "SkewPlan" "now" "LSkewPlan$Net;", Cond.methodLink RX7 136 yX3_settlesNow, Cond.instanceMethod yX3_settlesNow, Cond.selects RX3 yX3_settlesNow yX3_settlesNow, Cond.initialized RX3, Cond.code yX3_settlesNow cX3_settlesNow 2 (some .boolean), Cond.methodLink RX3 35 yX3_settlesWithMargin, Cond.instanceMethod yX3_settlesWithMargin, Cond.selects RX3 yX3_settlesWithMargin yX3_settlesWithMargin, Cond.code yX3_settlesWithMargin cX3_settlesWithMargin 3 (some .boolean), Cond.methodLink RX3 47 yX3_layBounds, Cond.instanceMethod yX3_layBounds, Cond.selects RX3 yX3_layBounds yX3_layBounds, Cond.code yX3_layBounds cX3_layBounds 11 none, Cond.fieldLink RX3 72 "SkewPlan$Planner" "registers" "I", Cond.fieldLink RX3 13 "SkewPlan$Planner" "bounds" "[[I", Cond.constant RX3 73 (2147483647), Cond.methodLink RX3 89 yX2_soonBound, Cond.instanceMethod yX2_soonBound, Cond.selects RX2 yX2_soonBound yX2_soonBound, Cond.initialized RX2, Cond.code yX2_soonBound cX2_soonBound 2 (some .int), Cond.fieldLink RX2 21 "SkewPlan$Net" "shorts" "[I"]
def wsX7_feasible_r2 : List Cond := [Cond.fieldLink RX2 35 "SkewPlan$Net" "hold" "I", Cond.methodLink RX3 93 yX3_tighten, Cond.instanceMethod yX3_tighten, Cond.selects RX3 yX3_tighten yX3_tighten, Cond.code yX3_tighten cX3_tighten 5 none, Cond.methodLink RX3 97 Lib.Math.min.name, Cond.static Lib.Math.min.name, Cond.initialized "java/lang/Math", Cond.code Lib.Math.min.name Lib.Math.min.code 2 (some .int), Cond.methodLink RX3 66 yJ9_floorDiv_7cf53, Cond.static yJ9_floorDiv_7cf53, Cond.initialized RJ9, Cond.code yJ9_floorDiv_7cf53 cJ9_floorDiv_7cf53 3 (some .int), Cond.methodLink RX3 51 yX3_settle, Cond.instanceMethod yX3_settle, Cond.selects RX3 yX3_settle yX3_settle, Cond.code yX3_settle cX3_settle 2 (some .boolean), Cond.fieldLink RX3 18 "SkewPlan$Planner" "shifts" "[I", Cond.methodLink RX3 100 yX3_lowerOnce, Cond.instanceMethod yX3_lowerOnce, Cond.selects RX3 yX3_lowerOnce yX3_lowerOnce, Cond.code yX3_lowerOnce cX3_lowerOnce 5 (some .boolean)]
def wsX7_feasible : List Cond := .code yX7_feasible cX7_feasible 1 (some .int) :: ((wsX7_feasible_r1 ++ wsX7_feasible_r2) ++ wsX70 ++ wsX20 ++ wsX30)
def wsX7_shift_r1 : List Cond := [Cond.fieldLink RX7 23 "SkewPlan" "now" "LSkewPlan$Net;", Cond.fieldLink RX7 47 "SkewPlan" "planner" "LSkewPlan$Planner;", Cond.methodLink RX7 58 yX7_isWithin, Cond.static yX7_isWithin, Cond.initialized RX7, Cond.code yX7_isWithin cX7_isWithin 3 (some .boolean), Cond.methodLink RX7 136 yX3_settlesNow, Cond.instanceMethod yX3_settlesNow, Cond.selects RX3 yX3_settlesNow yX3_settlesNow, Cond.initialized RX3, Cond.code yX3_settlesNow cX3_settlesNow 2 (some .boolean), Cond.methodLink RX3 35 yX3_settlesWithMargin, Cond.instanceMethod yX3_settlesWithMargin, Cond.selects RX3 yX3_settlesWithMargin yX3_settlesWithMargin, Cond.code yX3_settlesWithMargin cX3_settlesWithMargin 3 (some .boolean), Cond.methodLink RX3 47 yX3_layBounds, Cond.instanceMethod yX3_layBounds, Cond.selects RX3 yX3_layBounds yX3_layBounds, Cond.code yX3_layBounds cX3_layBounds 11 none, Cond.fieldLink RX3 72 "SkewPlan$Planner" "registers" "I", Cond.fieldLink RX3 13 "SkewPlan$Planner" "bounds" "[[I", Cond.constant RX3 73 (2147483647), Cond.methodLink RX3 89 yX2_soonBound, Cond.instanceMethod yX2_soonBound]
def wsX7_shift_r2 : List Cond := [Cond.selects RX2 yX2_soonBound yX2_soonBound, Cond.initialized RX2, Cond.code yX2_soonBound cX2_soonBound 2 (some .int), Cond.fieldLink RX2 21 "SkewPlan$Net" "shorts" "[I", Cond.fieldLink RX2 35 "SkewPlan$Net" "hold" "I", Cond.methodLink RX3 93 yX3_tighten, Cond.instanceMethod yX3_tighten, Cond.selects RX3 yX3_tighten yX3_tighten, Cond.code yX3_tighten cX3_tighten 5 none, Cond.methodLink RX3 97 Lib.Math.min.name, Cond.static Lib.Math.min.name, Cond.initialized "java/lang/Math", Cond.code Lib.Math.min.name Lib.Math.min.code 2 (some .int), Cond.methodLink RX3 66 yJ9_floorDiv_7cf53, Cond.static yJ9_floorDiv_7cf53, Cond.initialized RJ9, Cond.code yJ9_floorDiv_7cf53 cJ9_floorDiv_7cf53 3 (some .int), Cond.methodLink RX3 51 yX3_settle, Cond.instanceMethod yX3_settle, Cond.selects RX3 yX3_settle yX3_settle, Cond.code yX3_settle cX3_settle 2 (some .boolean), Cond.fieldLink RX3 18 "SkewPlan$Planner" "shifts" "[I", Cond.methodLink RX3 100 yX3_lowerOnce, Cond.instanceMethod yX3_lowerOnce]
def wsX7_shift_r3 : List Cond := [Cond.selects RX3 yX3_lowerOnce yX3_lowerOnce, Cond.code yX3_lowerOnce cX3_lowerOnce 5 (some .boolean), Cond.methodLink RX7 143 yX3_shiftOf, Cond.instanceMethod yX3_shiftOf, Cond.selects RX3 yX3_shiftOf yX3_shiftOf, Cond.code yX3_shiftOf cX3_shiftOf 2 (some .int)]
def wsX7_shift : List Cond := .code yX7_shift cX7_shift 2 (some .int) :: ((wsX7_shift_r1 ++ (wsX7_shift_r2 ++ wsX7_shift_r3)) ++ wsX70 ++ wsX20 ++ wsX30)
def wsX7_least_r1 : List Cond := [Cond.fieldLink RX7 47 "SkewPlan" "planner" "LSkewPlan$Planner;", Cond.fieldLink RX7 23 "SkewPlan" "now" "LSkewPlan$Net;", Cond.methodLink RX7 149 yX3_leastPeriod, Cond.instanceMethod yX3_leastPeriod, Cond.selects RX3 yX3_leastPeriod yX3_leastPeriod, Cond.initialized RX3, Cond.code yX3_leastPeriod cX3_leastPeriod 2 (some .int), Cond.methodLink RX3 55 yX3_leastPeriodAbove, Cond.instanceMethod yX3_leastPeriodAbove, Cond.selects RX3 yX3_leastPeriodAbove yX3_leastPeriodAbove, Cond.code yX3_leastPeriodAbove cX3_leastPeriodAbove 8 (some .int), Cond.methodLink RX3 59 yX3_settlesAtPeriod, Cond.instanceMethod yX3_settlesAtPeriod, Cond.selects RX3 yX3_settlesAtPeriod yX3_settlesAtPeriod, Cond.code yX3_settlesAtPeriod cX3_settlesAtPeriod 5 (some .boolean), Cond.methodLink RX3 47 yX3_layBounds, Cond.instanceMethod yX3_layBounds, Cond.selects RX3 yX3_layBounds yX3_layBounds, Cond.code yX3_layBounds cX3_layBounds 11 none, Cond.fieldLink RX3 72 "SkewPlan$Planner" "registers" "I", Cond.fieldLink RX3 13 "SkewPlan$Planner" "bounds" "[[I", Cond.constant RX3 73 (2147483647), Cond.methodLink RX3 89 yX2_soonBound, Cond.instanceMethod yX2_soonBound]
def wsX7_least_r2 : List Cond := [Cond.selects RX2 yX2_soonBound yX2_soonBound, Cond.initialized RX2, Cond.code yX2_soonBound cX2_soonBound 2 (some .int), Cond.fieldLink RX2 21 "SkewPlan$Net" "shorts" "[I", Cond.fieldLink RX2 35 "SkewPlan$Net" "hold" "I", Cond.methodLink RX3 93 yX3_tighten, Cond.instanceMethod yX3_tighten, Cond.selects RX3 yX3_tighten yX3_tighten, Cond.code yX3_tighten cX3_tighten 5 none, Cond.methodLink RX3 97 Lib.Math.min.name, Cond.static Lib.Math.min.name, Cond.initialized "java/lang/Math", Cond.code Lib.Math.min.name Lib.Math.min.code 2 (some .int), Cond.methodLink RX3 66 yJ9_floorDiv_7cf53, Cond.static yJ9_floorDiv_7cf53, Cond.initialized RJ9, Cond.code yJ9_floorDiv_7cf53 cJ9_floorDiv_7cf53 3 (some .int), Cond.methodLink RX3 51 yX3_settle, Cond.instanceMethod yX3_settle, Cond.selects RX3 yX3_settle yX3_settle, Cond.code yX3_settle cX3_settle 2 (some .boolean), Cond.fieldLink RX3 18 "SkewPlan$Planner" "shifts" "[I", Cond.methodLink RX3 100 yX3_lowerOnce, Cond.instanceMethod yX3_lowerOnce]
def wsX7_least_r3 : List Cond := [Cond.selects RX3 yX3_lowerOnce yX3_lowerOnce, Cond.code yX3_lowerOnce cX3_lowerOnce 5 (some .boolean)]
def wsX7_least : List Cond := .code yX7_least cX7_least 1 (some .int) :: ((wsX7_least_r1 ++ (wsX7_least_r2 ++ wsX7_least_r3)) ++ wsX70 ++ wsX20 ++ wsX30)
def wsX7_rate_r1 : List Cond := [Cond.fieldLink RX7 47 "SkewPlan" "planner" "LSkewPlan$Planner;", Cond.fieldLink RX7 23 "SkewPlan" "now" "LSkewPlan$Net;", Cond.methodLink RX7 58 yX7_isWithin, Cond.static yX7_isWithin, Cond.initialized RX7, Cond.code yX7_isWithin cX7_isWithin 3 (some .boolean), Cond.methodLink RX7 153 yX3_findRate, Cond.instanceMethod yX3_findRate, Cond.selects RX3 yX3_findRate yX3_findRate, Cond.initialized RX3, Cond.code yX3_findRate cX3_findRate 4 (some .boolean), Cond.fieldLink RX3 29 "SkewPlan$Planner" "rateAbove" "I", Cond.fieldLink RX3 32 "SkewPlan$Planner" "rateBelow" "I", Cond.methodLink RX3 55 yX3_leastPeriodAbove, Cond.instanceMethod yX3_leastPeriodAbove, Cond.selects RX3 yX3_leastPeriodAbove yX3_leastPeriodAbove, Cond.code yX3_leastPeriodAbove cX3_leastPeriodAbove 8 (some .int), Cond.methodLink RX3 59 yX3_settlesAtPeriod, Cond.instanceMethod yX3_settlesAtPeriod, Cond.selects RX3 yX3_settlesAtPeriod yX3_settlesAtPeriod, Cond.code yX3_settlesAtPeriod cX3_settlesAtPeriod 5 (some .boolean), Cond.methodLink RX3 47 yX3_layBounds, Cond.instanceMethod yX3_layBounds, Cond.selects RX3 yX3_layBounds yX3_layBounds]
def wsX7_rate_r2 : List Cond := [Cond.code yX3_layBounds cX3_layBounds 11 none, Cond.fieldLink RX3 72 "SkewPlan$Planner" "registers" "I", Cond.fieldLink RX3 13 "SkewPlan$Planner" "bounds" "[[I", Cond.constant RX3 73 (2147483647), Cond.methodLink RX3 89 yX2_soonBound, Cond.instanceMethod yX2_soonBound, Cond.selects RX2 yX2_soonBound yX2_soonBound, Cond.initialized RX2, Cond.code yX2_soonBound cX2_soonBound 2 (some .int), Cond.fieldLink RX2 21 "SkewPlan$Net" "shorts" "[I", Cond.fieldLink RX2 35 "SkewPlan$Net" "hold" "I", Cond.methodLink RX3 93 yX3_tighten, Cond.instanceMethod yX3_tighten, Cond.selects RX3 yX3_tighten yX3_tighten, Cond.code yX3_tighten cX3_tighten 5 none, Cond.methodLink RX3 97 Lib.Math.min.name, Cond.static Lib.Math.min.name, Cond.initialized "java/lang/Math", Cond.code Lib.Math.min.name Lib.Math.min.code 2 (some .int), Cond.methodLink RX3 66 yJ9_floorDiv_7cf53, Cond.static yJ9_floorDiv_7cf53, Cond.initialized RJ9, Cond.code yJ9_floorDiv_7cf53 cJ9_floorDiv_7cf53 3 (some .int), Cond.methodLink RX3 51 yX3_settle]
def wsX7_rate_r3 : List Cond := [Cond.instanceMethod yX3_settle, Cond.selects RX3 yX3_settle yX3_settle, Cond.code yX3_settle cX3_settle 2 (some .boolean), Cond.fieldLink RX3 18 "SkewPlan$Planner" "shifts" "[I", Cond.methodLink RX3 100 yX3_lowerOnce, Cond.instanceMethod yX3_lowerOnce, Cond.selects RX3 yX3_lowerOnce yX3_lowerOnce, Cond.code yX3_lowerOnce cX3_lowerOnce 5 (some .boolean), Cond.methodLink RX7 156 yX3_rateAbove, Cond.instanceMethod yX3_rateAbove, Cond.selects RX3 yX3_rateAbove yX3_rateAbove, Cond.code yX3_rateAbove cX3_rateAbove 1 (some .int), Cond.methodLink RX7 159 yX3_rateBelow, Cond.instanceMethod yX3_rateBelow, Cond.selects RX3 yX3_rateBelow yX3_rateBelow, Cond.code yX3_rateBelow cX3_rateBelow 1 (some .int)]
def wsX7_rate : List Cond := .code yX7_rate cX7_rate 2 (some .int) :: ((wsX7_rate_r1 ++ (wsX7_rate_r2 ++ wsX7_rate_r3)) ++ wsX70 ++ wsX30 ++ wsX20)
def wsX7_margin_r1 : List Cond := [Cond.fieldLink RX7 47 "SkewPlan" "planner" "LSkewPlan$Planner;", Cond.fieldLink RX7 23 "SkewPlan" "now" "LSkewPlan$Net;", Cond.methodLink RX7 162 yX3_greatestMargin, Cond.instanceMethod yX3_greatestMargin, Cond.selects RX3 yX3_greatestMargin yX3_greatestMargin, Cond.initialized RX3, Cond.code yX3_greatestMargin cX3_greatestMargin 6 (some .int), Cond.methodLink RX3 66 yJ9_floorDiv_7cf53, Cond.static yJ9_floorDiv_7cf53, Cond.initialized RJ9, Cond.code yJ9_floorDiv_7cf53 cJ9_floorDiv_7cf53 3 (some .int), Cond.methodLink RX3 35 yX3_settlesWithMargin, Cond.instanceMethod yX3_settlesWithMargin, Cond.selects RX3 yX3_settlesWithMargin yX3_settlesWithMargin, Cond.code yX3_settlesWithMargin cX3_settlesWithMargin 3 (some .boolean), Cond.methodLink RX3 47 yX3_layBounds, Cond.instanceMethod yX3_layBounds, Cond.selects RX3 yX3_layBounds yX3_layBounds, Cond.code yX3_layBounds cX3_layBounds 11 none, Cond.fieldLink RX3 72 "SkewPlan$Planner" "registers" "I", Cond.fieldLink RX3 13 "SkewPlan$Planner" "bounds" "[[I", Cond.constant RX3 73 (2147483647), Cond.methodLink RX3 89 yX2_soonBound, Cond.instanceMethod yX2_soonBound]
def wsX7_margin_r2 : List Cond := [Cond.selects RX2 yX2_soonBound yX2_soonBound, Cond.initialized RX2, Cond.code yX2_soonBound cX2_soonBound 2 (some .int), Cond.fieldLink RX2 21 "SkewPlan$Net" "shorts" "[I", Cond.fieldLink RX2 35 "SkewPlan$Net" "hold" "I", Cond.methodLink RX3 93 yX3_tighten, Cond.instanceMethod yX3_tighten, Cond.selects RX3 yX3_tighten yX3_tighten, Cond.code yX3_tighten cX3_tighten 5 none, Cond.methodLink RX3 97 Lib.Math.min.name, Cond.static Lib.Math.min.name, Cond.initialized "java/lang/Math", Cond.code Lib.Math.min.name Lib.Math.min.code 2 (some .int), Cond.methodLink RX3 51 yX3_settle, Cond.instanceMethod yX3_settle, Cond.selects RX3 yX3_settle yX3_settle, Cond.code yX3_settle cX3_settle 2 (some .boolean), Cond.fieldLink RX3 18 "SkewPlan$Planner" "shifts" "[I", Cond.methodLink RX3 100 yX3_lowerOnce, Cond.instanceMethod yX3_lowerOnce, Cond.selects RX3 yX3_lowerOnce yX3_lowerOnce, Cond.code yX3_lowerOnce cX3_lowerOnce 5 (some .boolean)]
def wsX7_margin : List Cond := .code yX7_margin cX7_margin 1 (some .int) :: ((wsX7_margin_r1 ++ wsX7_margin_r2) ++ wsX70 ++ wsX20 ++ wsX30)
def wsX7_spare_r1 : List Cond := [Cond.fieldLink RX7 47 "SkewPlan" "planner" "LSkewPlan$Planner;", Cond.fieldLink RX7 23 "SkewPlan" "now" "LSkewPlan$Net;", Cond.methodLink RX7 88 yX7_isPath, Cond.instanceMethod yX7_isPath, Cond.selects RX7 yX7_isPath yX7_isPath, Cond.initialized RX7, Cond.code yX7_isPath cX7_isPath 2 (some .boolean), Cond.methodLink RX7 58 yX7_isWithin, Cond.static yX7_isWithin, Cond.code yX7_isWithin cX7_isWithin 3 (some .boolean), Cond.methodLink RX7 136 yX3_settlesNow, Cond.instanceMethod yX3_settlesNow, Cond.selects RX3 yX3_settlesNow yX3_settlesNow, Cond.initialized RX3, Cond.code yX3_settlesNow cX3_settlesNow 2 (some .boolean), Cond.methodLink RX3 35 yX3_settlesWithMargin, Cond.instanceMethod yX3_settlesWithMargin, Cond.selects RX3 yX3_settlesWithMargin yX3_settlesWithMargin, Cond.code yX3_settlesWithMargin cX3_settlesWithMargin 3 (some .boolean), Cond.methodLink RX3 47 yX3_layBounds, Cond.instanceMethod yX3_layBounds, Cond.selects RX3 yX3_layBounds yX3_layBounds, Cond.code yX3_layBounds cX3_layBounds 11 none, Cond.fieldLink RX3 72 "SkewPlan$Planner" "registers" "I"]
def wsX7_spare_r2 : List Cond := [Cond.fieldLink RX3 13 "SkewPlan$Planner" "bounds" "[[I", Cond.constant RX3 73 (2147483647), Cond.methodLink RX3 89 yX2_soonBound, Cond.instanceMethod yX2_soonBound, Cond.selects RX2 yX2_soonBound yX2_soonBound, Cond.initialized RX2, Cond.code yX2_soonBound cX2_soonBound 2 (some .int), Cond.fieldLink RX2 21 "SkewPlan$Net" "shorts" "[I", Cond.fieldLink RX2 35 "SkewPlan$Net" "hold" "I", Cond.methodLink RX3 93 yX3_tighten, Cond.instanceMethod yX3_tighten, Cond.selects RX3 yX3_tighten yX3_tighten, Cond.code yX3_tighten cX3_tighten 5 none, Cond.methodLink RX3 97 Lib.Math.min.name, Cond.static Lib.Math.min.name, Cond.initialized "java/lang/Math", Cond.code Lib.Math.min.name Lib.Math.min.code 2 (some .int), Cond.methodLink RX3 66 yJ9_floorDiv_7cf53, Cond.static yJ9_floorDiv_7cf53, Cond.initialized RJ9, Cond.code yJ9_floorDiv_7cf53 cJ9_floorDiv_7cf53 3 (some .int), Cond.methodLink RX3 51 yX3_settle, Cond.instanceMethod yX3_settle, Cond.selects RX3 yX3_settle yX3_settle]
def wsX7_spare_r3 : List Cond := [Cond.code yX3_settle cX3_settle 2 (some .boolean), Cond.fieldLink RX3 18 "SkewPlan$Planner" "shifts" "[I", Cond.methodLink RX3 100 yX3_lowerOnce, Cond.instanceMethod yX3_lowerOnce, Cond.selects RX3 yX3_lowerOnce yX3_lowerOnce, Cond.code yX3_lowerOnce cX3_lowerOnce 5 (some .boolean), Cond.methodLink RX7 143 yX3_shiftOf, Cond.instanceMethod yX3_shiftOf, Cond.selects RX3 yX3_shiftOf yX3_shiftOf, Cond.code yX3_shiftOf cX3_shiftOf 2 (some .int), Cond.methodLink RX7 105 yX2_lateBound, Cond.instanceMethod yX2_lateBound, Cond.selects RX2 yX2_lateBound yX2_lateBound, Cond.code yX2_lateBound cX2_lateBound 2 (some .int), Cond.fieldLink RX2 41 "SkewPlan$Net" "period" "I", Cond.fieldLink RX2 18 "SkewPlan$Net" "longs" "[I", Cond.fieldLink RX2 32 "SkewPlan$Net" "setup" "I", Cond.methodLink RX7 109 yX2_soonBound]
def wsX7_spare : List Cond := .code yX7_spare cX7_spare 5 (some .int) :: ((wsX7_spare_r1 ++ (wsX7_spare_r2 ++ wsX7_spare_r3)) ++ wsX70 ++ wsX20 ++ wsX30)
def wsX7_cycle_r1 : List Cond := [Cond.fieldLink RX7 47 "SkewPlan" "planner" "LSkewPlan$Planner;", Cond.fieldLink RX7 23 "SkewPlan" "now" "LSkewPlan$Net;", Cond.methodLink RX7 136 yX3_settlesNow, Cond.instanceMethod yX3_settlesNow, Cond.selects RX3 yX3_settlesNow yX3_settlesNow, Cond.initialized RX3, Cond.code yX3_settlesNow cX3_settlesNow 2 (some .boolean), Cond.methodLink RX3 35 yX3_settlesWithMargin, Cond.instanceMethod yX3_settlesWithMargin, Cond.selects RX3 yX3_settlesWithMargin yX3_settlesWithMargin, Cond.code yX3_settlesWithMargin cX3_settlesWithMargin 3 (some .boolean), Cond.methodLink RX3 47 yX3_layBounds, Cond.instanceMethod yX3_layBounds, Cond.selects RX3 yX3_layBounds yX3_layBounds, Cond.code yX3_layBounds cX3_layBounds 11 none, Cond.fieldLink RX3 72 "SkewPlan$Planner" "registers" "I", Cond.fieldLink RX3 13 "SkewPlan$Planner" "bounds" "[[I", Cond.constant RX3 73 (2147483647), Cond.methodLink RX3 89 yX2_soonBound, Cond.instanceMethod yX2_soonBound, Cond.selects RX2 yX2_soonBound yX2_soonBound, Cond.initialized RX2, Cond.code yX2_soonBound cX2_soonBound 2 (some .int), Cond.fieldLink RX2 21 "SkewPlan$Net" "shorts" "[I"]
def wsX7_cycle_r2 : List Cond := [Cond.fieldLink RX2 35 "SkewPlan$Net" "hold" "I", Cond.methodLink RX3 93 yX3_tighten, Cond.instanceMethod yX3_tighten, Cond.selects RX3 yX3_tighten yX3_tighten, Cond.code yX3_tighten cX3_tighten 5 none, Cond.methodLink RX3 97 Lib.Math.min.name, Cond.static Lib.Math.min.name, Cond.initialized "java/lang/Math", Cond.code Lib.Math.min.name Lib.Math.min.code 2 (some .int), Cond.methodLink RX3 66 yJ9_floorDiv_7cf53, Cond.static yJ9_floorDiv_7cf53, Cond.initialized RJ9, Cond.code yJ9_floorDiv_7cf53 cJ9_floorDiv_7cf53 3 (some .int), Cond.methodLink RX3 51 yX3_settle, Cond.instanceMethod yX3_settle, Cond.selects RX3 yX3_settle yX3_settle, Cond.code yX3_settle cX3_settle 2 (some .boolean), Cond.fieldLink RX3 18 "SkewPlan$Planner" "shifts" "[I", Cond.methodLink RX3 100 yX3_lowerOnce, Cond.instanceMethod yX3_lowerOnce, Cond.selects RX3 yX3_lowerOnce yX3_lowerOnce, Cond.code yX3_lowerOnce cX3_lowerOnce 5 (some .boolean), Cond.methodLink RX7 165 yX3_findRing, Cond.instanceMethod yX3_findRing]
def wsX7_cycle_r3 : List Cond := [Cond.selects RX3 yX3_findRing yX3_findRing, Cond.code yX3_findRing cX3_findRing 2 (some .boolean), Cond.fieldLink RX3 25 "SkewPlan$Planner" "ringLength" "I", Cond.fieldLink RX3 22 "SkewPlan$Planner" "ring" "[I", Cond.methodLink RX3 103 yX3_closesFrom, Cond.instanceMethod yX3_closesFrom, Cond.selects RX3 yX3_closesFrom yX3_closesFrom, Cond.code yX3_closesFrom cX3_closesFrom 8 (some .boolean), Cond.methodLink RX3 107 yX3_isInRing, Cond.instanceMethod yX3_isInRing, Cond.selects RX3 yX3_isInRing yX3_isInRing, Cond.code yX3_isInRing cX3_isInRing 4 (some .boolean), Cond.methodLink RX7 169 yX3_ringLength, Cond.instanceMethod yX3_ringLength, Cond.selects RX3 yX3_ringLength yX3_ringLength, Cond.code yX3_ringLength cX3_ringLength 1 (some .int), Cond.methodLink RX7 172 yX3_ringRegister, Cond.instanceMethod yX3_ringRegister, Cond.selects RX3 yX3_ringRegister yX3_ringRegister, Cond.code yX3_ringRegister cX3_ringRegister 2 (some .int)]
def wsX7_cycle : List Cond := .code yX7_cycle cX7_cycle 2 (some .int) :: ((wsX7_cycle_r1 ++ (wsX7_cycle_r2 ++ wsX7_cycle_r3)) ++ wsX70 ++ wsX20 ++ wsX30)
def wsX7_orAboveAll : List Cond := .code yX7_orAboveAll cX7_orAboveAll 1 (some .int) :: ([])
def wsX7_buffer_r1 : List Cond := [Cond.fieldLink RX7 47 "SkewPlan" "planner" "LSkewPlan$Planner;", Cond.fieldLink RX7 23 "SkewPlan" "now" "LSkewPlan$Net;", Cond.fieldLink RX7 26 "SkewPlan" "scratch" "LSkewPlan$Net;", Cond.methodLink RX7 58 yX7_isWithin, Cond.static yX7_isWithin, Cond.initialized RX7, Cond.code yX7_isWithin cX7_isWithin 3 (some .boolean), Cond.methodLink RX7 149 yX3_leastPeriod, Cond.instanceMethod yX3_leastPeriod, Cond.selects RX3 yX3_leastPeriod yX3_leastPeriod, Cond.initialized RX3, Cond.code yX3_leastPeriod cX3_leastPeriod 2 (some .int), Cond.methodLink RX3 55 yX3_leastPeriodAbove, Cond.instanceMethod yX3_leastPeriodAbove, Cond.selects RX3 yX3_leastPeriodAbove yX3_leastPeriodAbove, Cond.code yX3_leastPeriodAbove cX3_leastPeriodAbove 8 (some .int), Cond.methodLink RX3 59 yX3_settlesAtPeriod, Cond.instanceMethod yX3_settlesAtPeriod, Cond.selects RX3 yX3_settlesAtPeriod yX3_settlesAtPeriod, Cond.code yX3_settlesAtPeriod cX3_settlesAtPeriod 5 (some .boolean), Cond.methodLink RX3 47 yX3_layBounds, Cond.instanceMethod yX3_layBounds, Cond.selects RX3 yX3_layBounds yX3_layBounds, Cond.code yX3_layBounds cX3_layBounds 11 none]
def wsX7_buffer_r2 : List Cond := [Cond.fieldLink RX3 72 "SkewPlan$Planner" "registers" "I", Cond.fieldLink RX3 13 "SkewPlan$Planner" "bounds" "[[I", Cond.constant RX3 73 (2147483647), Cond.methodLink RX3 89 yX2_soonBound, Cond.instanceMethod yX2_soonBound, Cond.selects RX2 yX2_soonBound yX2_soonBound, Cond.initialized RX2, Cond.code yX2_soonBound cX2_soonBound 2 (some .int), Cond.fieldLink RX2 21 "SkewPlan$Net" "shorts" "[I", Cond.fieldLink RX2 35 "SkewPlan$Net" "hold" "I", Cond.methodLink RX3 93 yX3_tighten, Cond.instanceMethod yX3_tighten, Cond.selects RX3 yX3_tighten yX3_tighten, Cond.code yX3_tighten cX3_tighten 5 none, Cond.methodLink RX3 97 Lib.Math.min.name, Cond.static Lib.Math.min.name, Cond.initialized "java/lang/Math", Cond.code Lib.Math.min.name Lib.Math.min.code 2 (some .int), Cond.methodLink RX3 66 yJ9_floorDiv_7cf53, Cond.static yJ9_floorDiv_7cf53, Cond.initialized RJ9, Cond.code yJ9_floorDiv_7cf53 cJ9_floorDiv_7cf53 3 (some .int), Cond.methodLink RX3 51 yX3_settle, Cond.instanceMethod yX3_settle]
def wsX7_buffer_r3 : List Cond := [Cond.selects RX3 yX3_settle yX3_settle, Cond.code yX3_settle cX3_settle 2 (some .boolean), Cond.fieldLink RX3 18 "SkewPlan$Planner" "shifts" "[I", Cond.methodLink RX3 100 yX3_lowerOnce, Cond.instanceMethod yX3_lowerOnce, Cond.selects RX3 yX3_lowerOnce yX3_lowerOnce, Cond.code yX3_lowerOnce cX3_lowerOnce 5 (some .boolean), Cond.methodLink RX7 175 yX7_orAboveAll, Cond.static yX7_orAboveAll, Cond.code yX7_orAboveAll cX7_orAboveAll 1 (some .int), Cond.methodLink RX7 120 yX2_canBeSlower, Cond.instanceMethod yX2_canBeSlower, Cond.selects RX2 yX2_canBeSlower yX2_canBeSlower, Cond.code yX2_canBeSlower cX2_canBeSlower 3 (some .boolean), Cond.fieldLink RX2 18 "SkewPlan$Net" "longs" "[I", Cond.methodLink RX7 77 yX2_copyFrom, Cond.instanceMethod yX2_copyFrom, Cond.selects RX2 yX2_copyFrom yX2_copyFrom, Cond.code yX2_copyFrom cX2_copyFrom 2 none, Cond.fieldLink RX2 28 "SkewPlan$Net" "registers" "I", Cond.fieldLink RX2 32 "SkewPlan$Net" "setup" "I", Cond.fieldLink RX2 38 "SkewPlan$Net" "step" "I", Cond.fieldLink RX2 41 "SkewPlan$Net" "period" "I", Cond.fieldLink RX2 44 "SkewPlan$Net" "paths" "I"]
def wsX7_buffer_r4 : List Cond := [Cond.fieldLink RX2 9 "SkewPlan$Net" "from" "[I", Cond.methodLink RX2 47 arraycopyName, Cond.native arraycopyName, Cond.static arraycopyName, Cond.initialized "java/lang/System", Cond.fieldLink RX2 15 "SkewPlan$Net" "to" "[I", Cond.methodLink RX7 124 yX2_delay, Cond.instanceMethod yX2_delay, Cond.selects RX2 yX2_delay yX2_delay, Cond.code yX2_delay cX2_delay 3 none]
def wsX7_buffer : List Cond := .code yX7_buffer cX7_buffer 6 (some .int) :: ((wsX7_buffer_r1 ++ (wsX7_buffer_r2 ++ (wsX7_buffer_r3 ++ wsX7_buffer_r4))) ++ wsX70 ++ wsX20 ++ wsX30)
def wsX7_isTrace : List Cond := .code yX7_isTrace cX7_isTrace 1 (some .boolean) :: ([.methodLink RX7 58 yX7_isWithin, .static yX7_isWithin, .initialized RX7, .code yX7_isWithin cX7_isWithin 3 (some .boolean)])
def wsX7_isSort : List Cond := .code yX7_isSort cX7_isSort 1 (some .boolean) :: ([])
def wsX7_trace_r1 : List Cond := [Cond.fieldLink RX7 53 "SkewPlan" "traces" "[LSkewPlan$Trace;", Cond.methodLink RX7 181 yX7_isTrace, Cond.static yX7_isTrace, Cond.initialized RX7, Cond.code yX7_isTrace cX7_isTrace 1 (some .boolean), Cond.methodLink RX7 58 yX7_isWithin, Cond.static yX7_isWithin, Cond.code yX7_isWithin cX7_isWithin 3 (some .boolean), Cond.methodLink RX7 184 yX7_isSort, Cond.static yX7_isSort, Cond.code yX7_isSort cX7_isSort 1 (some .boolean), Cond.methodLink RX7 187 yX5_renew, Cond.instanceMethod yX5_renew, Cond.selects RX5 yX5_renew yX5_renew, Cond.initialized RX5, Cond.code yX5_renew cX5_renew 4 none, Cond.fieldLink RX5 19 "SkewPlan$Trace" "isPresent" "Z", Cond.fieldLink RX5 27 "SkewPlan$Trace" "sort" "I", Cond.fieldLink RX5 23 "SkewPlan$Trace" "places" "I", Cond.methodLink RX5 30 yX5_putNumber, Cond.instanceMethod yX5_putNumber, Cond.selects RX5 yX5_putNumber yX5_putNumber, Cond.code yX5_putNumber cX5_putNumber 4 none, Cond.fieldLink RX5 9 "SkewPlan$Trace" "values" "[D"]
def wsX7_trace_r2 : List Cond := [Cond.fieldLink RX5 15 "SkewPlan$Trace" "isNoNumber" "[Z"]
def wsX7_trace : List Cond := .code yX7_trace cX7_trace 4 (some .int) :: ((wsX7_trace_r1 ++ wsX7_trace_r2) ++ wsX70 ++ wsX50)
def wsX7_isQuotientPart : List Cond := .code yX7_isQuotientPart cX7_isQuotientPart 1 (some .boolean) :: ([.methodLink RX7 58 yX7_isWithin, .static yX7_isWithin, .initialized RX7, .code yX7_isWithin cX7_isWithin 3 (some .boolean)])
def wsX7_set_r1 : List Cond := [Cond.fieldLink RX7 53 "SkewPlan" "traces" "[LSkewPlan$Trace;", Cond.methodLink RX7 181 yX7_isTrace, Cond.static yX7_isTrace, Cond.initialized RX7, Cond.code yX7_isTrace cX7_isTrace 1 (some .boolean), Cond.methodLink RX7 58 yX7_isWithin, Cond.static yX7_isWithin, Cond.code yX7_isWithin cX7_isWithin 3 (some .boolean), Cond.methodLink RX7 184 yX7_isSort, Cond.static yX7_isSort, Cond.code yX7_isSort cX7_isSort 1 (some .boolean), Cond.methodLink RX7 190 yX7_isQuotientPart, Cond.static yX7_isQuotientPart, Cond.code yX7_isQuotientPart cX7_isQuotientPart 1 (some .boolean), Cond.methodLink RX7 193 yX5_finding, Cond.instanceMethod yX5_finding, Cond.selects RX5 yX5_finding yX5_finding, Cond.initialized RX5, Cond.code yX5_finding cX5_finding 4 (some .int), Cond.fieldLink RX5 19 "SkewPlan$Trace" "isPresent" "Z", Cond.fieldLink RX5 27 "SkewPlan$Trace" "sort" "I", Cond.fieldLink RX5 23 "SkewPlan$Trace" "places" "I", Cond.methodLink RX7 197 yX5_putQuotient, Cond.instanceMethod yX5_putQuotient]
def wsX7_set_r2 : List Cond := [Cond.selects RX5 yX5_putQuotient yX5_putQuotient, Cond.code yX5_putQuotient cX5_putQuotient 4 none, Cond.methodLink RX5 38 yX5_putNoNumber, Cond.instanceMethod yX5_putNoNumber, Cond.selects RX5 yX5_putNoNumber yX5_putNoNumber, Cond.code yX5_putNoNumber cX5_putNoNumber 2 none, Cond.fieldLink RX5 9 "SkewPlan$Trace" "values" "[D", Cond.fieldLink RX5 15 "SkewPlan$Trace" "isNoNumber" "[Z", Cond.methodLink RX5 30 yX5_putNumber, Cond.instanceMethod yX5_putNumber, Cond.selects RX5 yX5_putNumber yX5_putNumber, Cond.code yX5_putNumber cX5_putNumber 4 none, Cond.methodLink RX7 201 yX5_thousandAt, Cond.instanceMethod yX5_thousandAt, Cond.selects RX5 yX5_thousandAt yX5_thousandAt, Cond.code yX5_thousandAt cX5_thousandAt 2 (some .int), Cond.constant RX5 56 (2000000), Cond.constantFloat RX5 57 (1148846080), Cond.constantDouble RX5 62 (4652007308841189376), Cond.methodLink RX5 58 yX5_cutThousand, Cond.static yX5_cutThousand, Cond.code yX5_cutThousand cX5_cutThousand 2 (some .int), Cond.constantDouble RX5 52 (4696837146684686336), Cond.constant RX5 64 (3000000)]
def wsX7_set_r3 : List Cond := [Cond.constantDouble RX5 54 (13920209183539462144), Cond.constant RX5 65 (1000000)]
def wsX7_set : List Cond := .code yX7_set cX7_set 8 (some .int) :: ((wsX7_set_r1 ++ (wsX7_set_r2 ++ wsX7_set_r3)) ++ wsX70 ++ wsX50)
def wsX7_traceRefusal : List Cond := .code yX7_traceRefusal cX7_traceRefusal 5 (some .int) :: ([.fieldLink RX7 53 "SkewPlan" "traces" "[LSkewPlan$Trace;", .methodLink RX7 181 yX7_isTrace, .static yX7_isTrace, .initialized RX7, .code yX7_isTrace cX7_isTrace 1 (some .boolean), .methodLink RX7 58 yX7_isWithin, .static yX7_isWithin, .code yX7_isWithin cX7_isWithin 3 (some .boolean), .methodLink RX7 184 yX7_isSort, .static yX7_isSort, .code yX7_isSort cX7_isSort 1 (some .boolean), .methodLink RX7 193 yX5_finding, .instanceMethod yX5_finding, .selects RX5 yX5_finding yX5_finding, .initialized RX5, .code yX5_finding cX5_finding 4 (some .int), .fieldLink RX5 19 "SkewPlan$Trace" "isPresent" "Z", .fieldLink RX5 27 "SkewPlan$Trace" "sort" "I", .fieldLink RX5 23 "SkewPlan$Trace" "places" "I"] ++ wsX70 ++ wsX50)
def wsX7_get_r1 : List Cond := [Cond.fieldLink RX7 53 "SkewPlan" "traces" "[LSkewPlan$Trace;", Cond.methodLink RX7 204 yX7_traceRefusal, Cond.instanceMethod yX7_traceRefusal, Cond.selects RX7 yX7_traceRefusal yX7_traceRefusal, Cond.initialized RX7, Cond.code yX7_traceRefusal cX7_traceRefusal 5 (some .int), Cond.methodLink RX7 181 yX7_isTrace, Cond.static yX7_isTrace, Cond.code yX7_isTrace cX7_isTrace 1 (some .boolean), Cond.methodLink RX7 58 yX7_isWithin, Cond.static yX7_isWithin, Cond.code yX7_isWithin cX7_isWithin 3 (some .boolean), Cond.methodLink RX7 184 yX7_isSort, Cond.static yX7_isSort, Cond.code yX7_isSort cX7_isSort 1 (some .boolean), Cond.methodLink RX7 193 yX5_finding, Cond.instanceMethod yX5_finding, Cond.selects RX5 yX5_finding yX5_finding, Cond.initialized RX5, Cond.code yX5_finding cX5_finding 4 (some .int), Cond.fieldLink RX5 19 "SkewPlan$Trace" "isPresent" "Z", Cond.fieldLink RX5 27 "SkewPlan$Trace" "sort" "I", Cond.fieldLink RX5 23 "SkewPlan$Trace" "places" "I", Cond.methodLink RX7 201 yX5_thousandAt]
def wsX7_get_r2 : List Cond := [Cond.instanceMethod yX5_thousandAt, Cond.selects RX5 yX5_thousandAt yX5_thousandAt, Cond.code yX5_thousandAt cX5_thousandAt 2 (some .int), Cond.fieldLink RX5 15 "SkewPlan$Trace" "isNoNumber" "[Z", Cond.constant RX5 56 (2000000), Cond.fieldLink RX5 9 "SkewPlan$Trace" "values" "[D", Cond.constantFloat RX5 57 (1148846080), Cond.constantDouble RX5 62 (4652007308841189376), Cond.methodLink RX5 58 yX5_cutThousand, Cond.static yX5_cutThousand, Cond.code yX5_cutThousand cX5_cutThousand 2 (some .int), Cond.constantDouble RX5 52 (4696837146684686336), Cond.constant RX5 64 (3000000), Cond.constantDouble RX5 54 (13920209183539462144), Cond.constant RX5 65 (1000000)]
def wsX7_get : List Cond := .code yX7_get cX7_get 5 (some .int) :: ((wsX7_get_r1 ++ wsX7_get_r2) ++ wsX70 ++ wsX50)
def wsX7_rest_r1 : List Cond := [Cond.fieldLink RX7 53 "SkewPlan" "traces" "[LSkewPlan$Trace;", Cond.methodLink RX7 204 yX7_traceRefusal, Cond.instanceMethod yX7_traceRefusal, Cond.selects RX7 yX7_traceRefusal yX7_traceRefusal, Cond.initialized RX7, Cond.code yX7_traceRefusal cX7_traceRefusal 5 (some .int), Cond.methodLink RX7 181 yX7_isTrace, Cond.static yX7_isTrace, Cond.code yX7_isTrace cX7_isTrace 1 (some .boolean), Cond.methodLink RX7 58 yX7_isWithin, Cond.static yX7_isWithin, Cond.code yX7_isWithin cX7_isWithin 3 (some .boolean), Cond.methodLink RX7 184 yX7_isSort, Cond.static yX7_isSort, Cond.code yX7_isSort cX7_isSort 1 (some .boolean), Cond.methodLink RX7 193 yX5_finding, Cond.instanceMethod yX5_finding, Cond.selects RX5 yX5_finding yX5_finding, Cond.initialized RX5, Cond.code yX5_finding cX5_finding 4 (some .int), Cond.fieldLink RX5 19 "SkewPlan$Trace" "isPresent" "Z", Cond.fieldLink RX5 27 "SkewPlan$Trace" "sort" "I", Cond.fieldLink RX5 23 "SkewPlan$Trace" "places" "I", Cond.methodLink RX7 208 yX5_putRemainder]
def wsX7_rest_r2 : List Cond := [Cond.instanceMethod yX5_putRemainder, Cond.selects RX5 yX5_putRemainder yX5_putRemainder, Cond.code yX5_putRemainder cX5_putRemainder 3 none, Cond.fieldLink RX5 15 "SkewPlan$Trace" "isNoNumber" "[Z", Cond.fieldLink RX5 9 "SkewPlan$Trace" "values" "[D", Cond.methodLink RX5 42 yX5_isEndless, Cond.static yX5_isEndless, Cond.code yX5_isEndless cX5_isEndless 2 (some .boolean), Cond.constantDouble RX5 52 (4696837146684686336), Cond.constantDouble RX5 54 (13920209183539462144), Cond.methodLink RX5 38 yX5_putNoNumber, Cond.instanceMethod yX5_putNoNumber, Cond.selects RX5 yX5_putNoNumber yX5_putNoNumber, Cond.code yX5_putNoNumber cX5_putNoNumber 2 none, Cond.methodLink RX5 46 yX5_remainder, Cond.static yX5_remainder, Cond.code yX5_remainder cX5_remainder 10 (some .double), Cond.constantDouble RX5 50 (4611686018427387904), Cond.methodLink RX5 30 yX5_putNumber, Cond.instanceMethod yX5_putNumber, Cond.selects RX5 yX5_putNumber yX5_putNumber, Cond.code yX5_putNumber cX5_putNumber 4 none, Cond.methodLink RX7 201 yX5_thousandAt, Cond.instanceMethod yX5_thousandAt]
def wsX7_rest_r3 : List Cond := [Cond.selects RX5 yX5_thousandAt yX5_thousandAt, Cond.code yX5_thousandAt cX5_thousandAt 2 (some .int), Cond.constant RX5 56 (2000000), Cond.constantFloat RX5 57 (1148846080), Cond.constantDouble RX5 62 (4652007308841189376), Cond.methodLink RX5 58 yX5_cutThousand, Cond.static yX5_cutThousand, Cond.code yX5_cutThousand cX5_cutThousand 2 (some .int), Cond.constant RX5 64 (3000000), Cond.constant RX5 65 (1000000)]
def wsX7_rest : List Cond := .code yX7_rest cX7_rest 6 (some .int) :: ((wsX7_rest_r1 ++ (wsX7_rest_r2 ++ wsX7_rest_r3)) ++ wsX70 ++ wsX50)
def wsX7_compare_r1 : List Cond := [Cond.fieldLink RX7 53 "SkewPlan" "traces" "[LSkewPlan$Trace;", Cond.methodLink RX7 204 yX7_traceRefusal, Cond.instanceMethod yX7_traceRefusal, Cond.selects RX7 yX7_traceRefusal yX7_traceRefusal, Cond.initialized RX7, Cond.code yX7_traceRefusal cX7_traceRefusal 5 (some .int), Cond.methodLink RX7 181 yX7_isTrace, Cond.static yX7_isTrace, Cond.code yX7_isTrace cX7_isTrace 1 (some .boolean), Cond.methodLink RX7 58 yX7_isWithin, Cond.static yX7_isWithin, Cond.code yX7_isWithin cX7_isWithin 3 (some .boolean), Cond.methodLink RX7 184 yX7_isSort, Cond.static yX7_isSort, Cond.code yX7_isSort cX7_isSort 1 (some .boolean), Cond.methodLink RX7 193 yX5_finding, Cond.instanceMethod yX5_finding, Cond.selects RX5 yX5_finding yX5_finding, Cond.initialized RX5, Cond.code yX5_finding cX5_finding 4 (some .int), Cond.fieldLink RX5 19 "SkewPlan$Trace" "isPresent" "Z", Cond.fieldLink RX5 27 "SkewPlan$Trace" "sort" "I", Cond.fieldLink RX5 23 "SkewPlan$Trace" "places" "I", Cond.methodLink RX7 211 yX5_order]
def wsX7_compare_r2 : List Cond := [Cond.instanceMethod yX5_order, Cond.selects RX5 yX5_order yX5_order, Cond.code yX5_order cX5_order 3 (some .int), Cond.fieldLink RX5 15 "SkewPlan$Trace" "isNoNumber" "[Z", Cond.fieldLink RX5 9 "SkewPlan$Trace" "values" "[D"]
def wsX7_compare : List Cond := .code yX7_compare cX7_compare 6 (some .int) :: ((wsX7_compare_r1 ++ wsX7_compare_r2) ++ wsX70 ++ wsX50)
def wsX7_sum_r1 : List Cond := [Cond.fieldLink RX7 53 "SkewPlan" "traces" "[LSkewPlan$Trace;", Cond.methodLink RX7 181 yX7_isTrace, Cond.static yX7_isTrace, Cond.initialized RX7, Cond.code yX7_isTrace cX7_isTrace 1 (some .boolean), Cond.methodLink RX7 58 yX7_isWithin, Cond.static yX7_isWithin, Cond.code yX7_isWithin cX7_isWithin 3 (some .boolean), Cond.methodLink RX7 215 yX5_isMissing, Cond.instanceMethod yX5_isMissing, Cond.selects RX5 yX5_isMissing yX5_isMissing, Cond.initialized RX5, Cond.code yX5_isMissing cX5_isMissing 1 (some .boolean), Cond.fieldLink RX5 19 "SkewPlan$Trace" "isPresent" "Z", Cond.methodLink RX7 218 yX5_thousandOfAll, Cond.instanceMethod yX5_thousandOfAll, Cond.selects RX5 yX5_thousandOfAll yX5_thousandOfAll, Cond.code yX5_thousandOfAll cX5_thousandOfAll 7 (some .int), Cond.fieldLink RX5 23 "SkewPlan$Trace" "places" "I", Cond.fieldLink RX5 9 "SkewPlan$Trace" "values" "[D", Cond.fieldLink RX5 15 "SkewPlan$Trace" "isNoNumber" "[Z", Cond.constant RX5 56 (2000000), Cond.constantDouble RX5 62 (4652007308841189376), Cond.methodLink RX5 42 yX5_isEndless]
def wsX7_sum_r2 : List Cond := [Cond.static yX5_isEndless, Cond.code yX5_isEndless cX5_isEndless 2 (some .boolean), Cond.constantDouble RX5 52 (4696837146684686336), Cond.constantDouble RX5 54 (13920209183539462144), Cond.methodLink RX5 58 yX5_cutThousand, Cond.static yX5_cutThousand, Cond.code yX5_cutThousand cX5_cutThousand 2 (some .int), Cond.constant RX5 64 (3000000), Cond.constant RX5 65 (1000000), Cond.methodLink RX7 221 yX5_noNumberCount, Cond.instanceMethod yX5_noNumberCount, Cond.selects RX5 yX5_noNumberCount yX5_noNumberCount, Cond.code yX5_noNumberCount cX5_noNumberCount 3 (some .int)]
def wsX7_sum : List Cond := .code yX7_sum cX7_sum 4 (some .int) :: ((wsX7_sum_r1 ++ wsX7_sum_r2) ++ wsX70 ++ wsX50)
def wsX7_drop : List Cond := .code yX7_drop cX7_drop 4 (some .int) :: ([.fieldLink RX7 53 "SkewPlan" "traces" "[LSkewPlan$Trace;", .methodLink RX7 181 yX7_isTrace, .static yX7_isTrace, .initialized RX7, .code yX7_isTrace cX7_isTrace 1 (some .boolean), .methodLink RX7 58 yX7_isWithin, .static yX7_isWithin, .code yX7_isWithin cX7_isWithin 3 (some .boolean), .methodLink RX7 215 yX5_isMissing, .instanceMethod yX5_isMissing, .selects RX5 yX5_isMissing yX5_isMissing, .initialized RX5, .code yX5_isMissing cX5_isMissing 1 (some .boolean), .fieldLink RX5 19 "SkewPlan$Trace" "isPresent" "Z", .methodLink RX7 224 yX5_placeCount, .instanceMethod yX5_placeCount, .selects RX5 yX5_placeCount yX5_placeCount, .code yX5_placeCount cX5_placeCount 1 (some .int), .fieldLink RX5 23 "SkewPlan$Trace" "places" "I", .methodLink RX7 82 yX5_lose, .instanceMethod yX5_lose, .selects RX5 yX5_lose yX5_lose, .code yX5_lose cX5_lose 1 none] ++ wsX70 ++ wsX50)
def wsX7_placesOfAllTraces : List Cond := .code yX7_placesOfAllTraces cX7_placesOfAllTraces 3 (some .int) :: ([.fieldLink RX7 53 "SkewPlan" "traces" "[LSkewPlan$Trace;", .methodLink RX7 224 yX5_placeCount, .instanceMethod yX5_placeCount, .selects RX5 yX5_placeCount yX5_placeCount, .initialized RX5, .code yX5_placeCount cX5_placeCount 1 (some .int), .fieldLink RX5 23 "SkewPlan$Trace" "places" "I"] ++ wsX70 ++ wsX50)
def wsX7_count_r1 : List Cond := [Cond.fieldLink RX7 23 "SkewPlan" "now" "LSkewPlan$Net;", Cond.fieldLink RX7 40 "SkewPlan" "history" "LSkewPlan$History;", Cond.fieldLink RX7 10 "SkewPlan" "text" "LSkewPlan$Text;", Cond.methodLink RX7 233 yX7_placesOfAllTraces, Cond.instanceMethod yX7_placesOfAllTraces, Cond.selects RX7 yX7_placesOfAllTraces yX7_placesOfAllTraces, Cond.initialized RX7, Cond.code yX7_placesOfAllTraces cX7_placesOfAllTraces 3 (some .int), Cond.fieldLink RX7 53 "SkewPlan" "traces" "[LSkewPlan$Trace;", Cond.methodLink RX7 224 yX5_placeCount, Cond.instanceMethod yX5_placeCount, Cond.selects RX5 yX5_placeCount yX5_placeCount, Cond.initialized RX5, Cond.code yX5_placeCount cX5_placeCount 1 (some .int), Cond.fieldLink RX5 23 "SkewPlan$Trace" "places" "I", Cond.methodLink RX7 127 yX1_size, Cond.instanceMethod yX1_size, Cond.selects RX1 yX1_size yX1_size, Cond.initialized RX1, Cond.code yX1_size cX1_size 1 (some .int), Cond.fieldLink RX1 18 "SkewPlan$History" "size" "I", Cond.methodLink RX7 66 yX4_letterCount, Cond.instanceMethod yX4_letterCount, Cond.selects RX4 yX4_letterCount yX4_letterCount]
def wsX7_count_r2 : List Cond := [Cond.initialized RX4, Cond.code yX4_letterCount cX4_letterCount 1 (some .int), Cond.fieldLink RX4 15 "SkewPlan$Text" "length" "I", Cond.methodLink RX7 236 yX2_tooSoonCount, Cond.instanceMethod yX2_tooSoonCount, Cond.selects RX2 yX2_tooSoonCount yX2_tooSoonCount, Cond.initialized RX2, Cond.code yX2_tooSoonCount cX2_tooSoonCount 3 (some .int), Cond.fieldLink RX2 44 "SkewPlan$Net" "paths" "I", Cond.methodLink RX2 68 yX2_soonBound, Cond.instanceMethod yX2_soonBound, Cond.selects RX2 yX2_soonBound yX2_soonBound, Cond.code yX2_soonBound cX2_soonBound 2 (some .int), Cond.fieldLink RX2 21 "SkewPlan$Net" "shorts" "[I", Cond.fieldLink RX2 35 "SkewPlan$Net" "hold" "I"]
def wsX7_count : List Cond := .code yX7_count cX7_count 2 (some .int) :: ((wsX7_count_r1 ++ wsX7_count_r2) ++ wsX70 ++ wsX20 ++ wsX50 ++ wsX10 ++ wsX40)
def wsX8_anew : List Cond := .code yX8_anew cX8_anew 2 none :: ([.fieldLink RX8 84 "SkewPlanModel" "registers" "I", .fieldLink RX8 88 "SkewPlanModel" "paths" "I", .fieldLink RX8 91 "SkewPlanModel" "setup" "I", .fieldLink RX8 94 "SkewPlanModel" "hold" "I", .fieldLink RX8 97 "SkewPlanModel" "step" "I", .fieldLink RX8 7 "SkewPlanModel" "row" "[I"] ++ wsX80)
def wsX8_copyRow : List Cond := .code yX8_copyRow cX8_copyRow 4 none :: ([.fieldLink RX8 7 "SkewPlanModel" "row" "[I"] ++ wsX80)
def wsX8_init_r1 : List Cond := [Cond.methodLink RX8 1 objectInit, Cond.instanceMethod objectInit, Cond.code objectInit ⟨#[0xb1]⟩ 1 none, Cond.arrayClass .int, Cond.fieldLink RX8 7 "SkewPlanModel" "row" "[I", Cond.fieldLink RX8 13 "SkewPlanModel" "from" "[I", Cond.fieldLink RX8 16 "SkewPlanModel" "to" "[I", Cond.arrayClass .boolean, Cond.fieldLink RX8 19 "SkewPlanModel" "isKept" "[Z", Cond.fieldLink RX8 23 "SkewPlanModel" "text" "[I", Cond.fieldLink RX8 26 "SkewPlanModel" "sorts" "[I", Cond.fieldLink RX8 29 "SkewPlanModel" "sizes" "[I", Cond.arrayClass .float, Cond.fieldLink RX8 32 "SkewPlanModel" "floats" "[F", Cond.arrayClass .double, Cond.fieldLink RX8 36 "SkewPlanModel" "doubles" "[D", Cond.fieldLink RX8 40 "SkewPlanModel" "numbers" "[I", Cond.fieldLink RX8 43 "SkewPlanModel" "netWord" "[I", Cond.fieldLink RX8 46 "SkewPlanModel" "pathWord" "[I", Cond.fieldLink RX8 49 "SkewPlanModel" "setupWord" "[I", Cond.fieldLink RX8 52 "SkewPlanModel" "holdWord" "[I", Cond.fieldLink RX8 55 "SkewPlanModel" "stepWord" "[I", Cond.fieldLink RX8 58 "SkewPlanModel" "periodWord" "[I", Cond.fieldLink RX8 61 "SkewPlanModel" "lates" "[I"]
def wsX8_init_r2 : List Cond := [Cond.fieldLink RX8 64 "SkewPlanModel" "soons" "[I", Cond.fieldLink RX8 67 "SkewPlanModel" "shifts" "[I", Cond.fieldLink RX8 70 "SkewPlanModel" "bounds" "[I", Cond.fieldLink RX8 73 "SkewPlanModel" "ring" "[I", Cond.methodLink RX8 76 yX8_anew, Cond.instanceMethod yX8_anew, Cond.selects RX8 yX8_anew yX8_anew, Cond.initialized RX8, Cond.code yX8_anew cX8_anew 2 none, Cond.fieldLink RX8 84 "SkewPlanModel" "registers" "I", Cond.fieldLink RX8 88 "SkewPlanModel" "paths" "I", Cond.fieldLink RX8 91 "SkewPlanModel" "setup" "I", Cond.fieldLink RX8 94 "SkewPlanModel" "hold" "I", Cond.fieldLink RX8 97 "SkewPlanModel" "step" "I", Cond.methodLink RX8 80 yX8_copyRow, Cond.instanceMethod yX8_copyRow, Cond.selects RX8 yX8_copyRow yX8_copyRow, Cond.code yX8_copyRow cX8_copyRow 4 none]
def wsX8_init : List Cond := .code yX8_init cX8_init 1 none :: ((wsX8_init_r1 ++ wsX8_init_r2) ++ wsX80)
def wsX8_in : List Cond := .code yX8_in cX8_in 6 (some .boolean) :: ([])
def wsX8_write : List Cond := .code yX8_write cX8_write 2 (some .int) :: ([.constantLong RX8 100 (255), .fieldLink RX8 106 "SkewPlanModel" "length" "I", .fieldLink RX8 23 "SkewPlanModel" "text" "[I", .methodLink RX8 102 yX8_in, .static yX8_in, .initialized RX8, .code yX8_in cX8_in 6 (some .boolean)] ++ wsX80)
def wsX8_erase : List Cond := .code yX8_erase cX8_erase 2 (some .int) :: ([.fieldLink RX8 106 "SkewPlanModel" "length" "I"] ++ wsX80)
def wsX8_isLetter : List Cond := .code yX8_isLetter cX8_isLetter 1 (some .boolean) :: ([.constantLong RX8 109 (97), .constantLong RX8 111 (122), .methodLink RX8 102 yX8_in, .static yX8_in, .initialized RX8, .code yX8_in cX8_in 6 (some .boolean)])
def wsX8_isDigit : List Cond := .code yX8_isDigit cX8_isDigit 1 (some .boolean) :: ([.constantLong RX8 113 (48), .constantLong RX8 115 (57), .methodLink RX8 102 yX8_in, .static yX8_in, .initialized RX8, .code yX8_in cX8_in 6 (some .boolean)])
def wsX8_nextToken : List Cond := .code yX8_nextToken cX8_nextToken 1 none :: ([.fieldLink RX8 117 "SkewPlanModel" "behind" "I", .fieldLink RX8 120 "SkewPlanModel" "first" "I", .fieldLink RX8 106 "SkewPlanModel" "length" "I", .fieldLink RX8 23 "SkewPlanModel" "text" "[I", .methodLink RX8 123 yX8_isLetter, .static yX8_isLetter, .initialized RX8, .code yX8_isLetter cX8_isLetter 1 (some .boolean), .constantLong RX8 109 (97), .constantLong RX8 111 (122), .methodLink RX8 102 yX8_in, .static yX8_in, .code yX8_in cX8_in 6 (some .boolean), .methodLink RX8 127 yX8_isDigit, .static yX8_isDigit, .code yX8_isDigit cX8_isDigit 1 (some .boolean), .constantLong RX8 113 (48), .constantLong RX8 115 (57)] ++ wsX80)
def wsX8_isWord : List Cond := .code yX8_isWord cX8_isWord 4 (some .boolean) :: ([.fieldLink RX8 117 "SkewPlanModel" "behind" "I", .fieldLink RX8 120 "SkewPlanModel" "first" "I", .fieldLink RX8 23 "SkewPlanModel" "text" "[I"] ++ wsX80)
def wsX8_number : List Cond := .code yX8_number cX8_number 6 (some .boolean) :: ([.fieldLink RX8 120 "SkewPlanModel" "first" "I", .fieldLink RX8 106 "SkewPlanModel" "length" "I", .fieldLink RX8 23 "SkewPlanModel" "text" "[I", .fieldLink RX8 117 "SkewPlanModel" "behind" "I", .fieldLink RX8 40 "SkewPlanModel" "numbers" "[I", .methodLink RX8 127 yX8_isDigit, .static yX8_isDigit, .initialized RX8, .code yX8_isDigit cX8_isDigit 1 (some .boolean), .constantLong RX8 113 (48), .constantLong RX8 115 (57), .methodLink RX8 102 yX8_in, .static yX8_in, .code yX8_in cX8_in 6 (some .boolean), .methodLink RX8 130 yX8_nextToken, .instanceMethod yX8_nextToken, .selects RX8 yX8_nextToken yX8_nextToken, .code yX8_nextToken cX8_nextToken 1 none, .methodLink RX8 123 yX8_isLetter, .static yX8_isLetter, .code yX8_isLetter cX8_isLetter 1 (some .boolean), .constantLong RX8 109 (97), .constantLong RX8 111 (122)] ++ wsX80)
def wsX8_wordHere : List Cond := .code yX8_wordHere cX8_wordHere 1 (some .int) :: ([.fieldLink RX8 43 "SkewPlanModel" "netWord" "[I", .fieldLink RX8 46 "SkewPlanModel" "pathWord" "[I", .fieldLink RX8 49 "SkewPlanModel" "setupWord" "[I", .fieldLink RX8 52 "SkewPlanModel" "holdWord" "[I", .fieldLink RX8 55 "SkewPlanModel" "stepWord" "[I", .fieldLink RX8 58 "SkewPlanModel" "periodWord" "[I", .methodLink RX8 133 yX8_isWord, .instanceMethod yX8_isWord, .selects RX8 yX8_isWord yX8_isWord, .initialized RX8, .code yX8_isWord cX8_isWord 4 (some .boolean), .fieldLink RX8 117 "SkewPlanModel" "behind" "I", .fieldLink RX8 120 "SkewPlanModel" "first" "I", .fieldLink RX8 23 "SkewPlanModel" "text" "[I"] ++ wsX80)
def wsX8_readsNumbers_r1 : List Cond := [Cond.fieldLink RX8 141 "SkewPlanModel" "readRegisters" "I", Cond.fieldLink RX8 40 "SkewPlanModel" "numbers" "[I", Cond.methodLink RX8 137 yX8_number, Cond.instanceMethod yX8_number, Cond.selects RX8 yX8_number yX8_number, Cond.initialized RX8, Cond.code yX8_number cX8_number 6 (some .boolean), Cond.fieldLink RX8 120 "SkewPlanModel" "first" "I", Cond.fieldLink RX8 106 "SkewPlanModel" "length" "I", Cond.fieldLink RX8 23 "SkewPlanModel" "text" "[I", Cond.fieldLink RX8 117 "SkewPlanModel" "behind" "I", Cond.methodLink RX8 127 yX8_isDigit, Cond.static yX8_isDigit, Cond.code yX8_isDigit cX8_isDigit 1 (some .boolean), Cond.constantLong RX8 113 (48), Cond.constantLong RX8 115 (57), Cond.methodLink RX8 102 yX8_in, Cond.static yX8_in, Cond.code yX8_in cX8_in 6 (some .boolean), Cond.methodLink RX8 130 yX8_nextToken, Cond.instanceMethod yX8_nextToken, Cond.selects RX8 yX8_nextToken yX8_nextToken, Cond.code yX8_nextToken cX8_nextToken 1 none, Cond.methodLink RX8 123 yX8_isLetter]
def wsX8_readsNumbers_r2 : List Cond := [Cond.static yX8_isLetter, Cond.code yX8_isLetter cX8_isLetter 1 (some .boolean), Cond.constantLong RX8 109 (97), Cond.constantLong RX8 111 (122)]
def wsX8_readsNumbers : List Cond := .code yX8_readsNumbers cX8_readsNumbers 2 (some .boolean) :: ((wsX8_readsNumbers_r1 ++ wsX8_readsNumbers_r2) ++ wsX80)
def wsX8_does : List Cond := .code yX8_does cX8_does 2 none :: ([.fieldLink RX8 40 "SkewPlanModel" "numbers" "[I", .fieldLink RX8 13 "SkewPlanModel" "from" "[I", .fieldLink RX8 88 "SkewPlanModel" "paths" "I", .fieldLink RX8 16 "SkewPlanModel" "to" "[I", .fieldLink RX8 7 "SkewPlanModel" "row" "[I", .fieldLink RX8 91 "SkewPlanModel" "setup" "I", .fieldLink RX8 94 "SkewPlanModel" "hold" "I", .fieldLink RX8 97 "SkewPlanModel" "step" "I", .methodLink RX8 76 yX8_anew, .instanceMethod yX8_anew, .selects RX8 yX8_anew yX8_anew, .initialized RX8, .code yX8_anew cX8_anew 2 none, .fieldLink RX8 84 "SkewPlanModel" "registers" "I"] ++ wsX80)
def wsX8_readsClause_r1 : List Cond := [Cond.fieldLink RX8 148 "SkewPlanModel" "readPaths" "I", Cond.fieldLink RX8 40 "SkewPlanModel" "numbers" "[I", Cond.fieldLink RX8 141 "SkewPlanModel" "readRegisters" "I", Cond.fieldLink RX8 154 "SkewPlanModel" "doing" "Z", Cond.methodLink RX8 144 yX8_wordHere, Cond.instanceMethod yX8_wordHere, Cond.selects RX8 yX8_wordHere yX8_wordHere, Cond.initialized RX8, Cond.code yX8_wordHere cX8_wordHere 1 (some .int), Cond.fieldLink RX8 43 "SkewPlanModel" "netWord" "[I", Cond.fieldLink RX8 46 "SkewPlanModel" "pathWord" "[I", Cond.fieldLink RX8 49 "SkewPlanModel" "setupWord" "[I", Cond.fieldLink RX8 52 "SkewPlanModel" "holdWord" "[I", Cond.fieldLink RX8 55 "SkewPlanModel" "stepWord" "[I", Cond.fieldLink RX8 58 "SkewPlanModel" "periodWord" "[I", Cond.methodLink RX8 133 yX8_isWord, Cond.instanceMethod yX8_isWord, Cond.selects RX8 yX8_isWord yX8_isWord, Cond.code yX8_isWord cX8_isWord 4 (some .boolean), Cond.fieldLink RX8 117 "SkewPlanModel" "behind" "I", Cond.fieldLink RX8 120 "SkewPlanModel" "first" "I", Cond.fieldLink RX8 23 "SkewPlanModel" "text" "[I", Cond.methodLink RX8 130 yX8_nextToken, Cond.instanceMethod yX8_nextToken]
def wsX8_readsClause_r2 : List Cond := [Cond.selects RX8 yX8_nextToken yX8_nextToken, Cond.code yX8_nextToken cX8_nextToken 1 none, Cond.fieldLink RX8 106 "SkewPlanModel" "length" "I", Cond.methodLink RX8 123 yX8_isLetter, Cond.static yX8_isLetter, Cond.code yX8_isLetter cX8_isLetter 1 (some .boolean), Cond.constantLong RX8 109 (97), Cond.constantLong RX8 111 (122), Cond.methodLink RX8 102 yX8_in, Cond.static yX8_in, Cond.code yX8_in cX8_in 6 (some .boolean), Cond.methodLink RX8 127 yX8_isDigit, Cond.static yX8_isDigit, Cond.code yX8_isDigit cX8_isDigit 1 (some .boolean), Cond.constantLong RX8 113 (48), Cond.constantLong RX8 115 (57), Cond.methodLink RX8 151 yX8_readsNumbers, Cond.instanceMethod yX8_readsNumbers, Cond.selects RX8 yX8_readsNumbers yX8_readsNumbers, Cond.code yX8_readsNumbers cX8_readsNumbers 2 (some .boolean), Cond.methodLink RX8 137 yX8_number, Cond.instanceMethod yX8_number, Cond.selects RX8 yX8_number yX8_number, Cond.code yX8_number cX8_number 6 (some .boolean)]
def wsX8_readsClause_r3 : List Cond := [Cond.methodLink RX8 158 yX8_does, Cond.instanceMethod yX8_does, Cond.selects RX8 yX8_does yX8_does, Cond.code yX8_does cX8_does 2 none, Cond.fieldLink RX8 13 "SkewPlanModel" "from" "[I", Cond.fieldLink RX8 88 "SkewPlanModel" "paths" "I", Cond.fieldLink RX8 16 "SkewPlanModel" "to" "[I", Cond.fieldLink RX8 7 "SkewPlanModel" "row" "[I", Cond.fieldLink RX8 91 "SkewPlanModel" "setup" "I", Cond.fieldLink RX8 94 "SkewPlanModel" "hold" "I", Cond.fieldLink RX8 97 "SkewPlanModel" "step" "I", Cond.methodLink RX8 76 yX8_anew, Cond.instanceMethod yX8_anew, Cond.selects RX8 yX8_anew yX8_anew, Cond.code yX8_anew cX8_anew 2 none, Cond.fieldLink RX8 84 "SkewPlanModel" "registers" "I"]
def wsX8_readsClause : List Cond := .code yX8_readsClause cX8_readsClause 2 (some .boolean) :: ((wsX8_readsClause_r1 ++ (wsX8_readsClause_r2 ++ wsX8_readsClause_r3)) ++ wsX80)
def wsX8_reads_r1 : List Cond := [Cond.fieldLink RX8 154 "SkewPlanModel" "doing" "Z", Cond.fieldLink RX8 117 "SkewPlanModel" "behind" "I", Cond.fieldLink RX8 161 "SkewPlanModel" "clauses" "I", Cond.fieldLink RX8 84 "SkewPlanModel" "registers" "I", Cond.fieldLink RX8 141 "SkewPlanModel" "readRegisters" "I", Cond.fieldLink RX8 88 "SkewPlanModel" "paths" "I", Cond.fieldLink RX8 148 "SkewPlanModel" "readPaths" "I", Cond.fieldLink RX8 120 "SkewPlanModel" "first" "I", Cond.fieldLink RX8 106 "SkewPlanModel" "length" "I", Cond.fieldLink RX8 23 "SkewPlanModel" "text" "[I", Cond.methodLink RX8 130 yX8_nextToken, Cond.instanceMethod yX8_nextToken, Cond.selects RX8 yX8_nextToken yX8_nextToken, Cond.initialized RX8, Cond.code yX8_nextToken cX8_nextToken 1 none, Cond.methodLink RX8 123 yX8_isLetter, Cond.static yX8_isLetter, Cond.code yX8_isLetter cX8_isLetter 1 (some .boolean), Cond.constantLong RX8 109 (97), Cond.constantLong RX8 111 (122), Cond.methodLink RX8 102 yX8_in, Cond.static yX8_in, Cond.code yX8_in cX8_in 6 (some .boolean), Cond.methodLink RX8 127 yX8_isDigit]
def wsX8_reads_r2 : List Cond := [Cond.static yX8_isDigit, Cond.code yX8_isDigit cX8_isDigit 1 (some .boolean), Cond.constantLong RX8 113 (48), Cond.constantLong RX8 115 (57), Cond.methodLink RX8 164 yX8_readsClause, Cond.instanceMethod yX8_readsClause, Cond.selects RX8 yX8_readsClause yX8_readsClause, Cond.code yX8_readsClause cX8_readsClause 2 (some .boolean), Cond.fieldLink RX8 40 "SkewPlanModel" "numbers" "[I", Cond.methodLink RX8 144 yX8_wordHere, Cond.instanceMethod yX8_wordHere, Cond.selects RX8 yX8_wordHere yX8_wordHere, Cond.code yX8_wordHere cX8_wordHere 1 (some .int), Cond.fieldLink RX8 43 "SkewPlanModel" "netWord" "[I", Cond.fieldLink RX8 46 "SkewPlanModel" "pathWord" "[I", Cond.fieldLink RX8 49 "SkewPlanModel" "setupWord" "[I", Cond.fieldLink RX8 52 "SkewPlanModel" "holdWord" "[I", Cond.fieldLink RX8 55 "SkewPlanModel" "stepWord" "[I", Cond.fieldLink RX8 58 "SkewPlanModel" "periodWord" "[I", Cond.methodLink RX8 133 yX8_isWord, Cond.instanceMethod yX8_isWord, Cond.selects RX8 yX8_isWord yX8_isWord, Cond.code yX8_isWord cX8_isWord 4 (some .boolean), Cond.methodLink RX8 151 yX8_readsNumbers]
def wsX8_reads_r3 : List Cond := [Cond.instanceMethod yX8_readsNumbers, Cond.selects RX8 yX8_readsNumbers yX8_readsNumbers, Cond.code yX8_readsNumbers cX8_readsNumbers 2 (some .boolean), Cond.methodLink RX8 137 yX8_number, Cond.instanceMethod yX8_number, Cond.selects RX8 yX8_number yX8_number, Cond.code yX8_number cX8_number 6 (some .boolean), Cond.methodLink RX8 158 yX8_does, Cond.instanceMethod yX8_does, Cond.selects RX8 yX8_does yX8_does, Cond.code yX8_does cX8_does 2 none, Cond.fieldLink RX8 13 "SkewPlanModel" "from" "[I", Cond.fieldLink RX8 16 "SkewPlanModel" "to" "[I", Cond.fieldLink RX8 7 "SkewPlanModel" "row" "[I", Cond.fieldLink RX8 91 "SkewPlanModel" "setup" "I", Cond.fieldLink RX8 94 "SkewPlanModel" "hold" "I", Cond.fieldLink RX8 97 "SkewPlanModel" "step" "I", Cond.methodLink RX8 76 yX8_anew, Cond.instanceMethod yX8_anew, Cond.selects RX8 yX8_anew yX8_anew, Cond.code yX8_anew cX8_anew 2 none]
def wsX8_reads : List Cond := .code yX8_reads cX8_reads 3 (some .boolean) :: ((wsX8_reads_r1 ++ (wsX8_reads_r2 ++ wsX8_reads_r3)) ++ wsX80)
def wsX8_fault_r1 : List Cond := [Cond.fieldLink RX8 120 "SkewPlanModel" "first" "I", Cond.methodLink RX8 168 yX8_reads, Cond.instanceMethod yX8_reads, Cond.selects RX8 yX8_reads yX8_reads, Cond.initialized RX8, Cond.code yX8_reads cX8_reads 3 (some .boolean), Cond.fieldLink RX8 154 "SkewPlanModel" "doing" "Z", Cond.fieldLink RX8 117 "SkewPlanModel" "behind" "I", Cond.fieldLink RX8 161 "SkewPlanModel" "clauses" "I", Cond.fieldLink RX8 84 "SkewPlanModel" "registers" "I", Cond.fieldLink RX8 141 "SkewPlanModel" "readRegisters" "I", Cond.fieldLink RX8 88 "SkewPlanModel" "paths" "I", Cond.fieldLink RX8 148 "SkewPlanModel" "readPaths" "I", Cond.fieldLink RX8 106 "SkewPlanModel" "length" "I", Cond.fieldLink RX8 23 "SkewPlanModel" "text" "[I", Cond.methodLink RX8 130 yX8_nextToken, Cond.instanceMethod yX8_nextToken, Cond.selects RX8 yX8_nextToken yX8_nextToken, Cond.code yX8_nextToken cX8_nextToken 1 none, Cond.methodLink RX8 123 yX8_isLetter, Cond.static yX8_isLetter, Cond.code yX8_isLetter cX8_isLetter 1 (some .boolean), Cond.constantLong RX8 109 (97), Cond.constantLong RX8 111 (122)]
def wsX8_fault_r2 : List Cond := [Cond.methodLink RX8 102 yX8_in, Cond.static yX8_in, Cond.code yX8_in cX8_in 6 (some .boolean), Cond.methodLink RX8 127 yX8_isDigit, Cond.static yX8_isDigit, Cond.code yX8_isDigit cX8_isDigit 1 (some .boolean), Cond.constantLong RX8 113 (48), Cond.constantLong RX8 115 (57), Cond.methodLink RX8 164 yX8_readsClause, Cond.instanceMethod yX8_readsClause, Cond.selects RX8 yX8_readsClause yX8_readsClause, Cond.code yX8_readsClause cX8_readsClause 2 (some .boolean), Cond.fieldLink RX8 40 "SkewPlanModel" "numbers" "[I", Cond.methodLink RX8 144 yX8_wordHere, Cond.instanceMethod yX8_wordHere, Cond.selects RX8 yX8_wordHere yX8_wordHere, Cond.code yX8_wordHere cX8_wordHere 1 (some .int), Cond.fieldLink RX8 43 "SkewPlanModel" "netWord" "[I", Cond.fieldLink RX8 46 "SkewPlanModel" "pathWord" "[I", Cond.fieldLink RX8 49 "SkewPlanModel" "setupWord" "[I", Cond.fieldLink RX8 52 "SkewPlanModel" "holdWord" "[I", Cond.fieldLink RX8 55 "SkewPlanModel" "stepWord" "[I", Cond.fieldLink RX8 58 "SkewPlanModel" "periodWord" "[I", Cond.methodLink RX8 133 yX8_isWord]
def wsX8_fault_r3 : List Cond := [Cond.instanceMethod yX8_isWord, Cond.selects RX8 yX8_isWord yX8_isWord, Cond.code yX8_isWord cX8_isWord 4 (some .boolean), Cond.methodLink RX8 151 yX8_readsNumbers, Cond.instanceMethod yX8_readsNumbers, Cond.selects RX8 yX8_readsNumbers yX8_readsNumbers, Cond.code yX8_readsNumbers cX8_readsNumbers 2 (some .boolean), Cond.methodLink RX8 137 yX8_number, Cond.instanceMethod yX8_number, Cond.selects RX8 yX8_number yX8_number, Cond.code yX8_number cX8_number 6 (some .boolean), Cond.methodLink RX8 158 yX8_does, Cond.instanceMethod yX8_does, Cond.selects RX8 yX8_does yX8_does, Cond.code yX8_does cX8_does 2 none, Cond.fieldLink RX8 13 "SkewPlanModel" "from" "[I", Cond.fieldLink RX8 16 "SkewPlanModel" "to" "[I", Cond.fieldLink RX8 7 "SkewPlanModel" "row" "[I", Cond.fieldLink RX8 91 "SkewPlanModel" "setup" "I", Cond.fieldLink RX8 94 "SkewPlanModel" "hold" "I", Cond.fieldLink RX8 97 "SkewPlanModel" "step" "I", Cond.methodLink RX8 76 yX8_anew, Cond.instanceMethod yX8_anew, Cond.selects RX8 yX8_anew yX8_anew]
def wsX8_fault_r4 : List Cond := [Cond.code yX8_anew cX8_anew 2 none]
def wsX8_fault : List Cond := .code yX8_fault cX8_fault 1 (some .int) :: ((wsX8_fault_r1 ++ (wsX8_fault_r2 ++ (wsX8_fault_r3 ++ wsX8_fault_r4))) ++ wsX80)
def wsX8_net_r1 : List Cond := [Cond.fieldLink RX8 106 "SkewPlanModel" "length" "I", Cond.fieldLink RX8 172 "SkewPlanModel" "undos" "I", Cond.fieldLink RX8 19 "SkewPlanModel" "isKept" "[Z", Cond.fieldLink RX8 29 "SkewPlanModel" "sizes" "[I", Cond.fieldLink RX8 161 "SkewPlanModel" "clauses" "I", Cond.methodLink RX8 168 yX8_reads, Cond.instanceMethod yX8_reads, Cond.selects RX8 yX8_reads yX8_reads, Cond.initialized RX8, Cond.code yX8_reads cX8_reads 3 (some .boolean), Cond.fieldLink RX8 154 "SkewPlanModel" "doing" "Z", Cond.fieldLink RX8 117 "SkewPlanModel" "behind" "I", Cond.fieldLink RX8 84 "SkewPlanModel" "registers" "I", Cond.fieldLink RX8 141 "SkewPlanModel" "readRegisters" "I", Cond.fieldLink RX8 88 "SkewPlanModel" "paths" "I", Cond.fieldLink RX8 148 "SkewPlanModel" "readPaths" "I", Cond.fieldLink RX8 120 "SkewPlanModel" "first" "I", Cond.fieldLink RX8 23 "SkewPlanModel" "text" "[I", Cond.methodLink RX8 130 yX8_nextToken, Cond.instanceMethod yX8_nextToken, Cond.selects RX8 yX8_nextToken yX8_nextToken, Cond.code yX8_nextToken cX8_nextToken 1 none, Cond.methodLink RX8 123 yX8_isLetter, Cond.static yX8_isLetter]
def wsX8_net_r2 : List Cond := [Cond.code yX8_isLetter cX8_isLetter 1 (some .boolean), Cond.constantLong RX8 109 (97), Cond.constantLong RX8 111 (122), Cond.methodLink RX8 102 yX8_in, Cond.static yX8_in, Cond.code yX8_in cX8_in 6 (some .boolean), Cond.methodLink RX8 127 yX8_isDigit, Cond.static yX8_isDigit, Cond.code yX8_isDigit cX8_isDigit 1 (some .boolean), Cond.constantLong RX8 113 (48), Cond.constantLong RX8 115 (57), Cond.methodLink RX8 164 yX8_readsClause, Cond.instanceMethod yX8_readsClause, Cond.selects RX8 yX8_readsClause yX8_readsClause, Cond.code yX8_readsClause cX8_readsClause 2 (some .boolean), Cond.fieldLink RX8 40 "SkewPlanModel" "numbers" "[I", Cond.methodLink RX8 144 yX8_wordHere, Cond.instanceMethod yX8_wordHere, Cond.selects RX8 yX8_wordHere yX8_wordHere, Cond.code yX8_wordHere cX8_wordHere 1 (some .int), Cond.fieldLink RX8 43 "SkewPlanModel" "netWord" "[I", Cond.fieldLink RX8 46 "SkewPlanModel" "pathWord" "[I", Cond.fieldLink RX8 49 "SkewPlanModel" "setupWord" "[I", Cond.fieldLink RX8 52 "SkewPlanModel" "holdWord" "[I"]
def wsX8_net_r3 : List Cond := [Cond.fieldLink RX8 55 "SkewPlanModel" "stepWord" "[I", Cond.fieldLink RX8 58 "SkewPlanModel" "periodWord" "[I", Cond.methodLink RX8 133 yX8_isWord, Cond.instanceMethod yX8_isWord, Cond.selects RX8 yX8_isWord yX8_isWord, Cond.code yX8_isWord cX8_isWord 4 (some .boolean), Cond.methodLink RX8 151 yX8_readsNumbers, Cond.instanceMethod yX8_readsNumbers, Cond.selects RX8 yX8_readsNumbers yX8_readsNumbers, Cond.code yX8_readsNumbers cX8_readsNumbers 2 (some .boolean), Cond.methodLink RX8 137 yX8_number, Cond.instanceMethod yX8_number, Cond.selects RX8 yX8_number yX8_number, Cond.code yX8_number cX8_number 6 (some .boolean), Cond.methodLink RX8 158 yX8_does, Cond.instanceMethod yX8_does, Cond.selects RX8 yX8_does yX8_does, Cond.code yX8_does cX8_does 2 none, Cond.fieldLink RX8 13 "SkewPlanModel" "from" "[I", Cond.fieldLink RX8 16 "SkewPlanModel" "to" "[I", Cond.fieldLink RX8 7 "SkewPlanModel" "row" "[I", Cond.fieldLink RX8 91 "SkewPlanModel" "setup" "I", Cond.fieldLink RX8 94 "SkewPlanModel" "hold" "I", Cond.fieldLink RX8 97 "SkewPlanModel" "step" "I"]
def wsX8_net_r4 : List Cond := [Cond.methodLink RX8 76 yX8_anew, Cond.instanceMethod yX8_anew, Cond.selects RX8 yX8_anew yX8_anew, Cond.code yX8_anew cX8_anew 2 none, Cond.methodLink RX8 80 yX8_copyRow, Cond.instanceMethod yX8_copyRow, Cond.selects RX8 yX8_copyRow yX8_copyRow, Cond.code yX8_copyRow cX8_copyRow 4 none]
def wsX8_net : List Cond := .code yX8_net cX8_net 2 (some .int) :: ((wsX8_net_r1 ++ (wsX8_net_r2 ++ (wsX8_net_r3 ++ wsX8_net_r4))) ++ wsX80)
def wsX8_isPath : List Cond := .code yX8_isPath cX8_isPath 2 (some .boolean) :: ([.fieldLink RX8 88 "SkewPlanModel" "paths" "I", .methodLink RX8 102 yX8_in, .static yX8_in, .initialized RX8, .code yX8_in cX8_in 6 (some .boolean)] ++ wsX80)
def wsX8_isRegister : List Cond := .code yX8_isRegister cX8_isRegister 2 (some .boolean) :: ([.fieldLink RX8 84 "SkewPlanModel" "registers" "I", .methodLink RX8 102 yX8_in, .static yX8_in, .initialized RX8, .code yX8_in cX8_in 6 (some .boolean)] ++ wsX80)
def wsX8_lateOf : List Cond := .code yX8_lateOf cX8_lateOf 3 (some .int) :: ([.fieldLink RX8 7 "SkewPlanModel" "row" "[I", .fieldLink RX8 91 "SkewPlanModel" "setup" "I"] ++ wsX80)
def wsX8_soonOf : List Cond := .code yX8_soonOf cX8_soonOf 2 (some .int) :: ([.fieldLink RX8 7 "SkewPlanModel" "row" "[I", .fieldLink RX8 94 "SkewPlanModel" "hold" "I"] ++ wsX80)
def wsX8_path : List Cond := .code yX8_path cX8_path 3 (some .int) :: ([.fieldLink RX8 13 "SkewPlanModel" "from" "[I", .fieldLink RX8 16 "SkewPlanModel" "to" "[I", .fieldLink RX8 7 "SkewPlanModel" "row" "[I", .methodLink RX8 175 yX8_isPath, .instanceMethod yX8_isPath, .selects RX8 yX8_isPath yX8_isPath, .initialized RX8, .code yX8_isPath cX8_isPath 2 (some .boolean), .fieldLink RX8 88 "SkewPlanModel" "paths" "I", .methodLink RX8 102 yX8_in, .static yX8_in, .code yX8_in cX8_in 6 (some .boolean), .methodLink RX8 178 yX8_lateOf, .instanceMethod yX8_lateOf, .selects RX8 yX8_lateOf yX8_lateOf, .code yX8_lateOf cX8_lateOf 3 (some .int), .fieldLink RX8 91 "SkewPlanModel" "setup" "I", .methodLink RX8 182 yX8_soonOf, .instanceMethod yX8_soonOf, .selects RX8 yX8_soonOf yX8_soonOf, .code yX8_soonOf cX8_soonOf 2 (some .int), .fieldLink RX8 94 "SkewPlanModel" "hold" "I"] ++ wsX80)
def wsX8_keepPast : List Cond := .code yX8_keepPast cX8_keepPast 2 none :: ([.fieldLink RX8 172 "SkewPlanModel" "undos" "I", .fieldLink RX8 7 "SkewPlanModel" "row" "[I", .methodLink RX8 80 yX8_copyRow, .instanceMethod yX8_copyRow, .selects RX8 yX8_copyRow yX8_copyRow, .initialized RX8, .code yX8_copyRow cX8_copyRow 4 none] ++ wsX80)
def wsX8_period : List Cond := .code yX8_period cX8_period 3 (some .int) :: ([.constantLong RX8 186 (999), .fieldLink RX8 7 "SkewPlanModel" "row" "[I", .methodLink RX8 102 yX8_in, .static yX8_in, .initialized RX8, .code yX8_in cX8_in 6 (some .boolean), .methodLink RX8 188 yX8_keepPast, .instanceMethod yX8_keepPast, .selects RX8 yX8_keepPast yX8_keepPast, .code yX8_keepPast cX8_keepPast 2 none, .fieldLink RX8 172 "SkewPlanModel" "undos" "I", .methodLink RX8 80 yX8_copyRow, .instanceMethod yX8_copyRow, .selects RX8 yX8_copyRow yX8_copyRow, .code yX8_copyRow cX8_copyRow 4 none] ++ wsX80)
def wsX8_slower : List Cond := .code yX8_slower cX8_slower 3 (some .int) :: ([.constantLong RX8 191 (20), .fieldLink RX8 7 "SkewPlanModel" "row" "[I", .methodLink RX8 175 yX8_isPath, .instanceMethod yX8_isPath, .selects RX8 yX8_isPath yX8_isPath, .initialized RX8, .code yX8_isPath cX8_isPath 2 (some .boolean), .fieldLink RX8 88 "SkewPlanModel" "paths" "I", .methodLink RX8 102 yX8_in, .static yX8_in, .code yX8_in cX8_in 6 (some .boolean), .methodLink RX8 188 yX8_keepPast, .instanceMethod yX8_keepPast, .selects RX8 yX8_keepPast yX8_keepPast, .code yX8_keepPast cX8_keepPast 2 none, .fieldLink RX8 172 "SkewPlanModel" "undos" "I", .methodLink RX8 80 yX8_copyRow, .instanceMethod yX8_copyRow, .selects RX8 yX8_copyRow yX8_copyRow, .code yX8_copyRow cX8_copyRow 4 none] ++ wsX80)
def wsX8_undo : List Cond := .code yX8_undo cX8_undo 1 (some .int) :: ([.fieldLink RX8 172 "SkewPlanModel" "undos" "I", .methodLink RX8 80 yX8_copyRow, .instanceMethod yX8_copyRow, .selects RX8 yX8_copyRow yX8_copyRow, .initialized RX8, .code yX8_copyRow cX8_copyRow 4 none, .fieldLink RX8 7 "SkewPlanModel" "row" "[I"] ++ wsX80)
def wsX8_keep : List Cond := .code yX8_keep cX8_keep 2 (some .int) :: ([.fieldLink RX8 19 "SkewPlanModel" "isKept" "[Z", .fieldLink RX8 7 "SkewPlanModel" "row" "[I", .methodLink RX8 102 yX8_in, .static yX8_in, .initialized RX8, .code yX8_in cX8_in 6 (some .boolean), .methodLink RX8 80 yX8_copyRow, .instanceMethod yX8_copyRow, .selects RX8 yX8_copyRow yX8_copyRow, .code yX8_copyRow cX8_copyRow 4 none] ++ wsX80)
def wsX8_back : List Cond := .code yX8_back cX8_back 2 (some .int) :: ([.fieldLink RX8 19 "SkewPlanModel" "isKept" "[Z", .fieldLink RX8 172 "SkewPlanModel" "undos" "I", .fieldLink RX8 7 "SkewPlanModel" "row" "[I", .methodLink RX8 102 yX8_in, .static yX8_in, .initialized RX8, .code yX8_in cX8_in 6 (some .boolean), .methodLink RX8 80 yX8_copyRow, .instanceMethod yX8_copyRow, .selects RX8 yX8_copyRow yX8_copyRow, .code yX8_copyRow cX8_copyRow 4 none] ++ wsX80)
def wsX8_floor : List Cond := .code yX8_floor cX8_floor 2 (some .int) :: ([])
def wsX8_layBounds : List Cond := .code yX8_layBounds cX8_layBounds 4 none :: ([.fieldLink RX8 88 "SkewPlanModel" "paths" "I", .fieldLink RX8 61 "SkewPlanModel" "lates" "[I", .fieldLink RX8 97 "SkewPlanModel" "step" "I", .fieldLink RX8 64 "SkewPlanModel" "soons" "[I", .methodLink RX8 178 yX8_lateOf, .instanceMethod yX8_lateOf, .selects RX8 yX8_lateOf yX8_lateOf, .initialized RX8, .code yX8_lateOf cX8_lateOf 3 (some .int), .fieldLink RX8 7 "SkewPlanModel" "row" "[I", .fieldLink RX8 91 "SkewPlanModel" "setup" "I", .methodLink RX8 193 yX8_floor, .static yX8_floor, .code yX8_floor cX8_floor 2 (some .int), .methodLink RX8 182 yX8_soonOf, .instanceMethod yX8_soonOf, .selects RX8 yX8_soonOf yX8_soonOf, .code yX8_soonOf cX8_soonOf 2 (some .int), .fieldLink RX8 94 "SkewPlanModel" "hold" "I"] ++ wsX80)
def wsX8_makesLess : List Cond := .code yX8_makesLess cX8_makesLess 5 (some .boolean) :: ([.fieldLink RX8 67 "SkewPlanModel" "shifts" "[I"] ++ wsX80)
def wsX8_areThere : List Cond := .code yX8_areThere cX8_areThere 4 (some .boolean) :: ([.fieldLink RX8 67 "SkewPlanModel" "shifts" "[I", .fieldLink RX8 84 "SkewPlanModel" "registers" "I", .fieldLink RX8 88 "SkewPlanModel" "paths" "I", .fieldLink RX8 13 "SkewPlanModel" "from" "[I", .fieldLink RX8 16 "SkewPlanModel" "to" "[I", .fieldLink RX8 61 "SkewPlanModel" "lates" "[I", .fieldLink RX8 64 "SkewPlanModel" "soons" "[I", .methodLink RX8 196 yX8_makesLess, .instanceMethod yX8_makesLess, .selects RX8 yX8_makesLess yX8_makesLess, .initialized RX8, .code yX8_makesLess cX8_makesLess 5 (some .boolean)] ++ wsX80)
def wsX8_isFeasible_r1 : List Cond := [Cond.methodLink RX8 199 yX8_layBounds, Cond.instanceMethod yX8_layBounds, Cond.selects RX8 yX8_layBounds yX8_layBounds, Cond.initialized RX8, Cond.code yX8_layBounds cX8_layBounds 4 none, Cond.fieldLink RX8 88 "SkewPlanModel" "paths" "I", Cond.fieldLink RX8 61 "SkewPlanModel" "lates" "[I", Cond.fieldLink RX8 97 "SkewPlanModel" "step" "I", Cond.fieldLink RX8 64 "SkewPlanModel" "soons" "[I", Cond.methodLink RX8 178 yX8_lateOf, Cond.instanceMethod yX8_lateOf, Cond.selects RX8 yX8_lateOf yX8_lateOf, Cond.code yX8_lateOf cX8_lateOf 3 (some .int), Cond.fieldLink RX8 7 "SkewPlanModel" "row" "[I", Cond.fieldLink RX8 91 "SkewPlanModel" "setup" "I", Cond.methodLink RX8 193 yX8_floor, Cond.static yX8_floor, Cond.code yX8_floor cX8_floor 2 (some .int), Cond.methodLink RX8 182 yX8_soonOf, Cond.instanceMethod yX8_soonOf, Cond.selects RX8 yX8_soonOf yX8_soonOf, Cond.code yX8_soonOf cX8_soonOf 2 (some .int), Cond.fieldLink RX8 94 "SkewPlanModel" "hold" "I", Cond.methodLink RX8 202 yX8_areThere]
def wsX8_isFeasible_r2 : List Cond := [Cond.instanceMethod yX8_areThere, Cond.selects RX8 yX8_areThere yX8_areThere, Cond.code yX8_areThere cX8_areThere 4 (some .boolean), Cond.fieldLink RX8 67 "SkewPlanModel" "shifts" "[I", Cond.fieldLink RX8 84 "SkewPlanModel" "registers" "I", Cond.fieldLink RX8 13 "SkewPlanModel" "from" "[I", Cond.fieldLink RX8 16 "SkewPlanModel" "to" "[I", Cond.methodLink RX8 196 yX8_makesLess, Cond.instanceMethod yX8_makesLess, Cond.selects RX8 yX8_makesLess yX8_makesLess, Cond.code yX8_makesLess cX8_makesLess 5 (some .boolean)]
def wsX8_isFeasible : List Cond := .code yX8_isFeasible cX8_isFeasible 3 (some .boolean) :: ((wsX8_isFeasible_r1 ++ wsX8_isFeasible_r2) ++ wsX80)
def wsX8_feasible_r1 : List Cond := [Cond.fieldLink RX8 7 "SkewPlanModel" "row" "[I", Cond.methodLink RX8 205 yX8_isFeasible, Cond.instanceMethod yX8_isFeasible, Cond.selects RX8 yX8_isFeasible yX8_isFeasible, Cond.initialized RX8, Cond.code yX8_isFeasible cX8_isFeasible 3 (some .boolean), Cond.methodLink RX8 199 yX8_layBounds, Cond.instanceMethod yX8_layBounds, Cond.selects RX8 yX8_layBounds yX8_layBounds, Cond.code yX8_layBounds cX8_layBounds 4 none, Cond.fieldLink RX8 88 "SkewPlanModel" "paths" "I", Cond.fieldLink RX8 61 "SkewPlanModel" "lates" "[I", Cond.fieldLink RX8 97 "SkewPlanModel" "step" "I", Cond.fieldLink RX8 64 "SkewPlanModel" "soons" "[I", Cond.methodLink RX8 178 yX8_lateOf, Cond.instanceMethod yX8_lateOf, Cond.selects RX8 yX8_lateOf yX8_lateOf, Cond.code yX8_lateOf cX8_lateOf 3 (some .int), Cond.fieldLink RX8 91 "SkewPlanModel" "setup" "I", Cond.methodLink RX8 193 yX8_floor, Cond.static yX8_floor, Cond.code yX8_floor cX8_floor 2 (some .int), Cond.methodLink RX8 182 yX8_soonOf, Cond.instanceMethod yX8_soonOf]
def wsX8_feasible_r2 : List Cond := [Cond.selects RX8 yX8_soonOf yX8_soonOf, Cond.code yX8_soonOf cX8_soonOf 2 (some .int), Cond.fieldLink RX8 94 "SkewPlanModel" "hold" "I", Cond.methodLink RX8 202 yX8_areThere, Cond.instanceMethod yX8_areThere, Cond.selects RX8 yX8_areThere yX8_areThere, Cond.code yX8_areThere cX8_areThere 4 (some .boolean), Cond.fieldLink RX8 67 "SkewPlanModel" "shifts" "[I", Cond.fieldLink RX8 84 "SkewPlanModel" "registers" "I", Cond.fieldLink RX8 13 "SkewPlanModel" "from" "[I", Cond.fieldLink RX8 16 "SkewPlanModel" "to" "[I", Cond.methodLink RX8 196 yX8_makesLess, Cond.instanceMethod yX8_makesLess, Cond.selects RX8 yX8_makesLess yX8_makesLess, Cond.code yX8_makesLess cX8_makesLess 5 (some .boolean)]
def wsX8_feasible : List Cond := .code yX8_feasible cX8_feasible 1 (some .int) :: ((wsX8_feasible_r1 ++ wsX8_feasible_r2) ++ wsX80)
def wsX8_shift_r1 : List Cond := [Cond.fieldLink RX8 7 "SkewPlanModel" "row" "[I", Cond.fieldLink RX8 67 "SkewPlanModel" "shifts" "[I", Cond.fieldLink RX8 97 "SkewPlanModel" "step" "I", Cond.methodLink RX8 209 yX8_isRegister, Cond.instanceMethod yX8_isRegister, Cond.selects RX8 yX8_isRegister yX8_isRegister, Cond.initialized RX8, Cond.code yX8_isRegister cX8_isRegister 2 (some .boolean), Cond.fieldLink RX8 84 "SkewPlanModel" "registers" "I", Cond.methodLink RX8 102 yX8_in, Cond.static yX8_in, Cond.code yX8_in cX8_in 6 (some .boolean), Cond.methodLink RX8 205 yX8_isFeasible, Cond.instanceMethod yX8_isFeasible, Cond.selects RX8 yX8_isFeasible yX8_isFeasible, Cond.code yX8_isFeasible cX8_isFeasible 3 (some .boolean), Cond.methodLink RX8 199 yX8_layBounds, Cond.instanceMethod yX8_layBounds, Cond.selects RX8 yX8_layBounds yX8_layBounds, Cond.code yX8_layBounds cX8_layBounds 4 none, Cond.fieldLink RX8 88 "SkewPlanModel" "paths" "I", Cond.fieldLink RX8 61 "SkewPlanModel" "lates" "[I", Cond.fieldLink RX8 64 "SkewPlanModel" "soons" "[I", Cond.methodLink RX8 178 yX8_lateOf]
def wsX8_shift_r2 : List Cond := [Cond.instanceMethod yX8_lateOf, Cond.selects RX8 yX8_lateOf yX8_lateOf, Cond.code yX8_lateOf cX8_lateOf 3 (some .int), Cond.fieldLink RX8 91 "SkewPlanModel" "setup" "I", Cond.methodLink RX8 193 yX8_floor, Cond.static yX8_floor, Cond.code yX8_floor cX8_floor 2 (some .int), Cond.methodLink RX8 182 yX8_soonOf, Cond.instanceMethod yX8_soonOf, Cond.selects RX8 yX8_soonOf yX8_soonOf, Cond.code yX8_soonOf cX8_soonOf 2 (some .int), Cond.fieldLink RX8 94 "SkewPlanModel" "hold" "I", Cond.methodLink RX8 202 yX8_areThere, Cond.instanceMethod yX8_areThere, Cond.selects RX8 yX8_areThere yX8_areThere, Cond.code yX8_areThere cX8_areThere 4 (some .boolean), Cond.fieldLink RX8 13 "SkewPlanModel" "from" "[I", Cond.fieldLink RX8 16 "SkewPlanModel" "to" "[I", Cond.methodLink RX8 196 yX8_makesLess, Cond.instanceMethod yX8_makesLess, Cond.selects RX8 yX8_makesLess yX8_makesLess, Cond.code yX8_makesLess cX8_makesLess 5 (some .boolean)]
def wsX8_shift : List Cond := .code yX8_shift cX8_shift 2 (some .int) :: ((wsX8_shift_r1 ++ wsX8_shift_r2) ++ wsX80)
def wsX8_leastOf_r1 : List Cond := [Cond.methodLink RX8 205 yX8_isFeasible, Cond.instanceMethod yX8_isFeasible, Cond.selects RX8 yX8_isFeasible yX8_isFeasible, Cond.initialized RX8, Cond.code yX8_isFeasible cX8_isFeasible 3 (some .boolean), Cond.methodLink RX8 199 yX8_layBounds, Cond.instanceMethod yX8_layBounds, Cond.selects RX8 yX8_layBounds yX8_layBounds, Cond.code yX8_layBounds cX8_layBounds 4 none, Cond.fieldLink RX8 88 "SkewPlanModel" "paths" "I", Cond.fieldLink RX8 61 "SkewPlanModel" "lates" "[I", Cond.fieldLink RX8 97 "SkewPlanModel" "step" "I", Cond.fieldLink RX8 64 "SkewPlanModel" "soons" "[I", Cond.methodLink RX8 178 yX8_lateOf, Cond.instanceMethod yX8_lateOf, Cond.selects RX8 yX8_lateOf yX8_lateOf, Cond.code yX8_lateOf cX8_lateOf 3 (some .int), Cond.fieldLink RX8 7 "SkewPlanModel" "row" "[I", Cond.fieldLink RX8 91 "SkewPlanModel" "setup" "I", Cond.methodLink RX8 193 yX8_floor, Cond.static yX8_floor, Cond.code yX8_floor cX8_floor 2 (some .int), Cond.methodLink RX8 182 yX8_soonOf, Cond.instanceMethod yX8_soonOf]
def wsX8_leastOf_r2 : List Cond := [Cond.selects RX8 yX8_soonOf yX8_soonOf, Cond.code yX8_soonOf cX8_soonOf 2 (some .int), Cond.fieldLink RX8 94 "SkewPlanModel" "hold" "I", Cond.methodLink RX8 202 yX8_areThere, Cond.instanceMethod yX8_areThere, Cond.selects RX8 yX8_areThere yX8_areThere, Cond.code yX8_areThere cX8_areThere 4 (some .boolean), Cond.fieldLink RX8 67 "SkewPlanModel" "shifts" "[I", Cond.fieldLink RX8 84 "SkewPlanModel" "registers" "I", Cond.fieldLink RX8 13 "SkewPlanModel" "from" "[I", Cond.fieldLink RX8 16 "SkewPlanModel" "to" "[I", Cond.methodLink RX8 196 yX8_makesLess, Cond.instanceMethod yX8_makesLess, Cond.selects RX8 yX8_makesLess yX8_makesLess, Cond.code yX8_makesLess cX8_makesLess 5 (some .boolean)]
def wsX8_leastOf : List Cond := .code yX8_leastOf cX8_leastOf 5 (some .int) :: ((wsX8_leastOf_r1 ++ wsX8_leastOf_r2) ++ wsX80)
def wsX8_least_r1 : List Cond := [Cond.methodLink RX8 212 yX8_leastOf, Cond.instanceMethod yX8_leastOf, Cond.selects RX8 yX8_leastOf yX8_leastOf, Cond.initialized RX8, Cond.code yX8_leastOf cX8_leastOf 5 (some .int), Cond.methodLink RX8 205 yX8_isFeasible, Cond.instanceMethod yX8_isFeasible, Cond.selects RX8 yX8_isFeasible yX8_isFeasible, Cond.code yX8_isFeasible cX8_isFeasible 3 (some .boolean), Cond.methodLink RX8 199 yX8_layBounds, Cond.instanceMethod yX8_layBounds, Cond.selects RX8 yX8_layBounds yX8_layBounds, Cond.code yX8_layBounds cX8_layBounds 4 none, Cond.fieldLink RX8 88 "SkewPlanModel" "paths" "I", Cond.fieldLink RX8 61 "SkewPlanModel" "lates" "[I", Cond.fieldLink RX8 97 "SkewPlanModel" "step" "I", Cond.fieldLink RX8 64 "SkewPlanModel" "soons" "[I", Cond.methodLink RX8 178 yX8_lateOf, Cond.instanceMethod yX8_lateOf, Cond.selects RX8 yX8_lateOf yX8_lateOf, Cond.code yX8_lateOf cX8_lateOf 3 (some .int), Cond.fieldLink RX8 7 "SkewPlanModel" "row" "[I", Cond.fieldLink RX8 91 "SkewPlanModel" "setup" "I", Cond.methodLink RX8 193 yX8_floor]
def wsX8_least_r2 : List Cond := [Cond.static yX8_floor, Cond.code yX8_floor cX8_floor 2 (some .int), Cond.methodLink RX8 182 yX8_soonOf, Cond.instanceMethod yX8_soonOf, Cond.selects RX8 yX8_soonOf yX8_soonOf, Cond.code yX8_soonOf cX8_soonOf 2 (some .int), Cond.fieldLink RX8 94 "SkewPlanModel" "hold" "I", Cond.methodLink RX8 202 yX8_areThere, Cond.instanceMethod yX8_areThere, Cond.selects RX8 yX8_areThere yX8_areThere, Cond.code yX8_areThere cX8_areThere 4 (some .boolean), Cond.fieldLink RX8 67 "SkewPlanModel" "shifts" "[I", Cond.fieldLink RX8 84 "SkewPlanModel" "registers" "I", Cond.fieldLink RX8 13 "SkewPlanModel" "from" "[I", Cond.fieldLink RX8 16 "SkewPlanModel" "to" "[I", Cond.methodLink RX8 196 yX8_makesLess, Cond.instanceMethod yX8_makesLess, Cond.selects RX8 yX8_makesLess yX8_makesLess, Cond.code yX8_makesLess cX8_makesLess 5 (some .boolean)]
def wsX8_least : List Cond := .code yX8_least cX8_least 1 (some .int) :: ((wsX8_least_r1 ++ wsX8_least_r2) ++ wsX80)
def wsX8_isFeasibleBy : List Cond := .code yX8_isFeasibleBy cX8_isFeasibleBy 4 (some .boolean) :: ([.fieldLink RX8 88 "SkewPlanModel" "paths" "I", .fieldLink RX8 61 "SkewPlanModel" "lates" "[I", .fieldLink RX8 7 "SkewPlanModel" "row" "[I", .fieldLink RX8 91 "SkewPlanModel" "setup" "I", .fieldLink RX8 64 "SkewPlanModel" "soons" "[I", .methodLink RX8 182 yX8_soonOf, .instanceMethod yX8_soonOf, .selects RX8 yX8_soonOf yX8_soonOf, .initialized RX8, .code yX8_soonOf cX8_soonOf 2 (some .int), .fieldLink RX8 94 "SkewPlanModel" "hold" "I", .methodLink RX8 202 yX8_areThere, .instanceMethod yX8_areThere, .selects RX8 yX8_areThere yX8_areThere, .code yX8_areThere cX8_areThere 4 (some .boolean), .fieldLink RX8 67 "SkewPlanModel" "shifts" "[I", .fieldLink RX8 84 "SkewPlanModel" "registers" "I", .fieldLink RX8 13 "SkewPlanModel" "from" "[I", .fieldLink RX8 16 "SkewPlanModel" "to" "[I", .methodLink RX8 196 yX8_makesLess, .instanceMethod yX8_makesLess, .selects RX8 yX8_makesLess yX8_makesLess, .code yX8_makesLess cX8_makesLess 5 (some .boolean)] ++ wsX80)
def wsX8_rate_r1 : List Cond := [Cond.fieldLink RX8 84 "SkewPlanModel" "registers" "I", Cond.methodLink RX8 102 yX8_in, Cond.static yX8_in, Cond.initialized RX8, Cond.code yX8_in cX8_in 6 (some .boolean), Cond.methodLink RX8 215 yX8_isFeasibleBy, Cond.instanceMethod yX8_isFeasibleBy, Cond.selects RX8 yX8_isFeasibleBy yX8_isFeasibleBy, Cond.code yX8_isFeasibleBy cX8_isFeasibleBy 4 (some .boolean), Cond.fieldLink RX8 88 "SkewPlanModel" "paths" "I", Cond.fieldLink RX8 61 "SkewPlanModel" "lates" "[I", Cond.fieldLink RX8 7 "SkewPlanModel" "row" "[I", Cond.fieldLink RX8 91 "SkewPlanModel" "setup" "I", Cond.fieldLink RX8 64 "SkewPlanModel" "soons" "[I", Cond.methodLink RX8 182 yX8_soonOf, Cond.instanceMethod yX8_soonOf, Cond.selects RX8 yX8_soonOf yX8_soonOf, Cond.code yX8_soonOf cX8_soonOf 2 (some .int), Cond.fieldLink RX8 94 "SkewPlanModel" "hold" "I", Cond.methodLink RX8 202 yX8_areThere, Cond.instanceMethod yX8_areThere, Cond.selects RX8 yX8_areThere yX8_areThere, Cond.code yX8_areThere cX8_areThere 4 (some .boolean), Cond.fieldLink RX8 67 "SkewPlanModel" "shifts" "[I"]
def wsX8_rate_r2 : List Cond := [Cond.fieldLink RX8 13 "SkewPlanModel" "from" "[I", Cond.fieldLink RX8 16 "SkewPlanModel" "to" "[I", Cond.methodLink RX8 196 yX8_makesLess, Cond.instanceMethod yX8_makesLess, Cond.selects RX8 yX8_makesLess yX8_makesLess, Cond.code yX8_makesLess cX8_makesLess 5 (some .boolean)]
def wsX8_rate : List Cond := .code yX8_rate cX8_rate 9 (some .int) :: ((wsX8_rate_r1 ++ wsX8_rate_r2) ++ wsX80)
def wsX8_margin_r1 : List Cond := [Cond.fieldLink RX8 7 "SkewPlanModel" "row" "[I", Cond.methodLink RX8 205 yX8_isFeasible, Cond.instanceMethod yX8_isFeasible, Cond.selects RX8 yX8_isFeasible yX8_isFeasible, Cond.initialized RX8, Cond.code yX8_isFeasible cX8_isFeasible 3 (some .boolean), Cond.methodLink RX8 199 yX8_layBounds, Cond.instanceMethod yX8_layBounds, Cond.selects RX8 yX8_layBounds yX8_layBounds, Cond.code yX8_layBounds cX8_layBounds 4 none, Cond.fieldLink RX8 88 "SkewPlanModel" "paths" "I", Cond.fieldLink RX8 61 "SkewPlanModel" "lates" "[I", Cond.fieldLink RX8 97 "SkewPlanModel" "step" "I", Cond.fieldLink RX8 64 "SkewPlanModel" "soons" "[I", Cond.methodLink RX8 178 yX8_lateOf, Cond.instanceMethod yX8_lateOf, Cond.selects RX8 yX8_lateOf yX8_lateOf, Cond.code yX8_lateOf cX8_lateOf 3 (some .int), Cond.fieldLink RX8 91 "SkewPlanModel" "setup" "I", Cond.methodLink RX8 193 yX8_floor, Cond.static yX8_floor, Cond.code yX8_floor cX8_floor 2 (some .int), Cond.methodLink RX8 182 yX8_soonOf, Cond.instanceMethod yX8_soonOf]
def wsX8_margin_r2 : List Cond := [Cond.selects RX8 yX8_soonOf yX8_soonOf, Cond.code yX8_soonOf cX8_soonOf 2 (some .int), Cond.fieldLink RX8 94 "SkewPlanModel" "hold" "I", Cond.methodLink RX8 202 yX8_areThere, Cond.instanceMethod yX8_areThere, Cond.selects RX8 yX8_areThere yX8_areThere, Cond.code yX8_areThere cX8_areThere 4 (some .boolean), Cond.fieldLink RX8 67 "SkewPlanModel" "shifts" "[I", Cond.fieldLink RX8 84 "SkewPlanModel" "registers" "I", Cond.fieldLink RX8 13 "SkewPlanModel" "from" "[I", Cond.fieldLink RX8 16 "SkewPlanModel" "to" "[I", Cond.methodLink RX8 196 yX8_makesLess, Cond.instanceMethod yX8_makesLess, Cond.selects RX8 yX8_makesLess yX8_makesLess, Cond.code yX8_makesLess cX8_makesLess 5 (some .boolean)]
def wsX8_margin : List Cond := .code yX8_margin cX8_margin 5 (some .int) :: ((wsX8_margin_r1 ++ wsX8_margin_r2) ++ wsX80)
def wsX8_spare_r1 : List Cond := [Cond.fieldLink RX8 7 "SkewPlanModel" "row" "[I", Cond.fieldLink RX8 67 "SkewPlanModel" "shifts" "[I", Cond.fieldLink RX8 13 "SkewPlanModel" "from" "[I", Cond.fieldLink RX8 16 "SkewPlanModel" "to" "[I", Cond.fieldLink RX8 97 "SkewPlanModel" "step" "I", Cond.methodLink RX8 175 yX8_isPath, Cond.instanceMethod yX8_isPath, Cond.selects RX8 yX8_isPath yX8_isPath, Cond.initialized RX8, Cond.code yX8_isPath cX8_isPath 2 (some .boolean), Cond.fieldLink RX8 88 "SkewPlanModel" "paths" "I", Cond.methodLink RX8 102 yX8_in, Cond.static yX8_in, Cond.code yX8_in cX8_in 6 (some .boolean), Cond.methodLink RX8 205 yX8_isFeasible, Cond.instanceMethod yX8_isFeasible, Cond.selects RX8 yX8_isFeasible yX8_isFeasible, Cond.code yX8_isFeasible cX8_isFeasible 3 (some .boolean), Cond.methodLink RX8 199 yX8_layBounds, Cond.instanceMethod yX8_layBounds, Cond.selects RX8 yX8_layBounds yX8_layBounds, Cond.code yX8_layBounds cX8_layBounds 4 none, Cond.fieldLink RX8 61 "SkewPlanModel" "lates" "[I", Cond.fieldLink RX8 64 "SkewPlanModel" "soons" "[I"]
def wsX8_spare_r2 : List Cond := [Cond.methodLink RX8 178 yX8_lateOf, Cond.instanceMethod yX8_lateOf, Cond.selects RX8 yX8_lateOf yX8_lateOf, Cond.code yX8_lateOf cX8_lateOf 3 (some .int), Cond.fieldLink RX8 91 "SkewPlanModel" "setup" "I", Cond.methodLink RX8 193 yX8_floor, Cond.static yX8_floor, Cond.code yX8_floor cX8_floor 2 (some .int), Cond.methodLink RX8 182 yX8_soonOf, Cond.instanceMethod yX8_soonOf, Cond.selects RX8 yX8_soonOf yX8_soonOf, Cond.code yX8_soonOf cX8_soonOf 2 (some .int), Cond.fieldLink RX8 94 "SkewPlanModel" "hold" "I", Cond.methodLink RX8 202 yX8_areThere, Cond.instanceMethod yX8_areThere, Cond.selects RX8 yX8_areThere yX8_areThere, Cond.code yX8_areThere cX8_areThere 4 (some .boolean), Cond.fieldLink RX8 84 "SkewPlanModel" "registers" "I", Cond.methodLink RX8 196 yX8_makesLess, Cond.instanceMethod yX8_makesLess, Cond.selects RX8 yX8_makesLess yX8_makesLess, Cond.code yX8_makesLess cX8_makesLess 5 (some .boolean)]
def wsX8_spare : List Cond := .code yX8_spare cX8_spare 4 (some .int) :: ((wsX8_spare_r1 ++ wsX8_spare_r2) ++ wsX80)
def wsX8_layLeast_r1 : List Cond := [Cond.fieldLink RX8 7 "SkewPlanModel" "row" "[I", Cond.fieldLink RX8 70 "SkewPlanModel" "bounds" "[I", Cond.constant RX8 218 (99999), Cond.fieldLink RX8 88 "SkewPlanModel" "paths" "I", Cond.fieldLink RX8 13 "SkewPlanModel" "from" "[I", Cond.fieldLink RX8 16 "SkewPlanModel" "to" "[I", Cond.fieldLink RX8 61 "SkewPlanModel" "lates" "[I", Cond.fieldLink RX8 64 "SkewPlanModel" "soons" "[I", Cond.methodLink RX8 199 yX8_layBounds, Cond.instanceMethod yX8_layBounds, Cond.selects RX8 yX8_layBounds yX8_layBounds, Cond.initialized RX8, Cond.code yX8_layBounds cX8_layBounds 4 none, Cond.fieldLink RX8 97 "SkewPlanModel" "step" "I", Cond.methodLink RX8 178 yX8_lateOf, Cond.instanceMethod yX8_lateOf, Cond.selects RX8 yX8_lateOf yX8_lateOf, Cond.code yX8_lateOf cX8_lateOf 3 (some .int), Cond.fieldLink RX8 91 "SkewPlanModel" "setup" "I", Cond.methodLink RX8 193 yX8_floor, Cond.static yX8_floor, Cond.code yX8_floor cX8_floor 2 (some .int), Cond.methodLink RX8 182 yX8_soonOf, Cond.instanceMethod yX8_soonOf]
def wsX8_layLeast_r2 : List Cond := [Cond.selects RX8 yX8_soonOf yX8_soonOf, Cond.code yX8_soonOf cX8_soonOf 2 (some .int), Cond.fieldLink RX8 94 "SkewPlanModel" "hold" "I"]
def wsX8_layLeast : List Cond := .code yX8_layLeast cX8_layLeast 4 none :: ((wsX8_layLeast_r1 ++ wsX8_layLeast_r2) ++ wsX80)
def wsX8_isInRing : List Cond := .code yX8_isInRing cX8_isInRing 4 (some .boolean) :: ([.fieldLink RX8 219 "SkewPlanModel" "ringMany" "I", .fieldLink RX8 73 "SkewPlanModel" "ring" "[I"] ++ wsX80)
def wsX8_isBelow : List Cond := .code yX8_isBelow cX8_isBelow 3 (some .boolean) :: ([.fieldLink RX8 219 "SkewPlanModel" "ringMany" "I", .fieldLink RX8 70 "SkewPlanModel" "bounds" "[I", .fieldLink RX8 73 "SkewPlanModel" "ring" "[I"] ++ wsX80)
def wsX8_nextFrom : List Cond := .code yX8_nextFrom cX8_nextFrom 3 (some .int) :: ([.fieldLink RX8 84 "SkewPlanModel" "registers" "I", .fieldLink RX8 73 "SkewPlanModel" "ring" "[I", .methodLink RX8 222 yX8_isInRing, .instanceMethod yX8_isInRing, .selects RX8 yX8_isInRing yX8_isInRing, .initialized RX8, .code yX8_isInRing cX8_isInRing 4 (some .boolean), .fieldLink RX8 219 "SkewPlanModel" "ringMany" "I"] ++ wsX80)
def wsX8_goOn : List Cond := .code yX8_goOn cX8_goOn 2 none :: ([.fieldLink RX8 219 "SkewPlanModel" "ringMany" "I", .fieldLink RX8 73 "SkewPlanModel" "ring" "[I", .fieldLink RX8 84 "SkewPlanModel" "registers" "I", .methodLink RX8 225 yX8_nextFrom, .instanceMethod yX8_nextFrom, .selects RX8 yX8_nextFrom yX8_nextFrom, .initialized RX8, .code yX8_nextFrom cX8_nextFrom 3 (some .int), .methodLink RX8 222 yX8_isInRing, .instanceMethod yX8_isInRing, .selects RX8 yX8_isInRing yX8_isInRing, .code yX8_isInRing cX8_isInRing 4 (some .boolean)] ++ wsX80)
def wsX8_cycle_r1 : List Cond := [Cond.fieldLink RX8 7 "SkewPlanModel" "row" "[I", Cond.fieldLink RX8 73 "SkewPlanModel" "ring" "[I", Cond.fieldLink RX8 219 "SkewPlanModel" "ringMany" "I", Cond.methodLink RX8 205 yX8_isFeasible, Cond.instanceMethod yX8_isFeasible, Cond.selects RX8 yX8_isFeasible yX8_isFeasible, Cond.initialized RX8, Cond.code yX8_isFeasible cX8_isFeasible 3 (some .boolean), Cond.methodLink RX8 199 yX8_layBounds, Cond.instanceMethod yX8_layBounds, Cond.selects RX8 yX8_layBounds yX8_layBounds, Cond.code yX8_layBounds cX8_layBounds 4 none, Cond.fieldLink RX8 88 "SkewPlanModel" "paths" "I", Cond.fieldLink RX8 61 "SkewPlanModel" "lates" "[I", Cond.fieldLink RX8 97 "SkewPlanModel" "step" "I", Cond.fieldLink RX8 64 "SkewPlanModel" "soons" "[I", Cond.methodLink RX8 178 yX8_lateOf, Cond.instanceMethod yX8_lateOf, Cond.selects RX8 yX8_lateOf yX8_lateOf, Cond.code yX8_lateOf cX8_lateOf 3 (some .int), Cond.fieldLink RX8 91 "SkewPlanModel" "setup" "I", Cond.methodLink RX8 193 yX8_floor, Cond.static yX8_floor, Cond.code yX8_floor cX8_floor 2 (some .int)]
def wsX8_cycle_r2 : List Cond := [Cond.methodLink RX8 182 yX8_soonOf, Cond.instanceMethod yX8_soonOf, Cond.selects RX8 yX8_soonOf yX8_soonOf, Cond.code yX8_soonOf cX8_soonOf 2 (some .int), Cond.fieldLink RX8 94 "SkewPlanModel" "hold" "I", Cond.methodLink RX8 202 yX8_areThere, Cond.instanceMethod yX8_areThere, Cond.selects RX8 yX8_areThere yX8_areThere, Cond.code yX8_areThere cX8_areThere 4 (some .boolean), Cond.fieldLink RX8 67 "SkewPlanModel" "shifts" "[I", Cond.fieldLink RX8 84 "SkewPlanModel" "registers" "I", Cond.fieldLink RX8 13 "SkewPlanModel" "from" "[I", Cond.fieldLink RX8 16 "SkewPlanModel" "to" "[I", Cond.methodLink RX8 196 yX8_makesLess, Cond.instanceMethod yX8_makesLess, Cond.selects RX8 yX8_makesLess yX8_makesLess, Cond.code yX8_makesLess cX8_makesLess 5 (some .boolean), Cond.methodLink RX8 228 yX8_layLeast, Cond.instanceMethod yX8_layLeast, Cond.selects RX8 yX8_layLeast yX8_layLeast, Cond.code yX8_layLeast cX8_layLeast 4 none, Cond.fieldLink RX8 70 "SkewPlanModel" "bounds" "[I", Cond.constant RX8 218 (99999), Cond.methodLink RX8 231 yX8_isBelow]
def wsX8_cycle_r3 : List Cond := [Cond.instanceMethod yX8_isBelow, Cond.selects RX8 yX8_isBelow yX8_isBelow, Cond.code yX8_isBelow cX8_isBelow 3 (some .boolean), Cond.methodLink RX8 234 yX8_goOn, Cond.instanceMethod yX8_goOn, Cond.selects RX8 yX8_goOn yX8_goOn, Cond.code yX8_goOn cX8_goOn 2 none, Cond.methodLink RX8 225 yX8_nextFrom, Cond.instanceMethod yX8_nextFrom, Cond.selects RX8 yX8_nextFrom yX8_nextFrom, Cond.code yX8_nextFrom cX8_nextFrom 3 (some .int), Cond.methodLink RX8 222 yX8_isInRing, Cond.instanceMethod yX8_isInRing, Cond.selects RX8 yX8_isInRing yX8_isInRing, Cond.code yX8_isInRing cX8_isInRing 4 (some .boolean)]
def wsX8_cycle : List Cond := .code yX8_cycle cX8_cycle 2 (some .int) :: ((wsX8_cycle_r1 ++ (wsX8_cycle_r2 ++ wsX8_cycle_r3)) ++ wsX80)
def wsX8_buffer_r1 : List Cond := [Cond.constantLong RX8 191 (20), Cond.constant RX8 218 (99999), Cond.fieldLink RX8 88 "SkewPlanModel" "paths" "I", Cond.fieldLink RX8 7 "SkewPlanModel" "row" "[I", Cond.methodLink RX8 102 yX8_in, Cond.static yX8_in, Cond.initialized RX8, Cond.code yX8_in cX8_in 6 (some .boolean), Cond.methodLink RX8 212 yX8_leastOf, Cond.instanceMethod yX8_leastOf, Cond.selects RX8 yX8_leastOf yX8_leastOf, Cond.code yX8_leastOf cX8_leastOf 5 (some .int), Cond.methodLink RX8 205 yX8_isFeasible, Cond.instanceMethod yX8_isFeasible, Cond.selects RX8 yX8_isFeasible yX8_isFeasible, Cond.code yX8_isFeasible cX8_isFeasible 3 (some .boolean), Cond.methodLink RX8 199 yX8_layBounds, Cond.instanceMethod yX8_layBounds, Cond.selects RX8 yX8_layBounds yX8_layBounds, Cond.code yX8_layBounds cX8_layBounds 4 none, Cond.fieldLink RX8 61 "SkewPlanModel" "lates" "[I", Cond.fieldLink RX8 97 "SkewPlanModel" "step" "I", Cond.fieldLink RX8 64 "SkewPlanModel" "soons" "[I", Cond.methodLink RX8 178 yX8_lateOf]
def wsX8_buffer_r2 : List Cond := [Cond.instanceMethod yX8_lateOf, Cond.selects RX8 yX8_lateOf yX8_lateOf, Cond.code yX8_lateOf cX8_lateOf 3 (some .int), Cond.fieldLink RX8 91 "SkewPlanModel" "setup" "I", Cond.methodLink RX8 193 yX8_floor, Cond.static yX8_floor, Cond.code yX8_floor cX8_floor 2 (some .int), Cond.methodLink RX8 182 yX8_soonOf, Cond.instanceMethod yX8_soonOf, Cond.selects RX8 yX8_soonOf yX8_soonOf, Cond.code yX8_soonOf cX8_soonOf 2 (some .int), Cond.fieldLink RX8 94 "SkewPlanModel" "hold" "I", Cond.methodLink RX8 202 yX8_areThere, Cond.instanceMethod yX8_areThere, Cond.selects RX8 yX8_areThere yX8_areThere, Cond.code yX8_areThere cX8_areThere 4 (some .boolean), Cond.fieldLink RX8 67 "SkewPlanModel" "shifts" "[I", Cond.fieldLink RX8 84 "SkewPlanModel" "registers" "I", Cond.fieldLink RX8 13 "SkewPlanModel" "from" "[I", Cond.fieldLink RX8 16 "SkewPlanModel" "to" "[I", Cond.methodLink RX8 196 yX8_makesLess, Cond.instanceMethod yX8_makesLess, Cond.selects RX8 yX8_makesLess yX8_makesLess, Cond.code yX8_makesLess cX8_makesLess 5 (some .boolean)]
def wsX8_buffer : List Cond := .code yX8_buffer cX8_buffer 8 (some .int) :: ((wsX8_buffer_r1 ++ wsX8_buffer_r2) ++ wsX80)
def wsX8_isTrace : List Cond := .code yX8_isTrace cX8_isTrace 1 (some .boolean) :: ([.constantLong RX8 237 (2), .methodLink RX8 102 yX8_in, .static yX8_in, .initialized RX8, .code yX8_in cX8_in 6 (some .boolean)])
def wsX8_trace : List Cond := .code yX8_trace cX8_trace 5 (some .int) :: ([.fieldLink RX8 26 "SkewPlanModel" "sorts" "[I", .fieldLink RX8 29 "SkewPlanModel" "sizes" "[I", .fieldLink RX8 32 "SkewPlanModel" "floats" "[F", .fieldLink RX8 36 "SkewPlanModel" "doubles" "[D", .methodLink RX8 239 yX8_isTrace, .static yX8_isTrace, .initialized RX8, .code yX8_isTrace cX8_isTrace 1 (some .boolean), .constantLong RX8 237 (2), .methodLink RX8 102 yX8_in, .static yX8_in, .code yX8_in cX8_in 6 (some .boolean)] ++ wsX80)
def wsX8_cut : List Cond := .code yX8_cut cX8_cut 2 (some .int) :: ([.constant RX8 242 (2000000), .constantDouble RX8 243 (4696837146684686336), .constant RX8 245 (3000000), .constantDouble RX8 246 (13920209183539462144), .constant RX8 248 (1000000)])
def wsX8_thousand : List Cond := .code yX8_thousand cX8_thousand 3 (some .int) :: ([.fieldLink RX8 26 "SkewPlanModel" "sorts" "[I", .constantFloat RX8 249 (1148846080), .fieldLink RX8 32 "SkewPlanModel" "floats" "[F", .constantDouble RX8 254 (4652007308841189376), .fieldLink RX8 36 "SkewPlanModel" "doubles" "[D", .methodLink RX8 250 yX8_cut, .static yX8_cut, .initialized RX8, .code yX8_cut cX8_cut 2 (some .int), .constant RX8 242 (2000000), .constantDouble RX8 243 (4696837146684686336), .constant RX8 245 (3000000), .constantDouble RX8 246 (13920209183539462144), .constant RX8 248 (1000000)] ++ wsX80)
def wsX8_noPlace : List Cond := .code yX8_noPlace cX8_noPlace 5 (some .int) :: ([.fieldLink RX8 29 "SkewPlanModel" "sizes" "[I", .fieldLink RX8 26 "SkewPlanModel" "sorts" "[I", .methodLink RX8 102 yX8_in, .static yX8_in, .initialized RX8, .code yX8_in cX8_in 6 (some .boolean)] ++ wsX80)
def wsX8_set_r1 : List Cond := [Cond.constantLong RX8 256 (-9999), Cond.constantLong RX8 258 (9999), Cond.fieldLink RX8 32 "SkewPlanModel" "floats" "[F", Cond.fieldLink RX8 36 "SkewPlanModel" "doubles" "[D", Cond.methodLink RX8 239 yX8_isTrace, Cond.static yX8_isTrace, Cond.initialized RX8, Cond.code yX8_isTrace cX8_isTrace 1 (some .boolean), Cond.constantLong RX8 237 (2), Cond.methodLink RX8 102 yX8_in, Cond.static yX8_in, Cond.code yX8_in cX8_in 6 (some .boolean), Cond.methodLink RX8 260 yX8_noPlace, Cond.instanceMethod yX8_noPlace, Cond.selects RX8 yX8_noPlace yX8_noPlace, Cond.code yX8_noPlace cX8_noPlace 5 (some .int), Cond.fieldLink RX8 29 "SkewPlanModel" "sizes" "[I", Cond.fieldLink RX8 26 "SkewPlanModel" "sorts" "[I", Cond.methodLink RX8 264 yX8_thousand, Cond.instanceMethod yX8_thousand, Cond.selects RX8 yX8_thousand yX8_thousand, Cond.code yX8_thousand cX8_thousand 3 (some .int), Cond.constantFloat RX8 249 (1148846080), Cond.constantDouble RX8 254 (4652007308841189376)]
def wsX8_set_r2 : List Cond := [Cond.methodLink RX8 250 yX8_cut, Cond.static yX8_cut, Cond.code yX8_cut cX8_cut 2 (some .int), Cond.constant RX8 242 (2000000), Cond.constantDouble RX8 243 (4696837146684686336), Cond.constant RX8 245 (3000000), Cond.constantDouble RX8 246 (13920209183539462144), Cond.constant RX8 248 (1000000)]
def wsX8_set : List Cond := .code yX8_set cX8_set 7 (some .int) :: ((wsX8_set_r1 ++ wsX8_set_r2) ++ wsX80)
def wsX8_get_r1 : List Cond := [Cond.methodLink RX8 239 yX8_isTrace, Cond.static yX8_isTrace, Cond.initialized RX8, Cond.code yX8_isTrace cX8_isTrace 1 (some .boolean), Cond.constantLong RX8 237 (2), Cond.methodLink RX8 102 yX8_in, Cond.static yX8_in, Cond.code yX8_in cX8_in 6 (some .boolean), Cond.methodLink RX8 260 yX8_noPlace, Cond.instanceMethod yX8_noPlace, Cond.selects RX8 yX8_noPlace yX8_noPlace, Cond.code yX8_noPlace cX8_noPlace 5 (some .int), Cond.fieldLink RX8 29 "SkewPlanModel" "sizes" "[I", Cond.fieldLink RX8 26 "SkewPlanModel" "sorts" "[I", Cond.methodLink RX8 264 yX8_thousand, Cond.instanceMethod yX8_thousand, Cond.selects RX8 yX8_thousand yX8_thousand, Cond.code yX8_thousand cX8_thousand 3 (some .int), Cond.constantFloat RX8 249 (1148846080), Cond.fieldLink RX8 32 "SkewPlanModel" "floats" "[F", Cond.constantDouble RX8 254 (4652007308841189376), Cond.fieldLink RX8 36 "SkewPlanModel" "doubles" "[D", Cond.methodLink RX8 250 yX8_cut, Cond.static yX8_cut]
def wsX8_get_r2 : List Cond := [Cond.code yX8_cut cX8_cut 2 (some .int), Cond.constant RX8 242 (2000000), Cond.constantDouble RX8 243 (4696837146684686336), Cond.constant RX8 245 (3000000), Cond.constantDouble RX8 246 (13920209183539462144), Cond.constant RX8 248 (1000000)]
def wsX8_get : List Cond := .code yX8_get cX8_get 5 (some .int) :: ((wsX8_get_r1 ++ wsX8_get_r2) ++ wsX80)
def wsX8_rest_r1 : List Cond := [Cond.fieldLink RX8 32 "SkewPlanModel" "floats" "[F", Cond.fieldLink RX8 36 "SkewPlanModel" "doubles" "[D", Cond.methodLink RX8 239 yX8_isTrace, Cond.static yX8_isTrace, Cond.initialized RX8, Cond.code yX8_isTrace cX8_isTrace 1 (some .boolean), Cond.constantLong RX8 237 (2), Cond.methodLink RX8 102 yX8_in, Cond.static yX8_in, Cond.code yX8_in cX8_in 6 (some .boolean), Cond.methodLink RX8 260 yX8_noPlace, Cond.instanceMethod yX8_noPlace, Cond.selects RX8 yX8_noPlace yX8_noPlace, Cond.code yX8_noPlace cX8_noPlace 5 (some .int), Cond.fieldLink RX8 29 "SkewPlanModel" "sizes" "[I", Cond.fieldLink RX8 26 "SkewPlanModel" "sorts" "[I", Cond.methodLink RX8 264 yX8_thousand, Cond.instanceMethod yX8_thousand, Cond.selects RX8 yX8_thousand yX8_thousand, Cond.code yX8_thousand cX8_thousand 3 (some .int), Cond.constantFloat RX8 249 (1148846080), Cond.constantDouble RX8 254 (4652007308841189376), Cond.methodLink RX8 250 yX8_cut, Cond.static yX8_cut]
def wsX8_rest_r2 : List Cond := [Cond.code yX8_cut cX8_cut 2 (some .int), Cond.constant RX8 242 (2000000), Cond.constantDouble RX8 243 (4696837146684686336), Cond.constant RX8 245 (3000000), Cond.constantDouble RX8 246 (13920209183539462144), Cond.constant RX8 248 (1000000)]
def wsX8_rest : List Cond := .code yX8_rest cX8_rest 6 (some .int) :: ((wsX8_rest_r1 ++ wsX8_rest_r2) ++ wsX80)
def wsX8_valueOf : List Cond := .code yX8_valueOf cX8_valueOf 3 (some .double) :: ([.fieldLink RX8 26 "SkewPlanModel" "sorts" "[I", .fieldLink RX8 32 "SkewPlanModel" "floats" "[F", .fieldLink RX8 36 "SkewPlanModel" "doubles" "[D"] ++ wsX80)
def wsX8_compare : List Cond := .code yX8_compare cX8_compare 10 (some .int) :: ([.methodLink RX8 239 yX8_isTrace, .static yX8_isTrace, .initialized RX8, .code yX8_isTrace cX8_isTrace 1 (some .boolean), .constantLong RX8 237 (2), .methodLink RX8 102 yX8_in, .static yX8_in, .code yX8_in cX8_in 6 (some .boolean), .methodLink RX8 260 yX8_noPlace, .instanceMethod yX8_noPlace, .selects RX8 yX8_noPlace yX8_noPlace, .code yX8_noPlace cX8_noPlace 5 (some .int), .fieldLink RX8 29 "SkewPlanModel" "sizes" "[I", .fieldLink RX8 26 "SkewPlanModel" "sorts" "[I", .methodLink RX8 267 yX8_valueOf, .instanceMethod yX8_valueOf, .selects RX8 yX8_valueOf yX8_valueOf, .code yX8_valueOf cX8_valueOf 3 (some .double), .fieldLink RX8 32 "SkewPlanModel" "floats" "[F", .fieldLink RX8 36 "SkewPlanModel" "doubles" "[D"] ++ wsX80)
def wsX8_sum_r1 : List Cond := [Cond.fieldLink RX8 29 "SkewPlanModel" "sizes" "[I", Cond.constantDouble RX8 254 (4652007308841189376), Cond.methodLink RX8 239 yX8_isTrace, Cond.static yX8_isTrace, Cond.initialized RX8, Cond.code yX8_isTrace cX8_isTrace 1 (some .boolean), Cond.constantLong RX8 237 (2), Cond.methodLink RX8 102 yX8_in, Cond.static yX8_in, Cond.code yX8_in cX8_in 6 (some .boolean), Cond.methodLink RX8 267 yX8_valueOf, Cond.instanceMethod yX8_valueOf, Cond.selects RX8 yX8_valueOf yX8_valueOf, Cond.code yX8_valueOf cX8_valueOf 3 (some .double), Cond.fieldLink RX8 26 "SkewPlanModel" "sorts" "[I", Cond.fieldLink RX8 32 "SkewPlanModel" "floats" "[F", Cond.fieldLink RX8 36 "SkewPlanModel" "doubles" "[D", Cond.methodLink RX8 250 yX8_cut, Cond.static yX8_cut, Cond.code yX8_cut cX8_cut 2 (some .int), Cond.constant RX8 242 (2000000), Cond.constantDouble RX8 243 (4696837146684686336), Cond.constant RX8 245 (3000000), Cond.constantDouble RX8 246 (13920209183539462144)]
def wsX8_sum_r2 : List Cond := [Cond.constant RX8 248 (1000000)]
def wsX8_sum : List Cond := .code yX8_sum cX8_sum 9 (some .int) :: ((wsX8_sum_r1 ++ wsX8_sum_r2) ++ wsX80)
def wsX8_drop : List Cond := .code yX8_drop cX8_drop 3 (some .int) :: ([.fieldLink RX8 29 "SkewPlanModel" "sizes" "[I", .methodLink RX8 239 yX8_isTrace, .static yX8_isTrace, .initialized RX8, .code yX8_isTrace cX8_isTrace 1 (some .boolean), .constantLong RX8 237 (2), .methodLink RX8 102 yX8_in, .static yX8_in, .code yX8_in cX8_in 6 (some .boolean)] ++ wsX80)
def wsX8_allPlaces : List Cond := .code yX8_allPlaces cX8_allPlaces 3 (some .int) :: ([.fieldLink RX8 29 "SkewPlanModel" "sizes" "[I"] ++ wsX80)
def wsX8_tooSoon : List Cond := .code yX8_tooSoon cX8_tooSoon 3 (some .int) :: ([.fieldLink RX8 88 "SkewPlanModel" "paths" "I", .methodLink RX8 182 yX8_soonOf, .instanceMethod yX8_soonOf, .selects RX8 yX8_soonOf yX8_soonOf, .initialized RX8, .code yX8_soonOf cX8_soonOf 2 (some .int), .fieldLink RX8 7 "SkewPlanModel" "row" "[I", .fieldLink RX8 94 "SkewPlanModel" "hold" "I"] ++ wsX80)
def wsX8_count : List Cond := .code yX8_count cX8_count 2 (some .int) :: ([.fieldLink RX8 84 "SkewPlanModel" "registers" "I", .fieldLink RX8 88 "SkewPlanModel" "paths" "I", .fieldLink RX8 91 "SkewPlanModel" "setup" "I", .fieldLink RX8 94 "SkewPlanModel" "hold" "I", .fieldLink RX8 97 "SkewPlanModel" "step" "I", .fieldLink RX8 7 "SkewPlanModel" "row" "[I", .fieldLink RX8 172 "SkewPlanModel" "undos" "I", .fieldLink RX8 106 "SkewPlanModel" "length" "I", .methodLink RX8 271 yX8_allPlaces, .instanceMethod yX8_allPlaces, .selects RX8 yX8_allPlaces yX8_allPlaces, .initialized RX8, .code yX8_allPlaces cX8_allPlaces 3 (some .int), .fieldLink RX8 29 "SkewPlanModel" "sizes" "[I", .methodLink RX8 274 yX8_tooSoon, .instanceMethod yX8_tooSoon, .selects RX8 yX8_tooSoon yX8_tooSoon, .code yX8_tooSoon cX8_tooSoon 3 (some .int), .methodLink RX8 182 yX8_soonOf, .instanceMethod yX8_soonOf, .selects RX8 yX8_soonOf yX8_soonOf, .code yX8_soonOf cX8_soonOf 2 (some .int)] ++ wsX80)
def wsJ9_min_7cf53 : List Cond := .code yJ9_min_7cf53 cJ9_min_7cf53 2 (some .int) :: ([])
def wsL_law_r1 : List Cond := [Cond.classLink RL 7 RX7, Cond.instantiable RX7 9, Cond.initialized RX7, Cond.classLink RL 10 RX8, Cond.instantiable RX8 35, Cond.initialized RX8, Cond.methodLink RL 9 yX7_init, Cond.instanceMethod yX7_init, Cond.code yX7_init cX7_init 2 none, Cond.methodLink RX7 1 objectInit, Cond.instanceMethod objectInit, Cond.code objectInit ⟨#[0xb1]⟩ 1 none, Cond.classLink RX7 7 RX4, Cond.instantiable RX4 5, Cond.initialized RX4, Cond.fieldLink RX7 10 "SkewPlan" "text" "LSkewPlan$Text;", Cond.classLink RX7 16 RX2, Cond.instantiable RX2 10, Cond.initialized RX2, Cond.fieldLink RX7 19 "SkewPlan" "told" "LSkewPlan$Net;", Cond.fieldLink RX7 23 "SkewPlan" "now" "LSkewPlan$Net;", Cond.fieldLink RX7 26 "SkewPlan" "scratch" "LSkewPlan$Net;", Cond.fieldLink RX7 29 "SkewPlan" "kept" "[LSkewPlan$Net;", Cond.arrayClass .boolean]
def wsL_law_r2 : List Cond := [Cond.fieldLink RX7 33 "SkewPlan" "isKept" "[Z", Cond.classLink RX7 37 RX1, Cond.instantiable RX1 4, Cond.initialized RX1, Cond.fieldLink RX7 40 "SkewPlan" "history" "LSkewPlan$History;", Cond.classLink RX7 44 RX3, Cond.instantiable RX3 7, Cond.initialized RX3, Cond.fieldLink RX7 47 "SkewPlan" "planner" "LSkewPlan$Planner;", Cond.classLink RX7 51 RX5, Cond.fieldLink RX7 53 "SkewPlan" "traces" "[LSkewPlan$Trace;", Cond.instantiable RX5 5, Cond.initialized RX5, Cond.instanceMethod yX4_init, Cond.code yX4_init cX4_init 1 none, Cond.methodLink RX4 3 objectInit, Cond.arrayClass .char, Cond.fieldLink RX4 9 "SkewPlan$Text" "letters" "[C", Cond.methodLink RX7 18 yX2_init, Cond.instanceMethod yX2_init, Cond.code yX2_init cX2_init 1 none, Cond.methodLink RX2 3 objectInit, Cond.arrayClass .int, Cond.fieldLink RX2 9 "SkewPlan$Net" "from" "[I"]
def wsL_law_r3 : List Cond := [Cond.fieldLink RX2 15 "SkewPlan$Net" "to" "[I", Cond.fieldLink RX2 18 "SkewPlan$Net" "longs" "[I", Cond.fieldLink RX2 21 "SkewPlan$Net" "shorts" "[I", Cond.methodLink RX2 24 yX2_begin, Cond.instanceMethod yX2_begin, Cond.selects RX2 yX2_begin yX2_begin, Cond.code yX2_begin cX2_begin 2 none, Cond.fieldLink RX2 28 "SkewPlan$Net" "registers" "I", Cond.fieldLink RX2 32 "SkewPlan$Net" "setup" "I", Cond.fieldLink RX2 35 "SkewPlan$Net" "hold" "I", Cond.fieldLink RX2 38 "SkewPlan$Net" "step" "I", Cond.fieldLink RX2 41 "SkewPlan$Net" "period" "I", Cond.fieldLink RX2 44 "SkewPlan$Net" "paths" "I", Cond.instanceMethod yX1_init, Cond.code yX1_init cX1_init 1 none, Cond.methodLink RX1 3 objectInit, Cond.fieldLink RX1 9 "SkewPlan$History" "paths" "[I", Cond.fieldLink RX1 15 "SkewPlan$History" "amounts" "[I", Cond.instanceMethod yX3_init, Cond.code yX3_init cX3_init 1 none, Cond.methodLink RX3 5 objectInit, Cond.classLink RX3 11 "[[I", Cond.fieldLink RX3 13 "SkewPlan$Planner" "bounds" "[[I", Cond.fieldLink RX3 18 "SkewPlan$Planner" "shifts" "[I"]
def wsL_law_r4 : List Cond := [Cond.fieldLink RX3 22 "SkewPlan$Planner" "ring" "[I", Cond.instanceMethod yX5_init, Cond.code yX5_init cX5_init 1 none, Cond.methodLink RX5 3 objectInit, Cond.arrayClass .double, Cond.fieldLink RX5 9 "SkewPlan$Trace" "values" "[D", Cond.fieldLink RX5 15 "SkewPlan$Trace" "isNoNumber" "[Z", Cond.methodLink RL 12 yX8_init, Cond.instanceMethod yX8_init, Cond.code yX8_init cX8_init 1 none, Cond.methodLink RX8 1 objectInit, Cond.fieldLink RX8 7 "SkewPlanModel" "row" "[I", Cond.fieldLink RX8 13 "SkewPlanModel" "from" "[I", Cond.fieldLink RX8 16 "SkewPlanModel" "to" "[I", Cond.fieldLink RX8 19 "SkewPlanModel" "isKept" "[Z", Cond.fieldLink RX8 23 "SkewPlanModel" "text" "[I", Cond.fieldLink RX8 26 "SkewPlanModel" "sorts" "[I", Cond.fieldLink RX8 29 "SkewPlanModel" "sizes" "[I", Cond.arrayClass .float, Cond.fieldLink RX8 32 "SkewPlanModel" "floats" "[F", Cond.fieldLink RX8 36 "SkewPlanModel" "doubles" "[D", Cond.fieldLink RX8 40 "SkewPlanModel" "numbers" "[I", Cond.fieldLink RX8 43 "SkewPlanModel" "netWord" "[I", Cond.fieldLink RX8 46 "SkewPlanModel" "pathWord" "[I"]
def wsL_law_r5 : List Cond := [Cond.fieldLink RX8 49 "SkewPlanModel" "setupWord" "[I", Cond.fieldLink RX8 52 "SkewPlanModel" "holdWord" "[I", Cond.fieldLink RX8 55 "SkewPlanModel" "stepWord" "[I", Cond.fieldLink RX8 58 "SkewPlanModel" "periodWord" "[I", Cond.fieldLink RX8 61 "SkewPlanModel" "lates" "[I", Cond.fieldLink RX8 64 "SkewPlanModel" "soons" "[I", Cond.fieldLink RX8 67 "SkewPlanModel" "shifts" "[I", Cond.fieldLink RX8 70 "SkewPlanModel" "bounds" "[I", Cond.fieldLink RX8 73 "SkewPlanModel" "ring" "[I", Cond.methodLink RX8 76 yX8_anew, Cond.instanceMethod yX8_anew, Cond.selects RX8 yX8_anew yX8_anew, Cond.code yX8_anew cX8_anew 2 none, Cond.fieldLink RX8 84 "SkewPlanModel" "registers" "I", Cond.fieldLink RX8 88 "SkewPlanModel" "paths" "I", Cond.fieldLink RX8 91 "SkewPlanModel" "setup" "I", Cond.fieldLink RX8 94 "SkewPlanModel" "hold" "I", Cond.fieldLink RX8 97 "SkewPlanModel" "step" "I", Cond.methodLink RX8 80 yX8_copyRow, Cond.instanceMethod yX8_copyRow, Cond.selects RX8 yX8_copyRow yX8_copyRow, Cond.code yX8_copyRow cX8_copyRow 4 none, Cond.methodLink RL 13 yX7_write, Cond.instanceMethod yX7_write]
def wsL_law_r6 : List Cond := [Cond.selects RX7 yX7_write yX7_write, Cond.code yX7_write cX7_write 2 (some .int), Cond.methodLink RX7 58 yX7_isWithin, Cond.static yX7_isWithin, Cond.code yX7_isWithin cX7_isWithin 3 (some .boolean), Cond.methodLink RX7 62 yX4_append, Cond.instanceMethod yX4_append, Cond.selects RX4 yX4_append yX4_append, Cond.code yX4_append cX4_append 2 (some .boolean), Cond.fieldLink RX4 15 "SkewPlan$Text" "length" "I", Cond.methodLink RX7 66 yX4_letterCount, Cond.instanceMethod yX4_letterCount, Cond.selects RX4 yX4_letterCount yX4_letterCount, Cond.code yX4_letterCount cX4_letterCount 1 (some .int), Cond.methodLink RL 17 yX8_write, Cond.instanceMethod yX8_write, Cond.selects RX8 yX8_write yX8_write, Cond.code yX8_write cX8_write 2 (some .int), Cond.constantLong RX8 100 (255), Cond.fieldLink RX8 106 "SkewPlanModel" "length" "I", Cond.methodLink RX8 102 yX8_in, Cond.static yX8_in, Cond.code yX8_in cX8_in 6 (some .boolean), Cond.methodLink RL 18 yX7_erase]
def wsL_law_r7 : List Cond := [Cond.instanceMethod yX7_erase, Cond.selects RX7 yX7_erase yX7_erase, Cond.code yX7_erase cX7_erase 2 (some .int), Cond.methodLink RX7 70 yX4_clear, Cond.instanceMethod yX4_clear, Cond.selects RX4 yX4_clear yX4_clear, Cond.code yX4_clear cX4_clear 1 none, Cond.methodLink RL 22 yX8_erase, Cond.instanceMethod yX8_erase, Cond.selects RX8 yX8_erase yX8_erase, Cond.code yX8_erase cX8_erase 2 (some .int), Cond.methodLink RL 23 yX7_fault, Cond.instanceMethod yX7_fault, Cond.selects RX7 yX7_fault yX7_fault, Cond.code yX7_fault cX7_fault 1 (some .int), Cond.methodLink RX7 73 yX4_read, Cond.instanceMethod yX4_read, Cond.selects RX4 yX4_read yX4_read, Cond.code yX4_read cX4_read 4 (some .int), Cond.fieldLink RX4 19 "SkewPlan$Text" "clauses" "I", Cond.fieldLink RX4 28 "SkewPlan$Text" "tokenEnd" "I", Cond.fieldLink RX4 38 "SkewPlan$Text" "tokenStart" "I", Cond.methodLink RX4 22 yX2_copyFrom, Cond.instanceMethod yX2_copyFrom]
def wsL_law_r8 : List Cond := [Cond.selects RX2 yX2_copyFrom yX2_copyFrom, Cond.code yX2_copyFrom cX2_copyFrom 2 none, Cond.methodLink RX2 47 arraycopyName, Cond.native arraycopyName, Cond.static arraycopyName, Cond.initialized "java/lang/System", Cond.methodLink RX4 31 yX4_advance, Cond.instanceMethod yX4_advance, Cond.selects RX4 yX4_advance yX4_advance, Cond.code yX4_advance cX4_advance 2 none, Cond.methodLink RX4 41 yX4_isAtEnd, Cond.instanceMethod yX4_isAtEnd, Cond.selects RX4 yX4_isAtEnd yX4_isAtEnd, Cond.code yX4_isAtEnd cX4_isAtEnd 1 (some .boolean), Cond.methodLink RX4 45 yX4_isSmall, Cond.static yX4_isSmall, Cond.code yX4_isSmall cX4_isSmall 1 (some .boolean), Cond.methodLink RX4 49 yX4_isDigit, Cond.static yX4_isDigit, Cond.code yX4_isDigit cX4_isDigit 1 (some .boolean), Cond.methodLink RX4 34 yX4_readClause, Cond.instanceMethod yX4_readClause, Cond.selects RX4 yX4_readClause yX4_readClause, Cond.code yX4_readClause cX4_readClause 5 (some .boolean)]
def wsL_law_r9 : List Cond := [Cond.fieldLink RX4 60 "SkewPlan$Word" "PATH" "LSkewPlan$Word;", Cond.methodLink RX4 52 yX4_wordHere, Cond.instanceMethod yX4_wordHere, Cond.selects RX4 yX4_wordHere yX4_wordHere, Cond.code yX4_wordHere cX4_wordHere 2 (some .int), Cond.methodLink RX4 97 yX4_isSpelled, Cond.instanceMethod yX4_isSpelled, Cond.selects RX4 yX4_isSpelled yX4_isSpelled, Cond.code yX4_isSpelled cX4_isSpelled 3 (some .boolean), Cond.methodLink RX4 101 yJ0_length_8abf5, Cond.instanceMethod yJ0_length_8abf5, Cond.selects RJ0 yJ0_length_8abf5 yJ0_length_8abf5, Cond.initialized RJ0, Cond.code yJ0_length_8abf5 cJ0_length_8abf5 1 (some .int), Cond.fieldLink RJ0 9 "java/lang/String" "value" "[B", Cond.methodLink RJ0 335 yJ0_coder_7d493, Cond.instanceMethod yJ0_coder_7d493, Cond.selects RJ0 yJ0_coder_7d493 yJ0_coder_7d493, Cond.code yJ0_coder_7d493 cJ0_coder_7d493 1 (some .byte), Cond.fieldLink RJ0 38 "java/lang/String" "COMPACT_STRINGS" "Z", Cond.fieldLink RJ0 15 "java/lang/String" "coder" "B", Cond.methodLink RX4 105 yJ0_charAt_5068e, Cond.instanceMethod yJ0_charAt_5068e, Cond.selects RJ0 yJ0_charAt_5068e yJ0_charAt_5068e]
def wsL_law_r10 : List Cond := [Cond.code yJ0_charAt_5068e cJ0_charAt_5068e 2 (some .char), Cond.methodLink RJ0 492 yJ0_isLatin1_aae02, Cond.instanceMethod yJ0_isLatin1_aae02, Cond.selects RJ0 yJ0_isLatin1_aae02 yJ0_isLatin1_aae02, Cond.code yJ0_isLatin1_aae02 cJ0_isLatin1_aae02 1 (some .boolean), Cond.methodLink RJ0 495 yJ1_charAt_3b067, Cond.static yJ1_charAt_3b067, Cond.initialized RJ1, Cond.code yJ1_charAt_3b067 cJ1_charAt_3b067 2 (some .char), Cond.methodLink RJ1 9 yJ0_checkIndex_df160, Cond.static yJ0_checkIndex_df160, Cond.code yJ0_checkIndex_df160 cJ0_checkIndex_df160 2 none, Cond.fieldLink RJ0 1053 "jdk/internal/util/Preconditions" "SIOOBE_FORMATTER" "Ljava/util/function/BiFunction;", Cond.methodLink RJ0 1059 yJ3_checkIndex_8e157, Cond.static yJ3_checkIndex_8e157, Cond.initialized RJ3, Cond.code yJ3_checkIndex_8e157 cJ3_checkIndex_8e157 3 (some .int), Cond.methodLink RJ0 498 yJ2_charAt_3b067, Cond.static yJ2_charAt_3b067, Cond.initialized RJ2, Cond.code yJ2_charAt_3b067 cJ2_charAt_3b067 2 (some .char), Cond.methodLink RJ2 67 yJ2_checkIndex_2214a, Cond.static yJ2_checkIndex_2214a, Cond.code yJ2_checkIndex_2214a cJ2_checkIndex_2214a 2 none]
def wsL_law_r11 : List Cond := [Cond.methodLink RJ2 48 yJ2_length_9d52b, Cond.static yJ2_length_9d52b, Cond.code yJ2_length_9d52b cJ2_length_9d52b 1 (some .int), Cond.methodLink RJ2 414 yJ0_checkIndex_df160, Cond.methodLink RJ2 71 yJ2_getChar_3b067, Cond.static yJ2_getChar_3b067, Cond.code yJ2_getChar_3b067 cJ2_getChar_3b067 2 (some .char), Cond.fieldLink RJ2 44 "java/lang/StringUTF16" "$assertionsDisabled" "Z", Cond.fieldLink RJ2 59 "java/lang/StringUTF16" "HI_BYTE_SHIFT" "I", Cond.fieldLink RJ2 63 "java/lang/StringUTF16" "LO_BYTE_SHIFT" "I", Cond.methodLink RX4 66 yX2_hasAllPaths, Cond.instanceMethod yX2_hasAllPaths, Cond.selects RX2 yX2_hasAllPaths yX2_hasAllPaths, Cond.code yX2_hasAllPaths cX2_hasAllPaths 1 (some .boolean), Cond.methodLink RX4 69 yX4_readPath, Cond.instanceMethod yX4_readPath, Cond.selects RX4 yX4_readPath yX4_readPath, Cond.code yX4_readPath cX4_readPath 6 (some .boolean), Cond.methodLink RX4 78 yX4_readNumber, Cond.instanceMethod yX4_readNumber, Cond.selects RX4 yX4_readNumber yX4_readNumber, Cond.code yX4_readNumber cX4_readNumber 5 (some .int), Cond.methodLink RX4 89 yX2_addPath, Cond.instanceMethod yX2_addPath]
def wsL_law_r12 : List Cond := [Cond.selects RX2 yX2_addPath yX2_addPath, Cond.code yX2_addPath cX2_addPath 5 none, Cond.methodLink RX2 64 yX2_hasAllPaths, Cond.methodLink RX4 82 yX2_tell, Cond.instanceMethod yX2_tell, Cond.selects RX2 yX2_tell yX2_tell, Cond.code yX2_tell cX2_tell 3 none, Cond.fieldLink RX2 53 "SkewPlan$1" "$SwitchMap$SkewPlan$Word" "[I", Cond.methodLink RX2 58 ⟨"SkewPlan$Word", "ordinal", "()I"⟩, Cond.sameMethod "SkewPlan$Word" "java/lang/Enum" "ordinal" "()I", Cond.selects RX6 ⟨"SkewPlan$Word", "ordinal", "()I"⟩ yJx29ce0_ordinal_8abf5, Cond.instanceMethod yJx29ce0_ordinal_8abf5, Cond.initialized RJx29ce0, Cond.code yJx29ce0_ordinal_8abf5 cJx29ce0_ordinal_8abf5 1 (some .int), Cond.fieldLink RJx29ce0 7 "java/lang/Enum" "ordinal" "I", Cond.methodLink RL 26 yX8_fault, Cond.instanceMethod yX8_fault, Cond.selects RX8 yX8_fault yX8_fault, Cond.code yX8_fault cX8_fault 1 (some .int), Cond.fieldLink RX8 120 "SkewPlanModel" "first" "I", Cond.methodLink RX8 168 yX8_reads, Cond.instanceMethod yX8_reads, Cond.selects RX8 yX8_reads yX8_reads, Cond.code yX8_reads cX8_reads 3 (some .boolean)]
def wsL_law_r13 : List Cond := [Cond.fieldLink RX8 154 "SkewPlanModel" "doing" "Z", Cond.fieldLink RX8 117 "SkewPlanModel" "behind" "I", Cond.fieldLink RX8 161 "SkewPlanModel" "clauses" "I", Cond.fieldLink RX8 141 "SkewPlanModel" "readRegisters" "I", Cond.fieldLink RX8 148 "SkewPlanModel" "readPaths" "I", Cond.methodLink RX8 130 yX8_nextToken, Cond.instanceMethod yX8_nextToken, Cond.selects RX8 yX8_nextToken yX8_nextToken, Cond.code yX8_nextToken cX8_nextToken 1 none, Cond.methodLink RX8 123 yX8_isLetter, Cond.static yX8_isLetter, Cond.code yX8_isLetter cX8_isLetter 1 (some .boolean), Cond.constantLong RX8 109 (97), Cond.constantLong RX8 111 (122), Cond.methodLink RX8 127 yX8_isDigit, Cond.static yX8_isDigit, Cond.code yX8_isDigit cX8_isDigit 1 (some .boolean), Cond.constantLong RX8 113 (48), Cond.constantLong RX8 115 (57), Cond.methodLink RX8 164 yX8_readsClause, Cond.instanceMethod yX8_readsClause, Cond.selects RX8 yX8_readsClause yX8_readsClause, Cond.code yX8_readsClause cX8_readsClause 2 (some .boolean), Cond.methodLink RX8 144 yX8_wordHere]
def wsL_law_r14 : List Cond := [Cond.instanceMethod yX8_wordHere, Cond.selects RX8 yX8_wordHere yX8_wordHere, Cond.code yX8_wordHere cX8_wordHere 1 (some .int), Cond.methodLink RX8 133 yX8_isWord, Cond.instanceMethod yX8_isWord, Cond.selects RX8 yX8_isWord yX8_isWord, Cond.code yX8_isWord cX8_isWord 4 (some .boolean), Cond.methodLink RX8 151 yX8_readsNumbers, Cond.instanceMethod yX8_readsNumbers, Cond.selects RX8 yX8_readsNumbers yX8_readsNumbers, Cond.code yX8_readsNumbers cX8_readsNumbers 2 (some .boolean), Cond.methodLink RX8 137 yX8_number, Cond.instanceMethod yX8_number, Cond.selects RX8 yX8_number yX8_number, Cond.code yX8_number cX8_number 6 (some .boolean), Cond.methodLink RX8 158 yX8_does, Cond.instanceMethod yX8_does, Cond.selects RX8 yX8_does yX8_does, Cond.code yX8_does cX8_does 2 none, Cond.methodLink RL 27 yX7_net, Cond.instanceMethod yX7_net, Cond.selects RX7 yX7_net yX7_net, Cond.code yX7_net cX7_net 2 (some .int), Cond.methodLink RX7 77 yX2_copyFrom]
def wsL_law_r15 : List Cond := [Cond.methodLink RX7 81 yX1_clear, Cond.instanceMethod yX1_clear, Cond.selects RX1 yX1_clear yX1_clear, Cond.code yX1_clear cX1_clear 1 none, Cond.fieldLink RX1 18 "SkewPlan$History" "size" "I", Cond.methodLink RX7 82 yX5_lose, Cond.instanceMethod yX5_lose, Cond.selects RX5 yX5_lose yX5_lose, Cond.code yX5_lose cX5_lose 1 none, Cond.fieldLink RX5 19 "SkewPlan$Trace" "isPresent" "Z", Cond.fieldLink RX5 23 "SkewPlan$Trace" "places" "I", Cond.methodLink RX7 85 yX4_clauseCount, Cond.instanceMethod yX4_clauseCount, Cond.selects RX4 yX4_clauseCount yX4_clauseCount, Cond.code yX4_clauseCount cX4_clauseCount 1 (some .int), Cond.methodLink RL 30 yX8_net, Cond.instanceMethod yX8_net, Cond.selects RX8 yX8_net yX8_net, Cond.code yX8_net cX8_net 2 (some .int), Cond.fieldLink RX8 172 "SkewPlanModel" "undos" "I", Cond.methodLink RL 31 yX7_path, Cond.instanceMethod yX7_path, Cond.selects RX7 yX7_path yX7_path, Cond.code yX7_path cX7_path 3 (some .int)]
def wsL_law_r16 : List Cond := [Cond.methodLink RX7 88 yX7_isPath, Cond.instanceMethod yX7_isPath, Cond.selects RX7 yX7_isPath yX7_isPath, Cond.code yX7_isPath cX7_isPath 2 (some .boolean), Cond.methodLink RX7 105 yX2_lateBound, Cond.instanceMethod yX2_lateBound, Cond.selects RX2 yX2_lateBound yX2_lateBound, Cond.code yX2_lateBound cX2_lateBound 2 (some .int), Cond.methodLink RX7 109 yX2_soonBound, Cond.instanceMethod yX2_soonBound, Cond.selects RX2 yX2_soonBound yX2_soonBound, Cond.code yX2_soonBound cX2_soonBound 2 (some .int), Cond.methodLink RL 35 yX8_path, Cond.instanceMethod yX8_path, Cond.selects RX8 yX8_path yX8_path, Cond.code yX8_path cX8_path 3 (some .int), Cond.methodLink RX8 175 yX8_isPath, Cond.instanceMethod yX8_isPath, Cond.selects RX8 yX8_isPath yX8_isPath, Cond.code yX8_isPath cX8_isPath 2 (some .boolean), Cond.methodLink RX8 178 yX8_lateOf, Cond.instanceMethod yX8_lateOf, Cond.selects RX8 yX8_lateOf yX8_lateOf, Cond.code yX8_lateOf cX8_lateOf 3 (some .int)]
def wsL_law_r17 : List Cond := [Cond.methodLink RX8 182 yX8_soonOf, Cond.instanceMethod yX8_soonOf, Cond.selects RX8 yX8_soonOf yX8_soonOf, Cond.code yX8_soonOf cX8_soonOf 2 (some .int), Cond.methodLink RL 36 yX7_period, Cond.instanceMethod yX7_period, Cond.selects RX7 yX7_period yX7_period, Cond.code yX7_period cX7_period 3 (some .int), Cond.methodLink RX7 116 yX1_push, Cond.instanceMethod yX1_push, Cond.selects RX1 yX1_push yX1_push, Cond.code yX1_push cX1_push 3 none, Cond.fieldLink RX1 22 "SkewPlan$History" "next" "I", Cond.methodLink RX1 25 Lib.Math.min.name, Cond.static Lib.Math.min.name, Cond.initialized "java/lang/Math", Cond.code Lib.Math.min.name Lib.Math.min.code 2 (some .int), Cond.methodLink RL 39 yX8_period, Cond.instanceMethod yX8_period, Cond.selects RX8 yX8_period yX8_period, Cond.code yX8_period cX8_period 3 (some .int), Cond.constantLong RX8 186 (999), Cond.methodLink RX8 188 yX8_keepPast, Cond.instanceMethod yX8_keepPast]
def wsL_law_r18 : List Cond := [Cond.selects RX8 yX8_keepPast yX8_keepPast, Cond.code yX8_keepPast cX8_keepPast 2 none, Cond.methodLink RL 40 yX7_slower, Cond.instanceMethod yX7_slower, Cond.selects RX7 yX7_slower yX7_slower, Cond.code yX7_slower cX7_slower 3 (some .int), Cond.methodLink RX7 120 yX2_canBeSlower, Cond.instanceMethod yX2_canBeSlower, Cond.selects RX2 yX2_canBeSlower yX2_canBeSlower, Cond.code yX2_canBeSlower cX2_canBeSlower 3 (some .boolean), Cond.methodLink RX7 124 yX2_delay, Cond.instanceMethod yX2_delay, Cond.selects RX2 yX2_delay yX2_delay, Cond.code yX2_delay cX2_delay 3 none, Cond.methodLink RL 43 yX8_slower, Cond.instanceMethod yX8_slower, Cond.selects RX8 yX8_slower yX8_slower, Cond.code yX8_slower cX8_slower 3 (some .int), Cond.constantLong RX8 191 (20), Cond.methodLink RL 44 yX7_undo, Cond.instanceMethod yX7_undo, Cond.selects RX7 yX7_undo yX7_undo, Cond.code yX7_undo cX7_undo 1 (some .int), Cond.methodLink RX7 127 yX1_size]
def wsL_law_r19 : List Cond := [Cond.instanceMethod yX1_size, Cond.selects RX1 yX1_size yX1_size, Cond.code yX1_size cX1_size 1 (some .int), Cond.methodLink RX7 130 yX1_revertLatest, Cond.instanceMethod yX1_revertLatest, Cond.selects RX1 yX1_revertLatest yX1_revertLatest, Cond.code yX1_revertLatest cX1_revertLatest 2 none, Cond.methodLink RX1 36 yX2_delay, Cond.methodLink RL 47 yX8_undo, Cond.instanceMethod yX8_undo, Cond.selects RX8 yX8_undo yX8_undo, Cond.code yX8_undo cX8_undo 1 (some .int), Cond.methodLink RL 48 yX7_keep, Cond.instanceMethod yX7_keep, Cond.selects RX7 yX7_keep yX7_keep, Cond.code yX7_keep cX7_keep 2 (some .int), Cond.methodLink RX7 133 yX7_isKeptPlace, Cond.static yX7_isKeptPlace, Cond.code yX7_isKeptPlace cX7_isKeptPlace 1 (some .boolean), Cond.methodLink RL 51 yX8_keep, Cond.instanceMethod yX8_keep, Cond.selects RX8 yX8_keep yX8_keep, Cond.code yX8_keep cX8_keep 2 (some .int), Cond.methodLink RL 52 yX7_back]
def wsL_law_r20 : List Cond := [Cond.instanceMethod yX7_back, Cond.selects RX7 yX7_back yX7_back, Cond.code yX7_back cX7_back 2 (some .int), Cond.methodLink RL 55 yX8_back, Cond.instanceMethod yX8_back, Cond.selects RX8 yX8_back yX8_back, Cond.code yX8_back cX8_back 2 (some .int), Cond.methodLink RL 56 yX7_feasible, Cond.instanceMethod yX7_feasible, Cond.selects RX7 yX7_feasible yX7_feasible, Cond.code yX7_feasible cX7_feasible 1 (some .int), Cond.methodLink RX7 136 yX3_settlesNow, Cond.instanceMethod yX3_settlesNow, Cond.selects RX3 yX3_settlesNow yX3_settlesNow, Cond.code yX3_settlesNow cX3_settlesNow 2 (some .boolean), Cond.methodLink RX3 35 yX3_settlesWithMargin, Cond.instanceMethod yX3_settlesWithMargin, Cond.selects RX3 yX3_settlesWithMargin yX3_settlesWithMargin, Cond.code yX3_settlesWithMargin cX3_settlesWithMargin 3 (some .boolean), Cond.methodLink RX3 47 yX3_layBounds, Cond.instanceMethod yX3_layBounds, Cond.selects RX3 yX3_layBounds yX3_layBounds, Cond.code yX3_layBounds cX3_layBounds 11 none, Cond.fieldLink RX3 72 "SkewPlan$Planner" "registers" "I"]
def wsL_law_r21 : List Cond := [Cond.constant RX3 73 (2147483647), Cond.methodLink RX3 89 yX2_soonBound, Cond.methodLink RX3 93 yX3_tighten, Cond.instanceMethod yX3_tighten, Cond.selects RX3 yX3_tighten yX3_tighten, Cond.code yX3_tighten cX3_tighten 5 none, Cond.methodLink RX3 97 Lib.Math.min.name, Cond.methodLink RX3 66 yJ9_floorDiv_7cf53, Cond.static yJ9_floorDiv_7cf53, Cond.initialized RJ9, Cond.code yJ9_floorDiv_7cf53 cJ9_floorDiv_7cf53 3 (some .int), Cond.methodLink RX3 51 yX3_settle, Cond.instanceMethod yX3_settle, Cond.selects RX3 yX3_settle yX3_settle, Cond.code yX3_settle cX3_settle 2 (some .boolean), Cond.methodLink RX3 100 yX3_lowerOnce, Cond.instanceMethod yX3_lowerOnce, Cond.selects RX3 yX3_lowerOnce yX3_lowerOnce, Cond.code yX3_lowerOnce cX3_lowerOnce 5 (some .boolean), Cond.methodLink RL 59 yX8_feasible, Cond.instanceMethod yX8_feasible, Cond.selects RX8 yX8_feasible yX8_feasible, Cond.code yX8_feasible cX8_feasible 1 (some .int), Cond.methodLink RX8 205 yX8_isFeasible]
def wsL_law_r22 : List Cond := [Cond.instanceMethod yX8_isFeasible, Cond.selects RX8 yX8_isFeasible yX8_isFeasible, Cond.code yX8_isFeasible cX8_isFeasible 3 (some .boolean), Cond.methodLink RX8 199 yX8_layBounds, Cond.instanceMethod yX8_layBounds, Cond.selects RX8 yX8_layBounds yX8_layBounds, Cond.code yX8_layBounds cX8_layBounds 4 none, Cond.methodLink RX8 193 yX8_floor, Cond.static yX8_floor, Cond.code yX8_floor cX8_floor 2 (some .int), Cond.methodLink RX8 202 yX8_areThere, Cond.instanceMethod yX8_areThere, Cond.selects RX8 yX8_areThere yX8_areThere, Cond.code yX8_areThere cX8_areThere 4 (some .boolean), Cond.methodLink RX8 196 yX8_makesLess, Cond.instanceMethod yX8_makesLess, Cond.selects RX8 yX8_makesLess yX8_makesLess, Cond.code yX8_makesLess cX8_makesLess 5 (some .boolean), Cond.methodLink RL 60 yX7_shift, Cond.instanceMethod yX7_shift, Cond.selects RX7 yX7_shift yX7_shift, Cond.code yX7_shift cX7_shift 2 (some .int), Cond.methodLink RX7 143 yX3_shiftOf, Cond.instanceMethod yX3_shiftOf]
def wsL_law_r23 : List Cond := [Cond.selects RX3 yX3_shiftOf yX3_shiftOf, Cond.code yX3_shiftOf cX3_shiftOf 2 (some .int), Cond.methodLink RL 63 yX8_shift, Cond.instanceMethod yX8_shift, Cond.selects RX8 yX8_shift yX8_shift, Cond.code yX8_shift cX8_shift 2 (some .int), Cond.methodLink RX8 209 yX8_isRegister, Cond.instanceMethod yX8_isRegister, Cond.selects RX8 yX8_isRegister yX8_isRegister, Cond.code yX8_isRegister cX8_isRegister 2 (some .boolean), Cond.methodLink RL 64 yX7_least, Cond.instanceMethod yX7_least, Cond.selects RX7 yX7_least yX7_least, Cond.code yX7_least cX7_least 1 (some .int), Cond.methodLink RX7 149 yX3_leastPeriod, Cond.instanceMethod yX3_leastPeriod, Cond.selects RX3 yX3_leastPeriod yX3_leastPeriod, Cond.code yX3_leastPeriod cX3_leastPeriod 2 (some .int), Cond.methodLink RX3 55 yX3_leastPeriodAbove, Cond.instanceMethod yX3_leastPeriodAbove, Cond.selects RX3 yX3_leastPeriodAbove yX3_leastPeriodAbove, Cond.code yX3_leastPeriodAbove cX3_leastPeriodAbove 8 (some .int), Cond.methodLink RX3 59 yX3_settlesAtPeriod, Cond.instanceMethod yX3_settlesAtPeriod]
def wsL_law_r24 : List Cond := [Cond.selects RX3 yX3_settlesAtPeriod yX3_settlesAtPeriod, Cond.code yX3_settlesAtPeriod cX3_settlesAtPeriod 5 (some .boolean), Cond.methodLink RL 67 yX8_least, Cond.instanceMethod yX8_least, Cond.selects RX8 yX8_least yX8_least, Cond.code yX8_least cX8_least 1 (some .int), Cond.methodLink RX8 212 yX8_leastOf, Cond.instanceMethod yX8_leastOf, Cond.selects RX8 yX8_leastOf yX8_leastOf, Cond.code yX8_leastOf cX8_leastOf 5 (some .int), Cond.methodLink RL 68 yX7_rate, Cond.instanceMethod yX7_rate, Cond.selects RX7 yX7_rate yX7_rate, Cond.code yX7_rate cX7_rate 2 (some .int), Cond.methodLink RX7 153 yX3_findRate, Cond.instanceMethod yX3_findRate, Cond.selects RX3 yX3_findRate yX3_findRate, Cond.code yX3_findRate cX3_findRate 4 (some .boolean), Cond.fieldLink RX3 29 "SkewPlan$Planner" "rateAbove" "I", Cond.fieldLink RX3 32 "SkewPlan$Planner" "rateBelow" "I", Cond.methodLink RX7 156 yX3_rateAbove, Cond.instanceMethod yX3_rateAbove, Cond.selects RX3 yX3_rateAbove yX3_rateAbove, Cond.code yX3_rateAbove cX3_rateAbove 1 (some .int)]
def wsL_law_r25 : List Cond := [Cond.methodLink RX7 159 yX3_rateBelow, Cond.instanceMethod yX3_rateBelow, Cond.selects RX3 yX3_rateBelow yX3_rateBelow, Cond.code yX3_rateBelow cX3_rateBelow 1 (some .int), Cond.methodLink RL 71 yX8_rate, Cond.instanceMethod yX8_rate, Cond.selects RX8 yX8_rate yX8_rate, Cond.code yX8_rate cX8_rate 9 (some .int), Cond.methodLink RX8 215 yX8_isFeasibleBy, Cond.instanceMethod yX8_isFeasibleBy, Cond.selects RX8 yX8_isFeasibleBy yX8_isFeasibleBy, Cond.code yX8_isFeasibleBy cX8_isFeasibleBy 4 (some .boolean), Cond.methodLink RL 72 yX7_margin, Cond.instanceMethod yX7_margin, Cond.selects RX7 yX7_margin yX7_margin, Cond.code yX7_margin cX7_margin 1 (some .int), Cond.methodLink RX7 162 yX3_greatestMargin, Cond.instanceMethod yX3_greatestMargin, Cond.selects RX3 yX3_greatestMargin yX3_greatestMargin, Cond.code yX3_greatestMargin cX3_greatestMargin 6 (some .int), Cond.methodLink RL 75 yX8_margin, Cond.instanceMethod yX8_margin, Cond.selects RX8 yX8_margin yX8_margin, Cond.code yX8_margin cX8_margin 5 (some .int)]
def wsL_law_r26 : List Cond := [Cond.methodLink RL 76 yX7_spare, Cond.instanceMethod yX7_spare, Cond.selects RX7 yX7_spare yX7_spare, Cond.code yX7_spare cX7_spare 5 (some .int), Cond.methodLink RL 79 yX8_spare, Cond.instanceMethod yX8_spare, Cond.selects RX8 yX8_spare yX8_spare, Cond.code yX8_spare cX8_spare 4 (some .int), Cond.methodLink RL 80 yX7_cycle, Cond.instanceMethod yX7_cycle, Cond.selects RX7 yX7_cycle yX7_cycle, Cond.code yX7_cycle cX7_cycle 2 (some .int), Cond.methodLink RX7 165 yX3_findRing, Cond.instanceMethod yX3_findRing, Cond.selects RX3 yX3_findRing yX3_findRing, Cond.code yX3_findRing cX3_findRing 2 (some .boolean), Cond.fieldLink RX3 25 "SkewPlan$Planner" "ringLength" "I", Cond.methodLink RX3 103 yX3_closesFrom, Cond.instanceMethod yX3_closesFrom, Cond.selects RX3 yX3_closesFrom yX3_closesFrom, Cond.code yX3_closesFrom cX3_closesFrom 8 (some .boolean), Cond.methodLink RX3 107 yX3_isInRing, Cond.instanceMethod yX3_isInRing, Cond.selects RX3 yX3_isInRing yX3_isInRing]
def wsL_law_r27 : List Cond := [Cond.code yX3_isInRing cX3_isInRing 4 (some .boolean), Cond.methodLink RX7 169 yX3_ringLength, Cond.instanceMethod yX3_ringLength, Cond.selects RX3 yX3_ringLength yX3_ringLength, Cond.code yX3_ringLength cX3_ringLength 1 (some .int), Cond.methodLink RX7 172 yX3_ringRegister, Cond.instanceMethod yX3_ringRegister, Cond.selects RX3 yX3_ringRegister yX3_ringRegister, Cond.code yX3_ringRegister cX3_ringRegister 2 (some .int), Cond.methodLink RL 83 yX8_cycle, Cond.instanceMethod yX8_cycle, Cond.selects RX8 yX8_cycle yX8_cycle, Cond.code yX8_cycle cX8_cycle 2 (some .int), Cond.fieldLink RX8 219 "SkewPlanModel" "ringMany" "I", Cond.methodLink RX8 228 yX8_layLeast, Cond.instanceMethod yX8_layLeast, Cond.selects RX8 yX8_layLeast yX8_layLeast, Cond.code yX8_layLeast cX8_layLeast 4 none, Cond.constant RX8 218 (99999), Cond.methodLink RX8 231 yX8_isBelow, Cond.instanceMethod yX8_isBelow, Cond.selects RX8 yX8_isBelow yX8_isBelow, Cond.code yX8_isBelow cX8_isBelow 3 (some .boolean), Cond.methodLink RX8 234 yX8_goOn]
def wsL_law_r28 : List Cond := [Cond.instanceMethod yX8_goOn, Cond.selects RX8 yX8_goOn yX8_goOn, Cond.code yX8_goOn cX8_goOn 2 none, Cond.methodLink RX8 225 yX8_nextFrom, Cond.instanceMethod yX8_nextFrom, Cond.selects RX8 yX8_nextFrom yX8_nextFrom, Cond.code yX8_nextFrom cX8_nextFrom 3 (some .int), Cond.methodLink RX8 222 yX8_isInRing, Cond.instanceMethod yX8_isInRing, Cond.selects RX8 yX8_isInRing yX8_isInRing, Cond.code yX8_isInRing cX8_isInRing 4 (some .boolean), Cond.methodLink RL 84 yX7_buffer, Cond.instanceMethod yX7_buffer, Cond.selects RX7 yX7_buffer yX7_buffer, Cond.code yX7_buffer cX7_buffer 6 (some .int), Cond.methodLink RX7 175 yX7_orAboveAll, Cond.static yX7_orAboveAll, Cond.code yX7_orAboveAll cX7_orAboveAll 1 (some .int), Cond.methodLink RL 87 yX8_buffer, Cond.instanceMethod yX8_buffer, Cond.selects RX8 yX8_buffer yX8_buffer, Cond.code yX8_buffer cX8_buffer 8 (some .int), Cond.methodLink RL 88 yX7_trace, Cond.instanceMethod yX7_trace]
def wsL_law_r29 : List Cond := [Cond.selects RX7 yX7_trace yX7_trace, Cond.code yX7_trace cX7_trace 4 (some .int), Cond.methodLink RX7 181 yX7_isTrace, Cond.static yX7_isTrace, Cond.code yX7_isTrace cX7_isTrace 1 (some .boolean), Cond.methodLink RX7 184 yX7_isSort, Cond.static yX7_isSort, Cond.code yX7_isSort cX7_isSort 1 (some .boolean), Cond.methodLink RX7 187 yX5_renew, Cond.instanceMethod yX5_renew, Cond.selects RX5 yX5_renew yX5_renew, Cond.code yX5_renew cX5_renew 4 none, Cond.fieldLink RX5 27 "SkewPlan$Trace" "sort" "I", Cond.methodLink RX5 30 yX5_putNumber, Cond.instanceMethod yX5_putNumber, Cond.selects RX5 yX5_putNumber yX5_putNumber, Cond.code yX5_putNumber cX5_putNumber 4 none, Cond.methodLink RL 92 yX8_trace, Cond.instanceMethod yX8_trace, Cond.selects RX8 yX8_trace yX8_trace, Cond.code yX8_trace cX8_trace 5 (some .int), Cond.methodLink RX8 239 yX8_isTrace, Cond.static yX8_isTrace, Cond.code yX8_isTrace cX8_isTrace 1 (some .boolean)]
def wsL_law_r30 : List Cond := [Cond.constantLong RX8 237 (2), Cond.methodLink RL 93 yX7_set, Cond.instanceMethod yX7_set, Cond.selects RX7 yX7_set yX7_set, Cond.code yX7_set cX7_set 8 (some .int), Cond.methodLink RX7 190 yX7_isQuotientPart, Cond.static yX7_isQuotientPart, Cond.code yX7_isQuotientPart cX7_isQuotientPart 1 (some .boolean), Cond.methodLink RX7 193 yX5_finding, Cond.instanceMethod yX5_finding, Cond.selects RX5 yX5_finding yX5_finding, Cond.code yX5_finding cX5_finding 4 (some .int), Cond.methodLink RX7 197 yX5_putQuotient, Cond.instanceMethod yX5_putQuotient, Cond.selects RX5 yX5_putQuotient yX5_putQuotient, Cond.code yX5_putQuotient cX5_putQuotient 4 none, Cond.methodLink RX5 38 yX5_putNoNumber, Cond.instanceMethod yX5_putNoNumber, Cond.selects RX5 yX5_putNoNumber yX5_putNoNumber, Cond.code yX5_putNoNumber cX5_putNoNumber 2 none, Cond.methodLink RX7 201 yX5_thousandAt, Cond.instanceMethod yX5_thousandAt, Cond.selects RX5 yX5_thousandAt yX5_thousandAt, Cond.code yX5_thousandAt cX5_thousandAt 2 (some .int)]
def wsL_law_r31 : List Cond := [Cond.constant RX5 56 (2000000), Cond.constantFloat RX5 57 (1148846080), Cond.constantDouble RX5 62 (4652007308841189376), Cond.methodLink RX5 58 yX5_cutThousand, Cond.static yX5_cutThousand, Cond.code yX5_cutThousand cX5_cutThousand 2 (some .int), Cond.constantDouble RX5 52 (4696837146684686336), Cond.constant RX5 64 (3000000), Cond.constantDouble RX5 54 (13920209183539462144), Cond.constant RX5 65 (1000000), Cond.methodLink RL 97 yX8_set, Cond.instanceMethod yX8_set, Cond.selects RX8 yX8_set yX8_set, Cond.code yX8_set cX8_set 7 (some .int), Cond.constantLong RX8 256 (-9999), Cond.constantLong RX8 258 (9999), Cond.methodLink RX8 260 yX8_noPlace, Cond.instanceMethod yX8_noPlace, Cond.selects RX8 yX8_noPlace yX8_noPlace, Cond.code yX8_noPlace cX8_noPlace 5 (some .int), Cond.methodLink RX8 264 yX8_thousand, Cond.instanceMethod yX8_thousand, Cond.selects RX8 yX8_thousand yX8_thousand, Cond.code yX8_thousand cX8_thousand 3 (some .int)]
def wsL_law_r32 : List Cond := [Cond.constantFloat RX8 249 (1148846080), Cond.constantDouble RX8 254 (4652007308841189376), Cond.methodLink RX8 250 yX8_cut, Cond.static yX8_cut, Cond.code yX8_cut cX8_cut 2 (some .int), Cond.constant RX8 242 (2000000), Cond.constantDouble RX8 243 (4696837146684686336), Cond.constant RX8 245 (3000000), Cond.constantDouble RX8 246 (13920209183539462144), Cond.constant RX8 248 (1000000), Cond.methodLink RL 98 yX7_get, Cond.instanceMethod yX7_get, Cond.selects RX7 yX7_get yX7_get, Cond.code yX7_get cX7_get 5 (some .int), Cond.methodLink RX7 204 yX7_traceRefusal, Cond.instanceMethod yX7_traceRefusal, Cond.selects RX7 yX7_traceRefusal yX7_traceRefusal, Cond.code yX7_traceRefusal cX7_traceRefusal 5 (some .int), Cond.methodLink RL 101 yX8_get, Cond.instanceMethod yX8_get, Cond.selects RX8 yX8_get yX8_get, Cond.code yX8_get cX8_get 5 (some .int), Cond.methodLink RL 102 yX7_rest, Cond.instanceMethod yX7_rest]
def wsL_law_r33 : List Cond := [Cond.selects RX7 yX7_rest yX7_rest, Cond.code yX7_rest cX7_rest 6 (some .int), Cond.methodLink RX7 208 yX5_putRemainder, Cond.instanceMethod yX5_putRemainder, Cond.selects RX5 yX5_putRemainder yX5_putRemainder, Cond.code yX5_putRemainder cX5_putRemainder 3 none, Cond.methodLink RX5 42 yX5_isEndless, Cond.static yX5_isEndless, Cond.code yX5_isEndless cX5_isEndless 2 (some .boolean), Cond.methodLink RX5 46 yX5_remainder, Cond.static yX5_remainder, Cond.code yX5_remainder cX5_remainder 10 (some .double), Cond.constantDouble RX5 50 (4611686018427387904), Cond.methodLink RL 106 yX8_rest, Cond.instanceMethod yX8_rest, Cond.selects RX8 yX8_rest yX8_rest, Cond.code yX8_rest cX8_rest 6 (some .int), Cond.methodLink RL 107 yX7_compare, Cond.instanceMethod yX7_compare, Cond.selects RX7 yX7_compare yX7_compare, Cond.code yX7_compare cX7_compare 6 (some .int), Cond.methodLink RX7 211 yX5_order, Cond.instanceMethod yX5_order, Cond.selects RX5 yX5_order yX5_order]
def wsL_law_r34 : List Cond := [Cond.code yX5_order cX5_order 3 (some .int), Cond.methodLink RL 110 yX8_compare, Cond.instanceMethod yX8_compare, Cond.selects RX8 yX8_compare yX8_compare, Cond.code yX8_compare cX8_compare 10 (some .int), Cond.methodLink RX8 267 yX8_valueOf, Cond.instanceMethod yX8_valueOf, Cond.selects RX8 yX8_valueOf yX8_valueOf, Cond.code yX8_valueOf cX8_valueOf 3 (some .double), Cond.methodLink RL 111 yX7_sum, Cond.instanceMethod yX7_sum, Cond.selects RX7 yX7_sum yX7_sum, Cond.code yX7_sum cX7_sum 4 (some .int), Cond.methodLink RX7 215 yX5_isMissing, Cond.instanceMethod yX5_isMissing, Cond.selects RX5 yX5_isMissing yX5_isMissing, Cond.code yX5_isMissing cX5_isMissing 1 (some .boolean), Cond.methodLink RX7 218 yX5_thousandOfAll, Cond.instanceMethod yX5_thousandOfAll, Cond.selects RX5 yX5_thousandOfAll yX5_thousandOfAll, Cond.code yX5_thousandOfAll cX5_thousandOfAll 7 (some .int), Cond.methodLink RX7 221 yX5_noNumberCount, Cond.instanceMethod yX5_noNumberCount, Cond.selects RX5 yX5_noNumberCount yX5_noNumberCount]
def wsL_law_r35 : List Cond := [Cond.code yX5_noNumberCount cX5_noNumberCount 3 (some .int), Cond.methodLink RL 114 yX8_sum, Cond.instanceMethod yX8_sum, Cond.selects RX8 yX8_sum yX8_sum, Cond.code yX8_sum cX8_sum 9 (some .int), Cond.methodLink RL 115 yX7_drop, Cond.instanceMethod yX7_drop, Cond.selects RX7 yX7_drop yX7_drop, Cond.code yX7_drop cX7_drop 4 (some .int), Cond.methodLink RX7 224 yX5_placeCount, Cond.instanceMethod yX5_placeCount, Cond.selects RX5 yX5_placeCount yX5_placeCount, Cond.code yX5_placeCount cX5_placeCount 1 (some .int), Cond.methodLink RL 118 yX8_drop, Cond.instanceMethod yX8_drop, Cond.selects RX8 yX8_drop yX8_drop, Cond.code yX8_drop cX8_drop 3 (some .int), Cond.methodLink RL 119 yX7_count, Cond.instanceMethod yX7_count, Cond.selects RX7 yX7_count yX7_count, Cond.code yX7_count cX7_count 2 (some .int), Cond.methodLink RX7 233 yX7_placesOfAllTraces, Cond.instanceMethod yX7_placesOfAllTraces, Cond.selects RX7 yX7_placesOfAllTraces yX7_placesOfAllTraces]
def wsL_law_r36 : List Cond := [Cond.code yX7_placesOfAllTraces cX7_placesOfAllTraces 3 (some .int), Cond.methodLink RX7 236 yX2_tooSoonCount, Cond.instanceMethod yX2_tooSoonCount, Cond.selects RX2 yX2_tooSoonCount yX2_tooSoonCount, Cond.code yX2_tooSoonCount cX2_tooSoonCount 3 (some .int), Cond.methodLink RX2 68 yX2_soonBound, Cond.methodLink RL 122 yX8_count, Cond.instanceMethod yX8_count, Cond.selects RX8 yX8_count yX8_count, Cond.code yX8_count cX8_count 2 (some .int), Cond.methodLink RX8 271 yX8_allPlaces, Cond.instanceMethod yX8_allPlaces, Cond.selects RX8 yX8_allPlaces yX8_allPlaces, Cond.code yX8_allPlaces cX8_allPlaces 3 (some .int), Cond.methodLink RX8 274 yX8_tooSoon, Cond.instanceMethod yX8_tooSoon, Cond.selects RX8 yX8_tooSoon yX8_tooSoon, Cond.code yX8_tooSoon cX8_tooSoon 3 (some .int)]
def wsL_law : List Cond := (wsL_law_r1 ++ (wsL_law_r2 ++ (wsL_law_r3 ++ (wsL_law_r4 ++ (wsL_law_r5 ++ (wsL_law_r6 ++ (wsL_law_r7 ++ (wsL_law_r8 ++ (wsL_law_r9 ++ (wsL_law_r10 ++ (wsL_law_r11 ++ (wsL_law_r12 ++ (wsL_law_r13 ++ (wsL_law_r14 ++ (wsL_law_r15 ++ (wsL_law_r16 ++ (wsL_law_r17 ++ (wsL_law_r18 ++ (wsL_law_r19 ++ (wsL_law_r20 ++ (wsL_law_r21 ++ (wsL_law_r22 ++ (wsL_law_r23 ++ (wsL_law_r24 ++ (wsL_law_r25 ++ (wsL_law_r26 ++ (wsL_law_r27 ++ (wsL_law_r28 ++ (wsL_law_r29 ++ (wsL_law_r30 ++ (wsL_law_r31 ++ (wsL_law_r32 ++ (wsL_law_r33 ++ (wsL_law_r34 ++ (wsL_law_r35 ++ wsL_law_r36))))))))))))))))))))))))))))))))))) ++ wsX70 ++ wsX80 ++ wsX40 ++ wsX20 ++ wsX10 ++ wsX30 ++ wsX50 ++ ([] : List Cond)
set_option maxRecDepth 20000 in
theorem wsL_law_in : ∀ w ∈ wsL_law, w ∈ lw_tbl := fun w h => (goodIn_p wsL_law [74, 77, 82, 105, 110, 168, 188, 219, 733, 738, 742, 269, 272, 276, 280, 853, 857, 284, 288, 861, 292, 296, 300, 307, 311, 314, 317, 321, 325, 331, 335, 339, 345, 349, 352, 355, 360, 363, 366, 369, 373, 385, 389, 393, 398, 403, 411, 865, 869, 873, 876, 881, 887, 891, 895, 899, 903, 907, 415, 420, 424, 428, 911, 432, 436, 440, 444, 915, 919, 923, 927, 448, 452, 455, 931, 936, 459, 463, 467, 940, 471, 475, 479, 945, 484, 487, 949, 491, 953, 495, 499, 503, 507, 513, 516, 521, 525, 957, 961, 965, 968, 972, 976, 529, 533, 980, 984, 537, 541, 545, 549, 988, 992, 553, 557, 561, 565, 996, 1000, 569, 573, 1004, 577, 1008, 581, 585, 589, 593, 597, 601, 1012, 1016, 1021, 1025, 1029, 1033, 605, 608, 1037, 612, 615, 618, 622, 626, 1041, 1044, 630, 633, 637, 642, 646, 650, 655, 1049, 1055, 1059, 1063, 664, 668, 1073, 672, 676, 679, 682, 1077, 687, 691, 1081, 1085, 695, 699, 703, 707, 1089, 711, 715, 1093, 719, 723, 727, 1097, 1101, 1105] (by decide +kernel) (by decide +kernel) w h).1
theorem inX0 : ∀ w ∈ wsX00, w ∈ lw_tbl := by decide +kernel
theorem inlX1 : ∀ w ∈ wsX10, w ∈ wsL_law := fun _ h => List.mem_append_left _ (List.mem_append_left _ (List.mem_append_left _ (List.mem_append_right _ h)))
theorem inX1 : ∀ w ∈ wsX10, w ∈ lw_tbl := fun w h => wsL_law_in w (inlX1 w h)
theorem inlX2 : ∀ w ∈ wsX20, w ∈ wsL_law := fun _ h => List.mem_append_left _ (List.mem_append_left _ (List.mem_append_left _ (List.mem_append_left _ (List.mem_append_right _ h))))
theorem inX2 : ∀ w ∈ wsX20, w ∈ lw_tbl := fun w h => wsL_law_in w (inlX2 w h)
theorem inlX3 : ∀ w ∈ wsX30, w ∈ wsL_law := fun _ h => List.mem_append_left _ (List.mem_append_left _ (List.mem_append_right _ h))
theorem inX3 : ∀ w ∈ wsX30, w ∈ lw_tbl := fun w h => wsL_law_in w (inlX3 w h)
theorem inlX4 : ∀ w ∈ wsX40, w ∈ wsL_law := fun _ h => List.mem_append_left _ (List.mem_append_left _ (List.mem_append_left _ (List.mem_append_left _ (List.mem_append_left _ (List.mem_append_right _ h)))))
theorem inX4 : ∀ w ∈ wsX40, w ∈ lw_tbl := fun w h => wsL_law_in w (inlX4 w h)
theorem inlX5 : ∀ w ∈ wsX50, w ∈ wsL_law := fun _ h => List.mem_append_left _ (List.mem_append_right _ h)
theorem inX5 : ∀ w ∈ wsX50, w ∈ lw_tbl := fun w h => wsL_law_in w (inlX5 w h)
theorem inX6 : ∀ w ∈ wsX60, w ∈ lw_tbl := by decide +kernel
theorem inlX7 : ∀ w ∈ wsX70, w ∈ wsL_law := fun _ h => List.mem_append_left _ (List.mem_append_left _ (List.mem_append_left _ (List.mem_append_left _ (List.mem_append_left _ (List.mem_append_left _ (List.mem_append_left _ (List.mem_append_right _ h)))))))
theorem inX7 : ∀ w ∈ wsX70, w ∈ lw_tbl := fun w h => wsL_law_in w (inlX7 w h)
theorem inlX8 : ∀ w ∈ wsX80, w ∈ wsL_law := fun _ h => List.mem_append_left _ (List.mem_append_left _ (List.mem_append_left _ (List.mem_append_left _ (List.mem_append_left _ (List.mem_append_left _ (List.mem_append_right _ h))))))
theorem inX8 : ∀ w ∈ wsX80, w ∈ lw_tbl := fun w h => wsL_law_in w (inlX8 w h)
theorem inJx29ce0 : ∀ w ∈ wsJx29ce00, w ∈ lw_tbl := by decide +kernel
theorem inJ9 : ∀ w ∈ wsJ90, w ∈ lw_tbl := by decide +kernel
theorem inJ0 : ∀ w ∈ wsJ00, w ∈ lw_tbl := by decide +kernel
theorem inJ1 : ∀ w ∈ wsJ10, w ∈ lw_tbl := by decide +kernel
theorem inJ2 : ∀ w ∈ wsJ20, w ∈ lw_tbl := by decide +kernel
theorem inJ10 : ∀ w ∈ wsJ100, w ∈ lw_tbl := by decide +kernel
theorem inJ3 : ∀ w ∈ wsJ30, w ∈ lw_tbl := by decide +kernel
set_option maxRecDepth 20000 in
theorem ggX1_revertLatest_X2_delay : GoodIn wsX1_revertLatest wsX2_delay := goodIn_r _ [9, 10, 11, 16, 17, 18, 19, 20, 21, 22, 23, 24, 25] (by decide +kernel) (by decide +kernel)
set_option maxRecDepth 20000 in
theorem gX1_revertLatest_X2_delay : GoodIn wsX1_revertLatest (wsV RX1 36 RX2 yX2_delay wsX2_delay) := goodIn_app (goodIn_of _ (by decide +kernel)) ggX1_revertLatest_X2_delay
set_option maxRecDepth 20000 in
theorem ggX2_init_X2_begin : GoodIn wsX2_init wsX2_begin := goodIn_r _ [13, 14, 15, 16, 17, 18, 19, 20, 21, 22, 23, 24, 25, 26, 27, 28, 29] (by decide +kernel) (by decide +kernel)
set_option maxRecDepth 20000 in
theorem gX2_init_X2_begin : GoodIn wsX2_init (wsV RX2 24 RX2 yX2_begin wsX2_begin) := goodIn_app (goodIn_of _ (by decide +kernel)) ggX2_init_X2_begin
set_option maxRecDepth 20000 in
theorem ggX2_tell_Jx29ce0_ordinal_8abf5 : GoodIn wsX2_tell wsJx29ce0_ordinal_8abf5 := goodIn_r _ [11, 12] (by decide +kernel) (by decide +kernel)
set_option maxRecDepth 20000 in
theorem gX2_tell_Jx29ce0_ordinal_8abf5_u58X6 : GoodIn wsX2_tell (va_wsU RX2 58 RX6 "java/lang/Enum" ⟨"SkewPlan$Word", "ordinal", "()I"⟩ yJx29ce0_ordinal_8abf5 wsJx29ce0_ordinal_8abf5) := goodIn_app (goodIn_of _ (by decide +kernel)) ggX2_tell_Jx29ce0_ordinal_8abf5
set_option maxRecDepth 20000 in
theorem ggX2_tell_X2_begin : GoodIn wsX2_tell wsX2_begin := goodIn_r _ [17, 18, 2, 3, 4, 5, 19, 20, 21, 22, 23, 24, 25, 26, 27, 28, 29] (by decide +kernel) (by decide +kernel)
set_option maxRecDepth 20000 in
theorem gX2_tell_X2_begin : GoodIn wsX2_tell (wsV RX2 24 RX2 yX2_begin wsX2_begin) := goodIn_app (goodIn_of _ (by decide +kernel)) ggX2_tell_X2_begin
set_option maxRecDepth 20000 in
theorem ggX2_addPath_X2_hasAllPaths : GoodIn wsX2_addPath wsX2_hasAllPaths := goodIn_r _ [10, 2, 11, 12, 13, 14, 15, 16, 17, 18, 19, 20] (by decide +kernel) (by decide +kernel)
set_option maxRecDepth 20000 in
theorem gX2_addPath_X2_hasAllPaths : GoodIn wsX2_addPath (wsV RX2 64 RX2 yX2_hasAllPaths wsX2_hasAllPaths) := goodIn_app (goodIn_of _ (by decide +kernel)) ggX2_addPath_X2_hasAllPaths
set_option maxRecDepth 20000 in
theorem ggX2_tooSoonCount_X2_soonBound : GoodIn wsX2_tooSoonCount wsX2_soonBound := goodIn_r _ [6, 7, 8, 9, 10, 11, 12, 13, 14, 15, 16, 17, 18] (by decide +kernel) (by decide +kernel)
set_option maxRecDepth 20000 in
theorem gX2_tooSoonCount_X2_soonBound : GoodIn wsX2_tooSoonCount (wsV RX2 68 RX2 yX2_soonBound wsX2_soonBound) := goodIn_app (goodIn_of _ (by decide +kernel)) ggX2_tooSoonCount_X2_soonBound
set_option maxRecDepth 20000 in
theorem ggX3_settlesNow_X3_settlesWithMargin : GoodIn wsX3_settlesNow wsX3_settlesWithMargin := goodIn_r _ [5, 6, 7, 8, 4, 9, 10, 11, 12, 13, 14, 15, 16, 17, 18, 19, 20, 21, 22, 23, 24, 25, 26, 27, 28, 29, 30, 31, 32, 33, 34, 35, 36, 37, 38, 39, 40, 41, 42, 43, 44, 45, 46, 47, 48, 49, 50, 51, 52, 53, 54, 55, 56, 57] (by decide +kernel) (by decide +kernel)
set_option maxRecDepth 20000 in
theorem gX3_settlesNow_X3_settlesWithMargin : GoodIn wsX3_settlesNow (wsV RX3 35 RX3 yX3_settlesWithMargin wsX3_settlesWithMargin) := goodIn_app (goodIn_of _ (by decide +kernel)) ggX3_settlesNow_X3_settlesWithMargin
set_option maxRecDepth 20000 in
theorem ggX3_settlesWithMargin_X3_layBounds : GoodIn wsX3_settlesWithMargin wsX3_layBounds := goodIn_r _ [5, 6, 7, 8, 9, 10, 11, 12, 13, 14, 15, 16, 17, 18, 4, 19, 20, 21, 22, 23, 24, 25, 26, 27, 37, 38, 39, 40, 41, 42, 43, 44, 45, 46, 47, 48, 49, 50, 51, 52, 53] (by decide +kernel) (by decide +kernel)
set_option maxRecDepth 20000 in
theorem gX3_settlesWithMargin_X3_layBounds : GoodIn wsX3_settlesWithMargin (wsV RX3 47 RX3 yX3_layBounds wsX3_layBounds) := goodIn_app (goodIn_of _ (by decide +kernel)) ggX3_settlesWithMargin_X3_layBounds
set_option maxRecDepth 20000 in
theorem ggX3_settlesWithMargin_X3_settle : GoodIn wsX3_settlesWithMargin wsX3_settle := goodIn_r _ [31, 6, 32, 33, 34, 35, 4, 36, 7, 8, 47, 48, 49, 50, 51, 52, 53] (by decide +kernel) (by decide +kernel)
set_option maxRecDepth 20000 in
theorem gX3_settlesWithMargin_X3_settle : GoodIn wsX3_settlesWithMargin (wsV RX3 51 RX3 yX3_settle wsX3_settle) := goodIn_app (goodIn_of _ (by decide +kernel)) ggX3_settlesWithMargin_X3_settle
set_option maxRecDepth 20000 in
theorem ggX3_settlesAtPeriod_X3_layBounds : GoodIn wsX3_settlesAtPeriod wsX3_layBounds := goodIn_r _ [5, 6, 7, 8, 9, 10, 11, 12, 13, 14, 15, 16, 17, 18, 4, 19, 20, 21, 22, 23, 24, 25, 26, 27, 37, 38, 39, 40, 41, 42, 43, 44, 45, 46, 47, 48, 49, 50, 51, 52, 53] (by decide +kernel) (by decide +kernel)
set_option maxRecDepth 20000 in
theorem gX3_settlesAtPeriod_X3_layBounds : GoodIn wsX3_settlesAtPeriod (wsV RX3 47 RX3 yX3_layBounds wsX3_layBounds) := goodIn_app (goodIn_of _ (by decide +kernel)) ggX3_settlesAtPeriod_X3_layBounds
set_option maxRecDepth 20000 in
theorem ggX3_settlesAtPeriod_X3_settle : GoodIn wsX3_settlesAtPeriod wsX3_settle := goodIn_r _ [31, 6, 32, 33, 34, 35, 4, 36, 7, 8, 47, 48, 49, 50, 51, 52, 53] (by decide +kernel) (by decide +kernel)
set_option maxRecDepth 20000 in
theorem gX3_settlesAtPeriod_X3_settle : GoodIn wsX3_settlesAtPeriod (wsV RX3 51 RX3 yX3_settle wsX3_settle) := goodIn_app (goodIn_of _ (by decide +kernel)) ggX3_settlesAtPeriod_X3_settle
set_option maxRecDepth 20000 in
theorem ggX3_leastPeriod_X3_leastPeriodAbove : GoodIn wsX3_leastPeriod wsX3_leastPeriodAbove := goodIn_r _ [5, 6, 7, 8, 4, 9, 10, 11, 12, 13, 14, 15, 16, 17, 18, 19, 20, 21, 22, 23, 24, 25, 26, 27, 28, 29, 30, 31, 32, 33, 34, 35, 36, 37, 38, 39, 40, 41, 42, 43, 44, 45, 46, 47, 48, 49, 50, 51, 52, 53, 54, 55, 56, 57, 58, 59, 60, 61] (by decide +kernel) (by decide +kernel)
set_option maxRecDepth 20000 in
theorem gX3_leastPeriod_X3_leastPeriodAbove : GoodIn wsX3_leastPeriod (wsV RX3 55 RX3 yX3_leastPeriodAbove wsX3_leastPeriodAbove) := goodIn_app (goodIn_of _ (by decide +kernel)) ggX3_leastPeriod_X3_leastPeriodAbove
set_option maxRecDepth 20000 in
theorem ggX3_leastPeriodAbove_X3_settlesAtPeriod : GoodIn wsX3_leastPeriodAbove wsX3_settlesAtPeriod := goodIn_r _ [5, 6, 7, 8, 4, 9, 10, 11, 12, 13, 14, 15, 16, 17, 18, 19, 20, 21, 22, 23, 24, 25, 26, 27, 28, 29, 30, 31, 32, 33, 34, 35, 36, 37, 38, 39, 40, 41, 42, 43, 44, 45, 46, 47, 48, 49, 50, 51, 52, 53, 54, 55, 56, 57] (by decide +kernel) (by decide +kernel)
set_option maxRecDepth 20000 in
theorem gX3_leastPeriodAbove_X3_settlesAtPeriod : GoodIn wsX3_leastPeriodAbove (wsV RX3 59 RX3 yX3_settlesAtPeriod wsX3_settlesAtPeriod) := goodIn_app (goodIn_of _ (by decide +kernel)) ggX3_leastPeriodAbove_X3_settlesAtPeriod
set_option maxRecDepth 20000 in
theorem ggX3_findRate_X3_leastPeriodAbove : GoodIn wsX3_findRate wsX3_leastPeriodAbove := goodIn_r _ [7, 8, 9, 10, 6, 11, 12, 13, 14, 15, 16, 17, 18, 19, 20, 21, 22, 23, 24, 25, 26, 27, 28, 29, 30, 31, 32, 33, 34, 35, 36, 37, 38, 39, 40, 41, 42, 43, 44, 45, 46, 54, 55, 56, 57, 58, 59, 60, 61, 62, 63, 47, 48, 49, 50, 51, 52, 53] (by decide +kernel) (by decide +kernel)
set_option maxRecDepth 20000 in
theorem gX3_findRate_X3_leastPeriodAbove : GoodIn wsX3_findRate (wsV RX3 55 RX3 yX3_leastPeriodAbove wsX3_leastPeriodAbove) := goodIn_app (goodIn_of _ (by decide +kernel)) ggX3_findRate_X3_leastPeriodAbove
set_option maxRecDepth 20000 in
theorem ggX3_greatestMargin_J9_floorDiv_7cf53 : GoodIn wsX3_greatestMargin wsJ9_floorDiv_7cf53 := goodIn_r _ [4] (by decide +kernel) (by decide +kernel)
set_option maxRecDepth 20000 in
theorem gX3_greatestMargin_J9_floorDiv_7cf53 : GoodIn wsX3_greatestMargin (va_wsS RX3 66 yJ9_floorDiv_7cf53 wsJ9_floorDiv_7cf53) := goodIn_app (goodIn_of _ (by decide +kernel)) ggX3_greatestMargin_J9_floorDiv_7cf53
set_option maxRecDepth 20000 in
theorem ggX3_greatestMargin_X3_settlesWithMargin : GoodIn wsX3_greatestMargin wsX3_settlesWithMargin := goodIn_r _ [9, 10, 11, 12, 8, 13, 14, 15, 16, 17, 18, 19, 20, 21, 22, 23, 24, 25, 26, 27, 28, 29, 30, 31, 1, 2, 3, 4, 32, 33, 34, 35, 36, 37, 38, 39, 40, 41, 42, 43, 44, 45, 46, 47, 48, 49, 50, 51, 52, 53, 54, 55, 56, 57] (by decide +kernel) (by decide +kernel)
set_option maxRecDepth 20000 in
theorem gX3_greatestMargin_X3_settlesWithMargin : GoodIn wsX3_greatestMargin (wsV RX3 35 RX3 yX3_settlesWithMargin wsX3_settlesWithMargin) := goodIn_app (goodIn_of _ (by decide +kernel)) ggX3_greatestMargin_X3_settlesWithMargin
set_option maxRecDepth 20000 in
theorem ggX3_layBounds_X2_soonBound : GoodIn wsX3_layBounds wsX2_soonBound := goodIn_r _ [8, 9, 10, 24, 25, 26, 27, 28, 29, 30, 31, 32, 33] (by decide +kernel) (by decide +kernel)
set_option maxRecDepth 20000 in
theorem gX3_layBounds_X2_soonBound : GoodIn wsX3_layBounds (wsV RX3 89 RX2 yX2_soonBound wsX2_soonBound) := goodIn_app (goodIn_of _ (by decide +kernel)) ggX3_layBounds_X2_soonBound
set_option maxRecDepth 20000 in
theorem ggX3_layBounds_X3_tighten : GoodIn wsX3_layBounds wsX3_tighten := goodIn_r _ [15, 2, 16, 17, 18, 19, 20, 21, 22, 23, 34, 35, 36, 37, 38, 39, 40] (by decide +kernel) (by decide +kernel)
set_option maxRecDepth 20000 in
theorem gX3_layBounds_X3_tighten : GoodIn wsX3_layBounds (wsV RX3 93 RX3 yX3_tighten wsX3_tighten) := goodIn_app (goodIn_of _ (by decide +kernel)) ggX3_layBounds_X3_tighten
set_option maxRecDepth 20000 in
theorem ggX3_tighten_J9_floorDiv_7cf53 : GoodIn wsX3_tighten wsJ9_floorDiv_7cf53 := goodIn_r _ [9] (by decide +kernel) (by decide +kernel)
set_option maxRecDepth 20000 in
theorem gX3_tighten_J9_floorDiv_7cf53 : GoodIn wsX3_tighten (va_wsS RX3 66 yJ9_floorDiv_7cf53 wsJ9_floorDiv_7cf53) := goodIn_app (goodIn_of _ (by decide +kernel)) ggX3_tighten_J9_floorDiv_7cf53
set_option maxRecDepth 20000 in
theorem ggX3_settle_X3_lowerOnce : GoodIn wsX3_settle wsX3_lowerOnce := goodIn_r _ [7, 1, 8, 9, 2, 10, 11, 12, 13, 14, 15, 16] (by decide +kernel) (by decide +kernel)
set_option maxRecDepth 20000 in
theorem gX3_settle_X3_lowerOnce : GoodIn wsX3_settle (wsV RX3 100 RX3 yX3_lowerOnce wsX3_lowerOnce) := goodIn_app (goodIn_of _ (by decide +kernel)) ggX3_settle_X3_lowerOnce
set_option maxRecDepth 20000 in
theorem ggX3_findRing_X3_closesFrom : GoodIn wsX3_findRing wsX3_closesFrom := goodIn_r _ [8, 3, 9, 10, 1, 2, 11, 12, 13, 7, 14, 4, 5, 6, 15, 16, 17, 18, 19, 20, 21] (by decide +kernel) (by decide +kernel)
set_option maxRecDepth 20000 in
theorem gX3_findRing_X3_closesFrom : GoodIn wsX3_findRing (wsV RX3 103 RX3 yX3_closesFrom wsX3_closesFrom) := goodIn_app (goodIn_of _ (by decide +kernel)) ggX3_findRing_X3_closesFrom
set_option maxRecDepth 20000 in
theorem ggX3_closesFrom_X3_isInRing : GoodIn wsX3_closesFrom wsX3_isInRing := goodIn_r _ [10, 1, 14, 15, 16, 17, 18, 19, 20] (by decide +kernel) (by decide +kernel)
set_option maxRecDepth 20000 in
theorem gX3_closesFrom_X3_isInRing : GoodIn wsX3_closesFrom (wsV RX3 107 RX3 yX3_isInRing wsX3_isInRing) := goodIn_app (goodIn_of _ (by decide +kernel)) ggX3_closesFrom_X3_isInRing
set_option maxRecDepth 20000 in
theorem ggX3_closesFrom_X3_closesFrom : GoodIn wsX3_closesFrom wsX3_closesFrom := goodIn_r _ [0, 1, 2, 3, 4, 5, 6, 7, 8, 9, 10, 11, 12, 13, 14, 15, 16, 17, 18, 19, 20] (by decide +kernel) (by decide +kernel)
set_option maxRecDepth 20000 in
theorem gX3_closesFrom_X3_closesFrom : GoodIn wsX3_closesFrom (wsV RX3 103 RX3 yX3_closesFrom wsX3_closesFrom) := goodIn_app (goodIn_of _ (by decide +kernel)) ggX3_closesFrom_X3_closesFrom
set_option maxRecDepth 20000 in
theorem ggX4_read_X2_copyFrom : GoodIn wsX4_read wsX2_copyFrom := goodIn_r _ [9, 10, 11, 12, 13, 14, 15, 16, 17, 18, 19, 20, 21, 22, 23, 143, 144, 145, 146, 147, 148, 149, 150, 151, 152] (by decide +kernel) (by decide +kernel)
set_option maxRecDepth 20000 in
theorem gX4_read_X2_copyFrom : GoodIn wsX4_read (wsV RX4 22 RX2 yX2_copyFrom wsX2_copyFrom) := goodIn_app (goodIn_of _ (by decide +kernel)) ggX4_read_X2_copyFrom
set_option maxRecDepth 20000 in
theorem ggX4_read_X4_advance : GoodIn wsX4_read wsX4_advance := goodIn_r _ [28, 2, 3, 29, 4, 30, 31, 32, 27, 33, 34, 35, 36, 37, 38, 39, 138, 139, 140, 141, 142] (by decide +kernel) (by decide +kernel)
set_option maxRecDepth 20000 in
theorem gX4_read_X4_advance : GoodIn wsX4_read (wsV RX4 31 RX4 yX4_advance wsX4_advance) := goodIn_app (goodIn_of _ (by decide +kernel)) ggX4_read_X4_advance
set_option maxRecDepth 20000 in
theorem ggX4_read_X4_readClause : GoodIn wsX4_read wsX4_readClause := goodIn_r _ [43, 44, 45, 46, 47, 27, 48, 49, 50, 51, 52, 2, 3, 4, 53, 54, 55, 56, 57, 58, 59, 60, 61, 62, 63, 64, 65, 66, 67, 68, 69, 70, 71, 72, 73, 74, 75, 76, 77, 78, 79, 80, 81, 82, 83, 84, 85, 86, 87, 88, 89, 90, 91, 92, 93, 94, 95, 96, 97, 98, 99, 100, 101, 102, 103, 104, 8, 105, 15, 106, 107, 108, 109, 24, 25, 26, 28, 29, 30, 31, 32, 33, 34, 35, 36, 37, 38, 39, 110, 111, 112, 113, 114, 115, 116, 117, 118, 119, 120, 16, 21, 22, 23, 121, 122, 123, 124, 125, 126, 11, 12, 13, 14, 127, 128, 129, 130, 131, 132, 133, 134, 135, 136, 137, 10, 138, 139, 140, 141, 142, 143, 144, 145, 146, 147, 148, 149, 150, 151, 152] (by decide +kernel) (by decide +kernel)
set_option maxRecDepth 20000 in
theorem gX4_read_X4_readClause : GoodIn wsX4_read (wsV RX4 34 RX4 yX4_readClause wsX4_readClause) := goodIn_app (goodIn_of _ (by decide +kernel)) ggX4_read_X4_readClause
set_option maxRecDepth 20000 in
theorem ggX4_read_X4_isAtEnd : GoodIn wsX4_read wsX4_isAtEnd := goodIn_r _ [33, 3, 29, 138, 139, 140, 141, 142] (by decide +kernel) (by decide +kernel)
set_option maxRecDepth 20000 in
theorem gX4_read_X4_isAtEnd : GoodIn wsX4_read (wsV RX4 41 RX4 yX4_isAtEnd wsX4_isAtEnd) := goodIn_app (goodIn_of _ (by decide +kernel)) ggX4_read_X4_isAtEnd
set_option maxRecDepth 20000 in
theorem ggX4_advance_X4_isAtEnd : GoodIn wsX4_advance wsX4_isAtEnd := goodIn_r _ [9, 2, 3, 16, 17, 18, 19, 20] (by decide +kernel) (by decide +kernel)
set_option maxRecDepth 20000 in
theorem gX4_advance_X4_isAtEnd : GoodIn wsX4_advance (wsV RX4 41 RX4 yX4_isAtEnd wsX4_isAtEnd) := goodIn_app (goodIn_of _ (by decide +kernel)) ggX4_advance_X4_isAtEnd
set_option maxRecDepth 20000 in
theorem ggX4_advance_X4_isSmall : GoodIn wsX4_advance wsX4_isSmall := goodIn_r _ [12] (by decide +kernel) (by decide +kernel)
set_option maxRecDepth 20000 in
theorem gX4_advance_X4_isSmall : GoodIn wsX4_advance (va_wsS RX4 45 yX4_isSmall wsX4_isSmall) := goodIn_app (goodIn_of _ (by decide +kernel)) ggX4_advance_X4_isSmall
set_option maxRecDepth 20000 in
theorem ggX4_advance_X4_isDigit : GoodIn wsX4_advance wsX4_isDigit := goodIn_r _ [15] (by decide +kernel) (by decide +kernel)
set_option maxRecDepth 20000 in
theorem gX4_advance_X4_isDigit : GoodIn wsX4_advance (va_wsS RX4 49 yX4_isDigit wsX4_isDigit) := goodIn_app (goodIn_of _ (by decide +kernel)) ggX4_advance_X4_isDigit
set_option maxRecDepth 20000 in
theorem ggX4_readClause_X4_wordHere : GoodIn wsX4_readClause wsX4_wordHere := goodIn_r _ [6, 7, 8, 9, 5, 10, 11, 12, 13, 14, 15, 16, 17, 18, 19, 20, 21, 22, 23, 24, 25, 26, 27, 28, 29, 30, 31, 32, 33, 34, 35, 36, 37, 38, 39, 40, 41, 42, 43, 44, 45, 46, 47, 48, 49, 50, 51, 52, 53, 54, 55, 56, 57, 58, 59, 60, 61, 62, 125, 126, 127, 128, 129] (by decide +kernel) (by decide +kernel)
set_option maxRecDepth 20000 in
theorem gX4_readClause_X4_wordHere : GoodIn wsX4_readClause (wsV RX4 52 RX4 yX4_wordHere wsX4_wordHere) := goodIn_app (goodIn_of _ (by decide +kernel)) ggX4_readClause_X4_wordHere
set_option maxRecDepth 20000 in
theorem ggX4_readClause_X2_hasAllPaths : GoodIn wsX4_readClause wsX2_hasAllPaths := goodIn_r _ [67, 68, 130, 131, 132, 133, 134, 135, 136, 137, 138, 139] (by decide +kernel) (by decide +kernel)
set_option maxRecDepth 20000 in
theorem gX4_readClause_X2_hasAllPaths : GoodIn wsX4_readClause (wsV RX4 66 RX2 yX2_hasAllPaths wsX2_hasAllPaths) := goodIn_app (goodIn_of _ (by decide +kernel)) ggX4_readClause_X2_hasAllPaths
set_option maxRecDepth 20000 in
theorem ggX4_readClause_X4_readPath : GoodIn wsX4_readClause wsX4_readPath := goodIn_r _ [72, 73, 74, 75, 5, 76, 11, 12, 77, 13, 78, 79, 80, 81, 82, 83, 84, 85, 86, 87, 88, 89, 90, 91, 92, 93, 94, 95, 96, 97, 66, 98, 99, 68, 100, 101, 102, 103, 64, 65, 67, 130, 131, 132, 133, 134, 135, 136, 137, 138, 139, 125, 126, 127, 128, 129] (by decide +kernel) (by decide +kernel)
set_option maxRecDepth 20000 in
theorem gX4_readClause_X4_readPath : GoodIn wsX4_readClause (wsV RX4 69 RX4 yX4_readPath wsX4_readPath) := goodIn_app (goodIn_of _ (by decide +kernel)) ggX4_readClause_X4_readPath
set_option maxRecDepth 20000 in
theorem ggX4_readClause_X4_advance : GoodIn wsX4_readClause wsX4_advance := goodIn_r _ [76, 11, 12, 77, 13, 78, 79, 80, 5, 81, 82, 83, 84, 85, 86, 87, 125, 126, 127, 128, 129] (by decide +kernel) (by decide +kernel)
set_option maxRecDepth 20000 in
theorem gX4_readClause_X4_advance : GoodIn wsX4_readClause (wsV RX4 31 RX4 yX4_advance wsX4_advance) := goodIn_app (goodIn_of _ (by decide +kernel)) ggX4_readClause_X4_advance
set_option maxRecDepth 20000 in
theorem ggX4_readClause_X4_readNumber : GoodIn wsX4_readClause wsX4_readNumber := goodIn_r _ [91, 13, 12, 11, 78, 79, 80, 5, 81, 77, 85, 86, 87, 92, 93, 94, 73, 74, 75, 76, 82, 83, 84, 125, 126, 127, 128, 129] (by decide +kernel) (by decide +kernel)
set_option maxRecDepth 20000 in
theorem gX4_readClause_X4_readNumber : GoodIn wsX4_readClause (wsV RX4 78 RX4 yX4_readNumber wsX4_readNumber) := goodIn_app (goodIn_of _ (by decide +kernel)) ggX4_readClause_X4_readNumber
set_option maxRecDepth 20000 in
theorem ggX4_readClause_X2_tell : GoodIn wsX4_readClause wsX2_tell := goodIn_r _ [107, 108, 109, 110, 111, 112, 113, 114, 115, 116, 117, 118, 119, 120, 121, 122, 66, 123, 124, 68, 130, 131, 132, 133, 134, 135, 136, 137, 138, 139] (by decide +kernel) (by decide +kernel)
set_option maxRecDepth 20000 in
theorem gX4_readClause_X2_tell : GoodIn wsX4_readClause (wsV RX4 82 RX2 yX2_tell wsX2_tell) := goodIn_app (goodIn_of _ (by decide +kernel)) ggX4_readClause_X2_tell
set_option maxRecDepth 20000 in
theorem ggX4_readPath_X4_advance : GoodIn wsX4_readPath wsX4_advance := goodIn_r _ [5, 6, 7, 8, 9, 10, 11, 12, 4, 13, 14, 15, 16, 17, 18, 19, 51, 52, 53, 54, 55] (by decide +kernel) (by decide +kernel)
set_option maxRecDepth 20000 in
theorem gX4_readPath_X4_advance : GoodIn wsX4_readPath (wsV RX4 31 RX4 yX4_advance wsX4_advance) := goodIn_app (goodIn_of _ (by decide +kernel)) ggX4_readPath_X4_advance
set_option maxRecDepth 20000 in
theorem ggX4_readPath_X4_readNumber : GoodIn wsX4_readPath wsX4_readNumber := goodIn_r _ [23, 9, 7, 6, 10, 11, 12, 4, 13, 8, 17, 18, 19, 24, 25, 26, 1, 2, 3, 5, 14, 15, 16, 51, 52, 53, 54, 55] (by decide +kernel) (by decide +kernel)
set_option maxRecDepth 20000 in
theorem gX4_readPath_X4_readNumber : GoodIn wsX4_readPath (wsV RX4 78 RX4 yX4_readNumber wsX4_readNumber) := goodIn_app (goodIn_of _ (by decide +kernel)) ggX4_readPath_X4_readNumber
set_option maxRecDepth 20000 in
theorem ggX4_readPath_X2_addPath : GoodIn wsX4_readPath wsX2_addPath := goodIn_r _ [31, 32, 33, 34, 35, 36, 37, 38, 39, 30, 40, 41, 42, 43, 44, 45, 46, 47, 48, 49, 50] (by decide +kernel) (by decide +kernel)
set_option maxRecDepth 20000 in
theorem gX4_readPath_X2_addPath : GoodIn wsX4_readPath (wsV RX4 89 RX2 yX2_addPath wsX2_addPath) := goodIn_app (goodIn_of _ (by decide +kernel)) ggX4_readPath_X2_addPath
set_option maxRecDepth 20000 in
theorem ggX4_wordHere_X4_isSpelled : GoodIn wsX4_wordHere wsX4_isSpelled := goodIn_r _ [5, 6, 7, 8, 9, 10, 11, 12, 13, 14, 15, 16, 17, 18, 19, 20, 21, 22, 23, 24, 25, 26, 27, 28, 29, 30, 31, 32, 33, 34, 35, 36, 37, 38, 39, 40, 41, 42, 43, 44, 45, 46, 47, 48, 49, 50, 51, 52, 53, 54, 55, 56, 57, 58, 59, 60, 61, 62] (by decide +kernel) (by decide +kernel)
set_option maxRecDepth 20000 in
theorem gX4_wordHere_X4_isSpelled : GoodIn wsX4_wordHere (wsV RX4 97 RX4 yX4_isSpelled wsX4_isSpelled) := goodIn_app (goodIn_of _ (by decide +kernel)) ggX4_wordHere_X4_isSpelled
set_option maxRecDepth 20000 in
theorem ggX4_isSpelled_J0_length_8abf5 : GoodIn wsX4_isSpelled wsJ0_length_8abf5 := goodIn_r _ [8, 9, 10, 11, 12, 7, 13, 14, 15] (by decide +kernel) (by decide +kernel)
set_option maxRecDepth 20000 in
theorem gX4_isSpelled_J0_length_8abf5 : GoodIn wsX4_isSpelled (wsV RX4 101 RJ0 yJ0_length_8abf5 wsJ0_length_8abf5) := goodIn_app (goodIn_of _ (by decide +kernel)) ggX4_isSpelled_J0_length_8abf5
set_option maxRecDepth 20000 in
theorem ggX4_isSpelled_J0_charAt_5068e : GoodIn wsX4_isSpelled wsJ0_charAt_5068e := goodIn_r _ [19, 9, 20, 21, 22, 7, 23, 14, 15, 24, 25, 26, 27, 28, 29, 30, 31, 32, 33, 34, 35, 36, 37, 38, 39, 40, 41, 42, 43, 44, 45, 46, 47, 48, 49, 50, 51, 52] (by decide +kernel) (by decide +kernel)
set_option maxRecDepth 20000 in
theorem gX4_isSpelled_J0_charAt_5068e : GoodIn wsX4_isSpelled (wsV RX4 105 RJ0 yJ0_charAt_5068e wsJ0_charAt_5068e) := goodIn_app (goodIn_of _ (by decide +kernel)) ggX4_isSpelled_J0_charAt_5068e
set_option maxRecDepth 20000 in
theorem ggX4_readNumber_X4_isAtEnd : GoodIn wsX4_readNumber wsX4_isAtEnd := goodIn_r _ [8, 2, 9, 23, 24, 25, 26, 27] (by decide +kernel) (by decide +kernel)
set_option maxRecDepth 20000 in
theorem gX4_readNumber_X4_isAtEnd : GoodIn wsX4_readNumber (wsV RX4 41 RX4 yX4_isAtEnd wsX4_isAtEnd) := goodIn_app (goodIn_of _ (by decide +kernel)) ggX4_readNumber_X4_isAtEnd
set_option maxRecDepth 20000 in
theorem ggX4_readNumber_X4_isDigit : GoodIn wsX4_readNumber wsX4_isDigit := goodIn_r _ [12] (by decide +kernel) (by decide +kernel)
set_option maxRecDepth 20000 in
theorem gX4_readNumber_X4_isDigit : GoodIn wsX4_readNumber (va_wsS RX4 49 yX4_isDigit wsX4_isDigit) := goodIn_app (goodIn_of _ (by decide +kernel)) ggX4_readNumber_X4_isDigit
set_option maxRecDepth 20000 in
theorem ggX4_readNumber_X7_isWithin : GoodIn wsX4_readNumber wsX7_isWithin := goodIn_r _ [15] (by decide +kernel) (by decide +kernel)
set_option maxRecDepth 20000 in
theorem gX4_readNumber_X7_isWithin_n109 : GoodIn wsX4_readNumber (wsX7_isWithin) := ggX4_readNumber_X7_isWithin
set_option maxRecDepth 20000 in
theorem ggX4_readNumber_X4_advance : GoodIn wsX4_readNumber wsX4_advance := goodIn_r _ [19, 3, 2, 9, 1, 4, 5, 6, 7, 8, 20, 21, 22, 10, 11, 12, 23, 24, 25, 26, 27] (by decide +kernel) (by decide +kernel)
set_option maxRecDepth 20000 in
theorem gX4_readNumber_X4_advance : GoodIn wsX4_readNumber (wsV RX4 31 RX4 yX4_advance wsX4_advance) := goodIn_app (goodIn_of _ (by decide +kernel)) ggX4_readNumber_X4_advance
set_option maxRecDepth 20000 in
theorem ggX5_renew_X5_putNumber : GoodIn wsX5_renew wsX5_putNumber := goodIn_r _ [8, 9, 10, 11, 12, 13, 14, 15] (by decide +kernel) (by decide +kernel)
set_option maxRecDepth 20000 in
theorem gX5_renew_X5_putNumber : GoodIn wsX5_renew (wsV RX5 30 RX5 yX5_putNumber wsX5_putNumber) := goodIn_app (goodIn_of _ (by decide +kernel)) ggX5_renew_X5_putNumber
set_option maxRecDepth 20000 in
theorem ggX5_finding_X7_isWithin : GoodIn wsX5_finding wsX7_isWithin := goodIn_r _ [6] (by decide +kernel) (by decide +kernel)
set_option maxRecDepth 20000 in
theorem gX5_finding_X7_isWithin_n34 : GoodIn wsX5_finding (wsX7_isWithin) := ggX5_finding_X7_isWithin
set_option maxRecDepth 20000 in
theorem ggX5_putQuotient_X5_putNoNumber : GoodIn wsX5_putQuotient wsX5_putNoNumber := goodIn_r _ [6, 7, 8, 13, 14, 15, 16, 17] (by decide +kernel) (by decide +kernel)
set_option maxRecDepth 20000 in
theorem gX5_putQuotient_X5_putNoNumber : GoodIn wsX5_putQuotient (wsV RX5 38 RX5 yX5_putNoNumber wsX5_putNoNumber) := goodIn_app (goodIn_of _ (by decide +kernel)) ggX5_putQuotient_X5_putNoNumber
set_option maxRecDepth 20000 in
theorem ggX5_putQuotient_X5_putNumber : GoodIn wsX5_putQuotient wsX5_putNumber := goodIn_r _ [12, 7, 8, 13, 14, 15, 16, 17] (by decide +kernel) (by decide +kernel)
set_option maxRecDepth 20000 in
theorem gX5_putQuotient_X5_putNumber : GoodIn wsX5_putQuotient (wsV RX5 30 RX5 yX5_putNumber wsX5_putNumber) := goodIn_app (goodIn_of _ (by decide +kernel)) ggX5_putQuotient_X5_putNumber
set_option maxRecDepth 20000 in
theorem ggX5_putRemainder_X5_isEndless : GoodIn wsX5_putRemainder wsX5_isEndless := goodIn_r _ [6, 7, 8] (by decide +kernel) (by decide +kernel)
set_option maxRecDepth 20000 in
theorem gX5_putRemainder_X5_isEndless : GoodIn wsX5_putRemainder (va_wsS RX5 42 yX5_isEndless wsX5_isEndless) := goodIn_app (goodIn_of _ (by decide +kernel)) ggX5_putRemainder_X5_isEndless
set_option maxRecDepth 20000 in
theorem ggX5_putRemainder_X5_putNoNumber : GoodIn wsX5_putRemainder wsX5_putNoNumber := goodIn_r _ [12, 2, 1, 21, 22, 23, 24, 25] (by decide +kernel) (by decide +kernel)
set_option maxRecDepth 20000 in
theorem gX5_putRemainder_X5_putNoNumber : GoodIn wsX5_putRemainder (wsV RX5 38 RX5 yX5_putNoNumber wsX5_putNoNumber) := goodIn_app (goodIn_of _ (by decide +kernel)) ggX5_putRemainder_X5_putNoNumber
set_option maxRecDepth 20000 in
theorem ggX5_putRemainder_X5_remainder : GoodIn wsX5_putRemainder wsX5_remainder := goodIn_r _ [15, 16] (by decide +kernel) (by decide +kernel)
set_option maxRecDepth 20000 in
theorem gX5_putRemainder_X5_remainder : GoodIn wsX5_putRemainder (va_wsS RX5 46 yX5_remainder wsX5_remainder) := goodIn_app (goodIn_of _ (by decide +kernel)) ggX5_putRemainder_X5_remainder
set_option maxRecDepth 20000 in
theorem ggX5_putRemainder_X5_putNumber : GoodIn wsX5_putRemainder wsX5_putNumber := goodIn_r _ [20, 2, 1, 21, 22, 23, 24, 25] (by decide +kernel) (by decide +kernel)
set_option maxRecDepth 20000 in
theorem gX5_putRemainder_X5_putNumber : GoodIn wsX5_putRemainder (wsV RX5 30 RX5 yX5_putNumber wsX5_putNumber) := goodIn_app (goodIn_of _ (by decide +kernel)) ggX5_putRemainder_X5_putNumber
set_option maxRecDepth 20000 in
theorem ggX5_thousandAt_X5_cutThousand : GoodIn wsX5_thousandAt wsX5_cutThousand := goodIn_r _ [10, 11, 12, 13, 14, 2] (by decide +kernel) (by decide +kernel)
set_option maxRecDepth 20000 in
theorem gX5_thousandAt_X5_cutThousand : GoodIn wsX5_thousandAt (va_wsS RX5 58 yX5_cutThousand wsX5_cutThousand) := goodIn_app (goodIn_of _ (by decide +kernel)) ggX5_thousandAt_X5_cutThousand
set_option maxRecDepth 20000 in
theorem ggX5_thousandOfAll_X5_isEndless : GoodIn wsX5_thousandOfAll wsX5_isEndless := goodIn_r _ [9, 10, 11] (by decide +kernel) (by decide +kernel)
set_option maxRecDepth 20000 in
theorem gX5_thousandOfAll_X5_isEndless : GoodIn wsX5_thousandOfAll (va_wsS RX5 42 yX5_isEndless wsX5_isEndless) := goodIn_app (goodIn_of _ (by decide +kernel)) ggX5_thousandOfAll_X5_isEndless
set_option maxRecDepth 20000 in
theorem ggX5_thousandOfAll_X5_cutThousand : GoodIn wsX5_thousandOfAll wsX5_cutThousand := goodIn_r _ [14, 10, 15, 11, 16, 4] (by decide +kernel) (by decide +kernel)
set_option maxRecDepth 20000 in
theorem gX5_thousandOfAll_X5_cutThousand : GoodIn wsX5_thousandOfAll (va_wsS RX5 58 yX5_cutThousand wsX5_cutThousand) := goodIn_app (goodIn_of _ (by decide +kernel)) ggX5_thousandOfAll_X5_cutThousand
set_option maxRecDepth 20000 in
theorem ggX7_init_X4_init : GoodIn wsX7_init wsX4_init := goodIn_r _ [30, 31, 2, 3, 32, 33, 71, 72, 73, 74, 75] (by decide +kernel) (by decide +kernel)
set_option maxRecDepth 20000 in
theorem gX7_init_X4_init_n9 : GoodIn wsX7_init (wsX4_init) := ggX7_init_X4_init
set_option maxRecDepth 20000 in
theorem ggX7_init_X2_init : GoodIn wsX7_init wsX2_init := goodIn_r _ [36, 37, 2, 3, 38, 39, 40, 41, 42, 43, 44, 45, 10, 46, 47, 48, 49, 50, 51, 52, 85, 86, 87, 88, 89, 90, 91, 92, 93, 94] (by decide +kernel) (by decide +kernel)
set_option maxRecDepth 20000 in
theorem gX7_init_X2_init : GoodIn wsX7_init (wsX2_init) := ggX7_init_X2_init
set_option maxRecDepth 20000 in
theorem ggX7_init_X1_init : GoodIn wsX7_init wsX1_init := goodIn_r _ [54, 55, 2, 3, 38, 56, 57, 95, 96, 97, 98] (by decide +kernel) (by decide +kernel)
set_option maxRecDepth 20000 in
theorem gX7_init_X1_init_n39 : GoodIn wsX7_init (wsX1_init) := ggX7_init_X1_init
set_option maxRecDepth 20000 in
theorem ggX7_init_X3_init : GoodIn wsX7_init wsX3_init := goodIn_r _ [59, 60, 2, 3, 61, 38, 62, 63, 64, 99, 100, 101, 102, 103, 104, 105] (by decide +kernel) (by decide +kernel)
set_option maxRecDepth 20000 in
theorem gX7_init_X3_init_n46 : GoodIn wsX7_init (wsX3_init) := ggX7_init_X3_init
set_option maxRecDepth 20000 in
theorem ggX7_init_X5_init : GoodIn wsX7_init wsX5_init := goodIn_r _ [66, 67, 2, 3, 68, 69, 15, 70, 106, 107, 108, 109, 110] (by decide +kernel) (by decide +kernel)
set_option maxRecDepth 20000 in
theorem gX7_init_X5_init_n57 : GoodIn wsX7_init (wsX5_init) := ggX7_init_X5_init
set_option maxRecDepth 20000 in
theorem ggX7_write_X7_isWithin : GoodIn wsX7_write wsX7_isWithin := goodIn_r _ [5] (by decide +kernel) (by decide +kernel)
set_option maxRecDepth 20000 in
theorem gX7_write_X7_isWithin : GoodIn wsX7_write (va_wsS RX7 58 yX7_isWithin wsX7_isWithin) := goodIn_app (goodIn_of _ (by decide +kernel)) ggX7_write_X7_isWithin
set_option maxRecDepth 20000 in
theorem ggX7_write_X4_append : GoodIn wsX7_write wsX4_append := goodIn_r _ [10, 11, 12, 26, 27, 28, 29, 30] (by decide +kernel) (by decide +kernel)
set_option maxRecDepth 20000 in
theorem gX7_write_X4_append : GoodIn wsX7_write (wsV RX7 62 RX4 yX4_append wsX4_append) := goodIn_app (goodIn_of _ (by decide +kernel)) ggX7_write_X4_append
set_option maxRecDepth 20000 in
theorem ggX7_write_X4_letterCount : GoodIn wsX7_write wsX4_letterCount := goodIn_r _ [16, 11, 26, 27, 28, 29, 30] (by decide +kernel) (by decide +kernel)
set_option maxRecDepth 20000 in
theorem gX7_write_X4_letterCount : GoodIn wsX7_write (wsV RX7 66 RX4 yX4_letterCount wsX4_letterCount) := goodIn_app (goodIn_of _ (by decide +kernel)) ggX7_write_X4_letterCount
set_option maxRecDepth 20000 in
theorem ggX7_erase_X4_letterCount : GoodIn wsX7_erase wsX4_letterCount := goodIn_r _ [6, 7, 21, 22, 23, 24, 25] (by decide +kernel) (by decide +kernel)
set_option maxRecDepth 20000 in
theorem gX7_erase_X4_letterCount : GoodIn wsX7_erase (wsV RX7 66 RX4 yX4_letterCount wsX4_letterCount) := goodIn_app (goodIn_of _ (by decide +kernel)) ggX7_erase_X4_letterCount
set_option maxRecDepth 20000 in
theorem ggX7_erase_X4_clear : GoodIn wsX7_erase wsX4_clear := goodIn_r _ [11, 7, 21, 22, 23, 24, 25] (by decide +kernel) (by decide +kernel)
set_option maxRecDepth 20000 in
theorem gX7_erase_X4_clear : GoodIn wsX7_erase (wsV RX7 70 RX4 yX4_clear wsX4_clear) := goodIn_app (goodIn_of _ (by decide +kernel)) ggX7_erase_X4_clear
set_option maxRecDepth 20000 in
theorem ggX7_fault_X4_read : GoodIn wsX7_fault wsX4_read := goodIn_r _ [8, 9, 10, 11, 12, 13, 14, 15, 16, 17, 18, 19, 20, 21, 22, 23, 24, 25, 26, 27, 28, 29, 30, 31, 32, 33, 34, 7, 35, 36, 37, 38, 39, 40, 41, 42, 43, 44, 45, 46, 47, 48, 49, 50, 51, 52, 53, 54, 55, 56, 57, 58, 59, 60, 61, 62, 63, 64, 65, 66, 67, 68, 69, 70, 71, 72, 73, 74, 75, 76, 77, 78, 79, 80, 81, 82, 83, 84, 85, 86, 87, 88, 89, 90, 91, 92, 93, 94, 95, 96, 97, 98, 99, 100, 101, 102, 103, 104, 105, 106, 107, 108, 109, 110, 111, 112, 113, 114, 115, 116, 117, 118, 119, 120, 121, 122, 123, 124, 125, 126, 127, 128, 129, 130, 131, 132, 133, 134, 135, 136, 137, 138, 139, 140, 141, 142, 143, 144, 154, 155, 156, 157, 158, 159, 160, 161, 162, 163, 164, 165, 166, 167, 168] (by decide +kernel) (by decide +kernel)
set_option maxRecDepth 20000 in
theorem gX7_fault_X4_read : GoodIn wsX7_fault (wsV RX7 73 RX4 yX4_read wsX4_read) := goodIn_app (goodIn_of _ (by decide +kernel)) ggX7_fault_X4_read
set_option maxRecDepth 20000 in
theorem ggX7_net_X4_read : GoodIn wsX7_net wsX4_read := goodIn_r _ [12, 13, 14, 15, 16, 17, 18, 19, 20, 21, 22, 23, 24, 25, 26, 27, 28, 29, 30, 31, 32, 33, 34, 35, 36, 37, 38, 11, 39, 40, 41, 42, 43, 44, 45, 46, 47, 48, 49, 50, 51, 52, 53, 54, 55, 56, 57, 58, 59, 60, 61, 62, 63, 64, 65, 66, 67, 68, 69, 70, 71, 72, 73, 74, 75, 76, 77, 78, 79, 80, 81, 82, 83, 84, 85, 86, 87, 88, 89, 90, 91, 92, 93, 94, 95, 96, 97, 98, 99, 100, 101, 102, 103, 104, 105, 106, 107, 108, 109, 110, 111, 112, 113, 114, 115, 116, 117, 118, 119, 120, 121, 122, 123, 124, 125, 126, 127, 128, 129, 130, 131, 132, 133, 134, 135, 136, 137, 138, 139, 140, 141, 142, 143, 144, 145, 146, 147, 148, 180, 181, 182, 183, 184, 185, 186, 187, 188, 189, 190, 191, 192, 193, 194] (by decide +kernel) (by decide +kernel)
set_option maxRecDepth 20000 in
theorem gX7_net_X4_read : GoodIn wsX7_net (wsV RX7 73 RX4 yX4_read wsX4_read) := goodIn_app (goodIn_of _ (by decide +kernel)) ggX7_net_X4_read
set_option maxRecDepth 20000 in
theorem ggX7_net_X2_copyFrom : GoodIn wsX7_net wsX2_copyFrom := goodIn_r _ [21, 22, 23, 24, 25, 26, 27, 28, 29, 30, 31, 32, 33, 34, 35, 185, 186, 187, 188, 189, 190, 191, 192, 193, 194] (by decide +kernel) (by decide +kernel)
set_option maxRecDepth 20000 in
theorem gX7_net_X2_copyFrom : GoodIn wsX7_net (wsV RX7 77 RX2 yX2_copyFrom wsX2_copyFrom) := goodIn_app (goodIn_of _ (by decide +kernel)) ggX7_net_X2_copyFrom
set_option maxRecDepth 20000 in
theorem ggX7_net_X1_clear : GoodIn wsX7_net wsX1_clear := goodIn_r _ [154, 155, 195, 196, 197, 198] (by decide +kernel) (by decide +kernel)
set_option maxRecDepth 20000 in
theorem gX7_net_X1_clear : GoodIn wsX7_net (wsV RX7 81 RX1 yX1_clear wsX1_clear) := goodIn_app (goodIn_of _ (by decide +kernel)) ggX7_net_X1_clear
set_option maxRecDepth 20000 in
theorem ggX7_net_X5_lose : GoodIn wsX7_net wsX5_lose := goodIn_r _ [160, 161, 162, 199, 200, 201, 202, 203] (by decide +kernel) (by decide +kernel)
set_option maxRecDepth 20000 in
theorem gX7_net_X5_lose : GoodIn wsX7_net (wsV RX7 82 RX5 yX5_lose wsX5_lose) := goodIn_app (goodIn_of _ (by decide +kernel)) ggX7_net_X5_lose
set_option maxRecDepth 20000 in
theorem ggX7_net_X4_clear : GoodIn wsX7_net wsX4_clear := goodIn_r _ [166, 40, 180, 181, 182, 183, 184] (by decide +kernel) (by decide +kernel)
set_option maxRecDepth 20000 in
theorem gX7_net_X4_clear : GoodIn wsX7_net (wsV RX7 70 RX4 yX4_clear wsX4_clear) := goodIn_app (goodIn_of _ (by decide +kernel)) ggX7_net_X4_clear
set_option maxRecDepth 20000 in
theorem ggX7_net_X4_clauseCount : GoodIn wsX7_net wsX4_clauseCount := goodIn_r _ [170, 13, 180, 181, 182, 183, 184] (by decide +kernel) (by decide +kernel)
set_option maxRecDepth 20000 in
theorem gX7_net_X4_clauseCount : GoodIn wsX7_net (wsV RX7 85 RX4 yX4_clauseCount wsX4_clauseCount) := goodIn_app (goodIn_of _ (by decide +kernel)) ggX7_net_X4_clauseCount
set_option maxRecDepth 20000 in
theorem ggX7_path_X7_isPath : GoodIn wsX7_path wsX7_isPath := goodIn_r _ [6, 1, 7, 8, 5, 9, 24, 25, 26, 27, 28, 29, 30, 31, 32, 33, 34, 35, 36, 37, 38, 39, 40, 41, 42] (by decide +kernel) (by decide +kernel)
set_option maxRecDepth 20000 in
theorem gX7_path_X7_isPath : GoodIn wsX7_path (wsV RX7 88 RX7 yX7_isPath wsX7_isPath) := goodIn_app (goodIn_of _ (by decide +kernel)) ggX7_path_X7_isPath
set_option maxRecDepth 20000 in
theorem ggX7_path_X2_lateBound : GoodIn wsX7_path wsX2_lateBound := goodIn_r _ [14, 15, 16, 17, 33, 34, 35, 36, 37, 38, 39, 40, 41, 42] (by decide +kernel) (by decide +kernel)
set_option maxRecDepth 20000 in
theorem gX7_path_X2_lateBound : GoodIn wsX7_path (wsV RX7 105 RX2 yX2_lateBound wsX2_lateBound) := goodIn_app (goodIn_of _ (by decide +kernel)) ggX7_path_X2_lateBound
set_option maxRecDepth 20000 in
theorem ggX7_path_X2_soonBound : GoodIn wsX7_path wsX2_soonBound := goodIn_r _ [21, 22, 23, 33, 34, 35, 36, 37, 38, 39, 40, 41, 42] (by decide +kernel) (by decide +kernel)
set_option maxRecDepth 20000 in
theorem gX7_path_X2_soonBound : GoodIn wsX7_path (wsV RX7 109 RX2 yX2_soonBound wsX2_soonBound) := goodIn_app (goodIn_of _ (by decide +kernel)) ggX7_path_X2_soonBound
set_option maxRecDepth 20000 in
theorem ggX7_period_X7_isWithin : GoodIn wsX7_period wsX7_isWithin := goodIn_r _ [6] (by decide +kernel) (by decide +kernel)
set_option maxRecDepth 20000 in
theorem gX7_period_X7_isWithin : GoodIn wsX7_period (va_wsS RX7 58 yX7_isWithin wsX7_isWithin) := goodIn_app (goodIn_of _ (by decide +kernel)) ggX7_period_X7_isWithin
set_option maxRecDepth 20000 in
theorem ggX7_period_X1_push : GoodIn wsX7_period wsX1_push := goodIn_r _ [11, 12, 13, 14, 15, 16, 17, 18, 19, 39, 40, 41, 42] (by decide +kernel) (by decide +kernel)
set_option maxRecDepth 20000 in
theorem gX7_period_X1_push : GoodIn wsX7_period (wsV RX7 116 RX1 yX1_push wsX1_push) := goodIn_app (goodIn_of _ (by decide +kernel)) ggX7_period_X1_push
set_option maxRecDepth 20000 in
theorem ggX7_slower_X7_isPath : GoodIn wsX7_slower wsX7_isPath := goodIn_r _ [7, 1, 8, 9, 6, 10, 35, 36, 37, 38, 39, 40, 41, 42, 43, 44, 45, 46, 47, 48, 49, 50, 51, 52, 53] (by decide +kernel) (by decide +kernel)
set_option maxRecDepth 20000 in
theorem gX7_slower_X7_isPath : GoodIn wsX7_slower (wsV RX7 88 RX7 yX7_isPath wsX7_isPath) := goodIn_app (goodIn_of _ (by decide +kernel)) ggX7_slower_X7_isPath
set_option maxRecDepth 20000 in
theorem ggX7_slower_X7_isWithin : GoodIn wsX7_slower wsX7_isWithin := goodIn_r _ [10] (by decide +kernel) (by decide +kernel)
set_option maxRecDepth 20000 in
theorem gX7_slower_X7_isWithin : GoodIn wsX7_slower (va_wsS RX7 58 yX7_isWithin wsX7_isWithin) := goodIn_app (goodIn_of _ (by decide +kernel)) ggX7_slower_X7_isWithin
set_option maxRecDepth 20000 in
theorem ggX7_slower_X2_canBeSlower : GoodIn wsX7_slower wsX2_canBeSlower := goodIn_r _ [15, 16, 44, 45, 46, 47, 48, 49, 50, 51, 52, 53] (by decide +kernel) (by decide +kernel)
set_option maxRecDepth 20000 in
theorem gX7_slower_X2_canBeSlower : GoodIn wsX7_slower (wsV RX7 120 RX2 yX2_canBeSlower wsX2_canBeSlower) := goodIn_app (goodIn_of _ (by decide +kernel)) ggX7_slower_X2_canBeSlower
set_option maxRecDepth 20000 in
theorem ggX7_slower_X1_push : GoodIn wsX7_slower wsX1_push := goodIn_r _ [21, 22, 23, 24, 25, 26, 27, 28, 29, 54, 55, 56, 57] (by decide +kernel) (by decide +kernel)
set_option maxRecDepth 20000 in
theorem gX7_slower_X1_push : GoodIn wsX7_slower (wsV RX7 116 RX1 yX1_push wsX1_push) := goodIn_app (goodIn_of _ (by decide +kernel)) ggX7_slower_X1_push
set_option maxRecDepth 20000 in
theorem ggX7_slower_X2_delay : GoodIn wsX7_slower wsX2_delay := goodIn_r _ [33, 16, 34, 44, 45, 46, 47, 48, 49, 50, 51, 52, 53] (by decide +kernel) (by decide +kernel)
set_option maxRecDepth 20000 in
theorem gX7_slower_X2_delay : GoodIn wsX7_slower (wsV RX7 124 RX2 yX2_delay wsX2_delay) := goodIn_app (goodIn_of _ (by decide +kernel)) ggX7_slower_X2_delay
set_option maxRecDepth 20000 in
theorem ggX7_undo_X1_size : GoodIn wsX7_undo wsX1_size := goodIn_r _ [7, 8, 32, 33, 34, 35] (by decide +kernel) (by decide +kernel)
set_option maxRecDepth 20000 in
theorem gX7_undo_X1_size : GoodIn wsX7_undo (wsV RX7 127 RX1 yX1_size wsX1_size) := goodIn_app (goodIn_of _ (by decide +kernel)) ggX7_undo_X1_size
set_option maxRecDepth 20000 in
theorem ggX7_undo_X1_revertLatest : GoodIn wsX7_undo wsX1_revertLatest := goodIn_r _ [12, 8, 13, 14, 15, 16, 17, 18, 19, 20, 21, 22, 32, 33, 34, 35, 36, 37, 38, 39, 40, 41, 42, 43, 44, 45] (by decide +kernel) (by decide +kernel)
set_option maxRecDepth 20000 in
theorem gX7_undo_X1_revertLatest : GoodIn wsX7_undo (wsV RX7 130 RX1 yX1_revertLatest wsX1_revertLatest) := goodIn_app (goodIn_of _ (by decide +kernel)) ggX7_undo_X1_revertLatest
set_option maxRecDepth 20000 in
theorem ggX7_keep_X7_isKeptPlace : GoodIn wsX7_keep wsX7_isKeptPlace := goodIn_r _ [7, 8, 9, 6, 10] (by decide +kernel) (by decide +kernel)
set_option maxRecDepth 20000 in
theorem gX7_keep_X7_isKeptPlace : GoodIn wsX7_keep (va_wsS RX7 133 yX7_isKeptPlace wsX7_isKeptPlace) := goodIn_app (goodIn_of _ (by decide +kernel)) ggX7_keep_X7_isKeptPlace
set_option maxRecDepth 20000 in
theorem ggX7_keep_X2_copyFrom : GoodIn wsX7_keep wsX2_copyFrom := goodIn_r _ [15, 16, 17, 18, 19, 20, 21, 22, 23, 24, 25, 26, 27, 28, 29, 39, 40, 41, 42, 43, 44, 45, 46, 47, 48] (by decide +kernel) (by decide +kernel)
set_option maxRecDepth 20000 in
theorem gX7_keep_X2_copyFrom : GoodIn wsX7_keep (wsV RX7 77 RX2 yX2_copyFrom wsX2_copyFrom) := goodIn_app (goodIn_of _ (by decide +kernel)) ggX7_keep_X2_copyFrom
set_option maxRecDepth 20000 in
theorem ggX7_back_X7_isKeptPlace : GoodIn wsX7_back wsX7_isKeptPlace := goodIn_r _ [8, 9, 10, 7, 11] (by decide +kernel) (by decide +kernel)
set_option maxRecDepth 20000 in
theorem gX7_back_X7_isKeptPlace : GoodIn wsX7_back (va_wsS RX7 133 yX7_isKeptPlace wsX7_isKeptPlace) := goodIn_app (goodIn_of _ (by decide +kernel)) ggX7_back_X7_isKeptPlace
set_option maxRecDepth 20000 in
theorem ggX7_back_X2_copyFrom : GoodIn wsX7_back wsX2_copyFrom := goodIn_r _ [16, 17, 18, 19, 20, 21, 22, 23, 24, 25, 26, 27, 28, 29, 30, 46, 47, 48, 49, 50, 51, 52, 53, 54, 55] (by decide +kernel) (by decide +kernel)
set_option maxRecDepth 20000 in
theorem gX7_back_X2_copyFrom : GoodIn wsX7_back (wsV RX7 77 RX2 yX2_copyFrom wsX2_copyFrom) := goodIn_app (goodIn_of _ (by decide +kernel)) ggX7_back_X2_copyFrom
set_option maxRecDepth 20000 in
theorem ggX7_back_X1_clear : GoodIn wsX7_back wsX1_clear := goodIn_r _ [35, 36, 56, 57, 58, 59] (by decide +kernel) (by decide +kernel)
set_option maxRecDepth 20000 in
theorem gX7_back_X1_clear : GoodIn wsX7_back (wsV RX7 81 RX1 yX1_clear wsX1_clear) := goodIn_app (goodIn_of _ (by decide +kernel)) ggX7_back_X1_clear
set_option maxRecDepth 20000 in
theorem ggX7_feasible_X3_settlesNow : GoodIn wsX7_feasible wsX3_settlesNow := goodIn_r _ [7, 8, 9, 10, 6, 11, 12, 13, 14, 15, 16, 17, 18, 19, 20, 21, 22, 23, 24, 25, 26, 27, 28, 29, 30, 31, 32, 33, 34, 35, 36, 37, 38, 39, 40, 41, 42, 43, 44, 45, 46, 56, 57, 58, 59, 60, 61, 62, 63, 64, 65, 66, 67, 68, 69, 70, 71, 72] (by decide +kernel) (by decide +kernel)
set_option maxRecDepth 20000 in
theorem gX7_feasible_X3_settlesNow : GoodIn wsX7_feasible (wsV RX7 136 RX3 yX3_settlesNow wsX3_settlesNow) := goodIn_app (goodIn_of _ (by decide +kernel)) ggX7_feasible_X3_settlesNow
set_option maxRecDepth 20000 in
theorem ggX7_shift_X7_isWithin : GoodIn wsX7_shift wsX7_isWithin := goodIn_r _ [6] (by decide +kernel) (by decide +kernel)
set_option maxRecDepth 20000 in
theorem gX7_shift_X7_isWithin : GoodIn wsX7_shift (va_wsS RX7 58 yX7_isWithin wsX7_isWithin) := goodIn_app (goodIn_of _ (by decide +kernel)) ggX7_shift_X7_isWithin
set_option maxRecDepth 20000 in
theorem ggX7_shift_X3_settlesNow : GoodIn wsX7_shift wsX3_settlesNow := goodIn_r _ [11, 12, 13, 14, 10, 15, 16, 17, 18, 19, 20, 21, 22, 23, 24, 25, 26, 27, 28, 29, 30, 31, 32, 33, 34, 35, 36, 37, 38, 39, 40, 41, 42, 43, 44, 45, 46, 47, 48, 49, 50, 64, 65, 66, 67, 68, 69, 70, 71, 72, 73, 74, 75, 76, 77, 78, 79, 80] (by decide +kernel) (by decide +kernel)
set_option maxRecDepth 20000 in
theorem gX7_shift_X3_settlesNow : GoodIn wsX7_shift (wsV RX7 136 RX3 yX3_settlesNow wsX3_settlesNow) := goodIn_app (goodIn_of _ (by decide +kernel)) ggX7_shift_X3_settlesNow
set_option maxRecDepth 20000 in
theorem ggX7_shift_X3_shiftOf : GoodIn wsX7_shift wsX3_shiftOf := goodIn_r _ [54, 46, 74, 75, 76, 77, 78, 79, 80] (by decide +kernel) (by decide +kernel)
set_option maxRecDepth 20000 in
theorem gX7_shift_X3_shiftOf : GoodIn wsX7_shift (wsV RX7 143 RX3 yX3_shiftOf wsX3_shiftOf) := goodIn_app (goodIn_of _ (by decide +kernel)) ggX7_shift_X3_shiftOf
set_option maxRecDepth 20000 in
theorem ggX7_least_X3_leastPeriod : GoodIn wsX7_least wsX3_leastPeriod := goodIn_r _ [7, 8, 9, 10, 6, 11, 12, 13, 14, 15, 16, 17, 18, 19, 20, 21, 22, 23, 24, 25, 26, 27, 28, 29, 30, 31, 32, 33, 34, 35, 36, 37, 38, 39, 40, 41, 42, 43, 44, 45, 46, 47, 48, 49, 50, 60, 61, 62, 63, 64, 65, 66, 67, 68, 69, 70, 71, 72, 73, 74, 75, 76] (by decide +kernel) (by decide +kernel)
set_option maxRecDepth 20000 in
theorem gX7_least_X3_leastPeriod : GoodIn wsX7_least (wsV RX7 149 RX3 yX3_leastPeriod wsX3_leastPeriod) := goodIn_app (goodIn_of _ (by decide +kernel)) ggX7_least_X3_leastPeriod
set_option maxRecDepth 20000 in
theorem ggX7_rate_X7_isWithin : GoodIn wsX7_rate wsX7_isWithin := goodIn_r _ [6] (by decide +kernel) (by decide +kernel)
set_option maxRecDepth 20000 in
theorem gX7_rate_X7_isWithin : GoodIn wsX7_rate (va_wsS RX7 58 yX7_isWithin wsX7_isWithin) := goodIn_app (goodIn_of _ (by decide +kernel)) ggX7_rate_X7_isWithin
set_option maxRecDepth 20000 in
theorem ggX7_rate_X3_findRate : GoodIn wsX7_rate wsX3_findRate := goodIn_r _ [11, 12, 13, 14, 15, 16, 10, 17, 18, 19, 20, 21, 22, 23, 24, 25, 26, 27, 28, 29, 30, 31, 32, 33, 34, 35, 36, 37, 38, 39, 40, 41, 42, 43, 44, 45, 46, 47, 48, 49, 50, 51, 52, 53, 54, 55, 56, 74, 75, 76, 77, 78, 79, 80, 81, 82, 83, 84, 85, 86, 87, 88, 89, 90] (by decide +kernel) (by decide +kernel)
set_option maxRecDepth 20000 in
theorem gX7_rate_X3_findRate : GoodIn wsX7_rate (wsV RX7 153 RX3 yX3_findRate wsX3_findRate) := goodIn_app (goodIn_of _ (by decide +kernel)) ggX7_rate_X3_findRate
set_option maxRecDepth 20000 in
theorem ggX7_rate_X3_rateAbove : GoodIn wsX7_rate wsX3_rateAbove := goodIn_r _ [60, 12, 74, 75, 76, 77, 78, 79, 80] (by decide +kernel) (by decide +kernel)
set_option maxRecDepth 20000 in
theorem gX7_rate_X3_rateAbove : GoodIn wsX7_rate (wsV RX7 156 RX3 yX3_rateAbove wsX3_rateAbove) := goodIn_app (goodIn_of _ (by decide +kernel)) ggX7_rate_X3_rateAbove
set_option maxRecDepth 20000 in
theorem ggX7_rate_X3_rateBelow : GoodIn wsX7_rate wsX3_rateBelow := goodIn_r _ [64, 13, 74, 75, 76, 77, 78, 79, 80] (by decide +kernel) (by decide +kernel)
set_option maxRecDepth 20000 in
theorem gX7_rate_X3_rateBelow : GoodIn wsX7_rate (wsV RX7 159 RX3 yX3_rateBelow wsX3_rateBelow) := goodIn_app (goodIn_of _ (by decide +kernel)) ggX7_rate_X3_rateBelow
set_option maxRecDepth 20000 in
theorem ggX7_margin_X3_greatestMargin : GoodIn wsX7_margin wsX3_greatestMargin := goodIn_r _ [7, 8, 9, 10, 11, 12, 13, 14, 6, 15, 16, 17, 18, 19, 20, 21, 22, 23, 24, 25, 26, 27, 28, 29, 30, 31, 32, 33, 34, 35, 36, 37, 38, 39, 40, 41, 42, 43, 44, 45, 46, 56, 57, 58, 59, 60, 61, 62, 63, 64, 65, 66, 67, 68, 69, 70, 71, 72] (by decide +kernel) (by decide +kernel)
set_option maxRecDepth 20000 in
theorem gX7_margin_X3_greatestMargin : GoodIn wsX7_margin (wsV RX7 162 RX3 yX3_greatestMargin wsX3_greatestMargin) := goodIn_app (goodIn_of _ (by decide +kernel)) ggX7_margin_X3_greatestMargin
set_option maxRecDepth 20000 in
theorem ggX7_spare_X7_isPath : GoodIn wsX7_spare wsX7_isPath := goodIn_r _ [7, 2, 8, 9, 6, 10, 67, 68, 69, 70, 71, 72, 73, 74, 75, 76, 77, 78, 79, 80, 81, 82, 83, 84, 85] (by decide +kernel) (by decide +kernel)
set_option maxRecDepth 20000 in
theorem gX7_spare_X7_isPath : GoodIn wsX7_spare (wsV RX7 88 RX7 yX7_isPath wsX7_isPath) := goodIn_app (goodIn_of _ (by decide +kernel)) ggX7_spare_X7_isPath
set_option maxRecDepth 20000 in
theorem ggX7_spare_X7_isWithin : GoodIn wsX7_spare wsX7_isWithin := goodIn_r _ [10] (by decide +kernel) (by decide +kernel)
set_option maxRecDepth 20000 in
theorem gX7_spare_X7_isWithin : GoodIn wsX7_spare (va_wsS RX7 58 yX7_isWithin wsX7_isWithin) := goodIn_app (goodIn_of _ (by decide +kernel)) ggX7_spare_X7_isWithin
set_option maxRecDepth 20000 in
theorem ggX7_spare_X3_settlesNow : GoodIn wsX7_spare wsX3_settlesNow := goodIn_r _ [15, 16, 17, 18, 14, 19, 20, 21, 22, 23, 24, 25, 26, 27, 28, 29, 30, 31, 32, 33, 34, 35, 36, 37, 38, 39, 40, 41, 42, 43, 44, 45, 46, 47, 48, 49, 50, 51, 52, 53, 54, 76, 77, 78, 79, 80, 81, 82, 83, 84, 85, 86, 87, 88, 89, 90, 91, 92] (by decide +kernel) (by decide +kernel)
set_option maxRecDepth 20000 in
theorem gX7_spare_X3_settlesNow : GoodIn wsX7_spare (wsV RX7 136 RX3 yX3_settlesNow wsX3_settlesNow) := goodIn_app (goodIn_of _ (by decide +kernel)) ggX7_spare_X3_settlesNow
set_option maxRecDepth 20000 in
theorem ggX7_spare_X3_shiftOf : GoodIn wsX7_spare wsX3_shiftOf := goodIn_r _ [58, 50, 86, 87, 88, 89, 90, 91, 92] (by decide +kernel) (by decide +kernel)
set_option maxRecDepth 20000 in
theorem gX7_spare_X3_shiftOf : GoodIn wsX7_spare (wsV RX7 143 RX3 yX3_shiftOf wsX3_shiftOf) := goodIn_app (goodIn_of _ (by decide +kernel)) ggX7_spare_X3_shiftOf
set_option maxRecDepth 20000 in
theorem ggX7_spare_X2_lateBound : GoodIn wsX7_spare wsX2_lateBound := goodIn_r _ [62, 63, 64, 65, 76, 77, 78, 79, 80, 81, 82, 83, 84, 85] (by decide +kernel) (by decide +kernel)
set_option maxRecDepth 20000 in
theorem gX7_spare_X2_lateBound : GoodIn wsX7_spare (wsV RX7 105 RX2 yX2_lateBound wsX2_lateBound) := goodIn_app (goodIn_of _ (by decide +kernel)) ggX7_spare_X2_lateBound
set_option maxRecDepth 20000 in
theorem ggX7_spare_X2_soonBound : GoodIn wsX7_spare wsX2_soonBound := goodIn_r _ [31, 32, 33, 76, 77, 78, 79, 80, 81, 82, 83, 84, 85] (by decide +kernel) (by decide +kernel)
set_option maxRecDepth 20000 in
theorem gX7_spare_X2_soonBound : GoodIn wsX7_spare (wsV RX7 109 RX2 yX2_soonBound wsX2_soonBound) := goodIn_app (goodIn_of _ (by decide +kernel)) ggX7_spare_X2_soonBound
set_option maxRecDepth 20000 in
theorem ggX7_cycle_X3_settlesNow : GoodIn wsX7_cycle wsX3_settlesNow := goodIn_r _ [7, 8, 9, 10, 6, 11, 12, 13, 14, 15, 16, 17, 18, 19, 20, 21, 22, 23, 24, 25, 26, 27, 28, 29, 30, 31, 32, 33, 34, 35, 36, 37, 38, 39, 40, 41, 42, 43, 44, 45, 46, 78, 79, 80, 81, 82, 83, 84, 85, 86, 87, 88, 89, 90, 91, 92, 93, 94] (by decide +kernel) (by decide +kernel)
set_option maxRecDepth 20000 in
theorem gX7_cycle_X3_settlesNow : GoodIn wsX7_cycle (wsV RX7 136 RX3 yX3_settlesNow wsX3_settlesNow) := goodIn_app (goodIn_of _ (by decide +kernel)) ggX7_cycle_X3_settlesNow
set_option maxRecDepth 20000 in
theorem ggX7_cycle_X3_findRing : GoodIn wsX7_cycle wsX3_findRing := goodIn_r _ [50, 51, 16, 52, 53, 54, 55, 6, 56, 17, 18, 57, 58, 59, 60, 88, 89, 90, 91, 92, 93, 94] (by decide +kernel) (by decide +kernel)
set_option maxRecDepth 20000 in
theorem gX7_cycle_X3_findRing : GoodIn wsX7_cycle (wsV RX7 165 RX3 yX3_findRing wsX3_findRing) := goodIn_app (goodIn_of _ (by decide +kernel)) ggX7_cycle_X3_findRing
set_option maxRecDepth 20000 in
theorem ggX7_cycle_X3_ringLength : GoodIn wsX7_cycle wsX3_ringLength := goodIn_r _ [64, 51, 88, 89, 90, 91, 92, 93, 94] (by decide +kernel) (by decide +kernel)
set_option maxRecDepth 20000 in
theorem gX7_cycle_X3_ringLength : GoodIn wsX7_cycle (wsV RX7 169 RX3 yX3_ringLength wsX3_ringLength) := goodIn_app (goodIn_of _ (by decide +kernel)) ggX7_cycle_X3_ringLength
set_option maxRecDepth 20000 in
theorem ggX7_cycle_X3_ringRegister : GoodIn wsX7_cycle wsX3_ringRegister := goodIn_r _ [68, 52, 88, 89, 90, 91, 92, 93, 94] (by decide +kernel) (by decide +kernel)
set_option maxRecDepth 20000 in
theorem gX7_cycle_X3_ringRegister : GoodIn wsX7_cycle (wsV RX7 172 RX3 yX3_ringRegister wsX3_ringRegister) := goodIn_app (goodIn_of _ (by decide +kernel)) ggX7_cycle_X3_ringRegister
set_option maxRecDepth 20000 in
theorem ggX7_buffer_X7_isWithin : GoodIn wsX7_buffer wsX7_isWithin := goodIn_r _ [7] (by decide +kernel) (by decide +kernel)
set_option maxRecDepth 20000 in
theorem gX7_buffer_X7_isWithin : GoodIn wsX7_buffer (va_wsS RX7 58 yX7_isWithin wsX7_isWithin) := goodIn_app (goodIn_of _ (by decide +kernel)) ggX7_buffer_X7_isWithin
set_option maxRecDepth 20000 in
theorem ggX7_buffer_X3_leastPeriod : GoodIn wsX7_buffer wsX3_leastPeriod := goodIn_r _ [12, 13, 14, 15, 11, 16, 17, 18, 19, 20, 21, 22, 23, 24, 25, 26, 27, 28, 29, 30, 31, 32, 33, 34, 35, 36, 37, 38, 39, 40, 41, 42, 43, 44, 45, 46, 47, 48, 49, 50, 51, 52, 53, 54, 55, 92, 93, 94, 95, 96, 97, 98, 99, 100, 101, 102, 103, 104, 105, 106, 107, 108] (by decide +kernel) (by decide +kernel)
set_option maxRecDepth 20000 in
theorem gX7_buffer_X3_leastPeriod : GoodIn wsX7_buffer (wsV RX7 149 RX3 yX3_leastPeriod wsX3_leastPeriod) := goodIn_app (goodIn_of _ (by decide +kernel)) ggX7_buffer_X3_leastPeriod
set_option maxRecDepth 20000 in
theorem ggX7_buffer_X7_orAboveAll : GoodIn wsX7_buffer wsX7_orAboveAll := goodIn_r _ [58] (by decide +kernel) (by decide +kernel)
set_option maxRecDepth 20000 in
theorem gX7_buffer_X7_orAboveAll : GoodIn wsX7_buffer (va_wsS RX7 175 yX7_orAboveAll wsX7_orAboveAll) := goodIn_app (goodIn_of _ (by decide +kernel)) ggX7_buffer_X7_orAboveAll
set_option maxRecDepth 20000 in
theorem ggX7_buffer_X2_canBeSlower : GoodIn wsX7_buffer wsX2_canBeSlower := goodIn_r _ [62, 63, 92, 93, 94, 95, 96, 97, 98, 99, 100, 101] (by decide +kernel) (by decide +kernel)
set_option maxRecDepth 20000 in
theorem gX7_buffer_X2_canBeSlower : GoodIn wsX7_buffer (wsV RX7 120 RX2 yX2_canBeSlower wsX2_canBeSlower) := goodIn_app (goodIn_of _ (by decide +kernel)) ggX7_buffer_X2_canBeSlower
set_option maxRecDepth 20000 in
theorem ggX7_buffer_X2_copyFrom : GoodIn wsX7_buffer wsX2_copyFrom := goodIn_r _ [67, 68, 69, 34, 70, 71, 72, 73, 74, 75, 76, 77, 78, 63, 33, 92, 93, 94, 95, 96, 97, 98, 99, 100, 101] (by decide +kernel) (by decide +kernel)
set_option maxRecDepth 20000 in
theorem gX7_buffer_X2_copyFrom : GoodIn wsX7_buffer (wsV RX7 77 RX2 yX2_copyFrom wsX2_copyFrom) := goodIn_app (goodIn_of _ (by decide +kernel)) ggX7_buffer_X2_copyFrom
set_option maxRecDepth 20000 in
theorem ggX7_buffer_X2_delay : GoodIn wsX7_buffer wsX2_delay := goodIn_r _ [82, 63, 33, 92, 93, 94, 95, 96, 97, 98, 99, 100, 101] (by decide +kernel) (by decide +kernel)
set_option maxRecDepth 20000 in
theorem gX7_buffer_X2_delay : GoodIn wsX7_buffer (wsV RX7 124 RX2 yX2_delay wsX2_delay) := goodIn_app (goodIn_of _ (by decide +kernel)) ggX7_buffer_X2_delay
set_option maxRecDepth 20000 in
theorem ggX7_trace_X7_isTrace : GoodIn wsX7_trace wsX7_isTrace := goodIn_r _ [5, 6, 7, 4, 8] (by decide +kernel) (by decide +kernel)
set_option maxRecDepth 20000 in
theorem gX7_trace_X7_isTrace : GoodIn wsX7_trace (va_wsS RX7 181 yX7_isTrace wsX7_isTrace) := goodIn_app (goodIn_of _ (by decide +kernel)) ggX7_trace_X7_isTrace
set_option maxRecDepth 20000 in
theorem ggX7_trace_X7_isSort : GoodIn wsX7_trace wsX7_isSort := goodIn_r _ [11] (by decide +kernel) (by decide +kernel)
set_option maxRecDepth 20000 in
theorem gX7_trace_X7_isSort : GoodIn wsX7_trace (va_wsS RX7 184 yX7_isSort wsX7_isSort) := goodIn_app (goodIn_of _ (by decide +kernel)) ggX7_trace_X7_isSort
set_option maxRecDepth 20000 in
theorem ggX7_trace_X5_renew : GoodIn wsX7_trace wsX5_renew := goodIn_r _ [16, 17, 18, 19, 20, 21, 22, 15, 23, 24, 25, 35, 36, 37, 38, 39] (by decide +kernel) (by decide +kernel)
set_option maxRecDepth 20000 in
theorem gX7_trace_X5_renew : GoodIn wsX7_trace (wsV RX7 187 RX5 yX5_renew wsX5_renew) := goodIn_app (goodIn_of _ (by decide +kernel)) ggX7_trace_X5_renew
set_option maxRecDepth 20000 in
theorem ggX7_set_X7_isTrace : GoodIn wsX7_set wsX7_isTrace := goodIn_r _ [5, 6, 7, 4, 8] (by decide +kernel) (by decide +kernel)
set_option maxRecDepth 20000 in
theorem gX7_set_X7_isTrace : GoodIn wsX7_set (va_wsS RX7 181 yX7_isTrace wsX7_isTrace) := goodIn_app (goodIn_of _ (by decide +kernel)) ggX7_set_X7_isTrace
set_option maxRecDepth 20000 in
theorem ggX7_set_X7_isSort : GoodIn wsX7_set wsX7_isSort := goodIn_r _ [11] (by decide +kernel) (by decide +kernel)
set_option maxRecDepth 20000 in
theorem gX7_set_X7_isSort : GoodIn wsX7_set (va_wsS RX7 184 yX7_isSort wsX7_isSort) := goodIn_app (goodIn_of _ (by decide +kernel)) ggX7_set_X7_isSort
set_option maxRecDepth 20000 in
theorem ggX7_set_X7_isQuotientPart : GoodIn wsX7_set wsX7_isQuotientPart := goodIn_r _ [14, 6, 7, 4, 8] (by decide +kernel) (by decide +kernel)
set_option maxRecDepth 20000 in
theorem gX7_set_X7_isQuotientPart : GoodIn wsX7_set (va_wsS RX7 190 yX7_isQuotientPart wsX7_isQuotientPart) := goodIn_app (goodIn_of _ (by decide +kernel)) ggX7_set_X7_isQuotientPart
set_option maxRecDepth 20000 in
theorem ggX7_set_X5_finding : GoodIn wsX7_set wsX5_finding := goodIn_r _ [19, 20, 21, 22, 7, 4, 8, 60, 61, 62, 63, 64] (by decide +kernel) (by decide +kernel)
set_option maxRecDepth 20000 in
theorem gX7_set_X5_finding : GoodIn wsX7_set (wsV RX7 193 RX5 yX5_finding wsX5_finding) := goodIn_app (goodIn_of _ (by decide +kernel)) ggX7_set_X5_finding
set_option maxRecDepth 20000 in
theorem ggX7_set_X5_putQuotient : GoodIn wsX7_set wsX5_putQuotient := goodIn_r _ [26, 21, 27, 28, 29, 18, 30, 31, 32, 33, 34, 35, 36, 60, 61, 62, 63, 64] (by decide +kernel) (by decide +kernel)
set_option maxRecDepth 20000 in
theorem gX7_set_X5_putQuotient : GoodIn wsX7_set (wsV RX7 197 RX5 yX5_putQuotient wsX5_putQuotient) := goodIn_app (goodIn_of _ (by decide +kernel)) ggX7_set_X5_putQuotient
set_option maxRecDepth 20000 in
theorem ggX7_set_X5_thousandAt : GoodIn wsX7_set wsX5_thousandAt := goodIn_r _ [40, 32, 41, 21, 31, 42, 43, 44, 45, 18, 46, 47, 48, 49, 50, 60, 61, 62, 63, 64] (by decide +kernel) (by decide +kernel)
set_option maxRecDepth 20000 in
theorem gX7_set_X5_thousandAt : GoodIn wsX7_set (wsV RX7 201 RX5 yX5_thousandAt wsX5_thousandAt) := goodIn_app (goodIn_of _ (by decide +kernel)) ggX7_set_X5_thousandAt
set_option maxRecDepth 20000 in
theorem ggX7_get_X7_traceRefusal : GoodIn wsX7_get wsX7_traceRefusal := goodIn_r _ [6, 1, 7, 8, 5, 9, 10, 11, 12, 13, 14, 15, 16, 17, 18, 19, 20, 21, 22, 23, 40, 41, 42, 43, 44, 45, 46, 47, 48, 49, 50, 51, 52, 53] (by decide +kernel) (by decide +kernel)
set_option maxRecDepth 20000 in
theorem gX7_get_X7_traceRefusal : GoodIn wsX7_get (wsV RX7 204 RX7 yX7_traceRefusal wsX7_traceRefusal) := goodIn_app (goodIn_of _ (by decide +kernel)) ggX7_get_X7_traceRefusal
set_option maxRecDepth 20000 in
theorem ggX7_get_X5_thousandAt : GoodIn wsX7_get wsX5_thousandAt := goodIn_r _ [27, 28, 29, 22, 30, 31, 32, 33, 34, 19, 35, 36, 37, 38, 39, 49, 50, 51, 52, 53] (by decide +kernel) (by decide +kernel)
set_option maxRecDepth 20000 in
theorem gX7_get_X5_thousandAt : GoodIn wsX7_get (wsV RX7 201 RX5 yX5_thousandAt wsX5_thousandAt) := goodIn_app (goodIn_of _ (by decide +kernel)) ggX7_get_X5_thousandAt
set_option maxRecDepth 20000 in
theorem ggX7_rest_X7_traceRefusal : GoodIn wsX7_rest wsX7_traceRefusal := goodIn_r _ [6, 1, 7, 8, 5, 9, 10, 11, 12, 13, 14, 15, 16, 17, 18, 19, 20, 21, 22, 23, 59, 60, 61, 62, 63, 64, 65, 66, 67, 68, 69, 70, 71, 72] (by decide +kernel) (by decide +kernel)
set_option maxRecDepth 20000 in
theorem gX7_rest_X7_traceRefusal : GoodIn wsX7_rest (wsV RX7 204 RX7 yX7_traceRefusal wsX7_traceRefusal) := goodIn_app (goodIn_of _ (by decide +kernel)) ggX7_rest_X7_traceRefusal
set_option maxRecDepth 20000 in
theorem ggX7_rest_X5_putRemainder : GoodIn wsX7_rest wsX5_putRemainder := goodIn_r _ [27, 28, 29, 30, 31, 19, 32, 33, 34, 35, 36, 37, 38, 39, 40, 41, 42, 43, 44, 45, 46, 68, 69, 70, 71, 72] (by decide +kernel) (by decide +kernel)
set_option maxRecDepth 20000 in
theorem gX7_rest_X5_putRemainder : GoodIn wsX7_rest (wsV RX7 208 RX5 yX5_putRemainder wsX5_putRemainder) := goodIn_app (goodIn_of _ (by decide +kernel)) ggX7_rest_X5_putRemainder
set_option maxRecDepth 20000 in
theorem ggX7_rest_X5_thousandAt : GoodIn wsX7_rest wsX5_thousandAt := goodIn_r _ [50, 28, 51, 22, 29, 52, 53, 54, 55, 19, 56, 33, 57, 34, 58, 68, 69, 70, 71, 72] (by decide +kernel) (by decide +kernel)
set_option maxRecDepth 20000 in
theorem gX7_rest_X5_thousandAt : GoodIn wsX7_rest (wsV RX7 201 RX5 yX5_thousandAt wsX5_thousandAt) := goodIn_app (goodIn_of _ (by decide +kernel)) ggX7_rest_X5_thousandAt
set_option maxRecDepth 20000 in
theorem ggX7_compare_X7_traceRefusal : GoodIn wsX7_compare wsX7_traceRefusal := goodIn_r _ [6, 1, 7, 8, 5, 9, 10, 11, 12, 13, 14, 15, 16, 17, 18, 19, 20, 21, 22, 23, 30, 31, 32, 33, 34, 35, 36, 37, 38, 39, 40, 41, 42, 43] (by decide +kernel) (by decide +kernel)
set_option maxRecDepth 20000 in
theorem gX7_compare_X7_traceRefusal : GoodIn wsX7_compare (wsV RX7 204 RX7 yX7_traceRefusal wsX7_traceRefusal) := goodIn_app (goodIn_of _ (by decide +kernel)) ggX7_compare_X7_traceRefusal
set_option maxRecDepth 20000 in
theorem ggX7_compare_X5_order : GoodIn wsX7_compare wsX5_order := goodIn_r _ [27, 28, 29, 39, 40, 41, 42, 43] (by decide +kernel) (by decide +kernel)
set_option maxRecDepth 20000 in
theorem gX7_compare_X5_order : GoodIn wsX7_compare (wsV RX7 211 RX5 yX5_order wsX5_order) := goodIn_app (goodIn_of _ (by decide +kernel)) ggX7_compare_X5_order
set_option maxRecDepth 20000 in
theorem ggX7_sum_X7_isTrace : GoodIn wsX7_sum wsX7_isTrace := goodIn_r _ [5, 6, 7, 4, 8] (by decide +kernel) (by decide +kernel)
set_option maxRecDepth 20000 in
theorem gX7_sum_X7_isTrace : GoodIn wsX7_sum (va_wsS RX7 181 yX7_isTrace wsX7_isTrace) := goodIn_app (goodIn_of _ (by decide +kernel)) ggX7_sum_X7_isTrace
set_option maxRecDepth 20000 in
theorem ggX7_sum_X7_isWithin : GoodIn wsX7_sum wsX7_isWithin := goodIn_r _ [8] (by decide +kernel) (by decide +kernel)
set_option maxRecDepth 20000 in
theorem gX7_sum_X7_isWithin : GoodIn wsX7_sum (va_wsS RX7 58 yX7_isWithin wsX7_isWithin) := goodIn_app (goodIn_of _ (by decide +kernel)) ggX7_sum_X7_isWithin
set_option maxRecDepth 20000 in
theorem ggX7_sum_X5_isMissing : GoodIn wsX7_sum wsX5_isMissing := goodIn_r _ [13, 14, 47, 48, 49, 50, 51] (by decide +kernel) (by decide +kernel)
set_option maxRecDepth 20000 in
theorem gX7_sum_X5_isMissing : GoodIn wsX7_sum (wsV RX7 215 RX5 yX5_isMissing wsX5_isMissing) := goodIn_app (goodIn_of _ (by decide +kernel)) ggX7_sum_X5_isMissing
set_option maxRecDepth 20000 in
theorem ggX7_sum_X5_thousandOfAll : GoodIn wsX7_sum wsX5_thousandOfAll := goodIn_r _ [18, 19, 20, 21, 22, 23, 24, 25, 12, 26, 27, 28, 29, 30, 31, 32, 33, 47, 48, 49, 50, 51] (by decide +kernel) (by decide +kernel)
set_option maxRecDepth 20000 in
theorem gX7_sum_X5_thousandOfAll : GoodIn wsX7_sum (wsV RX7 218 RX5 yX5_thousandOfAll wsX5_thousandOfAll) := goodIn_app (goodIn_of _ (by decide +kernel)) ggX7_sum_X5_thousandOfAll
set_option maxRecDepth 20000 in
theorem ggX7_sum_X5_noNumberCount : GoodIn wsX7_sum wsX5_noNumberCount := goodIn_r _ [37, 19, 21, 47, 48, 49, 50, 51] (by decide +kernel) (by decide +kernel)
set_option maxRecDepth 20000 in
theorem gX7_sum_X5_noNumberCount : GoodIn wsX7_sum (wsV RX7 221 RX5 yX5_noNumberCount wsX5_noNumberCount) := goodIn_app (goodIn_of _ (by decide +kernel)) ggX7_sum_X5_noNumberCount
set_option maxRecDepth 20000 in
theorem ggX7_drop_X7_isTrace : GoodIn wsX7_drop wsX7_isTrace := goodIn_r _ [5, 6, 7, 4, 8] (by decide +kernel) (by decide +kernel)
set_option maxRecDepth 20000 in
theorem gX7_drop_X7_isTrace : GoodIn wsX7_drop (va_wsS RX7 181 yX7_isTrace wsX7_isTrace) := goodIn_app (goodIn_of _ (by decide +kernel)) ggX7_drop_X7_isTrace
set_option maxRecDepth 20000 in
theorem ggX7_drop_X5_isMissing : GoodIn wsX7_drop wsX5_isMissing := goodIn_r _ [13, 14, 33, 34, 35, 36, 37] (by decide +kernel) (by decide +kernel)
set_option maxRecDepth 20000 in
theorem gX7_drop_X5_isMissing : GoodIn wsX7_drop (wsV RX7 215 RX5 yX5_isMissing wsX5_isMissing) := goodIn_app (goodIn_of _ (by decide +kernel)) ggX7_drop_X5_isMissing
set_option maxRecDepth 20000 in
theorem ggX7_drop_X5_placeCount : GoodIn wsX7_drop wsX5_placeCount := goodIn_r _ [18, 19, 33, 34, 35, 36, 37] (by decide +kernel) (by decide +kernel)
set_option maxRecDepth 20000 in
theorem gX7_drop_X5_placeCount : GoodIn wsX7_drop (wsV RX7 224 RX5 yX5_placeCount wsX5_placeCount) := goodIn_app (goodIn_of _ (by decide +kernel)) ggX7_drop_X5_placeCount
set_option maxRecDepth 20000 in
theorem ggX7_drop_X5_lose : GoodIn wsX7_drop wsX5_lose := goodIn_r _ [23, 14, 19, 33, 34, 35, 36, 37] (by decide +kernel) (by decide +kernel)
set_option maxRecDepth 20000 in
theorem gX7_drop_X5_lose : GoodIn wsX7_drop (wsV RX7 82 RX5 yX5_lose wsX5_lose) := goodIn_app (goodIn_of _ (by decide +kernel)) ggX7_drop_X5_lose
set_option maxRecDepth 20000 in
theorem ggX7_count_X7_placesOfAllTraces : GoodIn wsX7_count wsX7_placesOfAllTraces := goodIn_r _ [8, 9, 10, 11, 12, 13, 14, 15, 40, 41, 42, 43, 44, 45, 46, 47, 48, 59, 60, 61, 62, 63] (by decide +kernel) (by decide +kernel)
set_option maxRecDepth 20000 in
theorem gX7_count_X7_placesOfAllTraces : GoodIn wsX7_count (wsV RX7 233 RX7 yX7_placesOfAllTraces wsX7_placesOfAllTraces) := goodIn_app (goodIn_of _ (by decide +kernel)) ggX7_count_X7_placesOfAllTraces
set_option maxRecDepth 20000 in
theorem ggX7_count_X1_size : GoodIn wsX7_count wsX1_size := goodIn_r _ [20, 21, 64, 65, 66, 67] (by decide +kernel) (by decide +kernel)
set_option maxRecDepth 20000 in
theorem gX7_count_X1_size : GoodIn wsX7_count (wsV RX7 127 RX1 yX1_size wsX1_size) := goodIn_app (goodIn_of _ (by decide +kernel)) ggX7_count_X1_size
set_option maxRecDepth 20000 in
theorem ggX7_count_X4_letterCount : GoodIn wsX7_count wsX4_letterCount := goodIn_r _ [26, 27, 68, 69, 70, 71, 72] (by decide +kernel) (by decide +kernel)
set_option maxRecDepth 20000 in
theorem gX7_count_X4_letterCount : GoodIn wsX7_count (wsV RX7 66 RX4 yX4_letterCount wsX4_letterCount) := goodIn_app (goodIn_of _ (by decide +kernel)) ggX7_count_X4_letterCount
set_option maxRecDepth 20000 in
theorem ggX7_count_X2_tooSoonCount : GoodIn wsX7_count wsX2_tooSoonCount := goodIn_r _ [32, 33, 34, 35, 36, 31, 37, 38, 39, 49, 50, 51, 52, 53, 54, 55, 56, 57, 58] (by decide +kernel) (by decide +kernel)
set_option maxRecDepth 20000 in
theorem gX7_count_X2_tooSoonCount : GoodIn wsX7_count (wsV RX7 236 RX2 yX2_tooSoonCount wsX2_tooSoonCount) := goodIn_app (goodIn_of _ (by decide +kernel)) ggX7_count_X2_tooSoonCount
set_option maxRecDepth 20000 in
theorem ggX7_isPath_X7_isWithin : GoodIn wsX7_isPath wsX7_isWithin := goodIn_r _ [5] (by decide +kernel) (by decide +kernel)
set_option maxRecDepth 20000 in
theorem gX7_isPath_X7_isWithin : GoodIn wsX7_isPath (va_wsS RX7 58 yX7_isWithin wsX7_isWithin) := goodIn_app (goodIn_of _ (by decide +kernel)) ggX7_isPath_X7_isWithin
set_option maxRecDepth 20000 in
theorem ggX7_isKeptPlace_X7_isWithin : GoodIn wsX7_isKeptPlace wsX7_isWithin := goodIn_r _ [4] (by decide +kernel) (by decide +kernel)
set_option maxRecDepth 20000 in
theorem gX7_isKeptPlace_X7_isWithin : GoodIn wsX7_isKeptPlace (va_wsS RX7 58 yX7_isWithin wsX7_isWithin) := goodIn_app (goodIn_of _ (by decide +kernel)) ggX7_isKeptPlace_X7_isWithin
set_option maxRecDepth 20000 in
theorem ggX7_isTrace_X7_isWithin : GoodIn wsX7_isTrace wsX7_isWithin := goodIn_r _ [4] (by decide +kernel) (by decide +kernel)
set_option maxRecDepth 20000 in
theorem gX7_isTrace_X7_isWithin : GoodIn wsX7_isTrace (va_wsS RX7 58 yX7_isWithin wsX7_isWithin) := goodIn_app (goodIn_of _ (by decide +kernel)) ggX7_isTrace_X7_isWithin
set_option maxRecDepth 20000 in
theorem ggX7_isQuotientPart_X7_isWithin : GoodIn wsX7_isQuotientPart wsX7_isWithin := goodIn_r _ [4] (by decide +kernel) (by decide +kernel)
set_option maxRecDepth 20000 in
theorem gX7_isQuotientPart_X7_isWithin : GoodIn wsX7_isQuotientPart (va_wsS RX7 58 yX7_isWithin wsX7_isWithin) := goodIn_app (goodIn_of _ (by decide +kernel)) ggX7_isQuotientPart_X7_isWithin
set_option maxRecDepth 20000 in
theorem ggX7_traceRefusal_X7_isTrace : GoodIn wsX7_traceRefusal wsX7_isTrace := goodIn_r _ [5, 6, 7, 4, 8] (by decide +kernel) (by decide +kernel)
set_option maxRecDepth 20000 in
theorem gX7_traceRefusal_X7_isTrace : GoodIn wsX7_traceRefusal (va_wsS RX7 181 yX7_isTrace wsX7_isTrace) := goodIn_app (goodIn_of _ (by decide +kernel)) ggX7_traceRefusal_X7_isTrace
set_option maxRecDepth 20000 in
theorem ggX7_traceRefusal_X7_isSort : GoodIn wsX7_traceRefusal wsX7_isSort := goodIn_r _ [11] (by decide +kernel) (by decide +kernel)
set_option maxRecDepth 20000 in
theorem gX7_traceRefusal_X7_isSort : GoodIn wsX7_traceRefusal (va_wsS RX7 184 yX7_isSort wsX7_isSort) := goodIn_app (goodIn_of _ (by decide +kernel)) ggX7_traceRefusal_X7_isSort
set_option maxRecDepth 20000 in
theorem ggX7_traceRefusal_X5_finding : GoodIn wsX7_traceRefusal wsX5_finding := goodIn_r _ [16, 17, 18, 19, 7, 4, 8, 29, 30, 31, 32, 33] (by decide +kernel) (by decide +kernel)
set_option maxRecDepth 20000 in
theorem gX7_traceRefusal_X5_finding : GoodIn wsX7_traceRefusal (wsV RX7 193 RX5 yX5_finding wsX5_finding) := goodIn_app (goodIn_of _ (by decide +kernel)) ggX7_traceRefusal_X5_finding
set_option maxRecDepth 20000 in
theorem ggX7_placesOfAllTraces_X5_placeCount : GoodIn wsX7_placesOfAllTraces wsX5_placeCount := goodIn_r _ [6, 7, 17, 18, 19, 20, 21] (by decide +kernel) (by decide +kernel)
set_option maxRecDepth 20000 in
theorem gX7_placesOfAllTraces_X5_placeCount : GoodIn wsX7_placesOfAllTraces (wsV RX7 224 RX5 yX5_placeCount wsX5_placeCount) := goodIn_app (goodIn_of _ (by decide +kernel)) ggX7_placesOfAllTraces_X5_placeCount
set_option maxRecDepth 20000 in
theorem ggX8_init_X8_anew : GoodIn wsX8_init wsX8_anew := goodIn_r _ [33, 34, 35, 36, 37, 38, 5, 43, 44, 45, 46, 47, 48, 49, 50, 51, 52, 53, 54, 55, 56, 57, 58, 59, 60, 61, 62, 63, 64, 65, 66, 67, 68, 69, 70, 71, 72, 73, 74, 75, 76, 77] (by decide +kernel) (by decide +kernel)
set_option maxRecDepth 20000 in
theorem gX8_init_X8_anew : GoodIn wsX8_init (wsV RX8 76 RX8 yX8_anew wsX8_anew) := goodIn_app (goodIn_of _ (by decide +kernel)) ggX8_init_X8_anew
set_option maxRecDepth 20000 in
theorem ggX8_init_X8_copyRow : GoodIn wsX8_init wsX8_copyRow := goodIn_r _ [42, 5, 43, 44, 45, 46, 47, 48, 49, 50, 51, 52, 53, 54, 55, 56, 57, 58, 59, 60, 61, 62, 63, 64, 65, 66, 67, 68, 69, 70, 71, 72, 73, 74, 75, 76, 77] (by decide +kernel) (by decide +kernel)
set_option maxRecDepth 20000 in
theorem gX8_init_X8_copyRow : GoodIn wsX8_init (wsV RX8 80 RX8 yX8_copyRow wsX8_copyRow) := goodIn_app (goodIn_of _ (by decide +kernel)) ggX8_init_X8_copyRow
set_option maxRecDepth 20000 in
theorem ggX8_write_X8_in : GoodIn wsX8_write wsX8_in := goodIn_r _ [7] (by decide +kernel) (by decide +kernel)
set_option maxRecDepth 20000 in
theorem gX8_write_X8_in : GoodIn wsX8_write (va_wsS RX8 102 yX8_in wsX8_in) := goodIn_app (goodIn_of _ (by decide +kernel)) ggX8_write_X8_in
set_option maxRecDepth 20000 in
theorem ggX8_isLetter_X8_in : GoodIn wsX8_isLetter wsX8_in := goodIn_r _ [6] (by decide +kernel) (by decide +kernel)
set_option maxRecDepth 20000 in
theorem gX8_isLetter_X8_in : GoodIn wsX8_isLetter (va_wsS RX8 102 yX8_in wsX8_in) := goodIn_app (goodIn_of _ (by decide +kernel)) ggX8_isLetter_X8_in
set_option maxRecDepth 20000 in
theorem ggX8_isDigit_X8_in : GoodIn wsX8_isDigit wsX8_in := goodIn_r _ [6] (by decide +kernel) (by decide +kernel)
set_option maxRecDepth 20000 in
theorem gX8_isDigit_X8_in : GoodIn wsX8_isDigit (va_wsS RX8 102 yX8_in wsX8_in) := goodIn_app (goodIn_of _ (by decide +kernel)) ggX8_isDigit_X8_in
set_option maxRecDepth 20000 in
theorem ggX8_nextToken_X8_isLetter : GoodIn wsX8_nextToken wsX8_isLetter := goodIn_r _ [8, 9, 10, 11, 12, 7, 13] (by decide +kernel) (by decide +kernel)
set_option maxRecDepth 20000 in
theorem gX8_nextToken_X8_isLetter : GoodIn wsX8_nextToken (va_wsS RX8 123 yX8_isLetter wsX8_isLetter) := goodIn_app (goodIn_of _ (by decide +kernel)) ggX8_nextToken_X8_isLetter
set_option maxRecDepth 20000 in
theorem ggX8_nextToken_X8_isDigit : GoodIn wsX8_nextToken wsX8_isDigit := goodIn_r _ [16, 17, 18, 11, 12, 7, 13] (by decide +kernel) (by decide +kernel)
set_option maxRecDepth 20000 in
theorem gX8_nextToken_X8_isDigit : GoodIn wsX8_nextToken (va_wsS RX8 127 yX8_isDigit wsX8_isDigit) := goodIn_app (goodIn_of _ (by decide +kernel)) ggX8_nextToken_X8_isDigit
set_option maxRecDepth 20000 in
theorem ggX8_number_X8_isDigit : GoodIn wsX8_number wsX8_isDigit := goodIn_r _ [9, 10, 11, 12, 13, 8, 14] (by decide +kernel) (by decide +kernel)
set_option maxRecDepth 20000 in
theorem gX8_number_X8_isDigit : GoodIn wsX8_number (va_wsS RX8 127 yX8_isDigit wsX8_isDigit) := goodIn_app (goodIn_of _ (by decide +kernel)) ggX8_number_X8_isDigit
set_option maxRecDepth 20000 in
theorem ggX8_number_X8_in : GoodIn wsX8_number wsX8_in := goodIn_r _ [14] (by decide +kernel) (by decide +kernel)
set_option maxRecDepth 20000 in
theorem gX8_number_X8_in : GoodIn wsX8_number (va_wsS RX8 102 yX8_in wsX8_in) := goodIn_app (goodIn_of _ (by decide +kernel)) ggX8_number_X8_in
set_option maxRecDepth 20000 in
theorem ggX8_number_X8_nextToken : GoodIn wsX8_number wsX8_nextToken := goodIn_r _ [18, 4, 1, 2, 3, 19, 20, 8, 21, 22, 23, 12, 13, 14, 6, 7, 9, 10, 11, 24, 25, 26, 27, 28, 29, 30, 31, 32, 33, 34, 35, 36, 37, 38, 39, 40, 41, 42, 43, 44, 45, 46, 47, 48, 49, 50, 51, 52, 53, 54, 55, 56, 57, 58] (by decide +kernel) (by decide +kernel)
set_option maxRecDepth 20000 in
theorem gX8_number_X8_nextToken : GoodIn wsX8_number (wsV RX8 130 RX8 yX8_nextToken wsX8_nextToken) := goodIn_app (goodIn_of _ (by decide +kernel)) ggX8_number_X8_nextToken
set_option maxRecDepth 20000 in
theorem ggX8_wordHere_X8_isWord : GoodIn wsX8_wordHere wsX8_isWord := goodIn_r _ [11, 12, 13, 14, 15, 16, 17, 18, 19, 20, 21, 22, 23, 24, 25, 26, 27, 28, 29, 30, 31, 32, 33, 34, 35, 36, 37, 38, 39, 40, 41, 42, 43, 44, 45, 46, 47, 48, 49] (by decide +kernel) (by decide +kernel)
set_option maxRecDepth 20000 in
theorem gX8_wordHere_X8_isWord : GoodIn wsX8_wordHere (wsV RX8 133 RX8 yX8_isWord wsX8_isWord) := goodIn_app (goodIn_of _ (by decide +kernel)) ggX8_wordHere_X8_isWord
set_option maxRecDepth 20000 in
theorem ggX8_readsNumbers_X8_number : GoodIn wsX8_readsNumbers wsX8_number := goodIn_r _ [7, 8, 9, 10, 11, 2, 12, 13, 6, 14, 15, 16, 17, 18, 19, 20, 21, 22, 23, 24, 25, 26, 27, 28, 29, 30, 31, 32, 33, 34, 35, 36, 37, 38, 39, 40, 41, 42, 43, 44, 45, 46, 47, 48, 49, 50, 51, 52, 53, 54, 55, 56, 57, 58, 59, 60, 61, 62, 63] (by decide +kernel) (by decide +kernel)
set_option maxRecDepth 20000 in
theorem gX8_readsNumbers_X8_number : GoodIn wsX8_readsNumbers (wsV RX8 137 RX8 yX8_number wsX8_number) := goodIn_app (goodIn_of _ (by decide +kernel)) ggX8_readsNumbers_X8_number
set_option maxRecDepth 20000 in
theorem ggX8_does_X8_anew : GoodIn wsX8_does wsX8_anew := goodIn_r _ [13, 14, 3, 6, 7, 8, 5, 15, 16, 17, 18, 19, 20, 21, 22, 23, 24, 25, 26, 27, 28, 29, 30, 31, 32, 33, 34, 35, 36, 37, 38, 39, 40, 41, 42, 43, 44, 45, 46, 47, 48, 49] (by decide +kernel) (by decide +kernel)
set_option maxRecDepth 20000 in
theorem gX8_does_X8_anew : GoodIn wsX8_does (wsV RX8 76 RX8 yX8_anew wsX8_anew) := goodIn_app (goodIn_of _ (by decide +kernel)) ggX8_does_X8_anew
set_option maxRecDepth 20000 in
theorem ggX8_readsClause_X8_wordHere : GoodIn wsX8_readsClause wsX8_wordHere := goodIn_r _ [9, 10, 11, 12, 13, 14, 15, 16, 17, 18, 8, 19, 20, 21, 22, 65, 66, 67, 68, 69, 70, 71, 72, 73, 74, 75, 76, 77, 78, 79, 80, 81, 82, 83, 84, 85, 86, 87, 88, 89, 90, 91, 92, 93, 94, 95, 96, 97, 98, 99] (by decide +kernel) (by decide +kernel)
set_option maxRecDepth 20000 in
theorem gX8_readsClause_X8_wordHere : GoodIn wsX8_readsClause (wsV RX8 144 RX8 yX8_wordHere wsX8_wordHere) := goodIn_app (goodIn_of _ (by decide +kernel)) ggX8_readsClause_X8_wordHere
set_option maxRecDepth 20000 in
theorem ggX8_readsClause_X8_nextToken : GoodIn wsX8_readsClause wsX8_nextToken := goodIn_r _ [26, 20, 21, 27, 22, 28, 29, 8, 30, 31, 32, 33, 34, 35, 36, 37, 38, 39, 40, 65, 66, 67, 68, 69, 70, 71, 72, 73, 74, 75, 76, 77, 78, 79, 80, 81, 82, 83, 84, 85, 86, 87, 88, 89, 90, 91, 92, 93, 94, 95, 96, 97, 98, 99] (by decide +kernel) (by decide +kernel)
set_option maxRecDepth 20000 in
theorem gX8_readsClause_X8_nextToken : GoodIn wsX8_readsClause (wsV RX8 130 RX8 yX8_nextToken wsX8_nextToken) := goodIn_app (goodIn_of _ (by decide +kernel)) ggX8_readsClause_X8_nextToken
set_option maxRecDepth 20000 in
theorem ggX8_readsClause_X8_readsNumbers : GoodIn wsX8_readsClause wsX8_readsNumbers := goodIn_r _ [44, 3, 2, 45, 46, 47, 8, 48, 21, 27, 22, 20, 36, 37, 38, 39, 40, 33, 34, 35, 23, 24, 25, 26, 28, 29, 30, 31, 32, 65, 66, 67, 68, 69, 70, 71, 72, 73, 74, 75, 76, 77, 78, 79, 80, 81, 82, 83, 84, 85, 86, 87, 88, 89, 90, 91, 92, 93, 94, 95, 96, 97, 98, 99] (by decide +kernel) (by decide +kernel)
set_option maxRecDepth 20000 in
theorem gX8_readsClause_X8_readsNumbers : GoodIn wsX8_readsClause (wsV RX8 151 RX8 yX8_readsNumbers wsX8_readsNumbers) := goodIn_app (goodIn_of _ (by decide +kernel)) ggX8_readsClause_X8_readsNumbers
set_option maxRecDepth 20000 in
theorem ggX8_readsClause_X8_does : GoodIn wsX8_readsClause wsX8_does := goodIn_r _ [52, 2, 53, 54, 55, 56, 57, 58, 59, 60, 61, 62, 8, 63, 64, 65, 66, 67, 68, 69, 70, 71, 72, 73, 74, 75, 76, 77, 78, 79, 80, 81, 82, 83, 84, 85, 86, 87, 88, 89, 90, 91, 92, 93, 94, 95, 96, 97, 98, 99] (by decide +kernel) (by decide +kernel)
set_option maxRecDepth 20000 in
theorem gX8_readsClause_X8_does : GoodIn wsX8_readsClause (wsV RX8 158 RX8 yX8_does wsX8_does) := goodIn_app (goodIn_of _ (by decide +kernel)) ggX8_readsClause_X8_does
set_option maxRecDepth 20000 in
theorem ggX8_reads_X8_nextToken : GoodIn wsX8_reads wsX8_nextToken := goodIn_r _ [15, 2, 8, 9, 10, 16, 17, 14, 18, 19, 20, 21, 22, 23, 24, 25, 26, 27, 28, 70, 71, 72, 73, 74, 75, 76, 77, 78, 79, 80, 81, 82, 83, 84, 85, 86, 87, 88, 89, 90, 91, 92, 93, 94, 95, 96, 97, 98, 99, 100, 101, 102, 103, 104] (by decide +kernel) (by decide +kernel)
set_option maxRecDepth 20000 in
theorem gX8_reads_X8_nextToken : GoodIn wsX8_reads (wsV RX8 130 RX8 yX8_nextToken wsX8_nextToken) := goodIn_app (goodIn_of _ (by decide +kernel)) ggX8_reads_X8_nextToken
set_option maxRecDepth 20000 in
theorem ggX8_reads_X8_readsClause : GoodIn wsX8_reads wsX8_readsClause := goodIn_r _ [32, 7, 33, 5, 1, 34, 35, 36, 14, 37, 38, 39, 40, 41, 42, 43, 44, 45, 46, 47, 2, 8, 10, 11, 12, 13, 15, 9, 16, 17, 18, 19, 20, 21, 22, 23, 24, 25, 26, 27, 28, 48, 49, 50, 51, 52, 53, 54, 55, 56, 57, 58, 59, 60, 6, 61, 62, 63, 64, 65, 66, 67, 68, 69, 4, 70, 71, 72, 73, 74, 75, 76, 77, 78, 79, 80, 81, 82, 83, 84, 85, 86, 87, 88, 89, 90, 91, 92, 93, 94, 95, 96, 97, 98, 99, 100, 101, 102, 103, 104] (by decide +kernel) (by decide +kernel)
set_option maxRecDepth 20000 in
theorem gX8_reads_X8_readsClause : GoodIn wsX8_reads (wsV RX8 164 RX8 yX8_readsClause wsX8_readsClause) := goodIn_app (goodIn_of _ (by decide +kernel)) ggX8_reads_X8_readsClause
set_option maxRecDepth 20000 in
theorem ggX8_fault_X8_reads : GoodIn wsX8_fault wsX8_reads := goodIn_r _ [6, 7, 8, 9, 10, 11, 12, 13, 1, 14, 15, 16, 17, 18, 5, 19, 20, 21, 22, 23, 24, 25, 26, 27, 28, 29, 30, 31, 32, 33, 34, 35, 36, 37, 38, 39, 40, 41, 42, 43, 44, 45, 46, 47, 48, 49, 50, 51, 52, 53, 54, 55, 56, 57, 58, 59, 60, 61, 62, 63, 64, 65, 66, 67, 68, 69, 70, 71, 72, 73, 74, 75, 76, 77, 78, 79, 80, 81, 82, 83, 84, 85, 86, 87, 88, 89, 90, 91, 92, 93, 94, 95, 96, 97, 98, 99, 100, 101, 102, 103, 104, 105, 106, 107, 108] (by decide +kernel) (by decide +kernel)
set_option maxRecDepth 20000 in
theorem gX8_fault_X8_reads : GoodIn wsX8_fault (wsV RX8 168 RX8 yX8_reads wsX8_reads) := goodIn_app (goodIn_of _ (by decide +kernel)) ggX8_fault_X8_reads
set_option maxRecDepth 20000 in
theorem ggX8_net_X8_reads : GoodIn wsX8_net wsX8_reads := goodIn_r _ [10, 11, 12, 5, 13, 14, 15, 16, 17, 1, 18, 19, 20, 21, 9, 22, 23, 24, 25, 26, 27, 28, 29, 30, 31, 32, 33, 34, 35, 36, 37, 38, 39, 40, 41, 42, 43, 44, 45, 46, 47, 48, 49, 50, 51, 52, 53, 54, 55, 56, 57, 58, 59, 60, 61, 62, 63, 64, 65, 66, 67, 68, 69, 70, 71, 72, 73, 74, 75, 76, 81, 82, 83, 84, 85, 86, 87, 88, 89, 90, 91, 92, 93, 94, 95, 96, 97, 98, 99, 100, 101, 102, 103, 104, 105, 106, 107, 108, 109, 110, 111, 112, 113, 114, 115] (by decide +kernel) (by decide +kernel)
set_option maxRecDepth 20000 in
theorem gX8_net_X8_reads : GoodIn wsX8_net (wsV RX8 168 RX8 yX8_reads wsX8_reads) := goodIn_app (goodIn_of _ (by decide +kernel)) ggX8_net_X8_reads
set_option maxRecDepth 20000 in
theorem ggX8_net_X8_copyRow : GoodIn wsX8_net wsX8_copyRow := goodIn_r _ [80, 69, 81, 82, 83, 84, 85, 86, 87, 88, 89, 90, 91, 92, 93, 94, 95, 96, 97, 98, 99, 100, 101, 102, 103, 104, 105, 106, 107, 108, 109, 110, 111, 112, 113, 114, 115] (by decide +kernel) (by decide +kernel)
set_option maxRecDepth 20000 in
theorem gX8_net_X8_copyRow : GoodIn wsX8_net (wsV RX8 80 RX8 yX8_copyRow wsX8_copyRow) := goodIn_app (goodIn_of _ (by decide +kernel)) ggX8_net_X8_copyRow
set_option maxRecDepth 20000 in
theorem ggX8_isPath_X8_in : GoodIn wsX8_isPath wsX8_in := goodIn_r _ [5] (by decide +kernel) (by decide +kernel)
set_option maxRecDepth 20000 in
theorem gX8_isPath_X8_in : GoodIn wsX8_isPath (va_wsS RX8 102 yX8_in wsX8_in) := goodIn_app (goodIn_of _ (by decide +kernel)) ggX8_isPath_X8_in
set_option maxRecDepth 20000 in
theorem ggX8_isRegister_X8_in : GoodIn wsX8_isRegister wsX8_in := goodIn_r _ [5] (by decide +kernel) (by decide +kernel)
set_option maxRecDepth 20000 in
theorem gX8_isRegister_X8_in : GoodIn wsX8_isRegister (va_wsS RX8 102 yX8_in wsX8_in) := goodIn_app (goodIn_of _ (by decide +kernel)) ggX8_isRegister_X8_in
set_option maxRecDepth 20000 in
theorem ggX8_path_X8_isPath : GoodIn wsX8_path wsX8_isPath := goodIn_r _ [8, 9, 10, 11, 7, 12, 23, 24, 25, 26, 27, 28, 29, 30, 31, 32, 33, 34, 35, 36, 37, 38, 39, 40, 41, 42, 43, 44, 45, 46, 47, 48, 49, 50, 51, 52, 53, 54, 55, 56, 57] (by decide +kernel) (by decide +kernel)
set_option maxRecDepth 20000 in
theorem gX8_path_X8_isPath : GoodIn wsX8_path (wsV RX8 175 RX8 yX8_isPath wsX8_isPath) := goodIn_app (goodIn_of _ (by decide +kernel)) ggX8_path_X8_isPath
set_option maxRecDepth 20000 in
theorem ggX8_path_X8_lateOf : GoodIn wsX8_path wsX8_lateOf := goodIn_r _ [16, 3, 17, 23, 24, 25, 26, 27, 28, 29, 30, 31, 32, 33, 34, 35, 36, 37, 38, 39, 40, 41, 42, 43, 44, 45, 46, 47, 48, 49, 50, 51, 52, 53, 54, 55, 56, 57] (by decide +kernel) (by decide +kernel)
set_option maxRecDepth 20000 in
theorem gX8_path_X8_lateOf : GoodIn wsX8_path (wsV RX8 178 RX8 yX8_lateOf wsX8_lateOf) := goodIn_app (goodIn_of _ (by decide +kernel)) ggX8_path_X8_lateOf
set_option maxRecDepth 20000 in
theorem ggX8_path_X8_soonOf : GoodIn wsX8_path wsX8_soonOf := goodIn_r _ [21, 3, 22, 23, 24, 25, 26, 27, 28, 29, 30, 31, 32, 33, 34, 35, 36, 37, 38, 39, 40, 41, 42, 43, 44, 45, 46, 47, 48, 49, 50, 51, 52, 53, 54, 55, 56, 57] (by decide +kernel) (by decide +kernel)
set_option maxRecDepth 20000 in
theorem gX8_path_X8_soonOf : GoodIn wsX8_path (wsV RX8 182 RX8 yX8_soonOf wsX8_soonOf) := goodIn_app (goodIn_of _ (by decide +kernel)) ggX8_path_X8_soonOf
set_option maxRecDepth 20000 in
theorem ggX8_keepPast_X8_copyRow : GoodIn wsX8_keepPast wsX8_copyRow := goodIn_r _ [7, 2, 8, 9, 10, 11, 12, 13, 14, 15, 16, 17, 18, 19, 20, 21, 22, 23, 24, 25, 26, 27, 28, 29, 30, 31, 32, 33, 34, 35, 36, 37, 38, 39, 40, 41, 42] (by decide +kernel) (by decide +kernel)
set_option maxRecDepth 20000 in
theorem gX8_keepPast_X8_copyRow : GoodIn wsX8_keepPast (wsV RX8 80 RX8 yX8_copyRow wsX8_copyRow) := goodIn_app (goodIn_of _ (by decide +kernel)) ggX8_keepPast_X8_copyRow
set_option maxRecDepth 20000 in
theorem ggX8_period_X8_in : GoodIn wsX8_period wsX8_in := goodIn_r _ [6] (by decide +kernel) (by decide +kernel)
set_option maxRecDepth 20000 in
theorem gX8_period_X8_in : GoodIn wsX8_period (va_wsS RX8 102 yX8_in wsX8_in) := goodIn_app (goodIn_of _ (by decide +kernel)) ggX8_period_X8_in
set_option maxRecDepth 20000 in
theorem ggX8_period_X8_keepPast : GoodIn wsX8_period wsX8_keepPast := goodIn_r _ [10, 11, 2, 12, 13, 14, 5, 15, 16, 17, 18, 19, 20, 21, 22, 23, 24, 25, 26, 27, 28, 29, 30, 31, 32, 33, 34, 35, 36, 37, 38, 39, 40, 41, 42, 43, 44, 45, 46, 47, 48, 49, 50] (by decide +kernel) (by decide +kernel)
set_option maxRecDepth 20000 in
theorem gX8_period_X8_keepPast : GoodIn wsX8_period (wsV RX8 188 RX8 yX8_keepPast wsX8_keepPast) := goodIn_app (goodIn_of _ (by decide +kernel)) ggX8_period_X8_keepPast
set_option maxRecDepth 20000 in
theorem ggX8_slower_X8_isPath : GoodIn wsX8_slower wsX8_isPath := goodIn_r _ [7, 8, 9, 10, 6, 11, 21, 22, 23, 24, 25, 26, 27, 28, 29, 30, 31, 32, 33, 34, 35, 36, 37, 38, 39, 40, 41, 42, 43, 44, 45, 46, 47, 48, 49, 50, 51, 52, 53, 54, 55] (by decide +kernel) (by decide +kernel)
set_option maxRecDepth 20000 in
theorem gX8_slower_X8_isPath : GoodIn wsX8_slower (wsV RX8 175 RX8 yX8_isPath wsX8_isPath) := goodIn_app (goodIn_of _ (by decide +kernel)) ggX8_slower_X8_isPath
set_option maxRecDepth 20000 in
theorem ggX8_slower_X8_in : GoodIn wsX8_slower wsX8_in := goodIn_r _ [11] (by decide +kernel) (by decide +kernel)
set_option maxRecDepth 20000 in
theorem gX8_slower_X8_in : GoodIn wsX8_slower (va_wsS RX8 102 yX8_in wsX8_in) := goodIn_app (goodIn_of _ (by decide +kernel)) ggX8_slower_X8_in
set_option maxRecDepth 20000 in
theorem ggX8_slower_X8_keepPast : GoodIn wsX8_slower wsX8_keepPast := goodIn_r _ [15, 16, 2, 17, 18, 19, 6, 20, 21, 22, 23, 24, 25, 26, 27, 28, 29, 30, 31, 32, 33, 34, 35, 36, 37, 38, 39, 40, 41, 42, 43, 44, 45, 46, 47, 48, 49, 50, 51, 52, 53, 54, 55] (by decide +kernel) (by decide +kernel)
set_option maxRecDepth 20000 in
theorem gX8_slower_X8_keepPast : GoodIn wsX8_slower (wsV RX8 188 RX8 yX8_keepPast wsX8_keepPast) := goodIn_app (goodIn_of _ (by decide +kernel)) ggX8_slower_X8_keepPast
set_option maxRecDepth 20000 in
theorem ggX8_undo_X8_copyRow : GoodIn wsX8_undo wsX8_copyRow := goodIn_r _ [6, 7, 8, 9, 10, 11, 12, 13, 14, 15, 16, 17, 18, 19, 20, 21, 22, 23, 24, 25, 26, 27, 28, 29, 30, 31, 32, 33, 34, 35, 36, 37, 38, 39, 40, 41, 42] (by decide +kernel) (by decide +kernel)
set_option maxRecDepth 20000 in
theorem gX8_undo_X8_copyRow : GoodIn wsX8_undo (wsV RX8 80 RX8 yX8_copyRow wsX8_copyRow) := goodIn_app (goodIn_of _ (by decide +kernel)) ggX8_undo_X8_copyRow
set_option maxRecDepth 20000 in
theorem ggX8_keep_X8_in : GoodIn wsX8_keep wsX8_in := goodIn_r _ [6] (by decide +kernel) (by decide +kernel)
set_option maxRecDepth 20000 in
theorem gX8_keep_X8_in : GoodIn wsX8_keep (va_wsS RX8 102 yX8_in wsX8_in) := goodIn_app (goodIn_of _ (by decide +kernel)) ggX8_keep_X8_in
set_option maxRecDepth 20000 in
theorem ggX8_keep_X8_copyRow : GoodIn wsX8_keep wsX8_copyRow := goodIn_r _ [10, 2, 11, 12, 13, 14, 15, 16, 17, 18, 19, 20, 21, 22, 23, 24, 25, 26, 27, 28, 29, 30, 31, 32, 33, 34, 35, 36, 37, 38, 39, 40, 41, 42, 43, 44, 45] (by decide +kernel) (by decide +kernel)
set_option maxRecDepth 20000 in
theorem gX8_keep_X8_copyRow : GoodIn wsX8_keep (wsV RX8 80 RX8 yX8_copyRow wsX8_copyRow) := goodIn_app (goodIn_of _ (by decide +kernel)) ggX8_keep_X8_copyRow
set_option maxRecDepth 20000 in
theorem ggX8_back_X8_in : GoodIn wsX8_back wsX8_in := goodIn_r _ [7] (by decide +kernel) (by decide +kernel)
set_option maxRecDepth 20000 in
theorem gX8_back_X8_in : GoodIn wsX8_back (va_wsS RX8 102 yX8_in wsX8_in) := goodIn_app (goodIn_of _ (by decide +kernel)) ggX8_back_X8_in
set_option maxRecDepth 20000 in
theorem ggX8_back_X8_copyRow : GoodIn wsX8_back wsX8_copyRow := goodIn_r _ [11, 3, 12, 13, 14, 15, 16, 17, 18, 19, 20, 21, 22, 23, 24, 25, 26, 27, 28, 29, 30, 31, 32, 33, 34, 35, 36, 37, 38, 39, 40, 41, 42, 43, 44, 45, 46] (by decide +kernel) (by decide +kernel)
set_option maxRecDepth 20000 in
theorem gX8_back_X8_copyRow : GoodIn wsX8_back (wsV RX8 80 RX8 yX8_copyRow wsX8_copyRow) := goodIn_app (goodIn_of _ (by decide +kernel)) ggX8_back_X8_copyRow
set_option maxRecDepth 20000 in
theorem ggX8_layBounds_X8_lateOf : GoodIn wsX8_layBounds wsX8_lateOf := goodIn_r _ [9, 10, 11, 20, 21, 22, 23, 24, 25, 26, 27, 28, 29, 30, 31, 32, 33, 34, 35, 36, 37, 38, 39, 40, 41, 42, 43, 44, 45, 46, 47, 48, 49, 50, 51, 52, 53, 54] (by decide +kernel) (by decide +kernel)
set_option maxRecDepth 20000 in
theorem gX8_layBounds_X8_lateOf : GoodIn wsX8_layBounds (wsV RX8 178 RX8 yX8_lateOf wsX8_lateOf) := goodIn_app (goodIn_of _ (by decide +kernel)) ggX8_layBounds_X8_lateOf
set_option maxRecDepth 20000 in
theorem ggX8_layBounds_X8_floor : GoodIn wsX8_layBounds wsX8_floor := goodIn_r _ [14] (by decide +kernel) (by decide +kernel)
set_option maxRecDepth 20000 in
theorem gX8_layBounds_X8_floor : GoodIn wsX8_layBounds (va_wsS RX8 193 yX8_floor wsX8_floor) := goodIn_app (goodIn_of _ (by decide +kernel)) ggX8_layBounds_X8_floor
set_option maxRecDepth 20000 in
theorem ggX8_layBounds_X8_soonOf : GoodIn wsX8_layBounds wsX8_soonOf := goodIn_r _ [18, 10, 19, 20, 21, 22, 23, 24, 25, 26, 27, 28, 29, 30, 31, 32, 33, 34, 35, 36, 37, 38, 39, 40, 41, 42, 43, 44, 45, 46, 47, 48, 49, 50, 51, 52, 53, 54] (by decide +kernel) (by decide +kernel)
set_option maxRecDepth 20000 in
theorem gX8_layBounds_X8_soonOf : GoodIn wsX8_layBounds (wsV RX8 182 RX8 yX8_soonOf wsX8_soonOf) := goodIn_app (goodIn_of _ (by decide +kernel)) ggX8_layBounds_X8_soonOf
set_option maxRecDepth 20000 in
theorem ggX8_areThere_X8_makesLess : GoodIn wsX8_areThere wsX8_makesLess := goodIn_r _ [12, 1, 13, 14, 15, 16, 17, 18, 19, 20, 21, 22, 23, 24, 25, 26, 27, 28, 29, 30, 31, 32, 33, 34, 35, 36, 37, 38, 39, 40, 41, 42, 43, 44, 45, 46, 47] (by decide +kernel) (by decide +kernel)
set_option maxRecDepth 20000 in
theorem gX8_areThere_X8_makesLess : GoodIn wsX8_areThere (wsV RX8 196 RX8 yX8_makesLess wsX8_makesLess) := goodIn_app (goodIn_of _ (by decide +kernel)) ggX8_areThere_X8_makesLess
set_option maxRecDepth 20000 in
theorem ggX8_isFeasible_X8_layBounds : GoodIn wsX8_isFeasible wsX8_layBounds := goodIn_r _ [5, 6, 7, 8, 9, 10, 11, 12, 4, 13, 14, 15, 16, 17, 18, 19, 20, 21, 22, 23, 36, 37, 38, 39, 40, 41, 42, 43, 44, 45, 46, 47, 48, 49, 50, 51, 52, 53, 54, 55, 56, 57, 58, 59, 60, 61, 62, 63, 64, 65, 66, 67, 68, 69, 70] (by decide +kernel) (by decide +kernel)
set_option maxRecDepth 20000 in
theorem gX8_isFeasible_X8_layBounds : GoodIn wsX8_isFeasible (wsV RX8 199 RX8 yX8_layBounds wsX8_layBounds) := goodIn_app (goodIn_of _ (by decide +kernel)) ggX8_isFeasible_X8_layBounds
set_option maxRecDepth 20000 in
theorem ggX8_isFeasible_X8_areThere : GoodIn wsX8_isFeasible wsX8_areThere := goodIn_r _ [27, 28, 29, 6, 30, 31, 7, 9, 32, 33, 34, 4, 35, 36, 37, 38, 39, 40, 41, 42, 43, 44, 45, 46, 47, 48, 49, 50, 51, 52, 53, 54, 55, 56, 57, 58, 59, 60, 61, 62, 63, 64, 65, 66, 67, 68, 69, 70] (by decide +kernel) (by decide +kernel)
set_option maxRecDepth 20000 in
theorem gX8_isFeasible_X8_areThere : GoodIn wsX8_isFeasible (wsV RX8 202 RX8 yX8_areThere wsX8_areThere) := goodIn_app (goodIn_of _ (by decide +kernel)) ggX8_isFeasible_X8_areThere
set_option maxRecDepth 20000 in
theorem ggX8_feasible_X8_isFeasible : GoodIn wsX8_feasible wsX8_isFeasible := goodIn_r _ [6, 7, 8, 9, 5, 10, 11, 12, 13, 14, 15, 16, 17, 18, 1, 19, 20, 21, 22, 23, 24, 25, 26, 27, 28, 29, 30, 31, 32, 33, 34, 35, 36, 37, 38, 39, 40, 41, 42, 43, 44, 45, 46, 47, 48, 49, 50, 51, 52, 53, 54, 55, 56, 57, 58, 59, 60, 61, 62, 63, 64, 65, 66, 67, 68, 69, 70, 71, 72, 73, 74] (by decide +kernel) (by decide +kernel)
set_option maxRecDepth 20000 in
theorem gX8_feasible_X8_isFeasible : GoodIn wsX8_feasible (wsV RX8 205 RX8 yX8_isFeasible wsX8_isFeasible) := goodIn_app (goodIn_of _ (by decide +kernel)) ggX8_feasible_X8_isFeasible
set_option maxRecDepth 20000 in
theorem ggX8_shift_X8_isRegister : GoodIn wsX8_shift wsX8_isRegister := goodIn_r _ [8, 9, 10, 11, 7, 12, 47, 48, 49, 50, 51, 52, 53, 54, 55, 56, 57, 58, 59, 60, 61, 62, 63, 64, 65, 66, 67, 68, 69, 70, 71, 72, 73, 74, 75, 76, 77, 78, 79, 80, 81] (by decide +kernel) (by decide +kernel)
set_option maxRecDepth 20000 in
theorem gX8_shift_X8_isRegister : GoodIn wsX8_shift (wsV RX8 209 RX8 yX8_isRegister wsX8_isRegister) := goodIn_app (goodIn_of _ (by decide +kernel)) ggX8_shift_X8_isRegister
set_option maxRecDepth 20000 in
theorem ggX8_shift_X8_isFeasible : GoodIn wsX8_shift wsX8_isFeasible := goodIn_r _ [16, 17, 18, 19, 7, 20, 21, 22, 3, 23, 24, 25, 26, 27, 1, 28, 29, 30, 31, 32, 33, 34, 35, 36, 37, 38, 39, 40, 2, 9, 41, 42, 43, 44, 45, 46, 47, 48, 49, 50, 51, 52, 53, 54, 55, 56, 57, 58, 59, 60, 61, 62, 63, 64, 65, 66, 67, 68, 69, 70, 71, 72, 73, 74, 75, 76, 77, 78, 79, 80, 81] (by decide +kernel) (by decide +kernel)
set_option maxRecDepth 20000 in
theorem gX8_shift_X8_isFeasible : GoodIn wsX8_shift (wsV RX8 205 RX8 yX8_isFeasible wsX8_isFeasible) := goodIn_app (goodIn_of _ (by decide +kernel)) ggX8_shift_X8_isFeasible
set_option maxRecDepth 20000 in
theorem ggX8_leastOf_X8_isFeasible : GoodIn wsX8_leastOf wsX8_isFeasible := goodIn_r _ [5, 6, 7, 8, 4, 9, 10, 11, 12, 13, 14, 15, 16, 17, 18, 19, 20, 21, 22, 23, 24, 25, 26, 27, 28, 29, 30, 31, 32, 33, 34, 35, 36, 37, 38, 39, 40, 41, 42, 43, 44, 45, 46, 47, 48, 49, 50, 51, 52, 53, 54, 55, 56, 57, 58, 59, 60, 61, 62, 63, 64, 65, 66, 67, 68, 69, 70, 71, 72, 73, 74] (by decide +kernel) (by decide +kernel)
set_option maxRecDepth 20000 in
theorem gX8_leastOf_X8_isFeasible : GoodIn wsX8_leastOf (wsV RX8 205 RX8 yX8_isFeasible wsX8_isFeasible) := goodIn_app (goodIn_of _ (by decide +kernel)) ggX8_leastOf_X8_isFeasible
set_option maxRecDepth 20000 in
theorem ggX8_least_X8_leastOf : GoodIn wsX8_least wsX8_leastOf := goodIn_r _ [5, 6, 7, 8, 4, 9, 10, 11, 12, 13, 14, 15, 16, 17, 18, 19, 20, 21, 22, 23, 24, 25, 26, 27, 28, 29, 30, 31, 32, 33, 34, 35, 36, 37, 38, 39, 40, 41, 42, 43, 44, 45, 46, 47, 48, 49, 50, 51, 52, 53, 54, 55, 56, 57, 58, 59, 60, 61, 62, 63, 64, 65, 66, 67, 68, 69, 70, 71, 72, 73, 74, 75, 76, 77, 78] (by decide +kernel) (by decide +kernel)
set_option maxRecDepth 20000 in
theorem gX8_least_X8_leastOf : GoodIn wsX8_least (wsV RX8 212 RX8 yX8_leastOf wsX8_leastOf) := goodIn_app (goodIn_of _ (by decide +kernel)) ggX8_least_X8_leastOf
set_option maxRecDepth 20000 in
theorem ggX8_isFeasibleBy_X8_soonOf : GoodIn wsX8_isFeasibleBy wsX8_soonOf := goodIn_r _ [10, 3, 11, 24, 25, 26, 27, 28, 29, 30, 31, 32, 33, 34, 35, 36, 37, 38, 39, 40, 41, 42, 43, 44, 45, 46, 47, 48, 49, 50, 51, 52, 53, 54, 55, 56, 57, 58] (by decide +kernel) (by decide +kernel)
set_option maxRecDepth 20000 in
theorem gX8_isFeasibleBy_X8_soonOf : GoodIn wsX8_isFeasibleBy (wsV RX8 182 RX8 yX8_soonOf wsX8_soonOf) := goodIn_app (goodIn_of _ (by decide +kernel)) ggX8_isFeasibleBy_X8_soonOf
set_option maxRecDepth 20000 in
theorem ggX8_isFeasibleBy_X8_areThere : GoodIn wsX8_isFeasibleBy wsX8_areThere := goodIn_r _ [15, 16, 17, 1, 18, 19, 2, 5, 20, 21, 22, 9, 23, 24, 25, 26, 27, 28, 29, 30, 31, 32, 33, 34, 35, 36, 37, 38, 39, 40, 41, 42, 43, 44, 45, 46, 47, 48, 49, 50, 51, 52, 53, 54, 55, 56, 57, 58] (by decide +kernel) (by decide +kernel)
set_option maxRecDepth 20000 in
theorem gX8_isFeasibleBy_X8_areThere : GoodIn wsX8_isFeasibleBy (wsV RX8 202 RX8 yX8_areThere wsX8_areThere) := goodIn_app (goodIn_of _ (by decide +kernel)) ggX8_isFeasibleBy_X8_areThere
set_option maxRecDepth 20000 in
theorem ggX8_rate_X8_in : GoodIn wsX8_rate wsX8_in := goodIn_r _ [5] (by decide +kernel) (by decide +kernel)
set_option maxRecDepth 20000 in
theorem gX8_rate_X8_in : GoodIn wsX8_rate (va_wsS RX8 102 yX8_in wsX8_in) := goodIn_app (goodIn_of _ (by decide +kernel)) ggX8_rate_X8_in
set_option maxRecDepth 20000 in
theorem ggX8_rate_X8_isFeasibleBy : GoodIn wsX8_rate wsX8_isFeasibleBy := goodIn_r _ [9, 10, 11, 12, 13, 14, 15, 16, 17, 4, 18, 19, 20, 21, 22, 23, 24, 1, 25, 26, 27, 28, 29, 30, 31, 32, 33, 34, 35, 36, 37, 38, 39, 40, 41, 42, 43, 44, 45, 46, 47, 48, 49, 50, 51, 52, 53, 54, 55, 56, 57, 58, 59, 60, 61, 62, 63, 64, 65] (by decide +kernel) (by decide +kernel)
set_option maxRecDepth 20000 in
theorem gX8_rate_X8_isFeasibleBy : GoodIn wsX8_rate (wsV RX8 215 RX8 yX8_isFeasibleBy wsX8_isFeasibleBy) := goodIn_app (goodIn_of _ (by decide +kernel)) ggX8_rate_X8_isFeasibleBy
set_option maxRecDepth 20000 in
theorem ggX8_margin_X8_isFeasible : GoodIn wsX8_margin wsX8_isFeasible := goodIn_r _ [6, 7, 8, 9, 5, 10, 11, 12, 13, 14, 15, 16, 17, 18, 1, 19, 20, 21, 22, 23, 24, 25, 26, 27, 28, 29, 30, 31, 32, 33, 34, 35, 36, 37, 38, 39, 40, 41, 42, 43, 44, 45, 46, 47, 48, 49, 50, 51, 52, 53, 54, 55, 56, 57, 58, 59, 60, 61, 62, 63, 64, 65, 66, 67, 68, 69, 70, 71, 72, 73, 74] (by decide +kernel) (by decide +kernel)
set_option maxRecDepth 20000 in
theorem gX8_margin_X8_isFeasible : GoodIn wsX8_margin (wsV RX8 205 RX8 yX8_isFeasible wsX8_isFeasible) := goodIn_app (goodIn_of _ (by decide +kernel)) ggX8_margin_X8_isFeasible
set_option maxRecDepth 20000 in
theorem ggX8_spare_X8_isPath : GoodIn wsX8_spare wsX8_isPath := goodIn_r _ [10, 11, 12, 13, 9, 14, 47, 48, 49, 50, 51, 52, 53, 54, 55, 56, 57, 58, 59, 60, 61, 62, 63, 64, 65, 66, 67, 68, 69, 70, 71, 72, 73, 74, 75, 76, 77, 78, 79, 80, 81] (by decide +kernel) (by decide +kernel)
set_option maxRecDepth 20000 in
theorem gX8_spare_X8_isPath : GoodIn wsX8_spare (wsV RX8 175 RX8 yX8_isPath wsX8_isPath) := goodIn_app (goodIn_of _ (by decide +kernel)) ggX8_spare_X8_isPath
set_option maxRecDepth 20000 in
theorem ggX8_spare_X8_in : GoodIn wsX8_spare wsX8_in := goodIn_r _ [14] (by decide +kernel) (by decide +kernel)
set_option maxRecDepth 20000 in
theorem gX8_spare_X8_in : GoodIn wsX8_spare (va_wsS RX8 102 yX8_in wsX8_in) := goodIn_app (goodIn_of _ (by decide +kernel)) ggX8_spare_X8_in
set_option maxRecDepth 20000 in
theorem ggX8_spare_X8_isFeasible : GoodIn wsX8_spare wsX8_isFeasible := goodIn_r _ [18, 19, 20, 21, 9, 22, 11, 23, 5, 24, 25, 26, 27, 28, 1, 29, 30, 31, 32, 33, 34, 35, 36, 37, 38, 39, 40, 41, 2, 42, 3, 4, 43, 44, 45, 46, 47, 48, 49, 50, 51, 52, 53, 54, 55, 56, 57, 58, 59, 60, 61, 62, 63, 64, 65, 66, 67, 68, 69, 70, 71, 72, 73, 74, 75, 76, 77, 78, 79, 80, 81] (by decide +kernel) (by decide +kernel)
set_option maxRecDepth 20000 in
theorem gX8_spare_X8_isFeasible : GoodIn wsX8_spare (wsV RX8 205 RX8 yX8_isFeasible wsX8_isFeasible) := goodIn_app (goodIn_of _ (by decide +kernel)) ggX8_spare_X8_isFeasible
set_option maxRecDepth 20000 in
theorem ggX8_spare_X8_lateOf : GoodIn wsX8_spare wsX8_lateOf := goodIn_r _ [28, 1, 29, 47, 48, 49, 50, 51, 52, 53, 54, 55, 56, 57, 58, 59, 60, 61, 62, 63, 64, 65, 66, 67, 68, 69, 70, 71, 72, 73, 74, 75, 76, 77, 78, 79, 80, 81] (by decide +kernel) (by decide +kernel)
set_option maxRecDepth 20000 in
theorem gX8_spare_X8_lateOf : GoodIn wsX8_spare (wsV RX8 178 RX8 yX8_lateOf wsX8_lateOf) := goodIn_app (goodIn_of _ (by decide +kernel)) ggX8_spare_X8_lateOf
set_option maxRecDepth 20000 in
theorem ggX8_spare_X8_soonOf : GoodIn wsX8_spare wsX8_soonOf := goodIn_r _ [36, 1, 37, 47, 48, 49, 50, 51, 52, 53, 54, 55, 56, 57, 58, 59, 60, 61, 62, 63, 64, 65, 66, 67, 68, 69, 70, 71, 72, 73, 74, 75, 76, 77, 78, 79, 80, 81] (by decide +kernel) (by decide +kernel)
set_option maxRecDepth 20000 in
theorem gX8_spare_X8_soonOf : GoodIn wsX8_spare (wsV RX8 182 RX8 yX8_soonOf wsX8_soonOf) := goodIn_app (goodIn_of _ (by decide +kernel)) ggX8_spare_X8_soonOf
set_option maxRecDepth 20000 in
theorem ggX8_layLeast_X8_layBounds : GoodIn wsX8_layLeast wsX8_layBounds := goodIn_r _ [13, 4, 7, 14, 8, 15, 16, 17, 12, 18, 1, 19, 20, 21, 22, 23, 24, 25, 26, 27, 28, 29, 30, 31, 32, 33, 34, 35, 36, 37, 38, 39, 40, 41, 42, 43, 44, 45, 46, 47, 48, 49, 50, 51, 52, 53, 54, 55, 56, 57, 58, 59, 60, 61, 62] (by decide +kernel) (by decide +kernel)
set_option maxRecDepth 20000 in
theorem gX8_layLeast_X8_layBounds : GoodIn wsX8_layLeast (wsV RX8 199 RX8 yX8_layBounds wsX8_layBounds) := goodIn_app (goodIn_of _ (by decide +kernel)) ggX8_layLeast_X8_layBounds
set_option maxRecDepth 20000 in
theorem ggX8_nextFrom_X8_isInRing : GoodIn wsX8_nextFrom wsX8_isInRing := goodIn_r _ [7, 8, 2, 9, 10, 11, 12, 13, 14, 15, 16, 17, 18, 19, 20, 21, 22, 23, 24, 25, 26, 27, 28, 29, 30, 31, 32, 33, 34, 35, 36, 37, 38, 39, 40, 41, 42, 43] (by decide +kernel) (by decide +kernel)
set_option maxRecDepth 20000 in
theorem gX8_nextFrom_X8_isInRing : GoodIn wsX8_nextFrom (wsV RX8 222 RX8 yX8_isInRing wsX8_isInRing) := goodIn_app (goodIn_of _ (by decide +kernel)) ggX8_nextFrom_X8_isInRing
set_option maxRecDepth 20000 in
theorem ggX8_goOn_X8_nextFrom : GoodIn wsX8_goOn wsX8_nextFrom := goodIn_r _ [8, 3, 2, 9, 10, 11, 7, 12, 1, 13, 14, 15, 16, 17, 18, 19, 20, 21, 22, 23, 24, 25, 26, 27, 28, 29, 30, 31, 32, 33, 34, 35, 36, 37, 38, 39, 40, 41, 42, 43, 44, 45, 46, 47] (by decide +kernel) (by decide +kernel)
set_option maxRecDepth 20000 in
theorem gX8_goOn_X8_nextFrom : GoodIn wsX8_goOn (wsV RX8 225 RX8 yX8_nextFrom wsX8_nextFrom) := goodIn_app (goodIn_of _ (by decide +kernel)) ggX8_goOn_X8_nextFrom
set_option maxRecDepth 20000 in
theorem ggX8_cycle_X8_isFeasible : GoodIn wsX8_cycle wsX8_isFeasible := goodIn_r _ [8, 9, 10, 11, 7, 12, 13, 14, 15, 16, 17, 18, 19, 20, 1, 21, 22, 23, 24, 25, 26, 27, 28, 29, 30, 31, 32, 33, 34, 35, 36, 37, 38, 39, 40, 41, 64, 65, 66, 67, 68, 69, 70, 71, 72, 73, 74, 75, 76, 77, 78, 79, 80, 81, 82, 83, 84, 85, 86, 87, 88, 89, 90, 91, 92, 93, 94, 95, 96, 97, 98] (by decide +kernel) (by decide +kernel)
set_option maxRecDepth 20000 in
theorem gX8_cycle_X8_isFeasible : GoodIn wsX8_cycle (wsV RX8 205 RX8 yX8_isFeasible wsX8_isFeasible) := goodIn_app (goodIn_of _ (by decide +kernel)) ggX8_cycle_X8_isFeasible
set_option maxRecDepth 20000 in
theorem ggX8_cycle_X8_layLeast : GoodIn wsX8_cycle wsX8_layLeast := goodIn_r _ [45, 1, 46, 47, 13, 36, 37, 14, 16, 9, 10, 11, 7, 12, 15, 17, 18, 19, 20, 21, 22, 23, 24, 25, 26, 27, 28, 29, 64, 65, 66, 67, 68, 69, 70, 71, 72, 73, 74, 75, 76, 77, 78, 79, 80, 81, 82, 83, 84, 85, 86, 87, 88, 89, 90, 91, 92, 93, 94, 95, 96, 97, 98] (by decide +kernel) (by decide +kernel)
set_option maxRecDepth 20000 in
theorem gX8_cycle_X8_layLeast : GoodIn wsX8_cycle (wsV RX8 228 RX8 yX8_layLeast wsX8_layLeast) := goodIn_app (goodIn_of _ (by decide +kernel)) ggX8_cycle_X8_layLeast
set_option maxRecDepth 20000 in
theorem ggX8_cycle_X8_isBelow : GoodIn wsX8_cycle wsX8_isBelow := goodIn_r _ [51, 3, 46, 2, 64, 65, 66, 67, 68, 69, 70, 71, 72, 73, 74, 75, 76, 77, 78, 79, 80, 81, 82, 83, 84, 85, 86, 87, 88, 89, 90, 91, 92, 93, 94, 95, 96, 97, 98] (by decide +kernel) (by decide +kernel)
set_option maxRecDepth 20000 in
theorem gX8_cycle_X8_isBelow : GoodIn wsX8_cycle (wsV RX8 231 RX8 yX8_isBelow wsX8_isBelow) := goodIn_app (goodIn_of _ (by decide +kernel)) ggX8_cycle_X8_isBelow
set_option maxRecDepth 20000 in
theorem ggX8_cycle_X8_goOn : GoodIn wsX8_cycle wsX8_goOn := goodIn_r _ [55, 3, 2, 35, 56, 57, 58, 7, 59, 60, 61, 62, 63, 64, 65, 66, 67, 68, 69, 70, 71, 72, 73, 74, 75, 76, 77, 78, 79, 80, 81, 82, 83, 84, 85, 86, 87, 88, 89, 90, 91, 92, 93, 94, 95, 96, 97, 98] (by decide +kernel) (by decide +kernel)
set_option maxRecDepth 20000 in
theorem gX8_cycle_X8_goOn : GoodIn wsX8_cycle (wsV RX8 234 RX8 yX8_goOn wsX8_goOn) := goodIn_app (goodIn_of _ (by decide +kernel)) ggX8_cycle_X8_goOn
set_option maxRecDepth 20000 in
theorem ggX8_buffer_X8_in : GoodIn wsX8_buffer wsX8_in := goodIn_r _ [8] (by decide +kernel) (by decide +kernel)
set_option maxRecDepth 20000 in
theorem gX8_buffer_X8_in : GoodIn wsX8_buffer (va_wsS RX8 102 yX8_in wsX8_in) := goodIn_app (goodIn_of _ (by decide +kernel)) ggX8_buffer_X8_in
set_option maxRecDepth 20000 in
theorem ggX8_buffer_X8_leastOf : GoodIn wsX8_buffer wsX8_leastOf := goodIn_r _ [12, 13, 14, 15, 7, 16, 17, 18, 19, 20, 3, 21, 22, 23, 24, 25, 26, 27, 4, 28, 29, 30, 31, 32, 33, 34, 35, 36, 37, 38, 39, 40, 41, 42, 43, 44, 45, 46, 47, 48, 49, 50, 51, 52, 53, 54, 55, 56, 57, 58, 59, 60, 61, 62, 63, 64, 65, 66, 67, 68, 69, 70, 71, 72, 73, 74, 75, 76, 77, 78, 79, 80, 81, 82, 83] (by decide +kernel) (by decide +kernel)
set_option maxRecDepth 20000 in
theorem gX8_buffer_X8_leastOf : GoodIn wsX8_buffer (wsV RX8 212 RX8 yX8_leastOf wsX8_leastOf) := goodIn_app (goodIn_of _ (by decide +kernel)) ggX8_buffer_X8_leastOf
set_option maxRecDepth 20000 in
theorem ggX8_isTrace_X8_in : GoodIn wsX8_isTrace wsX8_in := goodIn_r _ [5] (by decide +kernel) (by decide +kernel)
set_option maxRecDepth 20000 in
theorem gX8_isTrace_X8_in : GoodIn wsX8_isTrace (va_wsS RX8 102 yX8_in wsX8_in) := goodIn_app (goodIn_of _ (by decide +kernel)) ggX8_isTrace_X8_in
set_option maxRecDepth 20000 in
theorem ggX8_trace_X8_isTrace : GoodIn wsX8_trace wsX8_isTrace := goodIn_r _ [8, 9, 10, 11, 7, 12] (by decide +kernel) (by decide +kernel)
set_option maxRecDepth 20000 in
theorem gX8_trace_X8_isTrace : GoodIn wsX8_trace (va_wsS RX8 239 yX8_isTrace wsX8_isTrace) := goodIn_app (goodIn_of _ (by decide +kernel)) ggX8_trace_X8_isTrace
set_option maxRecDepth 20000 in
theorem ggX8_trace_X8_in : GoodIn wsX8_trace wsX8_in := goodIn_r _ [12] (by decide +kernel) (by decide +kernel)
set_option maxRecDepth 20000 in
theorem gX8_trace_X8_in : GoodIn wsX8_trace (va_wsS RX8 102 yX8_in wsX8_in) := goodIn_app (goodIn_of _ (by decide +kernel)) ggX8_trace_X8_in
set_option maxRecDepth 20000 in
theorem ggX8_thousand_X8_cut : GoodIn wsX8_thousand wsX8_cut := goodIn_r _ [9, 10, 11, 12, 13, 14] (by decide +kernel) (by decide +kernel)
set_option maxRecDepth 20000 in
theorem gX8_thousand_X8_cut : GoodIn wsX8_thousand (va_wsS RX8 250 yX8_cut wsX8_cut) := goodIn_app (goodIn_of _ (by decide +kernel)) ggX8_thousand_X8_cut
set_option maxRecDepth 20000 in
theorem ggX8_noPlace_X8_in : GoodIn wsX8_noPlace wsX8_in := goodIn_r _ [6] (by decide +kernel) (by decide +kernel)
set_option maxRecDepth 20000 in
theorem gX8_noPlace_X8_in : GoodIn wsX8_noPlace (va_wsS RX8 102 yX8_in wsX8_in) := goodIn_app (goodIn_of _ (by decide +kernel)) ggX8_noPlace_X8_in
set_option maxRecDepth 20000 in
theorem ggX8_set_X8_isTrace : GoodIn wsX8_set wsX8_isTrace := goodIn_r _ [8, 9, 10, 11, 7, 12] (by decide +kernel) (by decide +kernel)
set_option maxRecDepth 20000 in
theorem gX8_set_X8_isTrace : GoodIn wsX8_set (va_wsS RX8 239 yX8_isTrace wsX8_isTrace) := goodIn_app (goodIn_of _ (by decide +kernel)) ggX8_set_X8_isTrace
set_option maxRecDepth 20000 in
theorem ggX8_set_X8_in : GoodIn wsX8_set wsX8_in := goodIn_r _ [12] (by decide +kernel) (by decide +kernel)
set_option maxRecDepth 20000 in
theorem gX8_set_X8_in : GoodIn wsX8_set (va_wsS RX8 102 yX8_in wsX8_in) := goodIn_app (goodIn_of _ (by decide +kernel)) ggX8_set_X8_in
set_option maxRecDepth 20000 in
theorem ggX8_set_X8_noPlace : GoodIn wsX8_set wsX8_noPlace := goodIn_r _ [16, 17, 18, 10, 11, 7, 12, 33, 34, 35, 36, 37, 38, 39, 40, 41, 42, 43, 44, 45, 46, 47, 48, 49, 50, 51, 52, 53, 54, 55, 56, 57, 58, 59, 60, 61, 62, 63, 64, 65, 66, 67] (by decide +kernel) (by decide +kernel)
set_option maxRecDepth 20000 in
theorem gX8_set_X8_noPlace : GoodIn wsX8_set (wsV RX8 260 RX8 yX8_noPlace wsX8_noPlace) := goodIn_app (goodIn_of _ (by decide +kernel)) ggX8_set_X8_noPlace
set_option maxRecDepth 20000 in
theorem ggX8_set_X8_thousand : GoodIn wsX8_set wsX8_thousand := goodIn_r _ [22, 18, 23, 3, 24, 4, 25, 26, 7, 27, 28, 29, 30, 31, 32, 33, 34, 35, 36, 37, 38, 39, 40, 41, 42, 43, 44, 45, 46, 47, 48, 49, 50, 51, 52, 53, 54, 55, 56, 57, 58, 59, 60, 61, 62, 63, 64, 65, 66, 67] (by decide +kernel) (by decide +kernel)
set_option maxRecDepth 20000 in
theorem gX8_set_X8_thousand : GoodIn wsX8_set (wsV RX8 264 RX8 yX8_thousand wsX8_thousand) := goodIn_app (goodIn_of _ (by decide +kernel)) ggX8_set_X8_thousand
set_option maxRecDepth 20000 in
theorem ggX8_get_X8_isTrace : GoodIn wsX8_get wsX8_isTrace := goodIn_r _ [4, 5, 6, 7, 3, 8] (by decide +kernel) (by decide +kernel)
set_option maxRecDepth 20000 in
theorem gX8_get_X8_isTrace : GoodIn wsX8_get (va_wsS RX8 239 yX8_isTrace wsX8_isTrace) := goodIn_app (goodIn_of _ (by decide +kernel)) ggX8_get_X8_isTrace
set_option maxRecDepth 20000 in
theorem ggX8_get_X8_in : GoodIn wsX8_get wsX8_in := goodIn_r _ [8] (by decide +kernel) (by decide +kernel)
set_option maxRecDepth 20000 in
theorem gX8_get_X8_in : GoodIn wsX8_get (va_wsS RX8 102 yX8_in wsX8_in) := goodIn_app (goodIn_of _ (by decide +kernel)) ggX8_get_X8_in
set_option maxRecDepth 20000 in
theorem ggX8_get_X8_noPlace : GoodIn wsX8_get wsX8_noPlace := goodIn_r _ [12, 13, 14, 6, 7, 3, 8, 31, 32, 33, 34, 35, 36, 37, 38, 39, 40, 41, 42, 43, 44, 45, 46, 47, 48, 49, 50, 51, 52, 53, 54, 55, 56, 57, 58, 59, 60, 61, 62, 63, 64, 65] (by decide +kernel) (by decide +kernel)
set_option maxRecDepth 20000 in
theorem gX8_get_X8_noPlace : GoodIn wsX8_get (wsV RX8 260 RX8 yX8_noPlace wsX8_noPlace) := goodIn_app (goodIn_of _ (by decide +kernel)) ggX8_get_X8_noPlace
set_option maxRecDepth 20000 in
theorem ggX8_get_X8_thousand : GoodIn wsX8_get wsX8_thousand := goodIn_r _ [18, 14, 19, 20, 21, 22, 23, 24, 3, 25, 26, 27, 28, 29, 30, 31, 32, 33, 34, 35, 36, 37, 38, 39, 40, 41, 42, 43, 44, 45, 46, 47, 48, 49, 50, 51, 52, 53, 54, 55, 56, 57, 58, 59, 60, 61, 62, 63, 64, 65] (by decide +kernel) (by decide +kernel)
set_option maxRecDepth 20000 in
theorem gX8_get_X8_thousand : GoodIn wsX8_get (wsV RX8 264 RX8 yX8_thousand wsX8_thousand) := goodIn_app (goodIn_of _ (by decide +kernel)) ggX8_get_X8_thousand
set_option maxRecDepth 20000 in
theorem ggX8_rest_X8_isTrace : GoodIn wsX8_rest wsX8_isTrace := goodIn_r _ [6, 7, 8, 9, 5, 10] (by decide +kernel) (by decide +kernel)
set_option maxRecDepth 20000 in
theorem gX8_rest_X8_isTrace : GoodIn wsX8_rest (va_wsS RX8 239 yX8_isTrace wsX8_isTrace) := goodIn_app (goodIn_of _ (by decide +kernel)) ggX8_rest_X8_isTrace
set_option maxRecDepth 20000 in
theorem ggX8_rest_X8_in : GoodIn wsX8_rest wsX8_in := goodIn_r _ [10] (by decide +kernel) (by decide +kernel)
set_option maxRecDepth 20000 in
theorem gX8_rest_X8_in : GoodIn wsX8_rest (va_wsS RX8 102 yX8_in wsX8_in) := goodIn_app (goodIn_of _ (by decide +kernel)) ggX8_rest_X8_in
set_option maxRecDepth 20000 in
theorem ggX8_rest_X8_noPlace : GoodIn wsX8_rest wsX8_noPlace := goodIn_r _ [14, 15, 16, 8, 9, 5, 10, 31, 32, 33, 34, 35, 36, 37, 38, 39, 40, 41, 42, 43, 44, 45, 46, 47, 48, 49, 50, 51, 52, 53, 54, 55, 56, 57, 58, 59, 60, 61, 62, 63, 64, 65] (by decide +kernel) (by decide +kernel)
set_option maxRecDepth 20000 in
theorem gX8_rest_X8_noPlace : GoodIn wsX8_rest (wsV RX8 260 RX8 yX8_noPlace wsX8_noPlace) := goodIn_app (goodIn_of _ (by decide +kernel)) ggX8_rest_X8_noPlace
set_option maxRecDepth 20000 in
theorem ggX8_rest_X8_thousand : GoodIn wsX8_rest wsX8_thousand := goodIn_r _ [20, 16, 21, 1, 22, 2, 23, 24, 5, 25, 26, 27, 28, 29, 30, 31, 32, 33, 34, 35, 36, 37, 38, 39, 40, 41, 42, 43, 44, 45, 46, 47, 48, 49, 50, 51, 52, 53, 54, 55, 56, 57, 58, 59, 60, 61, 62, 63, 64, 65] (by decide +kernel) (by decide +kernel)
set_option maxRecDepth 20000 in
theorem gX8_rest_X8_thousand : GoodIn wsX8_rest (wsV RX8 264 RX8 yX8_thousand wsX8_thousand) := goodIn_app (goodIn_of _ (by decide +kernel)) ggX8_rest_X8_thousand
set_option maxRecDepth 20000 in
theorem ggX8_compare_X8_isTrace : GoodIn wsX8_compare wsX8_isTrace := goodIn_r _ [4, 5, 6, 7, 3, 8] (by decide +kernel) (by decide +kernel)
set_option maxRecDepth 20000 in
theorem gX8_compare_X8_isTrace : GoodIn wsX8_compare (va_wsS RX8 239 yX8_isTrace wsX8_isTrace) := goodIn_app (goodIn_of _ (by decide +kernel)) ggX8_compare_X8_isTrace
set_option maxRecDepth 20000 in
theorem ggX8_compare_X8_in : GoodIn wsX8_compare wsX8_in := goodIn_r _ [8] (by decide +kernel) (by decide +kernel)
set_option maxRecDepth 20000 in
theorem gX8_compare_X8_in : GoodIn wsX8_compare (va_wsS RX8 102 yX8_in wsX8_in) := goodIn_app (goodIn_of _ (by decide +kernel)) ggX8_compare_X8_in
set_option maxRecDepth 20000 in
theorem ggX8_compare_X8_noPlace : GoodIn wsX8_compare wsX8_noPlace := goodIn_r _ [12, 13, 14, 6, 7, 3, 8, 21, 22, 23, 24, 25, 26, 27, 28, 29, 30, 31, 32, 33, 34, 35, 36, 37, 38, 39, 40, 41, 42, 43, 44, 45, 46, 47, 48, 49, 50, 51, 52, 53, 54, 55] (by decide +kernel) (by decide +kernel)
set_option maxRecDepth 20000 in
theorem gX8_compare_X8_noPlace : GoodIn wsX8_compare (wsV RX8 260 RX8 yX8_noPlace wsX8_noPlace) := goodIn_app (goodIn_of _ (by decide +kernel)) ggX8_compare_X8_noPlace
set_option maxRecDepth 20000 in
theorem ggX8_compare_X8_valueOf : GoodIn wsX8_compare wsX8_valueOf := goodIn_r _ [18, 14, 19, 20, 21, 22, 23, 24, 25, 26, 27, 28, 29, 30, 31, 32, 33, 34, 35, 36, 37, 38, 39, 40, 41, 42, 43, 44, 45, 46, 47, 48, 49, 50, 51, 52, 53, 54, 55] (by decide +kernel) (by decide +kernel)
set_option maxRecDepth 20000 in
theorem gX8_compare_X8_valueOf : GoodIn wsX8_compare (wsV RX8 267 RX8 yX8_valueOf wsX8_valueOf) := goodIn_app (goodIn_of _ (by decide +kernel)) ggX8_compare_X8_valueOf
set_option maxRecDepth 20000 in
theorem ggX8_sum_X8_isTrace : GoodIn wsX8_sum wsX8_isTrace := goodIn_r _ [6, 7, 8, 9, 5, 10] (by decide +kernel) (by decide +kernel)
set_option maxRecDepth 20000 in
theorem gX8_sum_X8_isTrace : GoodIn wsX8_sum (va_wsS RX8 239 yX8_isTrace wsX8_isTrace) := goodIn_app (goodIn_of _ (by decide +kernel)) ggX8_sum_X8_isTrace
set_option maxRecDepth 20000 in
theorem ggX8_sum_X8_in : GoodIn wsX8_sum wsX8_in := goodIn_r _ [10] (by decide +kernel) (by decide +kernel)
set_option maxRecDepth 20000 in
theorem gX8_sum_X8_in : GoodIn wsX8_sum (va_wsS RX8 102 yX8_in wsX8_in) := goodIn_app (goodIn_of _ (by decide +kernel)) ggX8_sum_X8_in
set_option maxRecDepth 20000 in
theorem ggX8_sum_X8_valueOf : GoodIn wsX8_sum wsX8_valueOf := goodIn_r _ [14, 15, 16, 17, 26, 27, 28, 29, 30, 31, 32, 33, 34, 35, 36, 37, 38, 39, 40, 41, 42, 43, 44, 45, 46, 47, 48, 49, 50, 51, 52, 53, 54, 55, 56, 57, 58, 59, 60] (by decide +kernel) (by decide +kernel)
set_option maxRecDepth 20000 in
theorem gX8_sum_X8_valueOf : GoodIn wsX8_sum (wsV RX8 267 RX8 yX8_valueOf wsX8_valueOf) := goodIn_app (goodIn_of _ (by decide +kernel)) ggX8_sum_X8_valueOf
set_option maxRecDepth 20000 in
theorem ggX8_sum_X8_cut : GoodIn wsX8_sum wsX8_cut := goodIn_r _ [20, 21, 22, 23, 24, 25] (by decide +kernel) (by decide +kernel)
set_option maxRecDepth 20000 in
theorem gX8_sum_X8_cut : GoodIn wsX8_sum (va_wsS RX8 250 yX8_cut wsX8_cut) := goodIn_app (goodIn_of _ (by decide +kernel)) ggX8_sum_X8_cut
set_option maxRecDepth 20000 in
theorem ggX8_drop_X8_isTrace : GoodIn wsX8_drop wsX8_isTrace := goodIn_r _ [5, 6, 7, 8, 4, 9] (by decide +kernel) (by decide +kernel)
set_option maxRecDepth 20000 in
theorem gX8_drop_X8_isTrace : GoodIn wsX8_drop (va_wsS RX8 239 yX8_isTrace wsX8_isTrace) := goodIn_app (goodIn_of _ (by decide +kernel)) ggX8_drop_X8_isTrace
set_option maxRecDepth 20000 in
theorem ggX8_tooSoon_X8_soonOf : GoodIn wsX8_tooSoon wsX8_soonOf := goodIn_r _ [6, 7, 8, 9, 10, 11, 12, 13, 14, 15, 16, 17, 18, 19, 20, 21, 22, 23, 24, 25, 26, 27, 28, 29, 30, 31, 32, 33, 34, 35, 36, 37, 38, 39, 40, 41, 42, 43] (by decide +kernel) (by decide +kernel)
set_option maxRecDepth 20000 in
theorem gX8_tooSoon_X8_soonOf : GoodIn wsX8_tooSoon (wsV RX8 182 RX8 yX8_soonOf wsX8_soonOf) := goodIn_app (goodIn_of _ (by decide +kernel)) ggX8_tooSoon_X8_soonOf
set_option maxRecDepth 20000 in
theorem ggX8_count_X8_allPlaces : GoodIn wsX8_count wsX8_allPlaces := goodIn_r _ [13, 14, 23, 24, 25, 26, 27, 28, 29, 30, 31, 32, 33, 34, 35, 36, 37, 38, 39, 40, 41, 42, 43, 44, 45, 46, 47, 48, 49, 50, 51, 52, 53, 54, 55, 56, 57] (by decide +kernel) (by decide +kernel)
set_option maxRecDepth 20000 in
theorem gX8_count_X8_allPlaces : GoodIn wsX8_count (wsV RX8 271 RX8 yX8_allPlaces wsX8_allPlaces) := goodIn_app (goodIn_of _ (by decide +kernel)) ggX8_count_X8_allPlaces
set_option maxRecDepth 20000 in
theorem ggX8_count_X8_tooSoon : GoodIn wsX8_count wsX8_tooSoon := goodIn_r _ [18, 2, 19, 20, 21, 12, 22, 6, 4, 23, 24, 25, 26, 27, 28, 29, 30, 31, 32, 33, 34, 35, 36, 37, 38, 39, 40, 41, 42, 43, 44, 45, 46, 47, 48, 49, 50, 51, 52, 53, 54, 55, 56, 57] (by decide +kernel) (by decide +kernel)
set_option maxRecDepth 20000 in
theorem gX8_count_X8_tooSoon : GoodIn wsX8_count (wsV RX8 274 RX8 yX8_tooSoon wsX8_tooSoon) := goodIn_app (goodIn_of _ (by decide +kernel)) ggX8_count_X8_tooSoon
set_option maxRecDepth 20000 in
theorem ggJ0_length_8abf5_J0_coder_7d493 : GoodIn wsJ0_length_8abf5 wsJ0_coder_7d493 := goodIn_r _ [6, 7, 8] (by decide +kernel) (by decide +kernel)
set_option maxRecDepth 20000 in
theorem gJ0_length_8abf5_J0_coder_7d493 : GoodIn wsJ0_length_8abf5 (wsV RJ0 335 RJ0 yJ0_coder_7d493 wsJ0_coder_7d493) := goodIn_app (goodIn_of _ (by decide +kernel)) ggJ0_length_8abf5_J0_coder_7d493
set_option maxRecDepth 20000 in
theorem ggJ0_charAt_5068e_J0_isLatin1_aae02 : GoodIn wsJ0_charAt_5068e wsJ0_isLatin1_aae02 := goodIn_r _ [6, 7, 8] (by decide +kernel) (by decide +kernel)
set_option maxRecDepth 20000 in
theorem gJ0_charAt_5068e_J0_isLatin1_aae02 : GoodIn wsJ0_charAt_5068e (wsV RJ0 492 RJ0 yJ0_isLatin1_aae02 wsJ0_isLatin1_aae02) := goodIn_app (goodIn_of _ (by decide +kernel)) ggJ0_charAt_5068e_J0_isLatin1_aae02
set_option maxRecDepth 20000 in
theorem ggJ0_charAt_5068e_J1_charAt_3b067 : GoodIn wsJ0_charAt_5068e wsJ1_charAt_3b067 := goodIn_r _ [12, 13, 14, 5, 15, 16, 17, 18, 19, 20] (by decide +kernel) (by decide +kernel)
set_option maxRecDepth 20000 in
theorem gJ0_charAt_5068e_J1_charAt_3b067 : GoodIn wsJ0_charAt_5068e (va_wsS RJ0 495 yJ1_charAt_3b067 wsJ1_charAt_3b067) := goodIn_app (goodIn_of _ (by decide +kernel)) ggJ0_charAt_5068e_J1_charAt_3b067
set_option maxRecDepth 20000 in
theorem ggJ0_charAt_5068e_J2_charAt_3b067 : GoodIn wsJ0_charAt_5068e wsJ2_charAt_3b067 := goodIn_r _ [24, 25, 26, 23, 27, 28, 29, 30, 31, 14, 5, 15, 16, 17, 18, 19, 20, 32, 33, 34, 35, 36, 37] (by decide +kernel) (by decide +kernel)
set_option maxRecDepth 20000 in
theorem gJ0_charAt_5068e_J2_charAt_3b067 : GoodIn wsJ0_charAt_5068e (va_wsS RJ0 498 yJ2_charAt_3b067 wsJ2_charAt_3b067) := goodIn_app (goodIn_of _ (by decide +kernel)) ggJ0_charAt_5068e_J2_charAt_3b067
set_option maxRecDepth 20000 in
theorem ggJ0_checkIndex_df160_J3_checkIndex_8e157 : GoodIn wsJ0_checkIndex_df160 wsJ3_checkIndex_8e157 := goodIn_r _ [5] (by decide +kernel) (by decide +kernel)
set_option maxRecDepth 20000 in
theorem gJ0_checkIndex_df160_J3_checkIndex_8e157 : GoodIn wsJ0_checkIndex_df160 (va_wsS RJ0 1059 yJ3_checkIndex_8e157 wsJ3_checkIndex_8e157) := goodIn_app (goodIn_of _ (by decide +kernel)) ggJ0_checkIndex_df160_J3_checkIndex_8e157
set_option maxRecDepth 20000 in
theorem ggJ1_charAt_3b067_J0_checkIndex_df160 : GoodIn wsJ1_charAt_3b067 wsJ0_checkIndex_df160 := goodIn_r _ [4, 5, 6, 7, 8, 9] (by decide +kernel) (by decide +kernel)
set_option maxRecDepth 20000 in
theorem gJ1_charAt_3b067_J0_checkIndex_df160 : GoodIn wsJ1_charAt_3b067 (va_wsS RJ1 9 yJ0_checkIndex_df160 wsJ0_checkIndex_df160) := goodIn_app (goodIn_of _ (by decide +kernel)) ggJ1_charAt_3b067_J0_checkIndex_df160
set_option maxRecDepth 20000 in
theorem ggJ2_getChar_3b067_J2_length_9d52b : GoodIn wsJ2_getChar_3b067 wsJ2_length_9d52b := goodIn_r _ [7] (by decide +kernel) (by decide +kernel)
set_option maxRecDepth 20000 in
theorem gJ2_getChar_3b067_J2_length_9d52b : GoodIn wsJ2_getChar_3b067 (va_wsS RJ2 48 yJ2_length_9d52b wsJ2_length_9d52b) := goodIn_app (goodIn_of _ (by decide +kernel)) ggJ2_getChar_3b067_J2_length_9d52b
set_option maxRecDepth 20000 in
theorem ggJ2_charAt_3b067_J2_checkIndex_2214a : GoodIn wsJ2_charAt_3b067 wsJ2_checkIndex_2214a := goodIn_r _ [4, 5, 6, 3, 7, 8, 9, 10, 11, 12, 13, 14, 15, 16] (by decide +kernel) (by decide +kernel)
set_option maxRecDepth 20000 in
theorem gJ2_charAt_3b067_J2_checkIndex_2214a : GoodIn wsJ2_charAt_3b067 (va_wsS RJ2 67 yJ2_checkIndex_2214a wsJ2_checkIndex_2214a) := goodIn_app (goodIn_of _ (by decide +kernel)) ggJ2_charAt_3b067_J2_checkIndex_2214a
set_option maxRecDepth 20000 in
theorem ggJ2_charAt_3b067_J2_getChar_3b067 : GoodIn wsJ2_charAt_3b067 wsJ2_getChar_3b067 := goodIn_r _ [19, 20, 21, 22, 5, 6, 3, 7] (by decide +kernel) (by decide +kernel)
set_option maxRecDepth 20000 in
theorem gJ2_charAt_3b067_J2_getChar_3b067 : GoodIn wsJ2_charAt_3b067 (va_wsS RJ2 71 yJ2_getChar_3b067 wsJ2_getChar_3b067) := goodIn_app (goodIn_of _ (by decide +kernel)) ggJ2_charAt_3b067_J2_getChar_3b067
set_option maxRecDepth 20000 in
theorem ggJ2_checkIndex_2214a_J2_length_9d52b : GoodIn wsJ2_checkIndex_2214a wsJ2_length_9d52b := goodIn_r _ [4] (by decide +kernel) (by decide +kernel)
set_option maxRecDepth 20000 in
theorem gJ2_checkIndex_2214a_J2_length_9d52b : GoodIn wsJ2_checkIndex_2214a (va_wsS RJ2 48 yJ2_length_9d52b wsJ2_length_9d52b) := goodIn_app (goodIn_of _ (by decide +kernel)) ggJ2_checkIndex_2214a_J2_length_9d52b
set_option maxRecDepth 20000 in
theorem ggJ2_checkIndex_2214a_J0_checkIndex_df160 : GoodIn wsJ2_checkIndex_2214a wsJ0_checkIndex_df160 := goodIn_r _ [8, 9, 10, 11, 12, 13] (by decide +kernel) (by decide +kernel)
set_option maxRecDepth 20000 in
theorem gJ2_checkIndex_2214a_J0_checkIndex_df160 : GoodIn wsJ2_checkIndex_2214a (va_wsS RJ2 414 yJ0_checkIndex_df160 wsJ0_checkIndex_df160) := goodIn_app (goodIn_of _ (by decide +kernel)) ggJ2_checkIndex_2214a_J0_checkIndex_df160
set_option maxRecDepth 20000 in
theorem ggL_law_X7_init : GoodIn wsL_law wsX7_init := goodIn_r _ [8, 9, 10, 11, 12, 13, 14, 15, 16, 17, 18, 19, 20, 21, 22, 23, 24, 25, 26, 27, 28, 29, 30, 31, 32, 33, 34, 35, 36, 37, 38, 39, 40, 41, 42, 43, 44, 45, 46, 47, 48, 49, 50, 51, 52, 53, 54, 55, 56, 57, 58, 59, 60, 61, 62, 63, 64, 65, 66, 67, 68, 69, 70, 71, 72, 73, 74, 75, 76, 77, 78, 902, 903, 904, 905, 906, 858, 859, 860, 861, 862, 863, 864, 865, 866, 907, 908, 909, 910, 911, 912, 913, 914, 915, 916, 917, 918, 919, 920, 921, 922, 923, 924, 925, 926, 927, 928, 929, 930, 931, 932] (by decide +kernel) (by decide +kernel)
set_option maxRecDepth 20000 in
theorem gL_law_X7_init : GoodIn wsL_law (wsX7_init) := ggL_law_X7_init
set_option maxRecDepth 20000 in
theorem ggL_law_X8_init : GoodIn wsL_law wsX8_init := goodIn_r _ [81, 82, 10, 11, 46, 83, 84, 85, 23, 86, 87, 88, 89, 90, 91, 76, 92, 93, 94, 95, 96, 97, 98, 99, 100, 101, 102, 103, 104, 105, 106, 107, 5, 108, 109, 110, 111, 112, 113, 114, 115, 116, 117, 867, 868, 869, 870, 871, 872, 873, 874, 875, 876, 877, 878, 879, 880, 881, 882, 883, 884, 885, 886, 887, 888, 889, 890, 891, 892, 893, 894, 895, 896, 897, 898, 899, 900, 901] (by decide +kernel) (by decide +kernel)
set_option maxRecDepth 20000 in
theorem gL_law_X8_init : GoodIn wsL_law (wsX8_init) := ggL_law_X8_init
set_option maxRecDepth 20000 in
theorem ggL_law_X7_write : GoodIn wsL_law wsX7_write := goodIn_r _ [121, 15, 122, 123, 2, 124, 125, 126, 127, 14, 128, 129, 41, 130, 131, 132, 133, 858, 859, 860, 861, 862, 863, 864, 865, 866, 902, 903, 904, 905, 906] (by decide +kernel) (by decide +kernel)
set_option maxRecDepth 20000 in
theorem gL_law_X7_write : GoodIn wsL_law (wsV RL 13 RX7 yX7_write wsX7_write) := goodIn_app (goodIn_of _ (by decide +kernel)) ggL_law_X7_write
set_option maxRecDepth 20000 in
theorem ggL_law_X8_write : GoodIn wsL_law wsX8_write := goodIn_r _ [137, 138, 139, 87, 140, 141, 5, 142, 867, 868, 869, 870, 871, 872, 873, 874, 875, 876, 877, 878, 879, 880, 881, 882, 883, 884, 885, 886, 887, 888, 889, 890, 891, 892, 893, 894, 895, 896, 897, 898, 899, 900, 901] (by decide +kernel) (by decide +kernel)
set_option maxRecDepth 20000 in
theorem gL_law_X8_write : GoodIn wsL_law (wsV RL 17 RX8 yX8_write wsX8_write) := goodIn_app (goodIn_of _ (by decide +kernel)) ggL_law_X8_write
set_option maxRecDepth 20000 in
theorem ggL_law_X7_erase : GoodIn wsL_law wsX7_erase := goodIn_r _ [146, 15, 130, 131, 132, 14, 133, 129, 147, 148, 149, 150, 858, 859, 860, 861, 862, 863, 864, 865, 866, 902, 903, 904, 905, 906] (by decide +kernel) (by decide +kernel)
set_option maxRecDepth 20000 in
theorem gL_law_X7_erase : GoodIn wsL_law (wsV RL 18 RX7 yX7_erase wsX7_erase) := goodIn_app (goodIn_of _ (by decide +kernel)) ggL_law_X7_erase
set_option maxRecDepth 20000 in
theorem ggL_law_X8_erase : GoodIn wsL_law wsX8_erase := goodIn_r _ [154, 139, 867, 868, 869, 870, 871, 872, 873, 874, 875, 876, 877, 878, 879, 880, 881, 882, 883, 884, 885, 886, 887, 888, 889, 890, 891, 892, 893, 894, 895, 896, 897, 898, 899, 900, 901] (by decide +kernel) (by decide +kernel)
set_option maxRecDepth 20000 in
theorem gL_law_X8_erase : GoodIn wsL_law (wsV RL 22 RX8 yX8_erase wsX8_erase) := goodIn_app (goodIn_of _ (by decide +kernel)) ggL_law_X8_erase
set_option maxRecDepth 20000 in
theorem ggL_law_X7_fault : GoodIn wsL_law wsX7_fault := goodIn_r _ [158, 15, 19, 21, 159, 160, 161, 14, 162, 163, 164, 165, 41, 166, 167, 168, 18, 169, 55, 56, 57, 58, 59, 60, 47, 170, 171, 172, 173, 48, 49, 50, 174, 175, 176, 177, 129, 178, 179, 180, 181, 182, 183, 184, 185, 186, 187, 188, 189, 190, 191, 192, 193, 194, 195, 196, 197, 198, 199, 200, 201, 202, 203, 204, 205, 206, 207, 208, 209, 210, 211, 212, 213, 214, 215, 216, 217, 218, 219, 220, 221, 222, 223, 224, 225, 226, 227, 228, 229, 230, 231, 232, 233, 234, 235, 236, 237, 238, 239, 240, 241, 242, 243, 244, 245, 246, 247, 248, 249, 250, 251, 252, 253, 254, 255, 256, 257, 258, 259, 260, 261, 123, 2, 124, 262, 263, 264, 265, 266, 267, 268, 269, 270, 271, 272, 273, 274, 275, 276, 277, 278, 51, 52, 53, 54, 858, 859, 860, 861, 862, 863, 864, 865, 866, 902, 903, 904, 905, 906, 907, 908, 909, 910, 911, 912, 913, 914, 915, 916] (by decide +kernel) (by decide +kernel)
set_option maxRecDepth 20000 in
theorem gL_law_X7_fault : GoodIn wsL_law (wsV RL 23 RX7 yX7_fault wsX7_fault) := goodIn_app (goodIn_of _ (by decide +kernel)) ggL_law_X7_fault
set_option maxRecDepth 20000 in
theorem ggL_law_X8_fault : GoodIn wsL_law wsX8_fault := goodIn_r _ [282, 283, 284, 285, 286, 5, 287, 288, 289, 290, 109, 291, 110, 292, 139, 87, 293, 294, 295, 296, 297, 298, 299, 300, 301, 140, 141, 142, 302, 303, 304, 305, 306, 307, 308, 309, 310, 93, 311, 312, 313, 314, 94, 95, 96, 97, 98, 99, 315, 316, 317, 318, 319, 320, 321, 322, 323, 324, 325, 326, 327, 328, 329, 330, 84, 85, 83, 111, 112, 113, 105, 106, 107, 108, 867, 868, 869, 870, 871, 872, 873, 874, 875, 876, 877, 878, 879, 880, 881, 882, 883, 884, 885, 886, 887, 888, 889, 890, 891, 892, 893, 894, 895, 896, 897, 898, 899, 900, 901] (by decide +kernel) (by decide +kernel)
set_option maxRecDepth 20000 in
theorem gL_law_X8_fault : GoodIn wsL_law (wsV RL 26 RX8 yX8_fault wsX8_fault) := goodIn_app (goodIn_of _ (by decide +kernel)) ggL_law_X8_fault
set_option maxRecDepth 20000 in
theorem ggL_law_X7_net : GoodIn wsL_law wsX7_net := goodIn_r _ [334, 15, 19, 21, 20, 28, 24, 34, 159, 160, 161, 14, 162, 163, 164, 165, 41, 166, 167, 168, 18, 169, 55, 56, 57, 58, 59, 60, 47, 170, 171, 172, 173, 48, 49, 50, 174, 175, 176, 177, 129, 178, 179, 180, 181, 182, 183, 184, 185, 186, 187, 188, 189, 190, 191, 192, 193, 194, 195, 196, 197, 198, 199, 200, 201, 202, 203, 204, 205, 206, 207, 208, 209, 210, 211, 212, 213, 214, 215, 216, 217, 218, 219, 220, 221, 222, 223, 224, 225, 226, 227, 228, 229, 230, 231, 232, 233, 234, 235, 236, 237, 238, 239, 240, 241, 242, 243, 244, 245, 246, 247, 248, 249, 250, 251, 252, 253, 254, 255, 256, 257, 258, 259, 260, 261, 123, 2, 124, 262, 263, 264, 265, 266, 267, 268, 269, 270, 271, 272, 273, 274, 275, 276, 277, 278, 51, 52, 53, 54, 335, 336, 337, 338, 27, 339, 340, 341, 342, 343, 36, 344, 345, 346, 147, 148, 149, 150, 347, 348, 349, 350, 858, 859, 860, 861, 862, 863, 864, 865, 866, 902, 903, 904, 905, 906, 907, 908, 909, 910, 911, 912, 913, 914, 915, 916, 917, 918, 919, 920, 928, 929, 930, 931, 932] (by decide +kernel) (by decide +kernel)
set_option maxRecDepth 20000 in
theorem gL_law_X7_net : GoodIn wsL_law (wsV RL 27 RX7 yX7_net wsX7_net) := goodIn_app (goodIn_of _ (by decide +kernel)) ggL_law_X7_net
set_option maxRecDepth 20000 in
theorem ggL_law_X8_net : GoodIn wsL_law wsX8_net := goodIn_r _ [354, 139, 355, 86, 89, 290, 284, 285, 286, 5, 287, 288, 289, 109, 291, 110, 292, 283, 87, 293, 294, 295, 296, 297, 298, 299, 300, 301, 140, 141, 142, 302, 303, 304, 305, 306, 307, 308, 309, 310, 93, 311, 312, 313, 314, 94, 95, 96, 97, 98, 99, 315, 316, 317, 318, 319, 320, 321, 322, 323, 324, 325, 326, 327, 328, 329, 330, 84, 85, 83, 111, 112, 113, 105, 106, 107, 108, 114, 115, 116, 117, 867, 868, 869, 870, 871, 872, 873, 874, 875, 876, 877, 878, 879, 880, 881, 882, 883, 884, 885, 886, 887, 888, 889, 890, 891, 892, 893, 894, 895, 896, 897, 898, 899, 900, 901] (by decide +kernel) (by decide +kernel)
set_option maxRecDepth 20000 in
theorem gL_law_X8_net : GoodIn wsL_law (wsV RL 30 RX8 yX8_net wsX8_net) := goodIn_app (goodIn_of _ (by decide +kernel)) ggL_law_X8_net
set_option maxRecDepth 20000 in
theorem ggL_law_X7_path : GoodIn wsL_law wsX7_path := goodIn_r _ [359, 20, 360, 361, 362, 2, 363, 122, 123, 124, 364, 365, 366, 18, 367, 59, 49, 56, 368, 369, 370, 371, 50, 57, 858, 859, 860, 861, 862, 863, 864, 865, 866, 907, 908, 909, 910, 911, 912, 913, 914, 915, 916] (by decide +kernel) (by decide +kernel)
set_option maxRecDepth 20000 in
theorem gL_law_X7_path : GoodIn wsL_law (wsV RL 31 RX7 yX7_path wsX7_path) := goodIn_app (goodIn_of _ (by decide +kernel)) ggL_law_X7_path
set_option maxRecDepth 20000 in
theorem ggL_law_X8_path : GoodIn wsL_law wsX8_path := goodIn_r _ [375, 84, 85, 83, 376, 377, 378, 5, 379, 110, 140, 141, 142, 380, 381, 382, 383, 111, 384, 385, 386, 387, 112, 867, 868, 869, 870, 871, 872, 873, 874, 875, 876, 877, 878, 879, 880, 881, 882, 883, 884, 885, 886, 887, 888, 889, 890, 891, 892, 893, 894, 895, 896, 897, 898, 899, 900, 901] (by decide +kernel) (by decide +kernel)
set_option maxRecDepth 20000 in
theorem gL_law_X8_path : GoodIn wsL_law (wsV RL 35 RX8 yX8_path wsX8_path) := goodIn_app (goodIn_of _ (by decide +kernel)) ggL_law_X8_path
set_option maxRecDepth 20000 in
theorem ggL_law_X7_period : GoodIn wsL_law wsX7_period := goodIn_r _ [391, 20, 28, 122, 123, 2, 124, 392, 393, 394, 27, 395, 64, 396, 65, 340, 397, 398, 399, 400, 858, 859, 860, 861, 862, 863, 864, 865, 866, 907, 908, 909, 910, 911, 912, 913, 914, 915, 916, 917, 918, 919, 920] (by decide +kernel) (by decide +kernel)
set_option maxRecDepth 20000 in
theorem gL_law_X7_period : GoodIn wsL_law (wsV RL 36 RX7 yX7_period wsX7_period) := goodIn_app (goodIn_of _ (by decide +kernel)) ggL_law_X7_period
set_option maxRecDepth 20000 in
theorem ggL_law_X8_period : GoodIn wsL_law wsX8_period := goodIn_r _ [404, 405, 83, 140, 141, 5, 142, 406, 407, 408, 409, 355, 114, 115, 116, 117, 867, 868, 869, 870, 871, 872, 873, 874, 875, 876, 877, 878, 879, 880, 881, 882, 883, 884, 885, 886, 887, 888, 889, 890, 891, 892, 893, 894, 895, 896, 897, 898, 899, 900, 901] (by decide +kernel) (by decide +kernel)
set_option maxRecDepth 20000 in
theorem gL_law_X8_period : GoodIn wsL_law (wsV RL 39 RX8 yX8_period wsX8_period) := goodIn_app (goodIn_of _ (by decide +kernel)) ggL_law_X8_period
set_option maxRecDepth 20000 in
theorem ggL_law_X7_slower : GoodIn wsL_law wsX7_slower := goodIn_r _ [413, 20, 28, 360, 361, 362, 2, 363, 122, 123, 124, 414, 415, 416, 18, 417, 49, 392, 393, 394, 27, 395, 64, 396, 65, 340, 397, 398, 399, 400, 418, 419, 420, 421, 50, 858, 859, 860, 861, 862, 863, 864, 865, 866, 907, 908, 909, 910, 911, 912, 913, 914, 915, 916, 917, 918, 919, 920] (by decide +kernel) (by decide +kernel)
set_option maxRecDepth 20000 in
theorem gL_law_X7_slower : GoodIn wsL_law (wsV RL 40 RX7 yX7_slower wsX7_slower) := goodIn_app (goodIn_of _ (by decide +kernel)) ggL_law_X7_slower
set_option maxRecDepth 20000 in
theorem ggL_law_X8_slower : GoodIn wsL_law wsX8_slower := goodIn_r _ [425, 426, 83, 376, 377, 378, 5, 379, 110, 140, 141, 142, 406, 407, 408, 409, 355, 114, 115, 116, 117, 867, 868, 869, 870, 871, 872, 873, 874, 875, 876, 877, 878, 879, 880, 881, 882, 883, 884, 885, 886, 887, 888, 889, 890, 891, 892, 893, 894, 895, 896, 897, 898, 899, 900, 901] (by decide +kernel) (by decide +kernel)
set_option maxRecDepth 20000 in
theorem gL_law_X8_slower : GoodIn wsL_law (wsV RL 43 RX8 yX8_slower wsX8_slower) := goodIn_app (goodIn_of _ (by decide +kernel)) ggL_law_X8_slower
set_option maxRecDepth 20000 in
theorem ggL_law_X7_undo : GoodIn wsL_law wsX7_undo := goodIn_r _ [430, 28, 20, 431, 432, 433, 27, 434, 340, 435, 436, 437, 438, 396, 64, 65, 439, 419, 420, 18, 421, 49, 50, 858, 859, 860, 861, 862, 863, 864, 865, 866, 917, 918, 919, 920, 907, 908, 909, 910, 911, 912, 913, 914, 915, 916] (by decide +kernel) (by decide +kernel)
set_option maxRecDepth 20000 in
theorem gL_law_X7_undo : GoodIn wsL_law (wsV RL 44 RX7 yX7_undo wsX7_undo) := goodIn_app (goodIn_of _ (by decide +kernel)) ggL_law_X7_undo
set_option maxRecDepth 20000 in
theorem ggL_law_X8_undo : GoodIn wsL_law wsX8_undo := goodIn_r _ [443, 355, 114, 115, 116, 5, 117, 83, 867, 868, 869, 870, 871, 872, 873, 874, 875, 876, 877, 878, 879, 880, 881, 882, 883, 884, 885, 886, 887, 888, 889, 890, 891, 892, 893, 894, 895, 896, 897, 898, 899, 900, 901] (by decide +kernel) (by decide +kernel)
set_option maxRecDepth 20000 in
theorem gL_law_X8_undo : GoodIn wsL_law (wsV RL 47 RX8 yX8_undo wsX8_undo) := goodIn_app (goodIn_of _ (by decide +kernel)) ggL_law_X8_undo
set_option maxRecDepth 20000 in
theorem ggL_law_X7_keep : GoodIn wsL_law wsX7_keep := goodIn_r _ [447, 22, 20, 24, 448, 449, 2, 450, 122, 123, 124, 335, 167, 168, 18, 169, 55, 56, 57, 58, 59, 60, 47, 170, 171, 172, 173, 48, 49, 50, 858, 859, 860, 861, 862, 863, 864, 865, 866, 907, 908, 909, 910, 911, 912, 913, 914, 915, 916] (by decide +kernel) (by decide +kernel)
set_option maxRecDepth 20000 in
theorem gL_law_X7_keep : GoodIn wsL_law (wsV RL 48 RX7 yX7_keep wsX7_keep) := goodIn_app (goodIn_of _ (by decide +kernel)) ggL_law_X7_keep
set_option maxRecDepth 20000 in
theorem ggL_law_X8_keep : GoodIn wsL_law wsX8_keep := goodIn_r _ [454, 86, 83, 140, 141, 5, 142, 114, 115, 116, 117, 867, 868, 869, 870, 871, 872, 873, 874, 875, 876, 877, 878, 879, 880, 881, 882, 883, 884, 885, 886, 887, 888, 889, 890, 891, 892, 893, 894, 895, 896, 897, 898, 899, 900, 901] (by decide +kernel) (by decide +kernel)
set_option maxRecDepth 20000 in
theorem gL_law_X8_keep : GoodIn wsL_law (wsV RL 51 RX8 yX8_keep wsX8_keep) := goodIn_app (goodIn_of _ (by decide +kernel)) ggL_law_X8_keep
set_option maxRecDepth 20000 in
theorem ggL_law_X7_back : GoodIn wsL_law wsX7_back := goodIn_r _ [458, 24, 20, 22, 28, 448, 449, 2, 450, 122, 123, 124, 335, 167, 168, 18, 169, 55, 56, 57, 58, 59, 60, 47, 170, 171, 172, 173, 48, 49, 50, 336, 337, 338, 27, 339, 340, 858, 859, 860, 861, 862, 863, 864, 865, 866, 907, 908, 909, 910, 911, 912, 913, 914, 915, 916, 917, 918, 919, 920] (by decide +kernel) (by decide +kernel)
set_option maxRecDepth 20000 in
theorem gL_law_X7_back : GoodIn wsL_law (wsV RL 52 RX7 yX7_back wsX7_back) := goodIn_app (goodIn_of _ (by decide +kernel)) ggL_law_X7_back
set_option maxRecDepth 20000 in
theorem ggL_law_X8_back : GoodIn wsL_law wsX8_back := goodIn_r _ [462, 86, 355, 83, 140, 141, 5, 142, 114, 115, 116, 117, 867, 868, 869, 870, 871, 872, 873, 874, 875, 876, 877, 878, 879, 880, 881, 882, 883, 884, 885, 886, 887, 888, 889, 890, 891, 892, 893, 894, 895, 896, 897, 898, 899, 900, 901] (by decide +kernel) (by decide +kernel)
set_option maxRecDepth 20000 in
theorem gL_law_X8_back : GoodIn wsL_law (wsV RL 55 RX8 yX8_back wsX8_back) := goodIn_app (goodIn_of _ (by decide +kernel)) ggL_law_X8_back
set_option maxRecDepth 20000 in
theorem ggL_law_X7_feasible : GoodIn wsL_law wsX7_feasible := goodIn_r _ [466, 32, 20, 467, 468, 469, 31, 470, 471, 472, 473, 474, 475, 476, 477, 478, 479, 70, 480, 481, 369, 370, 18, 371, 50, 57, 482, 483, 484, 485, 486, 398, 399, 400, 487, 488, 489, 490, 491, 492, 493, 494, 71, 495, 496, 497, 498, 858, 859, 860, 861, 862, 863, 864, 865, 866, 907, 908, 909, 910, 911, 912, 913, 914, 915, 916, 921, 922, 923, 924, 925, 926, 927] (by decide +kernel) (by decide +kernel)
set_option maxRecDepth 20000 in
theorem gL_law_X7_feasible : GoodIn wsL_law (wsV RL 56 RX7 yX7_feasible wsX7_feasible) := goodIn_app (goodIn_of _ (by decide +kernel)) ggL_law_X7_feasible
set_option maxRecDepth 20000 in
theorem ggL_law_X8_feasible : GoodIn wsL_law wsX8_feasible := goodIn_r _ [502, 83, 503, 504, 505, 5, 506, 507, 508, 509, 510, 110, 100, 113, 101, 380, 381, 382, 383, 111, 511, 512, 513, 384, 385, 386, 387, 112, 514, 515, 516, 517, 102, 109, 84, 85, 518, 519, 520, 521, 867, 868, 869, 870, 871, 872, 873, 874, 875, 876, 877, 878, 879, 880, 881, 882, 883, 884, 885, 886, 887, 888, 889, 890, 891, 892, 893, 894, 895, 896, 897, 898, 899, 900, 901] (by decide +kernel) (by decide +kernel)
set_option maxRecDepth 20000 in
theorem gL_law_X8_feasible : GoodIn wsL_law (wsV RL 59 RX8 yX8_feasible wsX8_feasible) := goodIn_app (goodIn_of _ (by decide +kernel)) ggL_law_X8_feasible
set_option maxRecDepth 20000 in
theorem ggL_law_X7_shift : GoodIn wsL_law wsX7_shift := goodIn_r _ [525, 20, 32, 122, 123, 2, 124, 467, 468, 469, 31, 470, 471, 472, 473, 474, 475, 476, 477, 478, 479, 70, 480, 481, 369, 370, 18, 371, 50, 57, 482, 483, 484, 485, 486, 398, 399, 400, 487, 488, 489, 490, 491, 492, 493, 494, 71, 495, 496, 497, 498, 526, 527, 528, 529, 858, 859, 860, 861, 862, 863, 864, 865, 866, 907, 908, 909, 910, 911, 912, 913, 914, 915, 916, 921, 922, 923, 924, 925, 926, 927] (by decide +kernel) (by decide +kernel)
set_option maxRecDepth 20000 in
theorem gL_law_X7_shift : GoodIn wsL_law (wsV RL 60 RX7 yX7_shift wsX7_shift) := goodIn_app (goodIn_of _ (by decide +kernel)) ggL_law_X7_shift
set_option maxRecDepth 20000 in
theorem ggL_law_X8_shift : GoodIn wsL_law wsX8_shift := goodIn_r _ [533, 83, 102, 113, 534, 535, 536, 5, 537, 109, 140, 141, 142, 503, 504, 505, 506, 507, 508, 509, 510, 110, 100, 101, 380, 381, 382, 383, 111, 511, 512, 513, 384, 385, 386, 387, 112, 514, 515, 516, 517, 84, 85, 518, 519, 520, 521, 867, 868, 869, 870, 871, 872, 873, 874, 875, 876, 877, 878, 879, 880, 881, 882, 883, 884, 885, 886, 887, 888, 889, 890, 891, 892, 893, 894, 895, 896, 897, 898, 899, 900, 901] (by decide +kernel) (by decide +kernel)
set_option maxRecDepth 20000 in
theorem gL_law_X8_shift : GoodIn wsL_law (wsV RL 63 RX8 yX8_shift wsX8_shift) := goodIn_app (goodIn_of _ (by decide +kernel)) ggL_law_X8_shift
set_option maxRecDepth 20000 in
theorem ggL_law_X7_least : GoodIn wsL_law wsX7_least := goodIn_r _ [541, 32, 20, 542, 543, 544, 31, 545, 546, 547, 548, 549, 550, 551, 552, 553, 475, 476, 477, 478, 479, 70, 480, 481, 369, 370, 18, 371, 50, 57, 482, 483, 484, 485, 486, 398, 399, 400, 487, 488, 489, 490, 491, 492, 493, 494, 71, 495, 496, 497, 498, 858, 859, 860, 861, 862, 863, 864, 865, 866, 907, 908, 909, 910, 911, 912, 913, 914, 915, 916, 921, 922, 923, 924, 925, 926, 927] (by decide +kernel) (by decide +kernel)
set_option maxRecDepth 20000 in
theorem gL_law_X7_least : GoodIn wsL_law (wsV RL 64 RX7 yX7_least wsX7_least) := goodIn_app (goodIn_of _ (by decide +kernel)) ggL_law_X7_least
set_option maxRecDepth 20000 in
theorem ggL_law_X8_least : GoodIn wsL_law wsX8_least := goodIn_r _ [557, 558, 559, 560, 5, 561, 503, 504, 505, 506, 507, 508, 509, 510, 110, 100, 113, 101, 380, 381, 382, 383, 83, 111, 511, 512, 513, 384, 385, 386, 387, 112, 514, 515, 516, 517, 102, 109, 84, 85, 518, 519, 520, 521, 867, 868, 869, 870, 871, 872, 873, 874, 875, 876, 877, 878, 879, 880, 881, 882, 883, 884, 885, 886, 887, 888, 889, 890, 891, 892, 893, 894, 895, 896, 897, 898, 899, 900, 901] (by decide +kernel) (by decide +kernel)
set_option maxRecDepth 20000 in
theorem gL_law_X8_least : GoodIn wsL_law (wsV RL 67 RX8 yX8_least wsX8_least) := goodIn_app (goodIn_of _ (by decide +kernel)) ggL_law_X8_least
set_option maxRecDepth 20000 in
theorem ggL_law_X7_rate : GoodIn wsL_law wsX7_rate := goodIn_r _ [565, 32, 20, 122, 123, 2, 124, 566, 567, 568, 31, 569, 570, 571, 546, 547, 548, 549, 550, 551, 552, 553, 475, 476, 477, 478, 479, 70, 480, 481, 369, 370, 18, 371, 50, 57, 482, 483, 484, 485, 486, 398, 399, 400, 487, 488, 489, 490, 491, 492, 493, 494, 71, 495, 496, 497, 498, 572, 573, 574, 575, 576, 577, 578, 579, 858, 859, 860, 861, 862, 863, 864, 865, 866, 921, 922, 923, 924, 925, 926, 927, 907, 908, 909, 910, 911, 912, 913, 914, 915, 916] (by decide +kernel) (by decide +kernel)
set_option maxRecDepth 20000 in
theorem gL_law_X7_rate : GoodIn wsL_law (wsV RL 68 RX7 yX7_rate wsX7_rate) := goodIn_app (goodIn_of _ (by decide +kernel)) ggL_law_X7_rate
set_option maxRecDepth 20000 in
theorem ggL_law_X8_rate : GoodIn wsL_law wsX8_rate := goodIn_r _ [583, 109, 140, 141, 5, 142, 584, 585, 586, 587, 110, 100, 83, 111, 101, 384, 385, 386, 387, 112, 514, 515, 516, 517, 102, 84, 85, 518, 519, 520, 521, 867, 868, 869, 870, 871, 872, 873, 874, 875, 876, 877, 878, 879, 880, 881, 882, 883, 884, 885, 886, 887, 888, 889, 890, 891, 892, 893, 894, 895, 896, 897, 898, 899, 900, 901] (by decide +kernel) (by decide +kernel)
set_option maxRecDepth 20000 in
theorem gL_law_X8_rate : GoodIn wsL_law (wsV RL 71 RX8 yX8_rate wsX8_rate) := goodIn_app (goodIn_of _ (by decide +kernel)) ggL_law_X8_rate
set_option maxRecDepth 20000 in
theorem ggL_law_X7_margin : GoodIn wsL_law wsX7_margin := goodIn_r _ [591, 32, 20, 592, 593, 594, 31, 595, 487, 488, 489, 490, 471, 472, 473, 474, 475, 476, 477, 478, 479, 70, 480, 481, 369, 370, 18, 371, 50, 57, 482, 483, 484, 485, 486, 398, 399, 400, 491, 492, 493, 494, 71, 495, 496, 497, 498, 858, 859, 860, 861, 862, 863, 864, 865, 866, 907, 908, 909, 910, 911, 912, 913, 914, 915, 916, 921, 922, 923, 924, 925, 926, 927] (by decide +kernel) (by decide +kernel)
set_option maxRecDepth 20000 in
theorem gL_law_X7_margin : GoodIn wsL_law (wsV RL 72 RX7 yX7_margin wsX7_margin) := goodIn_app (goodIn_of _ (by decide +kernel)) ggL_law_X7_margin
set_option maxRecDepth 20000 in
theorem ggL_law_X8_margin : GoodIn wsL_law wsX8_margin := goodIn_r _ [599, 83, 503, 504, 505, 5, 506, 507, 508, 509, 510, 110, 100, 113, 101, 380, 381, 382, 383, 111, 511, 512, 513, 384, 385, 386, 387, 112, 514, 515, 516, 517, 102, 109, 84, 85, 518, 519, 520, 521, 867, 868, 869, 870, 871, 872, 873, 874, 875, 876, 877, 878, 879, 880, 881, 882, 883, 884, 885, 886, 887, 888, 889, 890, 891, 892, 893, 894, 895, 896, 897, 898, 899, 900, 901] (by decide +kernel) (by decide +kernel)
set_option maxRecDepth 20000 in
theorem gL_law_X8_margin : GoodIn wsL_law (wsV RL 75 RX8 yX8_margin wsX8_margin) := goodIn_app (goodIn_of _ (by decide +kernel)) ggL_law_X8_margin
set_option maxRecDepth 20000 in
theorem ggL_law_X7_spare : GoodIn wsL_law wsX7_spare := goodIn_r _ [603, 32, 20, 360, 361, 362, 2, 363, 122, 123, 124, 467, 468, 469, 31, 470, 471, 472, 473, 474, 475, 476, 477, 478, 479, 70, 480, 481, 369, 370, 18, 371, 50, 57, 482, 483, 484, 485, 486, 398, 399, 400, 487, 488, 489, 490, 491, 492, 493, 494, 71, 495, 496, 497, 498, 526, 527, 528, 529, 364, 365, 366, 367, 59, 49, 56, 368, 858, 859, 860, 861, 862, 863, 864, 865, 866, 907, 908, 909, 910, 911, 912, 913, 914, 915, 916, 921, 922, 923, 924, 925, 926, 927] (by decide +kernel) (by decide +kernel)
set_option maxRecDepth 20000 in
theorem gL_law_X7_spare : GoodIn wsL_law (wsV RL 76 RX7 yX7_spare wsX7_spare) := goodIn_app (goodIn_of _ (by decide +kernel)) ggL_law_X7_spare
set_option maxRecDepth 20000 in
theorem ggL_law_X8_spare : GoodIn wsL_law wsX8_spare := goodIn_r _ [607, 83, 102, 84, 85, 113, 376, 377, 378, 5, 379, 110, 140, 141, 142, 503, 504, 505, 506, 507, 508, 509, 510, 100, 101, 380, 381, 382, 383, 111, 511, 512, 513, 384, 385, 386, 387, 112, 514, 515, 516, 517, 109, 518, 519, 520, 521, 867, 868, 869, 870, 871, 872, 873, 874, 875, 876, 877, 878, 879, 880, 881, 882, 883, 884, 885, 886, 887, 888, 889, 890, 891, 892, 893, 894, 895, 896, 897, 898, 899, 900, 901] (by decide +kernel) (by decide +kernel)
set_option maxRecDepth 20000 in
theorem gL_law_X8_spare : GoodIn wsL_law (wsV RL 79 RX8 yX8_spare wsX8_spare) := goodIn_app (goodIn_of _ (by decide +kernel)) ggL_law_X8_spare
set_option maxRecDepth 20000 in
theorem ggL_law_X7_cycle : GoodIn wsL_law wsX7_cycle := goodIn_r _ [611, 32, 20, 467, 468, 469, 31, 470, 471, 472, 473, 474, 475, 476, 477, 478, 479, 70, 480, 481, 369, 370, 18, 371, 50, 57, 482, 483, 484, 485, 486, 398, 399, 400, 487, 488, 489, 490, 491, 492, 493, 494, 71, 495, 496, 497, 498, 612, 613, 614, 615, 616, 72, 617, 618, 619, 620, 621, 622, 623, 624, 625, 626, 627, 628, 629, 630, 631, 632, 858, 859, 860, 861, 862, 863, 864, 865, 866, 907, 908, 909, 910, 911, 912, 913, 914, 915, 916, 921, 922, 923, 924, 925, 926, 927] (by decide +kernel) (by decide +kernel)
set_option maxRecDepth 20000 in
theorem gL_law_X7_cycle : GoodIn wsL_law (wsV RL 80 RX7 yX7_cycle wsX7_cycle) := goodIn_app (goodIn_of _ (by decide +kernel)) ggL_law_X7_cycle
set_option maxRecDepth 20000 in
theorem ggL_law_X8_cycle : GoodIn wsL_law wsX8_cycle := goodIn_r _ [636, 83, 104, 637, 503, 504, 505, 5, 506, 507, 508, 509, 510, 110, 100, 113, 101, 380, 381, 382, 383, 111, 511, 512, 513, 384, 385, 386, 387, 112, 514, 515, 516, 517, 102, 109, 84, 85, 518, 519, 520, 521, 638, 639, 640, 641, 103, 642, 643, 644, 645, 646, 647, 648, 649, 650, 651, 652, 653, 654, 655, 656, 657, 658, 867, 868, 869, 870, 871, 872, 873, 874, 875, 876, 877, 878, 879, 880, 881, 882, 883, 884, 885, 886, 887, 888, 889, 890, 891, 892, 893, 894, 895, 896, 897, 898, 899, 900, 901] (by decide +kernel) (by decide +kernel)
set_option maxRecDepth 20000 in
theorem gL_law_X8_cycle : GoodIn wsL_law (wsV RL 83 RX8 yX8_cycle wsX8_cycle) := goodIn_app (goodIn_of _ (by decide +kernel)) ggL_law_X8_cycle
set_option maxRecDepth 20000 in
theorem ggL_law_X7_buffer : GoodIn wsL_law wsX7_buffer := goodIn_r _ [662, 32, 20, 21, 122, 123, 2, 124, 542, 543, 544, 31, 545, 546, 547, 548, 549, 550, 551, 552, 553, 475, 476, 477, 478, 479, 70, 480, 481, 369, 370, 18, 371, 50, 57, 482, 483, 484, 485, 486, 398, 399, 400, 487, 488, 489, 490, 491, 492, 493, 494, 71, 495, 496, 497, 498, 663, 664, 665, 414, 415, 416, 417, 49, 335, 167, 168, 169, 55, 56, 58, 59, 60, 47, 170, 171, 172, 173, 48, 418, 419, 420, 421, 858, 859, 860, 861, 862, 863, 864, 865, 866, 907, 908, 909, 910, 911, 912, 913, 914, 915, 916, 921, 922, 923, 924, 925, 926, 927] (by decide +kernel) (by decide +kernel)
set_option maxRecDepth 20000 in
theorem gL_law_X7_buffer : GoodIn wsL_law (wsV RL 84 RX7 yX7_buffer wsX7_buffer) := goodIn_app (goodIn_of _ (by decide +kernel)) ggL_law_X7_buffer
set_option maxRecDepth 20000 in
theorem ggL_law_X8_buffer : GoodIn wsL_law wsX8_buffer := goodIn_r _ [669, 426, 642, 110, 83, 140, 141, 5, 142, 558, 559, 560, 561, 503, 504, 505, 506, 507, 508, 509, 510, 100, 113, 101, 380, 381, 382, 383, 111, 511, 512, 513, 384, 385, 386, 387, 112, 514, 515, 516, 517, 102, 109, 84, 85, 518, 519, 520, 521, 867, 868, 869, 870, 871, 872, 873, 874, 875, 876, 877, 878, 879, 880, 881, 882, 883, 884, 885, 886, 887, 888, 889, 890, 891, 892, 893, 894, 895, 896, 897, 898, 899, 900, 901] (by decide +kernel) (by decide +kernel)
set_option maxRecDepth 20000 in
theorem gL_law_X8_buffer : GoodIn wsL_law (wsV RL 87 RX8 yX8_buffer wsX8_buffer) := goodIn_app (goodIn_of _ (by decide +kernel)) ggL_law_X8_buffer
set_option maxRecDepth 20000 in
theorem ggL_law_X7_trace : GoodIn wsL_law wsX7_trace := goodIn_r _ [673, 34, 674, 675, 2, 676, 122, 123, 124, 677, 678, 679, 680, 681, 682, 36, 683, 345, 684, 346, 685, 686, 687, 688, 77, 78, 858, 859, 860, 861, 862, 863, 864, 865, 866, 928, 929, 930, 931, 932] (by decide +kernel) (by decide +kernel)
set_option maxRecDepth 20000 in
theorem gL_law_X7_trace : GoodIn wsL_law (wsV RL 88 RX7 yX7_trace wsX7_trace) := goodIn_app (goodIn_of _ (by decide +kernel)) ggL_law_X7_trace
set_option maxRecDepth 20000 in
theorem ggL_law_X8_trace : GoodIn wsL_law wsX8_trace := goodIn_r _ [692, 88, 89, 91, 92, 693, 694, 5, 695, 696, 140, 141, 142, 867, 868, 869, 870, 871, 872, 873, 874, 875, 876, 877, 878, 879, 880, 881, 882, 883, 884, 885, 886, 887, 888, 889, 890, 891, 892, 893, 894, 895, 896, 897, 898, 899, 900, 901] (by decide +kernel) (by decide +kernel)
set_option maxRecDepth 20000 in
theorem gL_law_X8_trace : GoodIn wsL_law (wsV RL 92 RX8 yX8_trace wsX8_trace) := goodIn_app (goodIn_of _ (by decide +kernel)) ggL_law_X8_trace
set_option maxRecDepth 20000 in
theorem ggL_law_X7_set : GoodIn wsL_law wsX7_set := goodIn_r _ [700, 34, 674, 675, 2, 676, 122, 123, 124, 677, 678, 679, 701, 702, 703, 704, 705, 706, 36, 707, 345, 684, 346, 708, 709, 710, 711, 712, 713, 714, 715, 77, 78, 685, 686, 687, 688, 716, 717, 718, 719, 720, 721, 722, 723, 724, 725, 726, 727, 728, 729, 858, 859, 860, 861, 862, 863, 864, 865, 866, 928, 929, 930, 931, 932] (by decide +kernel) (by decide +kernel)
set_option maxRecDepth 20000 in
theorem gL_law_X7_set : GoodIn wsL_law (wsV RL 93 RX7 yX7_set wsX7_set) := goodIn_app (goodIn_of _ (by decide +kernel)) ggL_law_X7_set
set_option maxRecDepth 20000 in
theorem ggL_law_X8_set : GoodIn wsL_law wsX8_set := goodIn_r _ [733, 734, 735, 91, 92, 693, 694, 5, 695, 696, 140, 141, 142, 736, 737, 738, 739, 89, 88, 740, 741, 742, 743, 744, 745, 746, 747, 748, 749, 750, 751, 752, 753, 867, 868, 869, 870, 871, 872, 873, 874, 875, 876, 877, 878, 879, 880, 881, 882, 883, 884, 885, 886, 887, 888, 889, 890, 891, 892, 893, 894, 895, 896, 897, 898, 899, 900, 901] (by decide +kernel) (by decide +kernel)
set_option maxRecDepth 20000 in
theorem gL_law_X8_set : GoodIn wsL_law (wsV RL 97 RX8 yX8_set wsX8_set) := goodIn_app (goodIn_of _ (by decide +kernel)) ggL_law_X8_set
set_option maxRecDepth 20000 in
theorem ggL_law_X7_get : GoodIn wsL_law wsX7_get := goodIn_r _ [757, 34, 758, 759, 760, 2, 761, 674, 675, 676, 122, 123, 124, 677, 678, 679, 704, 705, 706, 36, 707, 345, 684, 346, 716, 717, 718, 719, 78, 720, 77, 721, 722, 723, 724, 725, 726, 727, 728, 729, 858, 859, 860, 861, 862, 863, 864, 865, 866, 928, 929, 930, 931, 932] (by decide +kernel) (by decide +kernel)
set_option maxRecDepth 20000 in
theorem gL_law_X7_get : GoodIn wsL_law (wsV RL 98 RX7 yX7_get wsX7_get) := goodIn_app (goodIn_of _ (by decide +kernel)) ggL_law_X7_get
set_option maxRecDepth 20000 in
theorem ggL_law_X8_get : GoodIn wsL_law wsX8_get := goodIn_r _ [765, 693, 694, 5, 695, 696, 140, 141, 142, 736, 737, 738, 739, 89, 88, 740, 741, 742, 743, 744, 91, 745, 92, 746, 747, 748, 749, 750, 751, 752, 753, 867, 868, 869, 870, 871, 872, 873, 874, 875, 876, 877, 878, 879, 880, 881, 882, 883, 884, 885, 886, 887, 888, 889, 890, 891, 892, 893, 894, 895, 896, 897, 898, 899, 900, 901] (by decide +kernel) (by decide +kernel)
set_option maxRecDepth 20000 in
theorem gL_law_X8_get : GoodIn wsL_law (wsV RL 101 RX8 yX8_get wsX8_get) := goodIn_app (goodIn_of _ (by decide +kernel)) ggL_law_X8_get
set_option maxRecDepth 20000 in
theorem ggL_law_X7_rest : GoodIn wsL_law wsX7_rest := goodIn_r _ [769, 34, 758, 759, 760, 2, 761, 674, 675, 676, 122, 123, 124, 677, 678, 679, 704, 705, 706, 36, 707, 345, 684, 346, 770, 771, 772, 773, 78, 77, 774, 775, 776, 726, 728, 712, 713, 714, 715, 777, 778, 779, 780, 685, 686, 687, 688, 716, 717, 718, 719, 720, 721, 722, 723, 724, 725, 727, 729, 858, 859, 860, 861, 862, 863, 864, 865, 866, 928, 929, 930, 931, 932] (by decide +kernel) (by decide +kernel)
set_option maxRecDepth 20000 in
theorem gL_law_X7_rest : GoodIn wsL_law (wsV RL 102 RX7 yX7_rest wsX7_rest) := goodIn_app (goodIn_of _ (by decide +kernel)) ggL_law_X7_rest
set_option maxRecDepth 20000 in
theorem ggL_law_X8_rest : GoodIn wsL_law wsX8_rest := goodIn_r _ [784, 91, 92, 693, 694, 5, 695, 696, 140, 141, 142, 736, 737, 738, 739, 89, 88, 740, 741, 742, 743, 744, 745, 746, 747, 748, 749, 750, 751, 752, 753, 867, 868, 869, 870, 871, 872, 873, 874, 875, 876, 877, 878, 879, 880, 881, 882, 883, 884, 885, 886, 887, 888, 889, 890, 891, 892, 893, 894, 895, 896, 897, 898, 899, 900, 901] (by decide +kernel) (by decide +kernel)
set_option maxRecDepth 20000 in
theorem gL_law_X8_rest : GoodIn wsL_law (wsV RL 106 RX8 yX8_rest wsX8_rest) := goodIn_app (goodIn_of _ (by decide +kernel)) ggL_law_X8_rest
set_option maxRecDepth 20000 in
theorem ggL_law_X7_compare : GoodIn wsL_law wsX7_compare := goodIn_r _ [788, 34, 758, 759, 760, 2, 761, 674, 675, 676, 122, 123, 124, 677, 678, 679, 704, 705, 706, 36, 707, 345, 684, 346, 789, 790, 791, 792, 78, 77, 858, 859, 860, 861, 862, 863, 864, 865, 866, 928, 929, 930, 931, 932] (by decide +kernel) (by decide +kernel)
set_option maxRecDepth 20000 in
theorem gL_law_X7_compare : GoodIn wsL_law (wsV RL 107 RX7 yX7_compare wsX7_compare) := goodIn_app (goodIn_of _ (by decide +kernel)) ggL_law_X7_compare
set_option maxRecDepth 20000 in
theorem ggL_law_X8_compare : GoodIn wsL_law wsX8_compare := goodIn_r _ [796, 693, 694, 5, 695, 696, 140, 141, 142, 736, 737, 738, 739, 89, 88, 797, 798, 799, 800, 91, 92, 867, 868, 869, 870, 871, 872, 873, 874, 875, 876, 877, 878, 879, 880, 881, 882, 883, 884, 885, 886, 887, 888, 889, 890, 891, 892, 893, 894, 895, 896, 897, 898, 899, 900, 901] (by decide +kernel) (by decide +kernel)
set_option maxRecDepth 20000 in
theorem gL_law_X8_compare : GoodIn wsL_law (wsV RL 110 RX8 yX8_compare wsX8_compare) := goodIn_app (goodIn_of _ (by decide +kernel)) ggL_law_X8_compare
set_option maxRecDepth 20000 in
theorem ggL_law_X7_sum : GoodIn wsL_law wsX7_sum := goodIn_r _ [804, 34, 674, 675, 2, 676, 122, 123, 124, 805, 806, 807, 36, 808, 345, 809, 810, 811, 812, 346, 77, 78, 720, 722, 774, 775, 776, 726, 728, 723, 724, 725, 727, 729, 813, 814, 815, 816, 858, 859, 860, 861, 862, 863, 864, 865, 866, 928, 929, 930, 931, 932] (by decide +kernel) (by decide +kernel)
set_option maxRecDepth 20000 in
theorem gL_law_X7_sum : GoodIn wsL_law (wsV RL 111 RX7 yX7_sum wsX7_sum) := goodIn_app (goodIn_of _ (by decide +kernel)) ggL_law_X7_sum
set_option maxRecDepth 20000 in
theorem ggL_law_X8_sum : GoodIn wsL_law wsX8_sum := goodIn_r _ [820, 89, 745, 693, 694, 5, 695, 696, 140, 141, 142, 797, 798, 799, 800, 88, 91, 92, 746, 747, 748, 749, 750, 751, 752, 753, 867, 868, 869, 870, 871, 872, 873, 874, 875, 876, 877, 878, 879, 880, 881, 882, 883, 884, 885, 886, 887, 888, 889, 890, 891, 892, 893, 894, 895, 896, 897, 898, 899, 900, 901] (by decide +kernel) (by decide +kernel)
set_option maxRecDepth 20000 in
theorem gL_law_X8_sum : GoodIn wsL_law (wsV RL 114 RX8 yX8_sum wsX8_sum) := goodIn_app (goodIn_of _ (by decide +kernel)) ggL_law_X8_sum
set_option maxRecDepth 20000 in
theorem ggL_law_X7_drop : GoodIn wsL_law wsX7_drop := goodIn_r _ [824, 34, 674, 675, 2, 676, 122, 123, 124, 805, 806, 807, 36, 808, 345, 825, 826, 827, 828, 346, 341, 342, 343, 344, 858, 859, 860, 861, 862, 863, 864, 865, 866, 928, 929, 930, 931, 932] (by decide +kernel) (by decide +kernel)
set_option maxRecDepth 20000 in
theorem gL_law_X7_drop : GoodIn wsL_law (wsV RL 115 RX7 yX7_drop wsX7_drop) := goodIn_app (goodIn_of _ (by decide +kernel)) ggL_law_X7_drop
set_option maxRecDepth 20000 in
theorem ggL_law_X8_drop : GoodIn wsL_law wsX8_drop := goodIn_r _ [832, 89, 693, 694, 5, 695, 696, 140, 141, 142, 867, 868, 869, 870, 871, 872, 873, 874, 875, 876, 877, 878, 879, 880, 881, 882, 883, 884, 885, 886, 887, 888, 889, 890, 891, 892, 893, 894, 895, 896, 897, 898, 899, 900, 901] (by decide +kernel) (by decide +kernel)
set_option maxRecDepth 20000 in
theorem gL_law_X8_drop : GoodIn wsL_law (wsV RL 118 RX8 yX8_drop wsX8_drop) := goodIn_app (goodIn_of _ (by decide +kernel)) ggL_law_X8_drop
set_option maxRecDepth 20000 in
theorem ggL_law_X7_count : GoodIn wsL_law wsX7_count := goodIn_r _ [836, 20, 28, 15, 837, 838, 839, 2, 840, 34, 825, 826, 827, 36, 828, 346, 431, 432, 433, 27, 434, 340, 130, 131, 132, 14, 133, 129, 841, 842, 843, 18, 844, 60, 845, 369, 370, 371, 50, 57, 858, 859, 860, 861, 862, 863, 864, 865, 866, 907, 908, 909, 910, 911, 912, 913, 914, 915, 916, 928, 929, 930, 931, 932, 917, 918, 919, 920, 902, 903, 904, 905, 906] (by decide +kernel) (by decide +kernel)
set_option maxRecDepth 20000 in
theorem gL_law_X7_count : GoodIn wsL_law (wsV RL 119 RX7 yX7_count wsX7_count) := goodIn_app (goodIn_of _ (by decide +kernel)) ggL_law_X7_count
set_option maxRecDepth 20000 in
theorem ggL_law_X8_count : GoodIn wsL_law wsX8_count := goodIn_r _ [849, 109, 110, 111, 112, 113, 83, 355, 139, 850, 851, 852, 5, 853, 89, 854, 855, 856, 857, 384, 385, 386, 387, 867, 868, 869, 870, 871, 872, 873, 874, 875, 876, 877, 878, 879, 880, 881, 882, 883, 884, 885, 886, 887, 888, 889, 890, 891, 892, 893, 894, 895, 896, 897, 898, 899, 900, 901] (by decide +kernel) (by decide +kernel)
set_option maxRecDepth 20000 in
theorem gL_law_X8_count : GoodIn wsL_law (wsV RL 122 RX8 yX8_count wsX8_count) := goodIn_app (goodIn_of _ (by decide +kernel)) ggL_law_X8_count
abbrev vwCl : List vw_C := [(RX1, TX1, 4), (RX2, TX2, 10), (RX3, TX3, 7), (RX4, TX4, 5), (RX5, TX5, 5), (RX7, TX7, 9), (RX8, TX8, 35)]
