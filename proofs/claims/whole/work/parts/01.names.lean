-- ===== PART A: goes FIRST, ahead of the names: the tables' words, and 'selects' of the private methods out of them =====
/-- a private method of a class that the tables say can be made, by its rows of tables_1 -/
def lw_okq (q : MethodName × Nat) : Prop := (q.1.cls ≠ "java/lang/invoke/MethodHandle" ∧ q.1.cls ≠ "java/lang/invoke/VarHandle") ∧ Cond.instantiable q.1.cls q.2 ∈ tables_1 ∧ Cond.privateMethod q.1 ∈ tables_1 ∧ Cond.instanceMethod q.1 ∈ tables_1
theorem lw_p0 : lw_okq (⟨"SkewPlan$Net", "begin", "(I)V"⟩, 10) := ⟨⟨by decide +kernel, by decide +kernel⟩, List.mem_of_getElem? (i := 49) (by decide +kernel), List.mem_of_getElem? (i := 55) (by decide +kernel), List.mem_of_getElem? (i := 56) (by decide +kernel)⟩
theorem lw_p1 : lw_okq (⟨"SkewPlan$Text", "advance", "()V"⟩, 5) := ⟨⟨by decide +kernel, by decide +kernel⟩, List.mem_of_getElem? (i := 26) (by decide +kernel), List.mem_of_getElem? (i := 252) (by decide +kernel), List.mem_of_getElem? (i := 253) (by decide +kernel)⟩
theorem lw_p2 : lw_okq (⟨"SkewPlan$Text", "isAtEnd", "()Z"⟩, 5) := ⟨⟨by decide +kernel, by decide +kernel⟩, List.mem_of_getElem? (i := 26) (by decide +kernel), List.mem_of_getElem? (i := 256) (by decide +kernel), List.mem_of_getElem? (i := 257) (by decide +kernel)⟩
theorem lw_p3 : lw_okq (⟨"SkewPlan$Text", "readClause", "(LSkewPlan$Net;)Z"⟩, 5) := ⟨⟨by decide +kernel, by decide +kernel⟩, List.mem_of_getElem? (i := 26) (by decide +kernel), List.mem_of_getElem? (i := 266) (by decide +kernel), List.mem_of_getElem? (i := 267) (by decide +kernel)⟩
theorem lw_p4 : lw_okq (⟨"SkewPlan$Text", "wordHere", "()I"⟩, 5) := ⟨⟨by decide +kernel, by decide +kernel⟩, List.mem_of_getElem? (i := 26) (by decide +kernel), List.mem_of_getElem? (i := 270) (by decide +kernel), List.mem_of_getElem? (i := 271) (by decide +kernel)⟩
theorem lw_p5 : lw_okq (⟨"SkewPlan$Text", "isSpelled", "(Ljava/lang/String;)Z"⟩, 5) := ⟨⟨by decide +kernel, by decide +kernel⟩, List.mem_of_getElem? (i := 26) (by decide +kernel), List.mem_of_getElem? (i := 276) (by decide +kernel), List.mem_of_getElem? (i := 277) (by decide +kernel)⟩
theorem lw_p6 : lw_okq (⟨"SkewPlan$Text", "readPath", "(LSkewPlan$Net;)Z"⟩, 5) := ⟨⟨by decide +kernel, by decide +kernel⟩, List.mem_of_getElem? (i := 26) (by decide +kernel), List.mem_of_getElem? (i := 334) (by decide +kernel), List.mem_of_getElem? (i := 335) (by decide +kernel)⟩
theorem lw_p7 : lw_okq (⟨"SkewPlan$Text", "readNumber", "(II)I"⟩, 5) := ⟨⟨by decide +kernel, by decide +kernel⟩, List.mem_of_getElem? (i := 26) (by decide +kernel), List.mem_of_getElem? (i := 338) (by decide +kernel), List.mem_of_getElem? (i := 339) (by decide +kernel)⟩
theorem lw_p8 : lw_okq (⟨"SkewPlan", "isPath", "(I)Z"⟩, 9) := ⟨⟨by decide +kernel, by decide +kernel⟩, List.mem_of_getElem? (i := 18) (by decide +kernel), List.mem_of_getElem? (i := 381) (by decide +kernel), List.mem_of_getElem? (i := 382) (by decide +kernel)⟩
theorem lw_p9 : lw_okq (⟨"SkewPlan$Planner", "settlesWithMargin", "(LSkewPlan$Net;I)Z"⟩, 7) := ⟨⟨by decide +kernel, by decide +kernel⟩, List.mem_of_getElem? (i := 132) (by decide +kernel), List.mem_of_getElem? (i := 448) (by decide +kernel), List.mem_of_getElem? (i := 449) (by decide +kernel)⟩
theorem lw_p10 : lw_okq (⟨"SkewPlan$Planner", "layBounds", "(LSkewPlan$Net;IIII)V"⟩, 7) := ⟨⟨by decide +kernel, by decide +kernel⟩, List.mem_of_getElem? (i := 132) (by decide +kernel), List.mem_of_getElem? (i := 452) (by decide +kernel), List.mem_of_getElem? (i := 453) (by decide +kernel)⟩
theorem lw_p11 : lw_okq (⟨"SkewPlan$Planner", "tighten", "(IIII)V"⟩, 7) := ⟨⟨by decide +kernel, by decide +kernel⟩, List.mem_of_getElem? (i := 132) (by decide +kernel), List.mem_of_getElem? (i := 458) (by decide +kernel), List.mem_of_getElem? (i := 459) (by decide +kernel)⟩
theorem lw_p12 : lw_okq (⟨"SkewPlan$Planner", "settle", "()Z"⟩, 7) := ⟨⟨by decide +kernel, by decide +kernel⟩, List.mem_of_getElem? (i := 132) (by decide +kernel), List.mem_of_getElem? (i := 466) (by decide +kernel), List.mem_of_getElem? (i := 467) (by decide +kernel)⟩
theorem lw_p13 : lw_okq (⟨"SkewPlan$Planner", "lowerOnce", "()Z"⟩, 7) := ⟨⟨by decide +kernel, by decide +kernel⟩, List.mem_of_getElem? (i := 132) (by decide +kernel), List.mem_of_getElem? (i := 470) (by decide +kernel), List.mem_of_getElem? (i := 471) (by decide +kernel)⟩
theorem lw_p14 : lw_okq (⟨"SkewPlan$Planner", "leastPeriodAbove", "(LSkewPlan$Net;II)I"⟩, 7) := ⟨⟨by decide +kernel, by decide +kernel⟩, List.mem_of_getElem? (i := 132) (by decide +kernel), List.mem_of_getElem? (i := 490) (by decide +kernel), List.mem_of_getElem? (i := 491) (by decide +kernel)⟩
theorem lw_p15 : lw_okq (⟨"SkewPlan$Planner", "settlesAtPeriod", "(LSkewPlan$Net;III)Z"⟩, 7) := ⟨⟨by decide +kernel, by decide +kernel⟩, List.mem_of_getElem? (i := 132) (by decide +kernel), List.mem_of_getElem? (i := 494) (by decide +kernel), List.mem_of_getElem? (i := 495) (by decide +kernel)⟩
def lw_privs_1 : List (MethodName × Nat) := [(⟨"SkewPlan$Net", "begin", "(I)V"⟩, 10), (⟨"SkewPlan$Text", "advance", "()V"⟩, 5), (⟨"SkewPlan$Text", "isAtEnd", "()Z"⟩, 5), (⟨"SkewPlan$Text", "readClause", "(LSkewPlan$Net;)Z"⟩, 5), (⟨"SkewPlan$Text", "wordHere", "()I"⟩, 5), (⟨"SkewPlan$Text", "isSpelled", "(Ljava/lang/String;)Z"⟩, 5), (⟨"SkewPlan$Text", "readPath", "(LSkewPlan$Net;)Z"⟩, 5), (⟨"SkewPlan$Text", "readNumber", "(II)I"⟩, 5), (⟨"SkewPlan", "isPath", "(I)Z"⟩, 9), (⟨"SkewPlan$Planner", "settlesWithMargin", "(LSkewPlan$Net;I)Z"⟩, 7), (⟨"SkewPlan$Planner", "layBounds", "(LSkewPlan$Net;IIII)V"⟩, 7), (⟨"SkewPlan$Planner", "tighten", "(IIII)V"⟩, 7), (⟨"SkewPlan$Planner", "settle", "()Z"⟩, 7), (⟨"SkewPlan$Planner", "lowerOnce", "()Z"⟩, 7), (⟨"SkewPlan$Planner", "leastPeriodAbove", "(LSkewPlan$Net;II)I"⟩, 7), (⟨"SkewPlan$Planner", "settlesAtPeriod", "(LSkewPlan$Net;III)Z"⟩, 7)]
theorem lw_r1 : ∀ q ∈ lw_privs_1, lw_okq q := List.forall_mem_cons.mpr ⟨lw_p0, List.forall_mem_cons.mpr ⟨lw_p1, List.forall_mem_cons.mpr ⟨lw_p2, List.forall_mem_cons.mpr ⟨lw_p3, List.forall_mem_cons.mpr ⟨lw_p4, List.forall_mem_cons.mpr ⟨lw_p5, List.forall_mem_cons.mpr ⟨lw_p6, List.forall_mem_cons.mpr ⟨lw_p7, List.forall_mem_cons.mpr ⟨lw_p8, List.forall_mem_cons.mpr ⟨lw_p9, List.forall_mem_cons.mpr ⟨lw_p10, List.forall_mem_cons.mpr ⟨lw_p11, List.forall_mem_cons.mpr ⟨lw_p12, List.forall_mem_cons.mpr ⟨lw_p13, List.forall_mem_cons.mpr ⟨lw_p14, List.forall_mem_cons.mpr ⟨lw_p15, fun _ h => absurd h List.not_mem_nil⟩⟩⟩⟩⟩⟩⟩⟩⟩⟩⟩⟩⟩⟩⟩⟩
theorem lw_p16 : lw_okq (⟨"SkewPlan$Planner", "closesFrom", "(II)Z"⟩, 7) := ⟨⟨by decide +kernel, by decide +kernel⟩, List.mem_of_getElem? (i := 132) (by decide +kernel), List.mem_of_getElem? (i := 534) (by decide +kernel), List.mem_of_getElem? (i := 535) (by decide +kernel)⟩
theorem lw_p17 : lw_okq (⟨"SkewPlan$Planner", "isInRing", "(II)Z"⟩, 7) := ⟨⟨by decide +kernel, by decide +kernel⟩, List.mem_of_getElem? (i := 132) (by decide +kernel), List.mem_of_getElem? (i := 538) (by decide +kernel), List.mem_of_getElem? (i := 539) (by decide +kernel)⟩
theorem lw_p18 : lw_okq (⟨"SkewPlan$Trace", "putNumber", "(ID)V"⟩, 5) := ⟨⟨by decide +kernel, by decide +kernel⟩, List.mem_of_getElem? (i := 163) (by decide +kernel), List.mem_of_getElem? (i := 571) (by decide +kernel), List.mem_of_getElem? (i := 572) (by decide +kernel)⟩
theorem lw_p19 : lw_okq (⟨"SkewPlan$Trace", "putNoNumber", "(I)V"⟩, 5) := ⟨⟨by decide +kernel, by decide +kernel⟩, List.mem_of_getElem? (i := 163) (by decide +kernel), List.mem_of_getElem? (i := 591) (by decide +kernel), List.mem_of_getElem? (i := 592) (by decide +kernel)⟩
theorem lw_p20 : lw_okq (⟨"SkewPlan", "traceRefusal", "(IIII)I"⟩, 9) := ⟨⟨by decide +kernel, by decide +kernel⟩, List.mem_of_getElem? (i := 18) (by decide +kernel), List.mem_of_getElem? (i := 613) (by decide +kernel), List.mem_of_getElem? (i := 614) (by decide +kernel)⟩
theorem lw_p21 : lw_okq (⟨"SkewPlan", "placesOfAllTraces", "()I"⟩, 9) := ⟨⟨by decide +kernel, by decide +kernel⟩, List.mem_of_getElem? (i := 18) (by decide +kernel), List.mem_of_getElem? (i := 668) (by decide +kernel), List.mem_of_getElem? (i := 669) (by decide +kernel)⟩
theorem lw_p22 : lw_okq (⟨"SkewPlanModel", "anew", "(I)V"⟩, 35) := ⟨⟨by decide +kernel, by decide +kernel⟩, List.mem_of_getElem? (i := 677) (by decide +kernel), List.mem_of_getElem? (i := 683) (by decide +kernel), List.mem_of_getElem? (i := 684) (by decide +kernel)⟩
theorem lw_p23 : lw_okq (⟨"SkewPlanModel", "copyRow", "(II)V"⟩, 35) := ⟨⟨by decide +kernel, by decide +kernel⟩, List.mem_of_getElem? (i := 677) (by decide +kernel), List.mem_of_getElem? (i := 687) (by decide +kernel), List.mem_of_getElem? (i := 688) (by decide +kernel)⟩
theorem lw_p24 : lw_okq (⟨"SkewPlanModel", "reads", "(Z)Z"⟩, 35) := ⟨⟨by decide +kernel, by decide +kernel⟩, List.mem_of_getElem? (i := 677) (by decide +kernel), List.mem_of_getElem? (i := 814) (by decide +kernel), List.mem_of_getElem? (i := 815) (by decide +kernel)⟩
theorem lw_p25 : lw_okq (⟨"SkewPlanModel", "nextToken", "()V"⟩, 35) := ⟨⟨by decide +kernel, by decide +kernel⟩, List.mem_of_getElem? (i := 677) (by decide +kernel), List.mem_of_getElem? (i := 818) (by decide +kernel), List.mem_of_getElem? (i := 819) (by decide +kernel)⟩
theorem lw_p26 : lw_okq (⟨"SkewPlanModel", "readsClause", "()Z"⟩, 35) := ⟨⟨by decide +kernel, by decide +kernel⟩, List.mem_of_getElem? (i := 677) (by decide +kernel), List.mem_of_getElem? (i := 832) (by decide +kernel), List.mem_of_getElem? (i := 833) (by decide +kernel)⟩
theorem lw_p27 : lw_okq (⟨"SkewPlanModel", "wordHere", "()I"⟩, 35) := ⟨⟨by decide +kernel, by decide +kernel⟩, List.mem_of_getElem? (i := 677) (by decide +kernel), List.mem_of_getElem? (i := 836) (by decide +kernel), List.mem_of_getElem? (i := 837) (by decide +kernel)⟩
theorem lw_p28 : lw_okq (⟨"SkewPlanModel", "isWord", "([I)Z"⟩, 35) := ⟨⟨by decide +kernel, by decide +kernel⟩, List.mem_of_getElem? (i := 677) (by decide +kernel), List.mem_of_getElem? (i := 840) (by decide +kernel), List.mem_of_getElem? (i := 841) (by decide +kernel)⟩
theorem lw_p29 : lw_okq (⟨"SkewPlanModel", "readsNumbers", "(I)Z"⟩, 35) := ⟨⟨by decide +kernel, by decide +kernel⟩, List.mem_of_getElem? (i := 677) (by decide +kernel), List.mem_of_getElem? (i := 844) (by decide +kernel), List.mem_of_getElem? (i := 845) (by decide +kernel)⟩
theorem lw_p30 : lw_okq (⟨"SkewPlanModel", "number", "(III)Z"⟩, 35) := ⟨⟨by decide +kernel, by decide +kernel⟩, List.mem_of_getElem? (i := 677) (by decide +kernel), List.mem_of_getElem? (i := 848) (by decide +kernel), List.mem_of_getElem? (i := 849) (by decide +kernel)⟩
theorem lw_p31 : lw_okq (⟨"SkewPlanModel", "does", "(I)V"⟩, 35) := ⟨⟨by decide +kernel, by decide +kernel⟩, List.mem_of_getElem? (i := 677) (by decide +kernel), List.mem_of_getElem? (i := 852) (by decide +kernel), List.mem_of_getElem? (i := 853) (by decide +kernel)⟩
def lw_privs_2 : List (MethodName × Nat) := [(⟨"SkewPlan$Planner", "closesFrom", "(II)Z"⟩, 7), (⟨"SkewPlan$Planner", "isInRing", "(II)Z"⟩, 7), (⟨"SkewPlan$Trace", "putNumber", "(ID)V"⟩, 5), (⟨"SkewPlan$Trace", "putNoNumber", "(I)V"⟩, 5), (⟨"SkewPlan", "traceRefusal", "(IIII)I"⟩, 9), (⟨"SkewPlan", "placesOfAllTraces", "()I"⟩, 9), (⟨"SkewPlanModel", "anew", "(I)V"⟩, 35), (⟨"SkewPlanModel", "copyRow", "(II)V"⟩, 35), (⟨"SkewPlanModel", "reads", "(Z)Z"⟩, 35), (⟨"SkewPlanModel", "nextToken", "()V"⟩, 35), (⟨"SkewPlanModel", "readsClause", "()Z"⟩, 35), (⟨"SkewPlanModel", "wordHere", "()I"⟩, 35), (⟨"SkewPlanModel", "isWord", "([I)Z"⟩, 35), (⟨"SkewPlanModel", "readsNumbers", "(I)Z"⟩, 35), (⟨"SkewPlanModel", "number", "(III)Z"⟩, 35), (⟨"SkewPlanModel", "does", "(I)V"⟩, 35)]
theorem lw_r2 : ∀ q ∈ lw_privs_2, lw_okq q := List.forall_mem_cons.mpr ⟨lw_p16, List.forall_mem_cons.mpr ⟨lw_p17, List.forall_mem_cons.mpr ⟨lw_p18, List.forall_mem_cons.mpr ⟨lw_p19, List.forall_mem_cons.mpr ⟨lw_p20, List.forall_mem_cons.mpr ⟨lw_p21, List.forall_mem_cons.mpr ⟨lw_p22, List.forall_mem_cons.mpr ⟨lw_p23, List.forall_mem_cons.mpr ⟨lw_p24, List.forall_mem_cons.mpr ⟨lw_p25, List.forall_mem_cons.mpr ⟨lw_p26, List.forall_mem_cons.mpr ⟨lw_p27, List.forall_mem_cons.mpr ⟨lw_p28, List.forall_mem_cons.mpr ⟨lw_p29, List.forall_mem_cons.mpr ⟨lw_p30, List.forall_mem_cons.mpr ⟨lw_p31, fun _ h => absurd h List.not_mem_nil⟩⟩⟩⟩⟩⟩⟩⟩⟩⟩⟩⟩⟩⟩⟩⟩
theorem lw_p32 : lw_okq (⟨"SkewPlanModel", "isPath", "(I)Z"⟩, 35) := ⟨⟨by decide +kernel, by decide +kernel⟩, List.mem_of_getElem? (i := 677) (by decide +kernel), List.mem_of_getElem? (i := 864) (by decide +kernel), List.mem_of_getElem? (i := 865) (by decide +kernel)⟩
theorem lw_p33 : lw_okq (⟨"SkewPlanModel", "lateOf", "(II)I"⟩, 35) := ⟨⟨by decide +kernel, by decide +kernel⟩, List.mem_of_getElem? (i := 677) (by decide +kernel), List.mem_of_getElem? (i := 868) (by decide +kernel), List.mem_of_getElem? (i := 869) (by decide +kernel)⟩
theorem lw_p34 : lw_okq (⟨"SkewPlanModel", "soonOf", "(I)I"⟩, 35) := ⟨⟨by decide +kernel, by decide +kernel⟩, List.mem_of_getElem? (i := 677) (by decide +kernel), List.mem_of_getElem? (i := 872) (by decide +kernel), List.mem_of_getElem? (i := 873) (by decide +kernel)⟩
theorem lw_p35 : lw_okq (⟨"SkewPlanModel", "keepPast", "()V"⟩, 35) := ⟨⟨by decide +kernel, by decide +kernel⟩, List.mem_of_getElem? (i := 677) (by decide +kernel), List.mem_of_getElem? (i := 881) (by decide +kernel), List.mem_of_getElem? (i := 882) (by decide +kernel)⟩
theorem lw_p36 : lw_okq (⟨"SkewPlanModel", "isFeasible", "(II)Z"⟩, 35) := ⟨⟨by decide +kernel, by decide +kernel⟩, List.mem_of_getElem? (i := 677) (by decide +kernel), List.mem_of_getElem? (i := 906) (by decide +kernel), List.mem_of_getElem? (i := 907) (by decide +kernel)⟩
theorem lw_p37 : lw_okq (⟨"SkewPlanModel", "layBounds", "(II)V"⟩, 35) := ⟨⟨by decide +kernel, by decide +kernel⟩, List.mem_of_getElem? (i := 677) (by decide +kernel), List.mem_of_getElem? (i := 910) (by decide +kernel), List.mem_of_getElem? (i := 911) (by decide +kernel)⟩
theorem lw_p38 : lw_okq (⟨"SkewPlanModel", "areThere", "()Z"⟩, 35) := ⟨⟨by decide +kernel, by decide +kernel⟩, List.mem_of_getElem? (i := 677) (by decide +kernel), List.mem_of_getElem? (i := 917) (by decide +kernel), List.mem_of_getElem? (i := 918) (by decide +kernel)⟩
theorem lw_p39 : lw_okq (⟨"SkewPlanModel", "makesLess", "(III)Z"⟩, 35) := ⟨⟨by decide +kernel, by decide +kernel⟩, List.mem_of_getElem? (i := 677) (by decide +kernel), List.mem_of_getElem? (i := 921) (by decide +kernel), List.mem_of_getElem? (i := 922) (by decide +kernel)⟩
theorem lw_p40 : lw_okq (⟨"SkewPlanModel", "isRegister", "(I)Z"⟩, 35) := ⟨⟨by decide +kernel, by decide +kernel⟩, List.mem_of_getElem? (i := 677) (by decide +kernel), List.mem_of_getElem? (i := 929) (by decide +kernel), List.mem_of_getElem? (i := 930) (by decide +kernel)⟩
theorem lw_p41 : lw_okq (⟨"SkewPlanModel", "leastOf", "()I"⟩, 35) := ⟨⟨by decide +kernel, by decide +kernel⟩, List.mem_of_getElem? (i := 677) (by decide +kernel), List.mem_of_getElem? (i := 937) (by decide +kernel), List.mem_of_getElem? (i := 938) (by decide +kernel)⟩
theorem lw_p42 : lw_okq (⟨"SkewPlanModel", "isFeasibleBy", "(II)Z"⟩, 35) := ⟨⟨by decide +kernel, by decide +kernel⟩, List.mem_of_getElem? (i := 677) (by decide +kernel), List.mem_of_getElem? (i := 945) (by decide +kernel), List.mem_of_getElem? (i := 946) (by decide +kernel)⟩
theorem lw_p43 : lw_okq (⟨"SkewPlanModel", "layLeast", "()V"⟩, 35) := ⟨⟨by decide +kernel, by decide +kernel⟩, List.mem_of_getElem? (i := 677) (by decide +kernel), List.mem_of_getElem? (i := 961) (by decide +kernel), List.mem_of_getElem? (i := 962) (by decide +kernel)⟩
theorem lw_p44 : lw_okq (⟨"SkewPlanModel", "isBelow", "()Z"⟩, 35) := ⟨⟨by decide +kernel, by decide +kernel⟩, List.mem_of_getElem? (i := 677) (by decide +kernel), List.mem_of_getElem? (i := 966) (by decide +kernel), List.mem_of_getElem? (i := 967) (by decide +kernel)⟩
theorem lw_p45 : lw_okq (⟨"SkewPlanModel", "goOn", "()V"⟩, 35) := ⟨⟨by decide +kernel, by decide +kernel⟩, List.mem_of_getElem? (i := 677) (by decide +kernel), List.mem_of_getElem? (i := 970) (by decide +kernel), List.mem_of_getElem? (i := 971) (by decide +kernel)⟩
theorem lw_p46 : lw_okq (⟨"SkewPlanModel", "nextFrom", "(I)I"⟩, 35) := ⟨⟨by decide +kernel, by decide +kernel⟩, List.mem_of_getElem? (i := 677) (by decide +kernel), List.mem_of_getElem? (i := 974) (by decide +kernel), List.mem_of_getElem? (i := 975) (by decide +kernel)⟩
theorem lw_p47 : lw_okq (⟨"SkewPlanModel", "isInRing", "(I)Z"⟩, 35) := ⟨⟨by decide +kernel, by decide +kernel⟩, List.mem_of_getElem? (i := 677) (by decide +kernel), List.mem_of_getElem? (i := 978) (by decide +kernel), List.mem_of_getElem? (i := 979) (by decide +kernel)⟩
def lw_privs_3 : List (MethodName × Nat) := [(⟨"SkewPlanModel", "isPath", "(I)Z"⟩, 35), (⟨"SkewPlanModel", "lateOf", "(II)I"⟩, 35), (⟨"SkewPlanModel", "soonOf", "(I)I"⟩, 35), (⟨"SkewPlanModel", "keepPast", "()V"⟩, 35), (⟨"SkewPlanModel", "isFeasible", "(II)Z"⟩, 35), (⟨"SkewPlanModel", "layBounds", "(II)V"⟩, 35), (⟨"SkewPlanModel", "areThere", "()Z"⟩, 35), (⟨"SkewPlanModel", "makesLess", "(III)Z"⟩, 35), (⟨"SkewPlanModel", "isRegister", "(I)Z"⟩, 35), (⟨"SkewPlanModel", "leastOf", "()I"⟩, 35), (⟨"SkewPlanModel", "isFeasibleBy", "(II)Z"⟩, 35), (⟨"SkewPlanModel", "layLeast", "()V"⟩, 35), (⟨"SkewPlanModel", "isBelow", "()Z"⟩, 35), (⟨"SkewPlanModel", "goOn", "()V"⟩, 35), (⟨"SkewPlanModel", "nextFrom", "(I)I"⟩, 35), (⟨"SkewPlanModel", "isInRing", "(I)Z"⟩, 35)]
theorem lw_r3 : ∀ q ∈ lw_privs_3, lw_okq q := List.forall_mem_cons.mpr ⟨lw_p32, List.forall_mem_cons.mpr ⟨lw_p33, List.forall_mem_cons.mpr ⟨lw_p34, List.forall_mem_cons.mpr ⟨lw_p35, List.forall_mem_cons.mpr ⟨lw_p36, List.forall_mem_cons.mpr ⟨lw_p37, List.forall_mem_cons.mpr ⟨lw_p38, List.forall_mem_cons.mpr ⟨lw_p39, List.forall_mem_cons.mpr ⟨lw_p40, List.forall_mem_cons.mpr ⟨lw_p41, List.forall_mem_cons.mpr ⟨lw_p42, List.forall_mem_cons.mpr ⟨lw_p43, List.forall_mem_cons.mpr ⟨lw_p44, List.forall_mem_cons.mpr ⟨lw_p45, List.forall_mem_cons.mpr ⟨lw_p46, List.forall_mem_cons.mpr ⟨lw_p47, fun _ h => absurd h List.not_mem_nil⟩⟩⟩⟩⟩⟩⟩⟩⟩⟩⟩⟩⟩⟩⟩⟩
theorem lw_p48 : lw_okq (⟨"SkewPlanModel", "noPlace", "(IIII)I"⟩, 35) := ⟨⟨by decide +kernel, by decide +kernel⟩, List.mem_of_getElem? (i := 677) (by decide +kernel), List.mem_of_getElem? (i := 1000) (by decide +kernel), List.mem_of_getElem? (i := 1001) (by decide +kernel)⟩
theorem lw_p49 : lw_okq (⟨"SkewPlanModel", "thousand", "(II)I"⟩, 35) := ⟨⟨by decide +kernel, by decide +kernel⟩, List.mem_of_getElem? (i := 677) (by decide +kernel), List.mem_of_getElem? (i := 1004) (by decide +kernel), List.mem_of_getElem? (i := 1005) (by decide +kernel)⟩
theorem lw_p50 : lw_okq (⟨"SkewPlanModel", "valueOf", "(II)D"⟩, 35) := ⟨⟨by decide +kernel, by decide +kernel⟩, List.mem_of_getElem? (i := 677) (by decide +kernel), List.mem_of_getElem? (i := 1030) (by decide +kernel), List.mem_of_getElem? (i := 1031) (by decide +kernel)⟩
theorem lw_p51 : lw_okq (⟨"SkewPlanModel", "allPlaces", "()I"⟩, 35) := ⟨⟨by decide +kernel, by decide +kernel⟩, List.mem_of_getElem? (i := 677) (by decide +kernel), List.mem_of_getElem? (i := 1046) (by decide +kernel), List.mem_of_getElem? (i := 1047) (by decide +kernel)⟩
theorem lw_p52 : lw_okq (⟨"SkewPlanModel", "tooSoon", "()I"⟩, 35) := ⟨⟨by decide +kernel, by decide +kernel⟩, List.mem_of_getElem? (i := 677) (by decide +kernel), List.mem_of_getElem? (i := 1050) (by decide +kernel), List.mem_of_getElem? (i := 1051) (by decide +kernel)⟩
def lw_privs_4 : List (MethodName × Nat) := [(⟨"SkewPlanModel", "noPlace", "(IIII)I"⟩, 35), (⟨"SkewPlanModel", "thousand", "(II)I"⟩, 35), (⟨"SkewPlanModel", "valueOf", "(II)D"⟩, 35), (⟨"SkewPlanModel", "allPlaces", "()I"⟩, 35), (⟨"SkewPlanModel", "tooSoon", "()I"⟩, 35)]
theorem lw_r4 : ∀ q ∈ lw_privs_4, lw_okq q := List.forall_mem_cons.mpr ⟨lw_p48, List.forall_mem_cons.mpr ⟨lw_p49, List.forall_mem_cons.mpr ⟨lw_p50, List.forall_mem_cons.mpr ⟨lw_p51, List.forall_mem_cons.mpr ⟨lw_p52, fun _ h => absurd h List.not_mem_nil⟩⟩⟩⟩⟩
def lw_privs : List (MethodName × Nat) := lw_privs_1 ++ (lw_privs_2 ++ (lw_privs_3 ++ (lw_privs_4)))
def lw_tbl : List Cond := k2_sels lw_privs ++ tables_1
theorem lw_privs_ok : ∀ q ∈ lw_privs, lw_okq q := by
  show ∀ q ∈ lw_privs_1 ++ (lw_privs_2 ++ (lw_privs_3 ++ (lw_privs_4))), lw_okq q
  exact List.forall_mem_append.mpr ⟨lw_r1, List.forall_mem_append.mpr ⟨lw_r2, List.forall_mem_append.mpr ⟨lw_r3, lw_r4⟩⟩⟩
/-- the streams that the claim lets the run draw from -/
abbrev lw_cs : List Choice := [Jvm.Choice.named "NaN.bits"]
theorem lw_bits : nanBits ∈ lw_cs := by first | decide | exact List.mem_cons_self | simp [lw_cs, nanBits]
-- ===== end of PART A; then your names; then what follows =====
def RX0 : String := "SkewPlan$1"
def TX0 : u_T := fun k => match k with
  | _ => ("", "", "", false)
def tyX0 : Nat → FieldType := fun k => match k with
  | _ => .int
abbrev wsX00 : List Cond := u_ws RX0 TX0 0
theorem nmX0 : ∀ a, a < 0 → ∀ b, b < 0 → a ≠ b → (TX0 a).2.1 ≠ (TX0 b).2.1 := by decide +kernel
theorem tyX0_ok : ∀ k, k < 0 → parseFieldDescriptor (TX0 k).2.2.1 = some (tyX0 k) := by decide +kernel
def RX1 : String := "SkewPlan$History"
def TX1 : u_T := fun k => match k with
  | 0 => ("SkewPlan$History", "paths", "[I", true)
  | 1 => ("SkewPlan$History", "amounts", "[I", true)
  | 2 => ("SkewPlan$History", "next", "I", false)
  | _ => ("SkewPlan$History", "size", "I", false)
def tyX1 : Nat → FieldType := fun k => match k with
  | 0 => .array .int
  | 1 => .array .int
  | 2 => .int
  | _ => .int
abbrev wsX10 : List Cond := u_ws RX1 TX1 4
theorem nmX1 : ∀ a, a < 4 → ∀ b, b < 4 → a ≠ b → (TX1 a).2.1 ≠ (TX1 b).2.1 := by decide +kernel
theorem tyX1_ok : ∀ k, k < 4 → parseFieldDescriptor (TX1 k).2.2.1 = some (tyX1 k) := by decide +kernel
abbrev cX1_init : ByteArray := prog_3_method_1_code
def yX1_init : MethodName := ⟨RX1, "<init>", "()V"⟩
abbrev cX1_size : ByteArray := prog_3_method_2_code
def yX1_size : MethodName := ⟨RX1, "size", "()I"⟩
abbrev cX1_clear : ByteArray := prog_3_method_3_code
def yX1_clear : MethodName := ⟨RX1, "clear", "()V"⟩
abbrev cX1_push : ByteArray := prog_3_method_4_code
def yX1_push : MethodName := ⟨RX1, "push", "(II)V"⟩
abbrev cX1_revertLatest : ByteArray := prog_3_method_5_code
def yX1_revertLatest : MethodName := ⟨RX1, "revertLatest", "(LSkewPlan$Net;)V"⟩
def RX2 : String := "SkewPlan$Net"
def TX2 : u_T := fun k => match k with
  | 0 => ("SkewPlan$Net", "registers", "I", false)
  | 1 => ("SkewPlan$Net", "setup", "I", false)
  | 2 => ("SkewPlan$Net", "hold", "I", false)
  | 3 => ("SkewPlan$Net", "step", "I", false)
  | 4 => ("SkewPlan$Net", "period", "I", false)
  | 5 => ("SkewPlan$Net", "paths", "I", false)
  | 6 => ("SkewPlan$Net", "from", "[I", true)
  | 7 => ("SkewPlan$Net", "to", "[I", true)
  | 8 => ("SkewPlan$Net", "longs", "[I", true)
  | _ => ("SkewPlan$Net", "shorts", "[I", true)
def tyX2 : Nat → FieldType := fun k => match k with
  | 0 => .int
  | 1 => .int
  | 2 => .int
  | 3 => .int
  | 4 => .int
  | 5 => .int
  | 6 => .array .int
  | 7 => .array .int
  | 8 => .array .int
  | _ => .array .int
abbrev wsX20 : List Cond := u_ws RX2 TX2 10
theorem nmX2 : ∀ a, a < 10 → ∀ b, b < 10 → a ≠ b → (TX2 a).2.1 ≠ (TX2 b).2.1 := by decide +kernel
theorem tyX2_ok : ∀ k, k < 10 → parseFieldDescriptor (TX2 k).2.2.1 = some (tyX2 k) := by decide +kernel
abbrev cX2_init : ByteArray := prog_4_method_1_code
def yX2_init : MethodName := ⟨RX2, "<init>", "()V"⟩
abbrev cX2_begin : ByteArray := prog_4_method_2_code
def yX2_begin : MethodName := ⟨RX2, "begin", "(I)V"⟩
abbrev cX2_copyFrom : ByteArray := prog_4_method_3_code
def yX2_copyFrom : MethodName := ⟨RX2, "copyFrom", "(LSkewPlan$Net;)V"⟩
abbrev cX2_tell : ByteArray := prog_4_method_4_code
def yX2_tell : MethodName := ⟨RX2, "tell", "(LSkewPlan$Word;I)V"⟩
abbrev cX2_hasAllPaths : ByteArray := prog_4_method_5_code
def yX2_hasAllPaths : MethodName := ⟨RX2, "hasAllPaths", "()Z"⟩
abbrev cX2_addPath : ByteArray := prog_4_method_6_code
def yX2_addPath : MethodName := ⟨RX2, "addPath", "(IIII)V"⟩
abbrev cX2_canBeSlower : ByteArray := prog_4_method_7_code
def yX2_canBeSlower : MethodName := ⟨RX2, "canBeSlower", "(II)Z"⟩
abbrev cX2_delay : ByteArray := prog_4_method_8_code
def yX2_delay : MethodName := ⟨RX2, "delay", "(II)V"⟩
abbrev cX2_lateBound : ByteArray := prog_4_method_9_code
def yX2_lateBound : MethodName := ⟨RX2, "lateBound", "(I)I"⟩
abbrev cX2_soonBound : ByteArray := prog_4_method_10_code
def yX2_soonBound : MethodName := ⟨RX2, "soonBound", "(I)I"⟩
abbrev cX2_tooSoonCount : ByteArray := prog_4_method_11_code
def yX2_tooSoonCount : MethodName := ⟨RX2, "tooSoonCount", "()I"⟩
def RX3 : String := "SkewPlan$Planner"
def TX3 : u_T := fun k => match k with
  | 0 => ("SkewPlan$Planner", "bounds", "[[I", true)
  | 1 => ("SkewPlan$Planner", "shifts", "[I", true)
  | 2 => ("SkewPlan$Planner", "ring", "[I", true)
  | 3 => ("SkewPlan$Planner", "registers", "I", false)
  | 4 => ("SkewPlan$Planner", "ringLength", "I", false)
  | 5 => ("SkewPlan$Planner", "rateAbove", "I", false)
  | _ => ("SkewPlan$Planner", "rateBelow", "I", false)
def tyX3 : Nat → FieldType := fun k => match k with
  | 0 => .array (.array .int)
  | 1 => .array .int
  | 2 => .array .int
  | 3 => .int
  | 4 => .int
  | 5 => .int
  | _ => .int
abbrev wsX30 : List Cond := u_ws RX3 TX3 7
theorem nmX3 : ∀ a, a < 7 → ∀ b, b < 7 → a ≠ b → (TX3 a).2.1 ≠ (TX3 b).2.1 := by decide +kernel
theorem tyX3_ok : ∀ k, k < 7 → parseFieldDescriptor (TX3 k).2.2.1 = some (tyX3 k) := by decide +kernel
abbrev cX3_init : ByteArray := prog_5_method_1_code
def yX3_init : MethodName := ⟨RX3, "<init>", "()V"⟩
abbrev cX3_shiftOf : ByteArray := prog_5_method_2_code
def yX3_shiftOf : MethodName := ⟨RX3, "shiftOf", "(I)I"⟩
abbrev cX3_ringLength : ByteArray := prog_5_method_3_code
def yX3_ringLength : MethodName := ⟨RX3, "ringLength", "()I"⟩
abbrev cX3_ringRegister : ByteArray := prog_5_method_4_code
def yX3_ringRegister : MethodName := ⟨RX3, "ringRegister", "(I)I"⟩
abbrev cX3_rateAbove : ByteArray := prog_5_method_5_code
def yX3_rateAbove : MethodName := ⟨RX3, "rateAbove", "()I"⟩
abbrev cX3_rateBelow : ByteArray := prog_5_method_6_code
def yX3_rateBelow : MethodName := ⟨RX3, "rateBelow", "()I"⟩
abbrev cX3_settlesNow : ByteArray := prog_5_method_7_code
def yX3_settlesNow : MethodName := ⟨RX3, "settlesNow", "(LSkewPlan$Net;)Z"⟩
abbrev cX3_settlesWithMargin : ByteArray := prog_5_method_8_code
def yX3_settlesWithMargin : MethodName := ⟨RX3, "settlesWithMargin", "(LSkewPlan$Net;I)Z"⟩
abbrev cX3_settlesAtPeriod : ByteArray := prog_5_method_9_code
def yX3_settlesAtPeriod : MethodName := ⟨RX3, "settlesAtPeriod", "(LSkewPlan$Net;III)Z"⟩
abbrev cX3_leastPeriod : ByteArray := prog_5_method_10_code
def yX3_leastPeriod : MethodName := ⟨RX3, "leastPeriod", "(LSkewPlan$Net;)I"⟩
abbrev cX3_leastPeriodAbove : ByteArray := prog_5_method_11_code
def yX3_leastPeriodAbove : MethodName := ⟨RX3, "leastPeriodAbove", "(LSkewPlan$Net;II)I"⟩
abbrev cX3_findRate : ByteArray := prog_5_method_12_code
def yX3_findRate : MethodName := ⟨RX3, "findRate", "(LSkewPlan$Net;)Z"⟩
abbrev cX3_greatestMargin : ByteArray := prog_5_method_13_code
def yX3_greatestMargin : MethodName := ⟨RX3, "greatestMargin", "(LSkewPlan$Net;)I"⟩
abbrev cX3_layBounds : ByteArray := prog_5_method_14_code
def yX3_layBounds : MethodName := ⟨RX3, "layBounds", "(LSkewPlan$Net;IIII)V"⟩
abbrev cX3_tighten : ByteArray := prog_5_method_15_code
def yX3_tighten : MethodName := ⟨RX3, "tighten", "(IIII)V"⟩
abbrev cX3_settle : ByteArray := prog_5_method_16_code
def yX3_settle : MethodName := ⟨RX3, "settle", "()Z"⟩
abbrev cX3_lowerOnce : ByteArray := prog_5_method_17_code
def yX3_lowerOnce : MethodName := ⟨RX3, "lowerOnce", "()Z"⟩
abbrev cX3_findRing : ByteArray := prog_5_method_18_code
def yX3_findRing : MethodName := ⟨RX3, "findRing", "()Z"⟩
abbrev cX3_closesFrom : ByteArray := prog_5_method_19_code
def yX3_closesFrom : MethodName := ⟨RX3, "closesFrom", "(II)Z"⟩
abbrev cX3_isInRing : ByteArray := prog_5_method_20_code
def yX3_isInRing : MethodName := ⟨RX3, "isInRing", "(II)Z"⟩
def RX4 : String := "SkewPlan$Text"
def TX4 : u_T := fun k => match k with
  | 0 => ("SkewPlan$Text", "letters", "[C", true)
  | 1 => ("SkewPlan$Text", "length", "I", false)
  | 2 => ("SkewPlan$Text", "clauses", "I", false)
  | 3 => ("SkewPlan$Text", "tokenStart", "I", false)
  | _ => ("SkewPlan$Text", "tokenEnd", "I", false)
def tyX4 : Nat → FieldType := fun k => match k with
  | 0 => .array .char
  | 1 => .int
  | 2 => .int
  | 3 => .int
  | _ => .int
abbrev wsX40 : List Cond := u_ws RX4 TX4 5
theorem nmX4 : ∀ a, a < 5 → ∀ b, b < 5 → a ≠ b → (TX4 a).2.1 ≠ (TX4 b).2.1 := by decide +kernel
theorem tyX4_ok : ∀ k, k < 5 → parseFieldDescriptor (TX4 k).2.2.1 = some (tyX4 k) := by decide +kernel
abbrev cX4_init : ByteArray := prog_6_method_1_code
def yX4_init : MethodName := ⟨RX4, "<init>", "()V"⟩
abbrev cX4_letterCount : ByteArray := prog_6_method_2_code
def yX4_letterCount : MethodName := ⟨RX4, "letterCount", "()I"⟩
abbrev cX4_clauseCount : ByteArray := prog_6_method_3_code
def yX4_clauseCount : MethodName := ⟨RX4, "clauseCount", "()I"⟩
abbrev cX4_clear : ByteArray := prog_6_method_4_code
def yX4_clear : MethodName := ⟨RX4, "clear", "()V"⟩
abbrev cX4_append : ByteArray := prog_6_method_5_code
def yX4_append : MethodName := ⟨RX4, "append", "(C)Z"⟩
abbrev cX4_read : ByteArray := prog_6_method_6_code
def yX4_read : MethodName := ⟨RX4, "read", "(LSkewPlan$Net;LSkewPlan$Net;)I"⟩
abbrev cX4_isAtEnd : ByteArray := prog_6_method_7_code
def yX4_isAtEnd : MethodName := ⟨RX4, "isAtEnd", "()Z"⟩
abbrev cX4_advance : ByteArray := prog_6_method_8_code
def yX4_advance : MethodName := ⟨RX4, "advance", "()V"⟩
abbrev cX4_isSmall : ByteArray := prog_6_method_9_code
def yX4_isSmall : MethodName := ⟨RX4, "isSmall", "(C)Z"⟩
abbrev cX4_isDigit : ByteArray := prog_6_method_10_code
def yX4_isDigit : MethodName := ⟨RX4, "isDigit", "(C)Z"⟩
abbrev cX4_readClause : ByteArray := prog_6_method_11_code
def yX4_readClause : MethodName := ⟨RX4, "readClause", "(LSkewPlan$Net;)Z"⟩
abbrev cX4_readPath : ByteArray := prog_6_method_12_code
def yX4_readPath : MethodName := ⟨RX4, "readPath", "(LSkewPlan$Net;)Z"⟩
abbrev cX4_wordHere : ByteArray := prog_6_method_13_code
def yX4_wordHere : MethodName := ⟨RX4, "wordHere", "()I"⟩
abbrev cX4_isSpelled : ByteArray := prog_6_method_14_code
def yX4_isSpelled : MethodName := ⟨RX4, "isSpelled", "(Ljava/lang/String;)Z"⟩
abbrev cX4_readNumber : ByteArray := prog_6_method_15_code
def yX4_readNumber : MethodName := ⟨RX4, "readNumber", "(II)I"⟩
def RX5 : String := "SkewPlan$Trace"
def TX5 : u_T := fun k => match k with
  | 0 => ("SkewPlan$Trace", "values", "[D", true)
  | 1 => ("SkewPlan$Trace", "isNoNumber", "[Z", true)
  | 2 => ("SkewPlan$Trace", "isPresent", "Z", false)
  | 3 => ("SkewPlan$Trace", "sort", "I", false)
  | _ => ("SkewPlan$Trace", "places", "I", false)
def tyX5 : Nat → FieldType := fun k => match k with
  | 0 => .array .double
  | 1 => .array .boolean
  | 2 => .boolean
  | 3 => .int
  | _ => .int
abbrev wsX50 : List Cond := u_ws RX5 TX5 5
theorem nmX5 : ∀ a, a < 5 → ∀ b, b < 5 → a ≠ b → (TX5 a).2.1 ≠ (TX5 b).2.1 := by decide +kernel
theorem tyX5_ok : ∀ k, k < 5 → parseFieldDescriptor (TX5 k).2.2.1 = some (tyX5 k) := by decide +kernel
abbrev cX5_init : ByteArray := prog_7_method_1_code
def yX5_init : MethodName := ⟨RX5, "<init>", "()V"⟩
abbrev cX5_isMissing : ByteArray := prog_7_method_2_code
def yX5_isMissing : MethodName := ⟨RX5, "isMissing", "()Z"⟩
abbrev cX5_placeCount : ByteArray := prog_7_method_3_code
def yX5_placeCount : MethodName := ⟨RX5, "placeCount", "()I"⟩
abbrev cX5_lose : ByteArray := prog_7_method_4_code
def yX5_lose : MethodName := ⟨RX5, "lose", "()V"⟩
abbrev cX5_renew : ByteArray := prog_7_method_5_code
def yX5_renew : MethodName := ⟨RX5, "renew", "(II)V"⟩
abbrev cX5_finding : ByteArray := prog_7_method_6_code
def yX5_finding : MethodName := ⟨RX5, "finding", "(III)I"⟩
abbrev cX5_putNumber : ByteArray := prog_7_method_7_code
def yX5_putNumber : MethodName := ⟨RX5, "putNumber", "(ID)V"⟩
abbrev cX5_putNoNumber : ByteArray := prog_7_method_8_code
def yX5_putNoNumber : MethodName := ⟨RX5, "putNoNumber", "(I)V"⟩
abbrev cX5_putQuotient : ByteArray := prog_7_method_9_code
def yX5_putQuotient : MethodName := ⟨RX5, "putQuotient", "(III)V"⟩
abbrev cX5_putRemainder : ByteArray := prog_7_method_10_code
def yX5_putRemainder : MethodName := ⟨RX5, "putRemainder", "(II)V"⟩
abbrev cX5_remainder : ByteArray := prog_7_method_11_code
def yX5_remainder : MethodName := ⟨RX5, "remainder", "(DD)D"⟩
abbrev cX5_isEndless : ByteArray := prog_7_method_12_code
def yX5_isEndless : MethodName := ⟨RX5, "isEndless", "(D)Z"⟩
abbrev cX5_order : ByteArray := prog_7_method_13_code
def yX5_order : MethodName := ⟨RX5, "order", "(II)I"⟩
abbrev cX5_thousandAt : ByteArray := prog_7_method_14_code
def yX5_thousandAt : MethodName := ⟨RX5, "thousandAt", "(I)I"⟩
abbrev cX5_thousandOfAll : ByteArray := prog_7_method_15_code
def yX5_thousandOfAll : MethodName := ⟨RX5, "thousandOfAll", "()I"⟩
abbrev cX5_cutThousand : ByteArray := prog_7_method_16_code
def yX5_cutThousand : MethodName := ⟨RX5, "cutThousand", "(D)I"⟩
abbrev cX5_noNumberCount : ByteArray := prog_7_method_17_code
def yX5_noNumberCount : MethodName := ⟨RX5, "noNumberCount", "()I"⟩
def RX6 : String := "SkewPlan$Word"
def TX6 : u_T := fun k => match k with
  | _ => ("", "", "", false)
def tyX6 : Nat → FieldType := fun k => match k with
  | _ => .int
abbrev wsX60 : List Cond := u_ws RX6 TX6 0
theorem nmX6 : ∀ a, a < 0 → ∀ b, b < 0 → a ≠ b → (TX6 a).2.1 ≠ (TX6 b).2.1 := by decide +kernel
theorem tyX6_ok : ∀ k, k < 0 → parseFieldDescriptor (TX6 k).2.2.1 = some (tyX6 k) := by decide +kernel
def RX7 : String := "SkewPlan"
def TX7 : u_T := fun k => match k with
  | 0 => ("SkewPlan", "text", "LSkewPlan$Text;", true)
  | 1 => ("SkewPlan", "told", "LSkewPlan$Net;", true)
  | 2 => ("SkewPlan", "now", "LSkewPlan$Net;", true)
  | 3 => ("SkewPlan", "scratch", "LSkewPlan$Net;", true)
  | 4 => ("SkewPlan", "kept", "[LSkewPlan$Net;", true)
  | 5 => ("SkewPlan", "isKept", "[Z", true)
  | 6 => ("SkewPlan", "history", "LSkewPlan$History;", true)
  | 7 => ("SkewPlan", "planner", "LSkewPlan$Planner;", true)
  | _ => ("SkewPlan", "traces", "[LSkewPlan$Trace;", true)
def tyX7 : Nat → FieldType := fun k => match k with
  | 0 => .object "SkewPlan$Text"
  | 1 => .object "SkewPlan$Net"
  | 2 => .object "SkewPlan$Net"
  | 3 => .object "SkewPlan$Net"
  | 4 => .array (.object "SkewPlan$Net")
  | 5 => .array .boolean
  | 6 => .object "SkewPlan$History"
  | 7 => .object "SkewPlan$Planner"
  | _ => .array (.object "SkewPlan$Trace")
abbrev wsX70 : List Cond := u_ws RX7 TX7 9
theorem nmX7 : ∀ a, a < 9 → ∀ b, b < 9 → a ≠ b → (TX7 a).2.1 ≠ (TX7 b).2.1 := by decide +kernel
theorem tyX7_ok : ∀ k, k < 9 → parseFieldDescriptor (TX7 k).2.2.1 = some (tyX7 k) := by decide +kernel
abbrev cX7_init : ByteArray := prog_1_method_1_code
def yX7_init : MethodName := ⟨RX7, "<init>", "()V"⟩
abbrev cX7_write : ByteArray := prog_1_method_2_code
def yX7_write : MethodName := ⟨RX7, "write", "(I)I"⟩
abbrev cX7_erase : ByteArray := prog_1_method_3_code
def yX7_erase : MethodName := ⟨RX7, "erase", "()I"⟩
abbrev cX7_fault : ByteArray := prog_1_method_4_code
def yX7_fault : MethodName := ⟨RX7, "fault", "()I"⟩
abbrev cX7_net : ByteArray := prog_1_method_5_code
def yX7_net : MethodName := ⟨RX7, "net", "()I"⟩
abbrev cX7_path : ByteArray := prog_1_method_6_code
def yX7_path : MethodName := ⟨RX7, "path", "(II)I"⟩
abbrev cX7_period : ByteArray := prog_1_method_7_code
def yX7_period : MethodName := ⟨RX7, "period", "(I)I"⟩
abbrev cX7_slower : ByteArray := prog_1_method_8_code
def yX7_slower : MethodName := ⟨RX7, "slower", "(II)I"⟩
abbrev cX7_undo : ByteArray := prog_1_method_9_code
def yX7_undo : MethodName := ⟨RX7, "undo", "()I"⟩
abbrev cX7_keep : ByteArray := prog_1_method_10_code
def yX7_keep : MethodName := ⟨RX7, "keep", "(I)I"⟩
abbrev cX7_back : ByteArray := prog_1_method_11_code
def yX7_back : MethodName := ⟨RX7, "back", "(I)I"⟩
abbrev cX7_feasible : ByteArray := prog_1_method_12_code
def yX7_feasible : MethodName := ⟨RX7, "feasible", "()I"⟩
abbrev cX7_shift : ByteArray := prog_1_method_13_code
def yX7_shift : MethodName := ⟨RX7, "shift", "(I)I"⟩
abbrev cX7_least : ByteArray := prog_1_method_14_code
def yX7_least : MethodName := ⟨RX7, "least", "()I"⟩
abbrev cX7_rate : ByteArray := prog_1_method_15_code
def yX7_rate : MethodName := ⟨RX7, "rate", "(I)I"⟩
abbrev cX7_margin : ByteArray := prog_1_method_16_code
def yX7_margin : MethodName := ⟨RX7, "margin", "()I"⟩
abbrev cX7_spare : ByteArray := prog_1_method_17_code
def yX7_spare : MethodName := ⟨RX7, "spare", "(II)I"⟩
abbrev cX7_cycle : ByteArray := prog_1_method_18_code
def yX7_cycle : MethodName := ⟨RX7, "cycle", "(I)I"⟩
abbrev cX7_buffer : ByteArray := prog_1_method_19_code
def yX7_buffer : MethodName := ⟨RX7, "buffer", "(I)I"⟩
abbrev cX7_trace : ByteArray := prog_1_method_20_code
def yX7_trace : MethodName := ⟨RX7, "trace", "(III)I"⟩
abbrev cX7_set : ByteArray := prog_1_method_21_code
def yX7_set : MethodName := ⟨RX7, "set", "(IIIII)I"⟩
abbrev cX7_get : ByteArray := prog_1_method_22_code
def yX7_get : MethodName := ⟨RX7, "get", "(III)I"⟩
abbrev cX7_rest : ByteArray := prog_1_method_23_code
def yX7_rest : MethodName := ⟨RX7, "rest", "(IIII)I"⟩
abbrev cX7_compare : ByteArray := prog_1_method_24_code
def yX7_compare : MethodName := ⟨RX7, "compare", "(IIII)I"⟩
abbrev cX7_sum : ByteArray := prog_1_method_25_code
def yX7_sum : MethodName := ⟨RX7, "sum", "(II)I"⟩
abbrev cX7_drop : ByteArray := prog_1_method_26_code
def yX7_drop : MethodName := ⟨RX7, "drop", "(I)I"⟩
abbrev cX7_count : ByteArray := prog_1_method_27_code
def yX7_count : MethodName := ⟨RX7, "count", "(I)I"⟩
abbrev cX7_isWithin : ByteArray := prog_1_method_28_code
def yX7_isWithin : MethodName := ⟨RX7, "isWithin", "(III)Z"⟩
abbrev cX7_isPath : ByteArray := prog_1_method_29_code
def yX7_isPath : MethodName := ⟨RX7, "isPath", "(I)Z"⟩
abbrev cX7_isKeptPlace : ByteArray := prog_1_method_30_code
def yX7_isKeptPlace : MethodName := ⟨RX7, "isKeptPlace", "(I)Z"⟩
abbrev cX7_isTrace : ByteArray := prog_1_method_31_code
def yX7_isTrace : MethodName := ⟨RX7, "isTrace", "(I)Z"⟩
abbrev cX7_isSort : ByteArray := prog_1_method_32_code
def yX7_isSort : MethodName := ⟨RX7, "isSort", "(I)Z"⟩
abbrev cX7_isQuotientPart : ByteArray := prog_1_method_33_code
def yX7_isQuotientPart : MethodName := ⟨RX7, "isQuotientPart", "(I)Z"⟩
abbrev cX7_traceRefusal : ByteArray := prog_1_method_34_code
def yX7_traceRefusal : MethodName := ⟨RX7, "traceRefusal", "(IIII)I"⟩
abbrev cX7_placesOfAllTraces : ByteArray := prog_1_method_35_code
def yX7_placesOfAllTraces : MethodName := ⟨RX7, "placesOfAllTraces", "()I"⟩
abbrev cX7_orAboveAll : ByteArray := prog_1_method_36_code
def yX7_orAboveAll : MethodName := ⟨RX7, "orAboveAll", "(I)I"⟩
def RX8 : String := "SkewPlanModel"
def TX8 : u_T := fun k => match k with
  | 0 => ("SkewPlanModel", "row", "[I", true)
  | 1 => ("SkewPlanModel", "registers", "I", false)
  | 2 => ("SkewPlanModel", "paths", "I", false)
  | 3 => ("SkewPlanModel", "from", "[I", true)
  | 4 => ("SkewPlanModel", "to", "[I", true)
  | 5 => ("SkewPlanModel", "setup", "I", false)
  | 6 => ("SkewPlanModel", "hold", "I", false)
  | 7 => ("SkewPlanModel", "step", "I", false)
  | 8 => ("SkewPlanModel", "undos", "I", false)
  | 9 => ("SkewPlanModel", "isKept", "[Z", true)
  | 10 => ("SkewPlanModel", "text", "[I", true)
  | 11 => ("SkewPlanModel", "length", "I", false)
  | 12 => ("SkewPlanModel", "sorts", "[I", true)
  | 13 => ("SkewPlanModel", "sizes", "[I", true)
  | 14 => ("SkewPlanModel", "floats", "[F", true)
  | 15 => ("SkewPlanModel", "doubles", "[D", true)
  | 16 => ("SkewPlanModel", "first", "I", false)
  | 17 => ("SkewPlanModel", "behind", "I", false)
  | 18 => ("SkewPlanModel", "readRegisters", "I", false)
  | 19 => ("SkewPlanModel", "readPaths", "I", false)
  | 20 => ("SkewPlanModel", "clauses", "I", false)
  | 21 => ("SkewPlanModel", "doing", "Z", false)
  | 22 => ("SkewPlanModel", "numbers", "[I", true)
  | 23 => ("SkewPlanModel", "netWord", "[I", true)
  | 24 => ("SkewPlanModel", "pathWord", "[I", true)
  | 25 => ("SkewPlanModel", "setupWord", "[I", true)
  | 26 => ("SkewPlanModel", "holdWord", "[I", true)
  | 27 => ("SkewPlanModel", "stepWord", "[I", true)
  | 28 => ("SkewPlanModel", "periodWord", "[I", true)
  | 29 => ("SkewPlanModel", "lates", "[I", true)
  | 30 => ("SkewPlanModel", "soons", "[I", true)
  | 31 => ("SkewPlanModel", "shifts", "[I", true)
  | 32 => ("SkewPlanModel", "bounds", "[I", true)
  | 33 => ("SkewPlanModel", "ring", "[I", true)
  | _ => ("SkewPlanModel", "ringMany", "I", false)
def tyX8 : Nat → FieldType := fun k => match k with
  | 0 => .array .int
  | 1 => .int
  | 2 => .int
  | 3 => .array .int
  | 4 => .array .int
  | 5 => .int
  | 6 => .int
  | 7 => .int
  | 8 => .int
  | 9 => .array .boolean
  | 10 => .array .int
  | 11 => .int
  | 12 => .array .int
  | 13 => .array .int
  | 14 => .array .float
  | 15 => .array .double
  | 16 => .int
  | 17 => .int
  | 18 => .int
  | 19 => .int
  | 20 => .int
  | 21 => .boolean
  | 22 => .array .int
  | 23 => .array .int
  | 24 => .array .int
  | 25 => .array .int
  | 26 => .array .int
  | 27 => .array .int
  | 28 => .array .int
  | 29 => .array .int
  | 30 => .array .int
  | 31 => .array .int
  | 32 => .array .int
  | 33 => .array .int
  | _ => .int
abbrev wsX80 : List Cond := u_ws RX8 TX8 35
theorem nmX8 : ∀ a, a < 35 → ∀ b, b < 35 → a ≠ b → (TX8 a).2.1 ≠ (TX8 b).2.1 := by decide +kernel
theorem tyX8_ok : ∀ k, k < 35 → parseFieldDescriptor (TX8 k).2.2.1 = some (tyX8 k) := by decide +kernel
abbrev cX8_init : ByteArray := prog_10_method_1_code
def yX8_init : MethodName := ⟨RX8, "<init>", "()V"⟩
abbrev cX8_in : ByteArray := prog_10_method_2_code
def yX8_in : MethodName := ⟨RX8, "in", "(JJJ)Z"⟩
abbrev cX8_copyRow : ByteArray := prog_10_method_3_code
def yX8_copyRow : MethodName := ⟨RX8, "copyRow", "(II)V"⟩
abbrev cX8_anew : ByteArray := prog_10_method_4_code
def yX8_anew : MethodName := ⟨RX8, "anew", "(I)V"⟩
abbrev cX8_write : ByteArray := prog_10_method_5_code
def yX8_write : MethodName := ⟨RX8, "write", "(I)I"⟩
abbrev cX8_erase : ByteArray := prog_10_method_6_code
def yX8_erase : MethodName := ⟨RX8, "erase", "()I"⟩
abbrev cX8_isLetter : ByteArray := prog_10_method_7_code
def yX8_isLetter : MethodName := ⟨RX8, "isLetter", "(I)Z"⟩
abbrev cX8_isDigit : ByteArray := prog_10_method_8_code
def yX8_isDigit : MethodName := ⟨RX8, "isDigit", "(I)Z"⟩
abbrev cX8_nextToken : ByteArray := prog_10_method_9_code
def yX8_nextToken : MethodName := ⟨RX8, "nextToken", "()V"⟩
abbrev cX8_isWord : ByteArray := prog_10_method_10_code
def yX8_isWord : MethodName := ⟨RX8, "isWord", "([I)Z"⟩
abbrev cX8_number : ByteArray := prog_10_method_11_code
def yX8_number : MethodName := ⟨RX8, "number", "(III)Z"⟩
abbrev cX8_wordHere : ByteArray := prog_10_method_12_code
def yX8_wordHere : MethodName := ⟨RX8, "wordHere", "()I"⟩
abbrev cX8_readsNumbers : ByteArray := prog_10_method_13_code
def yX8_readsNumbers : MethodName := ⟨RX8, "readsNumbers", "(I)Z"⟩
abbrev cX8_does : ByteArray := prog_10_method_14_code
def yX8_does : MethodName := ⟨RX8, "does", "(I)V"⟩
abbrev cX8_readsClause : ByteArray := prog_10_method_15_code
def yX8_readsClause : MethodName := ⟨RX8, "readsClause", "()Z"⟩
abbrev cX8_reads : ByteArray := prog_10_method_16_code
def yX8_reads : MethodName := ⟨RX8, "reads", "(Z)Z"⟩
abbrev cX8_fault : ByteArray := prog_10_method_17_code
def yX8_fault : MethodName := ⟨RX8, "fault", "()I"⟩
abbrev cX8_net : ByteArray := prog_10_method_18_code
def yX8_net : MethodName := ⟨RX8, "net", "()I"⟩
abbrev cX8_isPath : ByteArray := prog_10_method_19_code
def yX8_isPath : MethodName := ⟨RX8, "isPath", "(I)Z"⟩
abbrev cX8_isRegister : ByteArray := prog_10_method_20_code
def yX8_isRegister : MethodName := ⟨RX8, "isRegister", "(I)Z"⟩
abbrev cX8_lateOf : ByteArray := prog_10_method_21_code
def yX8_lateOf : MethodName := ⟨RX8, "lateOf", "(II)I"⟩
abbrev cX8_soonOf : ByteArray := prog_10_method_22_code
def yX8_soonOf : MethodName := ⟨RX8, "soonOf", "(I)I"⟩
abbrev cX8_path : ByteArray := prog_10_method_23_code
def yX8_path : MethodName := ⟨RX8, "path", "(II)I"⟩
abbrev cX8_keepPast : ByteArray := prog_10_method_24_code
def yX8_keepPast : MethodName := ⟨RX8, "keepPast", "()V"⟩
abbrev cX8_period : ByteArray := prog_10_method_25_code
def yX8_period : MethodName := ⟨RX8, "period", "(I)I"⟩
abbrev cX8_slower : ByteArray := prog_10_method_26_code
def yX8_slower : MethodName := ⟨RX8, "slower", "(II)I"⟩
abbrev cX8_undo : ByteArray := prog_10_method_27_code
def yX8_undo : MethodName := ⟨RX8, "undo", "()I"⟩
abbrev cX8_keep : ByteArray := prog_10_method_28_code
def yX8_keep : MethodName := ⟨RX8, "keep", "(I)I"⟩
abbrev cX8_back : ByteArray := prog_10_method_29_code
def yX8_back : MethodName := ⟨RX8, "back", "(I)I"⟩
abbrev cX8_floor : ByteArray := prog_10_method_30_code
def yX8_floor : MethodName := ⟨RX8, "floor", "(II)I"⟩
abbrev cX8_layBounds : ByteArray := prog_10_method_31_code
def yX8_layBounds : MethodName := ⟨RX8, "layBounds", "(II)V"⟩
abbrev cX8_makesLess : ByteArray := prog_10_method_32_code
def yX8_makesLess : MethodName := ⟨RX8, "makesLess", "(III)Z"⟩
abbrev cX8_areThere : ByteArray := prog_10_method_33_code
def yX8_areThere : MethodName := ⟨RX8, "areThere", "()Z"⟩
abbrev cX8_isFeasible : ByteArray := prog_10_method_34_code
def yX8_isFeasible : MethodName := ⟨RX8, "isFeasible", "(II)Z"⟩
abbrev cX8_feasible : ByteArray := prog_10_method_35_code
def yX8_feasible : MethodName := ⟨RX8, "feasible", "()I"⟩
abbrev cX8_shift : ByteArray := prog_10_method_36_code
def yX8_shift : MethodName := ⟨RX8, "shift", "(I)I"⟩
abbrev cX8_leastOf : ByteArray := prog_10_method_37_code
def yX8_leastOf : MethodName := ⟨RX8, "leastOf", "()I"⟩
abbrev cX8_least : ByteArray := prog_10_method_38_code
def yX8_least : MethodName := ⟨RX8, "least", "()I"⟩
abbrev cX8_isFeasibleBy : ByteArray := prog_10_method_39_code
def yX8_isFeasibleBy : MethodName := ⟨RX8, "isFeasibleBy", "(II)Z"⟩
abbrev cX8_rate : ByteArray := prog_10_method_40_code
def yX8_rate : MethodName := ⟨RX8, "rate", "(I)I"⟩
abbrev cX8_margin : ByteArray := prog_10_method_41_code
def yX8_margin : MethodName := ⟨RX8, "margin", "()I"⟩
abbrev cX8_spare : ByteArray := prog_10_method_42_code
def yX8_spare : MethodName := ⟨RX8, "spare", "(II)I"⟩
abbrev cX8_layLeast : ByteArray := prog_10_method_43_code
def yX8_layLeast : MethodName := ⟨RX8, "layLeast", "()V"⟩
abbrev cX8_isInRing : ByteArray := prog_10_method_44_code
def yX8_isInRing : MethodName := ⟨RX8, "isInRing", "(I)Z"⟩
abbrev cX8_isBelow : ByteArray := prog_10_method_45_code
def yX8_isBelow : MethodName := ⟨RX8, "isBelow", "()Z"⟩
abbrev cX8_nextFrom : ByteArray := prog_10_method_46_code
def yX8_nextFrom : MethodName := ⟨RX8, "nextFrom", "(I)I"⟩
abbrev cX8_goOn : ByteArray := prog_10_method_47_code
def yX8_goOn : MethodName := ⟨RX8, "goOn", "()V"⟩
abbrev cX8_cycle : ByteArray := prog_10_method_48_code
def yX8_cycle : MethodName := ⟨RX8, "cycle", "(I)I"⟩
abbrev cX8_buffer : ByteArray := prog_10_method_49_code
def yX8_buffer : MethodName := ⟨RX8, "buffer", "(I)I"⟩
abbrev cX8_isTrace : ByteArray := prog_10_method_50_code
def yX8_isTrace : MethodName := ⟨RX8, "isTrace", "(I)Z"⟩
abbrev cX8_trace : ByteArray := prog_10_method_51_code
def yX8_trace : MethodName := ⟨RX8, "trace", "(III)I"⟩
abbrev cX8_cut : ByteArray := prog_10_method_52_code
def yX8_cut : MethodName := ⟨RX8, "cut", "(D)I"⟩
abbrev cX8_thousand : ByteArray := prog_10_method_53_code
def yX8_thousand : MethodName := ⟨RX8, "thousand", "(II)I"⟩
abbrev cX8_noPlace : ByteArray := prog_10_method_54_code
def yX8_noPlace : MethodName := ⟨RX8, "noPlace", "(IIII)I"⟩
abbrev cX8_set : ByteArray := prog_10_method_55_code
def yX8_set : MethodName := ⟨RX8, "set", "(IIIII)I"⟩
abbrev cX8_get : ByteArray := prog_10_method_56_code
def yX8_get : MethodName := ⟨RX8, "get", "(III)I"⟩
abbrev cX8_rest : ByteArray := prog_10_method_57_code
def yX8_rest : MethodName := ⟨RX8, "rest", "(IIII)I"⟩
abbrev cX8_valueOf : ByteArray := prog_10_method_58_code
def yX8_valueOf : MethodName := ⟨RX8, "valueOf", "(II)D"⟩
abbrev cX8_compare : ByteArray := prog_10_method_59_code
def yX8_compare : MethodName := ⟨RX8, "compare", "(IIII)I"⟩
abbrev cX8_sum : ByteArray := prog_10_method_60_code
def yX8_sum : MethodName := ⟨RX8, "sum", "(II)I"⟩
abbrev cX8_drop : ByteArray := prog_10_method_61_code
def yX8_drop : MethodName := ⟨RX8, "drop", "(I)I"⟩
abbrev cX8_allPlaces : ByteArray := prog_10_method_62_code
def yX8_allPlaces : MethodName := ⟨RX8, "allPlaces", "()I"⟩
abbrev cX8_tooSoon : ByteArray := prog_10_method_63_code
def yX8_tooSoon : MethodName := ⟨RX8, "tooSoon", "()I"⟩
abbrev cX8_count : ByteArray := prog_10_method_64_code
def yX8_count : MethodName := ⟨RX8, "count", "(I)I"⟩
def RJx29ce0 : String := "java/lang/Enum"
def TJx29ce0 : u_T := fun k => match k with
  | _ => ("", "", "", false)
def tyJx29ce0 : Nat → FieldType := fun k => match k with
  | _ => .int
abbrev wsJx29ce00 : List Cond := u_ws RJx29ce0 TJx29ce0 0
theorem nmJx29ce0 : ∀ a, a < 0 → ∀ b, b < 0 → a ≠ b → (TJx29ce0 a).2.1 ≠ (TJx29ce0 b).2.1 := by decide +kernel
theorem tyJx29ce0_ok : ∀ k, k < 0 → parseFieldDescriptor (TJx29ce0 k).2.2.1 = some (tyJx29ce0 k) := by decide +kernel
abbrev cJx29ce0_ordinal_8abf5 : ByteArray := prog_11_method_2_code
def yJx29ce0_ordinal_8abf5 : MethodName := ⟨RJx29ce0, "ordinal", "()I"⟩
def RJ9 : String := "java/lang/Math"
def TJ9 : u_T := fun k => match k with
  | _ => ("", "", "", false)
def tyJ9 : Nat → FieldType := fun k => match k with
  | _ => .int
abbrev wsJ90 : List Cond := u_ws RJ9 TJ9 0
theorem nmJ9 : ∀ a, a < 0 → ∀ b, b < 0 → a ≠ b → (TJ9 a).2.1 ≠ (TJ9 b).2.1 := by decide +kernel
theorem tyJ9_ok : ∀ k, k < 0 → parseFieldDescriptor (TJ9 k).2.2.1 = some (tyJ9 k) := by decide +kernel
abbrev cJ9_floorDiv_7cf53 : ByteArray := prog_12_method_47_code
def yJ9_floorDiv_7cf53 : MethodName := ⟨RJ9, "floorDiv", "(II)I"⟩
abbrev cJ9_min_7cf53 : ByteArray := prog_12_method_69_code
def yJ9_min_7cf53 : MethodName := ⟨RJ9, "min", "(II)I"⟩
def RJ0 : String := "java/lang/String"
def TJ0 : u_T := fun k => match k with
  | _ => ("", "", "", false)
def tyJ0 : Nat → FieldType := fun k => match k with
  | _ => .int
abbrev wsJ00 : List Cond := u_ws RJ0 TJ0 0
theorem nmJ0 : ∀ a, a < 0 → ∀ b, b < 0 → a ≠ b → (TJ0 a).2.1 ≠ (TJ0 b).2.1 := by decide +kernel
theorem tyJ0_ok : ∀ k, k < 0 → parseFieldDescriptor (TJ0 k).2.2.1 = some (tyJ0 k) := by decide +kernel
abbrev cJ0_length_8abf5 : ByteArray := prog_13_method_54_code
def yJ0_length_8abf5 : MethodName := ⟨RJ0, "length", "()I"⟩
abbrev cJ0_charAt_5068e : ByteArray := prog_13_method_56_code
def yJ0_charAt_5068e : MethodName := ⟨RJ0, "charAt", "(I)C"⟩
abbrev cJ0_coder_7d493 : ByteArray := prog_13_method_152_code
def yJ0_coder_7d493 : MethodName := ⟨RJ0, "coder", "()B"⟩
abbrev cJ0_isLatin1_aae02 : ByteArray := prog_13_method_154_code
def yJ0_isLatin1_aae02 : MethodName := ⟨RJ0, "isLatin1", "()Z"⟩
abbrev cJ0_checkIndex_df160 : ByteArray := prog_13_method_155_code
def yJ0_checkIndex_df160 : MethodName := ⟨RJ0, "checkIndex", "(II)V"⟩
def RJ1 : String := "java/lang/StringLatin1"
def TJ1 : u_T := fun k => match k with
  | _ => ("", "", "", false)
def tyJ1 : Nat → FieldType := fun k => match k with
  | _ => .int
abbrev wsJ10 : List Cond := u_ws RJ1 TJ1 0
theorem nmJ1 : ∀ a, a < 0 → ∀ b, b < 0 → a ≠ b → (TJ1 a).2.1 ≠ (TJ1 b).2.1 := by decide +kernel
theorem tyJ1_ok : ∀ k, k < 0 → parseFieldDescriptor (TJ1 k).2.2.1 = some (tyJ1 k) := by decide +kernel
abbrev cJ1_charAt_3b067 : ByteArray := prog_14_method_2_code
def yJ1_charAt_3b067 : MethodName := ⟨RJ1, "charAt", "([BI)C"⟩
def RJ2 : String := "java/lang/StringUTF16"
def TJ2 : u_T := fun k => match k with
  | _ => ("", "", "", false)
def tyJ2 : Nat → FieldType := fun k => match k with
  | _ => .int
abbrev wsJ20 : List Cond := u_ws RJ2 TJ2 0
theorem nmJ2 : ∀ a, a < 0 → ∀ b, b < 0 → a ≠ b → (TJ2 a).2.1 ≠ (TJ2 b).2.1 := by decide +kernel
theorem tyJ2_ok : ∀ k, k < 0 → parseFieldDescriptor (TJ2 k).2.2.1 = some (tyJ2 k) := by decide +kernel
abbrev cJ2_getChar_3b067 : ByteArray := prog_15_method_5_code
def yJ2_getChar_3b067 : MethodName := ⟨RJ2, "getChar", "([BI)C"⟩
abbrev cJ2_length_9d52b : ByteArray := prog_15_method_6_code
def yJ2_length_9d52b : MethodName := ⟨RJ2, "length", "([B)I"⟩
abbrev cJ2_charAt_3b067 : ByteArray := prog_15_method_83_code
def yJ2_charAt_3b067 : MethodName := ⟨RJ2, "charAt", "([BI)C"⟩
abbrev cJ2_checkIndex_2214a : ByteArray := prog_15_method_91_code
def yJ2_checkIndex_2214a : MethodName := ⟨RJ2, "checkIndex", "(I[B)V"⟩
def RJ10 : String := "java/lang/System"
def TJ10 : u_T := fun k => match k with
  | _ => ("", "", "", false)
def tyJ10 : Nat → FieldType := fun k => match k with
  | _ => .int
abbrev wsJ100 : List Cond := u_ws RJ10 TJ10 0
theorem nmJ10 : ∀ a, a < 0 → ∀ b, b < 0 → a ≠ b → (TJ10 a).2.1 ≠ (TJ10 b).2.1 := by decide +kernel
theorem tyJ10_ok : ∀ k, k < 0 → parseFieldDescriptor (TJ10 k).2.2.1 = some (tyJ10 k) := by decide +kernel
def RJ3 : String := "jdk/internal/util/Preconditions"
def TJ3 : u_T := fun k => match k with
  | _ => ("", "", "", false)
def tyJ3 : Nat → FieldType := fun k => match k with
  | _ => .int
abbrev wsJ30 : List Cond := u_ws RJ3 TJ3 0
theorem nmJ3 : ∀ a, a < 0 → ∀ b, b < 0 → a ≠ b → (TJ3 a).2.1 ≠ (TJ3 b).2.1 := by decide +kernel
theorem tyJ3_ok : ∀ k, k < 0 → parseFieldDescriptor (TJ3 k).2.2.1 = some (tyJ3 k) := by decide +kernel
abbrev cJ3_checkIndex_8e157 : ByteArray := prog_17_method_11_code
def yJ3_checkIndex_8e157 : MethodName := ⟨RJ3, "checkIndex", "(IILjava/util/function/BiFunction;)I"⟩
def RL : String := "SkewPlanLaw"
abbrev cL_law : ByteArray := code
def yL_law : MethodName := ⟨RL, "law", "([I)Z"⟩
abbrev vwCl : List vw_C := [(RX1, TX1, 4), (RX2, TX2, 10), (RX3, TX3, 7), (RX4, TX4, 5), (RX5, TX5, 5), (RX7, TX7, 9), (RX8, TX8, 35)]
def g_all : List Cond := lw_tbl.filter goodWord
theorem g_w {w : Cond} (i : Nat) (h : tables_1[i]? = some w) (hg : goodWord w = true) : w ∈ g_all := List.mem_filter.mpr ⟨List.mem_append_right _ (List.mem_of_getElem? h), hg⟩
theorem g_s {w : Cond} (i : Nat) (h : (k2_sels lw_privs)[i]? = some w) (hg : goodWord w = true) : w ∈ g_all := List.mem_filter.mpr ⟨List.mem_append_left _ (List.mem_of_getElem? h), hg⟩
theorem g_in {ws : List Cond} (h : ws.all (fun w => decide (w ∈ tables_1) && goodWord w) = true) : ∀ w ∈ ws, w ∈ g_all := fun w hw => by
  have h1 := List.all_eq_true.mp h w hw
  simp only [Bool.and_eq_true, decide_eq_true_eq] at h1
  exact List.mem_filter.mpr ⟨List.mem_append_right _ h1.1, h1.2⟩
