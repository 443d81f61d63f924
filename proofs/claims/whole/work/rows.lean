section
-- ===== PART A: goes FIRST, ahead of the names: the tables' words, and 'selects' of the private methods out of them =====
/-- a private method of a class that the tables say can be made, by its rows of tables_1 -/
def lw_okq (q : MethodName × Nat) : Prop := (q.1.cls ≠ "java/lang/invoke/MethodHandle" ∧ q.1.cls ≠ "java/lang/invoke/VarHandle") ∧ Cond.instantiable q.1.cls q.2 ∈ tables_1 ∧ Cond.privateMethod q.1 ∈ tables_1 ∧ Cond.instanceMethod q.1 ∈ tables_1
theorem lw_p0 : lw_okq (⟨"SkewPlan$Net", "begin", "(I)V"⟩, 10) := ⟨⟨by decide +kernel, by decide +kernel⟩, List.mem_of_getElem? (i := 49) (by decide +kernel), List.mem_of_getElem? (i := 55) (by decide +kernel), List.mem_of_getElem? (i := 56) (by decide +kernel)⟩
theorem lw_p1 : lw_okq (⟨"SkewPlan$Text", "advance", "()V"⟩, 5) := ⟨⟨by decide +kernel, by decide +kernel⟩, List.mem_of_getElem? (i := 26) (by decide +kernel), List.mem_of_getElem? (i := 252) (by decide +kernel), List.mem_of_getElem? (i := 253) (by decide +kernel)⟩
theorem lw_p2 : lw_okq (⟨"SkewPlan$Text", "isAtEnd", "()Z"⟩, 5) := ⟨⟨by decide +kernel, by decide +kernel⟩, List.mem_of_getElem? (i := 26) (by decide +kernel), List.mem_of_getElem? (i := 256) (by decide +kernel), List.mem_of_getElem? (i := 257) (by decide +kernel)⟩
theorem lw_p3 : lw_okq (⟨"SkewPlan$Text", "readClause", "(LSkewPlan$Net;)Z"⟩, 5) := ⟨⟨by decide +kernel, by decide +kernel⟩, List.mem_of_getElem? (i := 26) (by decide +kernel), List.mem_of_getElem? (i := 266) (by decide +kernel), List.mem_of_getElem? (i := 267) (by decide +kernel)⟩
theorem lw_p4 : lw_okq (⟨"SkewPlan$Text", "wordHere", "()I"⟩, 5) := ⟨⟨by decide +kernel, by decide +kernel⟩, List.mem_of_getElem? (i := 26) (by decide +kernel), List.mem_of_getElem? (i := 270) (by decide +kernel), List.mem_of_getElem? (i := 271) (by decide +kernel)⟩
theorem lw_p5 : lw_okq (⟨"SkewPlan$Text", "isSpelled", "(Ljava/lang/String;)Z"⟩, 5) := ⟨⟨by decide +kernel, by decide +kernel⟩, List.mem_of_getElem? (i := 26) (by decide +kernel), List.mem_of_getElem? (i := 276) (by decide +kernel), List.mem_of_getElem? (i := 277) (by decide +kernel)⟩
theorem lw_p6 : lw_okq (⟨"SkewPlan$Text", "readPath", "(LSkewPlan$Net;)Z"⟩, 5) := ⟨⟨by decide +kernel, by decide +kernel⟩, List.mem_of_getElem? (i := 26) (by decide +kernel), List.mem_of_getElem? (i := 334) (by decide +kernel), List.mem_of_getElem? (i := 335) (by decide +kernel)⟩
theorem lw_p7 : lw_okq (⟨"SkewPlan$Text", "readNumber", "(II)I"⟩, 5) := ⟨⟨by decide +kernel, by decide +kernel⟩, List.mem_of_getElem? (i := 26) (by decide +kernel), List.mem_of_getElem? (i := 338) (by decide +kernel), List.mem_of_getElem? (i := 339) (by decide +kernel)⟩
theorem lw_p8 : lw_okq (⟨"SkewPlan", "isPath", "(I)Z"⟩, 9) := ⟨⟨by decide +kernel, by decide +kernel⟩, List.mem_of_getElem? (i := 18) (by decide +kernel), List.mem_of_getElem? (i := 381) (by decide +kernel), List.mem_of_getElem? (i := 382) (by decide +kernel)⟩
theorem lw_p9 : lw_okq (⟨"SkewPlan$Planner", "settlesWithMargin", "(LSkewPlan$Net;I)Z"⟩, 7) := ⟨⟨by decide +kernel, by decide +kernel⟩, List.mem_of_getElem? (i := 132) (by decide +kernel), List.mem_of_getElem? (i := 448) (by decide +kernel), List.mem_of_getElem? (i := 449) (by decide +kernel)⟩
theorem lw_p10 : lw_okq (⟨"SkewPlan$Planner", "layBounds", "(LSkewPlan$Net;IIII)V"⟩, 7) := ⟨⟨by decide +kernel, by decide +kernel⟩, List.mem_of_getElem? (i := 132) (by decide +kernel), List.mem_of_getElem? (i := 452) (by decide +kernel), List.mem_of_getElem? (i := 453) (by decide +kernel)⟩
theorem lw_p11 : lw_okq (⟨"SkewPlan$Planner", "tighten", "(IIII)V"⟩, 7) := ⟨⟨by decide +kernel, by decide +kernel⟩, List.mem_of_getElem? (i := 132) (by decide +kernel), List.mem_of_getElem? (i := 458) (by decide +kernel), List.mem_of_getElem? (i := 459) (by decide +kernel)⟩
theorem lw_p12 : lw_okq (⟨"SkewPlan$Planner", "settle", "()Z"⟩, 7) := ⟨⟨by decide +kernel, by decide +kernel⟩, List.mem_of_getElem? (i := 132) (by decide +kernel), List.mem_of_getElem? (i := 466) (by decide +kernel), List.mem_of_getElem? (i := 467) (by decide +kernel)⟩
theorem lw_p13 : lw_okq (⟨"SkewPlan$Planner", "lowerOnce", "()Z"⟩, 7) := ⟨⟨by decide +kernel, by decide +kernel⟩, List.mem_of_getElem? (i := 132) (by decide +kernel), List.mem_of_getElem? (i := 470) (by decide +kernel), List.mem_of_getElem? (i := 471) (by decide +kernel)⟩
theorem lw_p14 : lw_okq (⟨"SkewPlan$Planner", "leastPeriodAbove", "(LSkewPlan$Net;II)I"⟩, 7) := ⟨⟨by decide +kernel, by decide +kernel⟩, List.mem_of_getElem? (i := 132) (by decide +kernel), List.mem_of_getElem? (i := 490) (by decide +kernel), List.mem_of_getElem? (i := 491) (by decide +kernel)⟩
theorem lw_p15 : lw_okq (⟨"SkewPlan$Planner", "settlesAtPeriod", "(LSkewPlan$Net;III)Z"⟩, 7) := ⟨⟨by decide +kernel, by decide +kernel⟩, List.mem_of_getElem? (i := 132) (by decide +kernel), List.mem_of_getElem? (i := 494) (by decide +kernel), List.mem_of_getElem? (i := 495) (by decide +kernel)⟩
def lw_privs_1 : List (MethodName × Nat) := [(⟨"SkewPlan$Net", "begin", "(I)V"⟩, 10), (⟨"SkewPlan$Text", "advance", "()V"⟩, 5), (⟨"SkewPlan$Text", "isAtEnd", "()Z"⟩, 5), (⟨"SkewPlan$Text", "readClause", "(LSkewPlan$Net;)Z"⟩, 5), (⟨"SkewPlan$Text", "wordHere", "()I"⟩, 5), (⟨"SkewPlan$Text", "isSpelled", "(Ljava/lang/String;)Z"⟩, 5), (⟨"SkewPlan$Text", "readPath", "(LSkewPlan$Net;)Z"⟩, 5), (⟨"SkewPlan$Text", "readNumber", "(II)I"⟩, 5), (⟨"SkewPlan", "isPath", "(I)Z"⟩, 9), (⟨"SkewPlan$Planner", "settlesWithMargin", "(LSkewPlan$Net;I)Z"⟩, 7), (⟨"SkewPlan$Planner", "layBounds", "(LSkewPlan$Net;IIII)V"⟩, 7), (⟨"SkewPlan$Planner", "tighten", "(IIII)V"⟩, 7), (⟨"SkewPlan$Planner", "settle", "()Z"⟩, 7), (⟨"SkewPlan$Planner", "lowerOnce", "()Z"⟩, 7), (⟨"SkewPlan$Planner", "leastPeriodAbove", "(LSkewPlan$Net;II)I"⟩, 7), (⟨"SkewPlan$Planner", "settlesAtPeriod", "(LSkewPlan$Net;III)Z"⟩, 7)]
theorem lw_r1 : ∀ q ∈ lw_privs_1, lw_okq q := List.forall_mem_cons.mpr ⟨lw_p0, List.forall_mem_cons.mpr ⟨lw_p1, List.forall_mem_cons.mpr ⟨lw_p2, List.forall_mem_cons.mpr ⟨lw_p3, List.forall_mem_cons.mpr ⟨lw_p4, List.forall_mem_cons.mpr ⟨lw_p5, List.forall_mem_cons.mpr ⟨lw_p6, List.forall_mem_cons.mpr ⟨lw_p7, List.forall_mem_cons.mpr ⟨lw_p8, List.forall_mem_cons.mpr ⟨lw_p9, List.forall_mem_cons.mpr ⟨lw_p10, List.forall_mem_cons.mpr ⟨lw_p11, List.forall_mem_cons.mpr ⟨lw_p12, List.forall_mem_cons.mpr ⟨lw_p13, List.forall_mem_cons.mpr ⟨lw_p14, List.forall_mem_cons.mpr ⟨lw_p15, fun _ h => absurd h List.not_mem_nil⟩⟩⟩⟩⟩⟩⟩⟩⟩⟩⟩⟩⟩⟩⟩⟩
theorem lw_p16 : lw_okq (⟨"SkewPlan$Planner", "closesFrom", "(II)Z"⟩, 7) := ⟨⟨by decide +kernel, by decide +kernel⟩, List.mem_of_getElem? (i := 132) (by decide +kernel), List.mem_of_getElem? (i := 534) (by decide +kernel), List.mem_of_getElem? (i := 535) (by decide +kernel)⟩
theorem lw_p17 : lw_okq (⟨"SkewPlan$Planner", "isInRing", "(II)Z"⟩, 7) := ⟨⟨by decide +kernel, by decide +kernel⟩, List.mem_of_getElem? (i := 132) (by decide +kernel), List.mem_of_getElem? (i := 538) (by decide +kernel), List.mem_of_getElem? (i := 539) (by decide +kernel)⟩
theorem lw_p18 : lw_okq (⟨"SkewPlan$Trace", "putNumber", "(ID)V"⟩, 5) := ⟨⟨by decide +kernel, by decide +kernel⟩, List.mem_of_getElem? (i := 163) (by decide +kernel), List.mem_of_getElem? (i := 571) (by decide +kernel), List.mem_of_getElem? (i := 572) (by decide +kernel)⟩
theorem lw_p19 : lw_okq (⟨"SkewPlan$Trace", "putNoNumber", "(I)V"⟩, 5) := ⟨⟨by decide +kernel, by decide +kernel⟩, List.mem_of_getElem? (i := 163) (by decide +kernel), List.mem_of_getElem? (i := 591) (by decide +kernel), List.mem_of_getElem? (i := 592) (by decide +kernel)⟩
theorem lw_p20 : lw_okq (⟨"SkewPlan", "traceRefusal", "(IIII)I"⟩, 9) := ⟨⟨by decide +kernel, by decide +kernel⟩, List.mem_of_getElem? (i := 18) (by decide +kernel), List.mem_of_getElem? (i := 613) (by decide +kernel), List.mem_of_getElem? (i := 614) (by decide +kernel)⟩
theorem lw_p21 : lw_okq (⟨"SkewPlan", "placesOfAllTraces", "()I"⟩, 9) := ⟨⟨by decide +kernel, by decide +kernel⟩, List.mem_of_getElem? (i := 18) (by decide +kernel), List.mem_of_getElem? (i := 668) (by decide +kernel), List.mem_of_getElem? (i := 669) (by decide +kernel)⟩
theorem lw_p22 : lw_okq (⟨"SkewPlanModel", "anew", "(I)V"⟩, 35) := ⟨⟨by decide +kernel, by decide +kernel⟩, List.mem_of_getElem? (i := 677) (by decide +kernel), List.mem_of_getElem? (i := 683) (by decide +kernel), List.mem_of_getElem? (i := 684) (by decide +kernel)⟩
theorem lw_p23 : lw_okq (⟨"SkewPlanModel", "copyRow", "(II)V"⟩, 35) := ⟨⟨by decide +kernel, by decide +kernel⟩, List.mem_of_getElem? (i := 677) (by decide +kernel), List.mem_of_getElem? (i := 687) (by decide +kernel), List.mem_of_getElem? (i := 688) (by decide +kernel)⟩
theorem lw_p24 : lw_okq (⟨"SkewPlanModel", "reads", "(Z)Z"⟩, 35) := ⟨⟨by decide +kernel, by decide +kernel⟩, List.mem_of_getElem? (i := 677) (by decide +kernel), List.mem_of_getElem? (i := 814) (by decide +kernel), List.mem_of_getElem? (i := 815) (by decide +kernel)⟩
theorem lw_p25 : lw_okq (⟨"SkewPlanModel", "nextToken", "()V"⟩, 35) := ⟨⟨by decide +kernel, by decide +kernel⟩, List.mem_of_getElem? (i := 677) (by decide +kernel), List.mem_of_getElem? (i := 818) (by decide +kernel), List.mem_of_getElem? (i := 819) (by decide +kernel)⟩
theorem lw_p26 : lw_okq (⟨"SkewPlanModel", "readsClause", "()Z"⟩, 35) := ⟨⟨by decide +kernel, by decide +kernel⟩, List.mem_of_getElem? (i := 677) (by decide +kernel), List.mem_of_getElem? (i := 832) (by decide +kernel), List.mem_of_getElem? (i := 833) (by decide +kernel)⟩
theorem lw_p27 : lw_okq (⟨"SkewPlanModel", "wordHere", "()I"⟩, 35) := ⟨⟨by decide +kernel, by decide +kernel⟩, List.mem_of_getElem? (i := 677) (by decide +kernel), List.mem_of_getElem? (i := 836) (by decide +kernel), List.mem_of_getElem? (i := 837) (by decide +kernel)⟩
theorem lw_p28 : lw_okq (⟨"SkewPlanModel", "isWord", "([I)Z"⟩, 35) := ⟨⟨by decide +kernel, by decide +kernel⟩, List.mem_of_getElem? (i := 677) (by decide +kernel), List.mem_of_getElem? (i := 840) (by decide +kernel), List.mem_of_getElem? (i := 841) (by decide +kernel)⟩
theorem lw_p29 : lw_okq (⟨"SkewPlanModel", "readsNumbers", "(I)Z"⟩, 35) := ⟨⟨by decide +kernel, by decide +kernel⟩, List.mem_of_getElem? (i := 677) (by decide +kernel), List.mem_of_getElem? (i := 844) (by decide +kernel), List.mem_of_getElem? (i := 845) (by decide +kernel)⟩
theorem lw_p30 : lw_okq (⟨"SkewPlanModel", "number", "(III)Z"⟩, 35) := ⟨⟨by decide +kernel, by decide +kernel⟩, List.mem_of_getElem? (i := 677) (by decide +kernel), List.mem_of_getElem? (i := 848) (by decide +kernel), List.mem_of_getElem? (i := 849) (by decide +kernel)⟩
theorem lw_p31 : lw_okq (⟨"SkewPlanModel", "does", "(I)V"⟩, 35) := ⟨⟨by decide +kernel, by decide +kernel⟩, List.mem_of_getElem? (i := 677) (by decide +kernel), List.mem_of_getElem? (i := 852) (by decide +kernel), List.mem_of_getElem? (i := 853) (by decide +kernel)⟩
def lw_privs_2 : List (MethodName × Nat) := [(⟨"SkewPlan$Planner", "closesFrom", "(II)Z"⟩, 7), (⟨"SkewPlan$Planner", "isInRing", "(II)Z"⟩, 7), (⟨"SkewPlan$Trace", "putNumber", "(ID)V"⟩, 5), (⟨"SkewPlan$Trace", "putNoNumber", "(I)V"⟩, 5), (⟨"SkewPlan", "traceRefusal", "(IIII)I"⟩, 9), (⟨"SkewPlan", "placesOfAllTraces", "()I"⟩, 9), (⟨"SkewPlanModel", "anew", "(I)V"⟩, 35), (⟨"SkewPlanModel", "copyRow", "(II)V"⟩, 35), (⟨"SkewPlanModel", "reads", "(Z)Z"⟩, 35), (⟨"SkewPlanModel", "nextToken", "()V"⟩, 35), (⟨"SkewPlanModel", "readsClause", "()Z"⟩, 35), (⟨"SkewPlanModel", "wordHere", "()I"⟩, 35), (⟨"SkewPlanModel", "isWord", "([I)Z"⟩, 35), (⟨"SkewPlanModel", "readsNumbers", "(I)Z"⟩, 35), (⟨"SkewPlanModel", "number", "(III)Z"⟩, 35), (⟨"SkewPlanModel", "does", "(I)V"⟩, 35)]
theorem lw_r2 : ∀ q ∈ lw_privs_2, lw_okq q := List.forall_mem_cons.mpr ⟨lw_p16, List.forall_mem_cons.mpr ⟨lw_p17, List.forall_mem_cons.mpr ⟨lw_p18, List.forall_mem_cons.mpr ⟨lw_p19, List.forall_mem_cons.mpr ⟨lw_p20, List.forall_mem_cons.mpr ⟨lw_p21, List.forall_mem_cons.mpr ⟨lw_p22, List.forall_mem_cons.mpr ⟨lw_p23, List.forall_mem_cons.mpr ⟨lw_p24, List.forall_mem_cons.mpr ⟨lw_p25, List.forall_mem_cons.mpr ⟨lw_p26, List.forall_mem_cons.mpr ⟨lw_p27, List.forall_mem_cons.mpr ⟨lw_p28, List.forall_mem_cons.mpr ⟨lw_p29, List.forall_mem_cons.mpr ⟨lw_p30, List.forall_mem_cons.mpr ⟨lw_p31, fun _ h => absurd h List.not_mem_nil⟩⟩⟩⟩⟩⟩⟩⟩⟩⟩⟩⟩⟩⟩⟩⟩
theorem lw_p32 : lw_okq (⟨"SkewPlanModel", "isPath", "(I)Z"⟩, 35) := ⟨⟨by decide +kernel, by decide +kernel⟩, List.mem_of_getElem? (i := 677) (by decide +kernel), List.mem_of_getElem? (i := 864) (by decide +kernel), List.mem_of_getElem? (i := 865) (by decide +kernel)⟩
theorem lw_p33 : lw_okq (⟨"SkewPlanModel", "lateOf", "(II)I"⟩, 35) := ⟨⟨by decide +kernel, by decide +kernel⟩, List.mem_of_getElem? (i := 677) (by decide +kernel), List.mem_of_getElem? (i := 868) (by decide +kernel), List.mem_of_getElem? (i := 869) (by decide +kernel)⟩
theorem lw_p34 : lw_okq (⟨"SkewPlanModel", "soonOf", "(I)I"⟩, 35) := ⟨⟨by decide +kernel, by decide +kernel⟩, List.mem_of_getElem? (i := 677) (by decide +kernel), List.mem_of_getElem? (i := 872) (by decide +kernel), List.mem_of_getElem? (i := 873) (by decide +kernel)⟩
theorem lw_p35 : lw_okq (⟨"SkewPlanModel", "keepPast", "()V"⟩, 35) := ⟨⟨by decide +kernel, by decide +kernel⟩, List.mem_of_getElem? (i := 677) (by decide +kernel), List.mem_of_getElem? (i := 881) (by decide +kernel), List.mem_of_getElem? (i := 882) (by decide +kernel)⟩
theorem lw_p36 : lw_okq (⟨"SkewPlanModel", "isFeasible", "(II)Z"⟩, 35) := ⟨⟨by decide +kernel, by decide +kernel⟩, List.mem_of_getElem? (i := 677) (by decide +kernel), List.mem_of_getElem? (i := 906) (by decide +kernel), List.mem_of_getElem? (i := 907) (by decide +kernel)⟩
theorem lw_p37 : lw_okq (⟨"SkewPlanModel", "layBounds", "(II)V"⟩, 35) := ⟨⟨by decide +kernel, by decide +kernel⟩, List.mem_of_getElem? (i := 677) (by decide +kernel), List.mem_of_getElem? (i := 910) (by decide +kernel), List.mem_of_getElem? (i := 911) (by decide +kernel)⟩
theorem lw_p38 : lw_okq (⟨"SkewPlanModel", "areThere", "()Z"⟩, 35) := ⟨⟨by decide +kernel, by decide +kernel⟩, List.mem_of_getElem? (i := 677) (by decide +kernel), List.mem_of_getElem? (i := 917) (by decide +kernel), List.mem_of_getElem? (i := 918) (by decide +kernel)⟩
theorem lw_p39 : lw_okq (⟨"SkewPlanModel", "makesLess", "(III)Z"⟩, 35) := ⟨⟨by decide +kernel, by decide +kernel⟩, List.mem_of_getElem? (i := 677) (by decide +kernel), List.mem_of_getElem? (i := 921) (by decide +kernel), List.mem_of_getElem? (i := 922) (by decide +kernel)⟩
theorem lw_p40 : lw_okq (⟨"SkewPlanModel", "isRegister", "(I)Z"⟩, 35) := ⟨⟨by decide +kernel, by decide +kernel⟩, List.mem_of_getElem? (i := 677) (by decide +kernel), List.mem_of_getElem? (i := 929) (by decide +kernel), List.mem_of_getElem? (i := 930) (by decide +kernel)⟩
theorem lw_p41 : lw_okq (⟨"SkewPlanModel", "leastOf", "()I"⟩, 35) := ⟨⟨by decide +kernel, by decide +kernel⟩, List.mem_of_getElem? (i := 677) (by decide +kernel), List.mem_of_getElem? (i := 937) (by decide +kernel), List.mem_of_getElem? (i := 938) (by decide +kernel)⟩
theorem lw_p42 : lw_okq (⟨"SkewPlanModel", "isFeasibleBy", "(II)Z"⟩, 35) := ⟨⟨by decide +kernel, by decide +kernel⟩, List.mem_of_getElem? (i := 677) (by decide +kernel), List.mem_of_getElem? (i := 945) (by decide +kernel), List.mem_of_getElem? (i := 946) (by decide +kernel)⟩
theorem lw_p43 : lw_okq (⟨"SkewPlanModel", "layLeast", "()V"⟩, 35) := ⟨⟨by decide +kernel, by decide +kernel⟩, List.mem_of_getElem? (i := 677) (by decide +kernel), List.mem_of_getElem? (i := 961) (by decide +kernel), List.mem_of_getElem? (i := 962) (by decide +kernel)⟩
theorem lw_p44 : lw_okq (⟨"SkewPlanModel", "isBelow", "()Z"⟩, 35) := ⟨⟨by decide +kernel, by decide +kernel⟩, List.mem_of_getElem? (i := 677) (by decide +kernel), List.mem_of_getElem? (i := 966) (by decide +kernel), List.mem_of_getElem? (i := 967) (by decide +kernel)⟩
theorem lw_p45 : lw_okq (⟨"SkewPlanModel", "goOn", "()V"⟩, 35) := ⟨⟨by decide +kernel, by decide +kernel⟩, List.mem_of_getElem? (i := 677) (by decide +kernel), List.mem_of_getElem? (i := 970) (by decide +kernel), List.mem_of_getElem? (i := 971) (by decide +kernel)⟩
theorem lw_p46 : lw_okq (⟨"SkewPlanModel", "nextFrom", "(I)I"⟩, 35) := ⟨⟨by decide +kernel, by decide +kernel⟩, List.mem_of_getElem? (i := 677) (by decide +kernel), List.mem_of_getElem? (i := 974) (by decide +kernel), List.mem_of_getElem? (i := 975) (by decide +kernel)⟩
theorem lw_p47 : lw_okq (⟨"SkewPlanModel", "isInRing", "(I)Z"⟩, 35) := ⟨⟨by decide +kernel, by decide +kernel⟩, List.mem_of_getElem? (i := 677) (by decide +kernel), List.mem_of_getElem? (i := 978) (by decide +kernel), List.mem_of_getElem? (i := 979) (by decide +kernel)⟩
def lw_privs_3 : List (MethodName × Nat) := [(⟨"SkewPlanModel", "isPath", "(I)Z"⟩, 35), (⟨"SkewPlanModel", "lateOf", "(II)I"⟩, 35), (⟨"SkewPlanModel", "soonOf", "(I)I"⟩, 35), (⟨"SkewPlanModel", "keepPast", "()V"⟩, 35), (⟨"SkewPlanModel", "isFeasible", "(II)Z"⟩, 35), (⟨"SkewPlanModel", "layBounds", "(II)V"⟩, 35), (⟨"SkewPlanModel", "areThere", "()Z"⟩, 35), (⟨"SkewPlanModel", "makesLess", "(III)Z"⟩, 35), (⟨"SkewPlanModel", "isRegister", "(I)Z"⟩, 35), (⟨"SkewPlanModel", "leastOf", "()I"⟩, 35), (⟨"SkewPlanModel", "isFeasibleBy", "(II)Z"⟩, 35), (⟨"SkewPlanModel", "layLeast", "()V"⟩, 35), (⟨"SkewPlanModel", "isBelow", "()Z"⟩, 35), (⟨"SkewPlanModel", "goOn", "()V"⟩, 35), (⟨"SkewPlanModel", "nextFrom", "(I)I"⟩, 35), (⟨"SkewPlanModel", "isInRing", "(I)Z"⟩, 35)]
theorem lw_r3 : ∀ q ∈ lw_privs_3, lw_okq q := List.forall_mem_cons.mpr ⟨lw_p32, List.forall_mem_cons.mpr ⟨lw_p33, List.forall_mem_cons.mpr ⟨lw_p34, List.forall_mem_cons.mpr ⟨lw_p35, List.forall_mem_cons.mpr ⟨lw_p36, List.forall_mem_cons.mpr ⟨lw_p37, List.forall_mem_cons.mpr ⟨lw_p38, List.forall_mem_cons.mpr ⟨lw_p39, List.forall_mem_cons.mpr ⟨lw_p40, List.forall_mem_cons.mpr ⟨lw_p41, List.forall_mem_cons.mpr ⟨lw_p42, List.forall_mem_cons.mpr ⟨lw_p43, List.forall_mem_cons.mpr ⟨lw_p44, List.forall_mem_cons.mpr ⟨lw_p45, List.forall_mem_cons.mpr ⟨lw_p46, List.forall_mem_cons.mpr ⟨lw_p47, fun _ h => absurd h List.not_mem_nil⟩⟩⟩⟩⟩⟩⟩⟩⟩⟩⟩⟩⟩⟩⟩⟩
theorem lw_p48 : lw_okq (⟨"SkewPlanModel", "noPlace", "(IIII)I"⟩, 35) := ⟨⟨by decide +kernel, by decide +kernel⟩, List.mem_of_getElem? (i := 677) (by decide +kernel), List.mem_of_getElem? (i := 1000) (by decide +kernel), List.mem_of_getElem? (i := 1001) (by decide +kernel)⟩
theorem lw_p49 : lw_okq (⟨"SkewPlanModel", "thousand", "(II)I"⟩, 35) := ⟨⟨by decide +kernel, by decide +kernel⟩, List.mem_of_getElem? (i := 677) (by decide +kernel), List.mem_of_getElem? (i := 1004) (by decide +kernel), List.mem_of_getElem? (i := 1005) (by decide +kernel)⟩
theorem lw_p50 : lw_okq (⟨"SkewPlanModel", "valueOf", "(II)D"⟩, 35) := ⟨⟨by decide +kernel, by decide +kernel⟩, List.mem_of_getElem? (i := 677) (by decide +kernel), List.mem_of_getElem? (i := 1030) (by decide +kernel), List.mem_of_getElem? (i := 1031) (by decide +kernel)⟩
theorem lw_p51 : lw_okq (⟨"SkewPlanModel", "allPlaces", "()I"⟩, 35) := ⟨⟨by decide +kernel, by decide +kernel⟩, List.mem_of_getElem? (i := 677) (by decide +kernel), List.mem_of_getElem? (i := 1046) (by decide +kernel), List.mem_of_getElem? (i := 1047) (by decide +kernel)⟩
theorem lw_p52 : lw_okq (⟨"SkewPlanModel", "tooSoon", "()I"⟩, 35) := ⟨⟨by decide +kernel, by decide +kernel⟩, List.mem_of_getElem? (i := 677) (by decide +kernel), List.mem_of_getElem? (i := 1050) (by decide +kernel), List.mem_of_getElem? (i := 1051) (by decide +kernel)⟩
def lw_privs_4 : List (MethodName × Nat) := [(⟨"SkewPlanModel", "noPlace", "(IIII)I"⟩, 35), (⟨"SkewPlanModel", "thousand", "(II)I"⟩, 35), (⟨"SkewPlanModel", "valueOf", "(II)D"⟩, 35), (⟨"SkewPlanModel", "allPlaces", "()I"⟩, 35), (⟨"SkewPlanModel", "tooSoon", "()I"⟩, 35)]
theorem lw_r4 : ∀ q ∈ lw_privs_4, lw_okq q := List.forall_mem_cons.mpr ⟨lw_p48, List.forall_mem_cons.mpr ⟨lw_p49, List.forall_mem_cons.mpr ⟨lw_p50, List.forall_mem_cons.mpr ⟨lw_p51, List.forall_mem_cons.mpr ⟨lw_p52, fun _ h => absurd h List.not_mem_nil⟩⟩⟩⟩⟩
def lw_privs : List (MethodName × Nat) := lw_privs_1 ++ (lw_privs_2 ++ (lw_privs_3 ++ (lw_privs_4)))
def lw_tbl : List Cond := k2_sels lw_privs ++ tables_1
theorem lw_privs_ok : ∀ q ∈ lw_privs, lw_okq q := by
  show ∀ q ∈ lw_privs_1 ++ (lw_privs_2 ++ (lw_privs_3 ++ (lw_privs_4))), lw_okq q
  exact List.forall_mem_append.mpr ⟨lw_r1, List.forall_mem_append.mpr ⟨lw_r2, List.forall_mem_append.mpr ⟨lw_r3, lw_r4⟩⟩⟩
/-- the streams that the claim lets the run draw from -/
abbrev lw_cs : List Choice := [Jvm.Choice.named "NaN.bits"]
theorem lw_bits : nanBits ∈ lw_cs := by first | decide | exact List.mem_cons_self | simp [lw_cs, nanBits]
-- ===== end of PART A; then your names; then what follows =====
def RX0 : String := "SkewPlan$1"
def TX0 : u_T := fun k => match k with
  | _ => ("", "", "", false)
def tyX0 : Nat → FieldType := fun k => match k with
  | _ => .int
abbrev wsX00 : List Cond := u_ws RX0 TX0 0
theorem nmX0 : ∀ a, a < 0 → ∀ b, b < 0 → a ≠ b → (TX0 a).2.1 ≠ (TX0 b).2.1 := by decide +kernel
theorem tyX0_ok : ∀ k, k < 0 → parseFieldDescriptor (TX0 k).2.2.1 = some (tyX0 k) := by decide +kernel
def RX1 : String := "SkewPlan$History"
def TX1 : u_T := fun k => match k with
  | 0 => ("SkewPlan$History", "paths", "[I", true)
  | 1 => ("SkewPlan$History", "amounts", "[I", true)
  | 2 => ("SkewPlan$History", "next", "I", false)
  | _ => ("SkewPlan$History", "size", "I", false)
def tyX1 : Nat → FieldType := fun k => match k with
  | 0 => .array .int
  | 1 => .array .int
  | 2 => .int
  | _ => .int
abbrev wsX10 : List Cond := u_ws RX1 TX1 4
theorem nmX1 : ∀ a, a < 4 → ∀ b, b < 4 → a ≠ b → (TX1 a).2.1 ≠ (TX1 b).2.1 := by decide +kernel
theorem tyX1_ok : ∀ k, k < 4 → parseFieldDescriptor (TX1 k).2.2.1 = some (tyX1 k) := by decide +kernel
abbrev cX1_init : ByteArray := prog_3_method_1_code
def yX1_init : MethodName := ⟨RX1, "<init>", "()V"⟩
abbrev cX1_size : ByteArray := prog_3_method_2_code
def yX1_size : MethodName := ⟨RX1, "size", "()I"⟩
abbrev cX1_clear : ByteArray := prog_3_method_3_code
def yX1_clear : MethodName := ⟨RX1, "clear", "()V"⟩
abbrev cX1_push : ByteArray := prog_3_method_4_code
def yX1_push : MethodName := ⟨RX1, "push", "(II)V"⟩
abbrev cX1_revertLatest : ByteArray := prog_3_method_5_code
def yX1_revertLatest : MethodName := ⟨RX1, "revertLatest", "(LSkewPlan$Net;)V"⟩
def RX2 : String := "SkewPlan$Net"
def TX2 : u_T := fun k => match k with
  | 0 => ("SkewPlan$Net", "registers", "I", false)
  | 1 => ("SkewPlan$Net", "setup", "I", false)
  | 2 => ("SkewPlan$Net", "hold", "I", false)
  | 3 => ("SkewPlan$Net", "step", "I", false)
  | 4 => ("SkewPlan$Net", "period", "I", false)
  | 5 => ("SkewPlan$Net", "paths", "I", false)
  | 6 => ("SkewPlan$Net", "from", "[I", true)
  | 7 => ("SkewPlan$Net", "to", "[I", true)
  | 8 => ("SkewPlan$Net", "longs", "[I", true)
  | _ => ("SkewPlan$Net", "shorts", "[I", true)
def tyX2 : Nat → FieldType := fun k => match k with
  | 0 => .int
  | 1 => .int
  | 2 => .int
  | 3 => .int
  | 4 => .int
  | 5 => .int
  | 6 => .array .int
  | 7 => .array .int
  | 8 => .array .int
  | _ => .array .int
abbrev wsX20 : List Cond := u_ws RX2 TX2 10
theorem nmX2 : ∀ a, a < 10 → ∀ b, b < 10 → a ≠ b → (TX2 a).2.1 ≠ (TX2 b).2.1 := by decide +kernel
theorem tyX2_ok : ∀ k, k < 10 → parseFieldDescriptor (TX2 k).2.2.1 = some (tyX2 k) := by decide +kernel
abbrev cX2_init : ByteArray := prog_4_method_1_code
def yX2_init : MethodName := ⟨RX2, "<init>", "()V"⟩
abbrev cX2_begin : ByteArray := prog_4_method_2_code
def yX2_begin : MethodName := ⟨RX2, "begin", "(I)V"⟩
abbrev cX2_copyFrom : ByteArray := prog_4_method_3_code
def yX2_copyFrom : MethodName := ⟨RX2, "copyFrom", "(LSkewPlan$Net;)V"⟩
abbrev cX2_tell : ByteArray := prog_4_method_4_code
def yX2_tell : MethodName := ⟨RX2, "tell", "(LSkewPlan$Word;I)V"⟩
abbrev cX2_hasAllPaths : ByteArray := prog_4_method_5_code
def yX2_hasAllPaths : MethodName := ⟨RX2, "hasAllPaths", "()Z"⟩
abbrev cX2_addPath : ByteArray := prog_4_method_6_code
def yX2_addPath : MethodName := ⟨RX2, "addPath", "(IIII)V"⟩
abbrev cX2_canBeSlower : ByteArray := prog_4_method_7_code
def yX2_canBeSlower : MethodName := ⟨RX2, "canBeSlower", "(II)Z"⟩
abbrev cX2_delay : ByteArray := prog_4_method_8_code
def yX2_delay : MethodName := ⟨RX2, "delay", "(II)V"⟩
abbrev cX2_lateBound : ByteArray := prog_4_method_9_code
def yX2_lateBound : MethodName := ⟨RX2, "lateBound", "(I)I"⟩
abbrev cX2_soonBound : ByteArray := prog_4_method_10_code
def yX2_soonBound : MethodName := ⟨RX2, "soonBound", "(I)I"⟩
abbrev cX2_tooSoonCount : ByteArray := prog_4_method_11_code
def yX2_tooSoonCount : MethodName := ⟨RX2, "tooSoonCount", "()I"⟩
def RX3 : String := "SkewPlan$Planner"
def TX3 : u_T := fun k => match k with
  | 0 => ("SkewPlan$Planner", "bounds", "[[I", true)
  | 1 => ("SkewPlan$Planner", "shifts", "[I", true)
  | 2 => ("SkewPlan$Planner", "ring", "[I", true)
  | 3 => ("SkewPlan$Planner", "registers", "I", false)
  | 4 => ("SkewPlan$Planner", "ringLength", "I", false)
  | 5 => ("SkewPlan$Planner", "rateAbove", "I", false)
  | _ => ("SkewPlan$Planner", "rateBelow", "I", false)
def tyX3 : Nat → FieldType := fun k => match k with
  | 0 => .array (.array .int)
  | 1 => .array .int
  | 2 => .array .int
  | 3 => .int
  | 4 => .int
  | 5 => .int
  | _ => .int
abbrev wsX30 : List Cond := u_ws RX3 TX3 7
theorem nmX3 : ∀ a, a < 7 → ∀ b, b < 7 → a ≠ b → (TX3 a).2.1 ≠ (TX3 b).2.1 := by decide +kernel
theorem tyX3_ok : ∀ k, k < 7 → parseFieldDescriptor (TX3 k).2.2.1 = some (tyX3 k) := by decide +kernel
abbrev cX3_init : ByteArray := prog_5_method_1_code
def yX3_init : MethodName := ⟨RX3, "<init>", "()V"⟩
abbrev cX3_shiftOf : ByteArray := prog_5_method_2_code
def yX3_shiftOf : MethodName := ⟨RX3, "shiftOf", "(I)I"⟩
abbrev cX3_ringLength : ByteArray := prog_5_method_3_code
def yX3_ringLength : MethodName := ⟨RX3, "ringLength", "()I"⟩
abbrev cX3_ringRegister : ByteArray := prog_5_method_4_code
def yX3_ringRegister : MethodName := ⟨RX3, "ringRegister", "(I)I"⟩
abbrev cX3_rateAbove : ByteArray := prog_5_method_5_code
def yX3_rateAbove : MethodName := ⟨RX3, "rateAbove", "()I"⟩
abbrev cX3_rateBelow : ByteArray := prog_5_method_6_code
def yX3_rateBelow : MethodName := ⟨RX3, "rateBelow", "()I"⟩
abbrev cX3_settlesNow : ByteArray := prog_5_method_7_code
def yX3_settlesNow : MethodName := ⟨RX3, "settlesNow", "(LSkewPlan$Net;)Z"⟩
abbrev cX3_settlesWithMargin : ByteArray := prog_5_method_8_code
def yX3_settlesWithMargin : MethodName := ⟨RX3, "settlesWithMargin", "(LSkewPlan$Net;I)Z"⟩
abbrev cX3_settlesAtPeriod : ByteArray := prog_5_method_9_code
def yX3_settlesAtPeriod : MethodName := ⟨RX3, "settlesAtPeriod", "(LSkewPlan$Net;III)Z"⟩
abbrev cX3_leastPeriod : ByteArray := prog_5_method_10_code
def yX3_leastPeriod : MethodName := ⟨RX3, "leastPeriod", "(LSkewPlan$Net;)I"⟩
abbrev cX3_leastPeriodAbove : ByteArray := prog_5_method_11_code
def yX3_leastPeriodAbove : MethodName := ⟨RX3, "leastPeriodAbove", "(LSkewPlan$Net;II)I"⟩
abbrev cX3_findRate : ByteArray := prog_5_method_12_code
def yX3_findRate : MethodName := ⟨RX3, "findRate", "(LSkewPlan$Net;)Z"⟩
abbrev cX3_greatestMargin : ByteArray := prog_5_method_13_code
def yX3_greatestMargin : MethodName := ⟨RX3, "greatestMargin", "(LSkewPlan$Net;)I"⟩
abbrev cX3_layBounds : ByteArray := prog_5_method_14_code
def yX3_layBounds : MethodName := ⟨RX3, "layBounds", "(LSkewPlan$Net;IIII)V"⟩
abbrev cX3_tighten : ByteArray := prog_5_method_15_code
def yX3_tighten : MethodName := ⟨RX3, "tighten", "(IIII)V"⟩
abbrev cX3_settle : ByteArray := prog_5_method_16_code
def yX3_settle : MethodName := ⟨RX3, "settle", "()Z"⟩
abbrev cX3_lowerOnce : ByteArray := prog_5_method_17_code
def yX3_lowerOnce : MethodName := ⟨RX3, "lowerOnce", "()Z"⟩
abbrev cX3_findRing : ByteArray := prog_5_method_18_code
def yX3_findRing : MethodName := ⟨RX3, "findRing", "()Z"⟩
abbrev cX3_closesFrom : ByteArray := prog_5_method_19_code
def yX3_closesFrom : MethodName := ⟨RX3, "closesFrom", "(II)Z"⟩
abbrev cX3_isInRing : ByteArray := prog_5_method_20_code
def yX3_isInRing : MethodName := ⟨RX3, "isInRing", "(II)Z"⟩
def RX4 : String := "SkewPlan$Text"
def TX4 : u_T := fun k => match k with
  | 0 => ("SkewPlan$Text", "letters", "[C", true)
  | 1 => ("SkewPlan$Text", "length", "I", false)
  | 2 => ("SkewPlan$Text", "clauses", "I", false)
  | 3 => ("SkewPlan$Text", "tokenStart", "I", false)
  | _ => ("SkewPlan$Text", "tokenEnd", "I", false)
def tyX4 : Nat → FieldType := fun k => match k with
  | 0 => .array .char
  | 1 => .int
  | 2 => .int
  | 3 => .int
  | _ => .int
abbrev wsX40 : List Cond := u_ws RX4 TX4 5
theorem nmX4 : ∀ a, a < 5 → ∀ b, b < 5 → a ≠ b → (TX4 a).2.1 ≠ (TX4 b).2.1 := by decide +kernel
theorem tyX4_ok : ∀ k, k < 5 → parseFieldDescriptor (TX4 k).2.2.1 = some (tyX4 k) := by decide +kernel
abbrev cX4_init : ByteArray := prog_6_method_1_code
def yX4_init : MethodName := ⟨RX4, "<init>", "()V"⟩
abbrev cX4_letterCount : ByteArray := prog_6_method_2_code
def yX4_letterCount : MethodName := ⟨RX4, "letterCount", "()I"⟩
abbrev cX4_clauseCount : ByteArray := prog_6_method_3_code
def yX4_clauseCount : MethodName := ⟨RX4, "clauseCount", "()I"⟩
abbrev cX4_clear : ByteArray := prog_6_method_4_code
def yX4_clear : MethodName := ⟨RX4, "clear", "()V"⟩
abbrev cX4_append : ByteArray := prog_6_method_5_code
def yX4_append : MethodName := ⟨RX4, "append", "(C)Z"⟩
abbrev cX4_read : ByteArray := prog_6_method_6_code
def yX4_read : MethodName := ⟨RX4, "read", "(LSkewPlan$Net;LSkewPlan$Net;)I"⟩
abbrev cX4_isAtEnd : ByteArray := prog_6_method_7_code
def yX4_isAtEnd : MethodName := ⟨RX4, "isAtEnd", "()Z"⟩
abbrev cX4_advance : ByteArray := prog_6_method_8_code
def yX4_advance : MethodName := ⟨RX4, "advance", "()V"⟩
abbrev cX4_isSmall : ByteArray := prog_6_method_9_code
def yX4_isSmall : MethodName := ⟨RX4, "isSmall", "(C)Z"⟩
abbrev cX4_isDigit : ByteArray := prog_6_method_10_code
def yX4_isDigit : MethodName := ⟨RX4, "isDigit", "(C)Z"⟩
abbrev cX4_readClause : ByteArray := prog_6_method_11_code
def yX4_readClause : MethodName := ⟨RX4, "readClause", "(LSkewPlan$Net;)Z"⟩
abbrev cX4_readPath : ByteArray := prog_6_method_12_code
def yX4_readPath : MethodName := ⟨RX4, "readPath", "(LSkewPlan$Net;)Z"⟩
abbrev cX4_wordHere : ByteArray := prog_6_method_13_code
def yX4_wordHere : MethodName := ⟨RX4, "wordHere", "()I"⟩
abbrev cX4_isSpelled : ByteArray := prog_6_method_14_code
def yX4_isSpelled : MethodName := ⟨RX4, "isSpelled", "(Ljava/lang/String;)Z"⟩
abbrev cX4_readNumber : ByteArray := prog_6_method_15_code
def yX4_readNumber : MethodName := ⟨RX4, "readNumber", "(II)I"⟩
def RX5 : String := "SkewPlan$Trace"
def TX5 : u_T := fun k => match k with
  | 0 => ("SkewPlan$Trace", "values", "[D", true)
  | 1 => ("SkewPlan$Trace", "isNoNumber", "[Z", true)
  | 2 => ("SkewPlan$Trace", "isPresent", "Z", false)
  | 3 => ("SkewPlan$Trace", "sort", "I", false)
  | _ => ("SkewPlan$Trace", "places", "I", false)
def tyX5 : Nat → FieldType := fun k => match k with
  | 0 => .array .double
  | 1 => .array .boolean
  | 2 => .boolean
  | 3 => .int
  | _ => .int
abbrev wsX50 : List Cond := u_ws RX5 TX5 5
theorem nmX5 : ∀ a, a < 5 → ∀ b, b < 5 → a ≠ b → (TX5 a).2.1 ≠ (TX5 b).2.1 := by decide +kernel
theorem tyX5_ok : ∀ k, k < 5 → parseFieldDescriptor (TX5 k).2.2.1 = some (tyX5 k) := by decide +kernel
abbrev cX5_init : ByteArray := prog_7_method_1_code
def yX5_init : MethodName := ⟨RX5, "<init>", "()V"⟩
abbrev cX5_isMissing : ByteArray := prog_7_method_2_code
def yX5_isMissing : MethodName := ⟨RX5, "isMissing", "()Z"⟩
abbrev cX5_placeCount : ByteArray := prog_7_method_3_code
def yX5_placeCount : MethodName := ⟨RX5, "placeCount", "()I"⟩
abbrev cX5_lose : ByteArray := prog_7_method_4_code
def yX5_lose : MethodName := ⟨RX5, "lose", "()V"⟩
abbrev cX5_renew : ByteArray := prog_7_method_5_code
def yX5_renew : MethodName := ⟨RX5, "renew", "(II)V"⟩
abbrev cX5_finding : ByteArray := prog_7_method_6_code
def yX5_finding : MethodName := ⟨RX5, "finding", "(III)I"⟩
abbrev cX5_putNumber : ByteArray := prog_7_method_7_code
def yX5_putNumber : MethodName := ⟨RX5, "putNumber", "(ID)V"⟩
abbrev cX5_putNoNumber : ByteArray := prog_7_method_8_code
def yX5_putNoNumber : MethodName := ⟨RX5, "putNoNumber", "(I)V"⟩
abbrev cX5_putQuotient : ByteArray := prog_7_method_9_code
def yX5_putQuotient : MethodName := ⟨RX5, "putQuotient", "(III)V"⟩
abbrev cX5_putRemainder : ByteArray := prog_7_method_10_code
def yX5_putRemainder : MethodName := ⟨RX5, "putRemainder", "(II)V"⟩
abbrev cX5_remainder : ByteArray := prog_7_method_11_code
def yX5_remainder : MethodName := ⟨RX5, "remainder", "(DD)D"⟩
abbrev cX5_isEndless : ByteArray := prog_7_method_12_code
def yX5_isEndless : MethodName := ⟨RX5, "isEndless", "(D)Z"⟩
abbrev cX5_order : ByteArray := prog_7_method_13_code
def yX5_order : MethodName := ⟨RX5, "order", "(II)I"⟩
abbrev cX5_thousandAt : ByteArray := prog_7_method_14_code
def yX5_thousandAt : MethodName := ⟨RX5, "thousandAt", "(I)I"⟩
abbrev cX5_thousandOfAll : ByteArray := prog_7_method_15_code
def yX5_thousandOfAll : MethodName := ⟨RX5, "thousandOfAll", "()I"⟩
abbrev cX5_cutThousand : ByteArray := prog_7_method_16_code
def yX5_cutThousand : MethodName := ⟨RX5, "cutThousand", "(D)I"⟩
abbrev cX5_noNumberCount : ByteArray := prog_7_method_17_code
def yX5_noNumberCount : MethodName := ⟨RX5, "noNumberCount", "()I"⟩
def RX6 : String := "SkewPlan$Word"
def TX6 : u_T := fun k => match k with
  | _ => ("", "", "", false)
def tyX6 : Nat → FieldType := fun k => match k with
  | _ => .int
abbrev wsX60 : List Cond := u_ws RX6 TX6 0
theorem nmX6 : ∀ a, a < 0 → ∀ b, b < 0 → a ≠ b → (TX6 a).2.1 ≠ (TX6 b).2.1 := by decide +kernel
theorem tyX6_ok : ∀ k, k < 0 → parseFieldDescriptor (TX6 k).2.2.1 = some (tyX6 k) := by decide +kernel
def RX7 : String := "SkewPlan"
def TX7 : u_T := fun k => match k with
  | 0 => ("SkewPlan", "text", "LSkewPlan$Text;", true)
  | 1 => ("SkewPlan", "told", "LSkewPlan$Net;", true)
  | 2 => ("SkewPlan", "now", "LSkewPlan$Net;", true)
  | 3 => ("SkewPlan", "scratch", "LSkewPlan$Net;", true)
  | 4 => ("SkewPlan", "kept", "[LSkewPlan$Net;", true)
  | 5 => ("SkewPlan", "isKept", "[Z", true)
  | 6 => ("SkewPlan", "history", "LSkewPlan$History;", true)
  | 7 => ("SkewPlan", "planner", "LSkewPlan$Planner;", true)
  | _ => ("SkewPlan", "traces", "[LSkewPlan$Trace;", true)
def tyX7 : Nat → FieldType := fun k => match k with
  | 0 => .object "SkewPlan$Text"
  | 1 => .object "SkewPlan$Net"
  | 2 => .object "SkewPlan$Net"
  | 3 => .object "SkewPlan$Net"
  | 4 => .array (.object "SkewPlan$Net")
  | 5 => .array .boolean
  | 6 => .object "SkewPlan$History"
  | 7 => .object "SkewPlan$Planner"
  | _ => .array (.object "SkewPlan$Trace")
abbrev wsX70 : List Cond := u_ws RX7 TX7 9
theorem nmX7 : ∀ a, a < 9 → ∀ b, b < 9 → a ≠ b → (TX7 a).2.1 ≠ (TX7 b).2.1 := by decide +kernel
theorem tyX7_ok : ∀ k, k < 9 → parseFieldDescriptor (TX7 k).2.2.1 = some (tyX7 k) := by decide +kernel
abbrev cX7_init : ByteArray := prog_1_method_1_code
def yX7_init : MethodName := ⟨RX7, "<init>", "()V"⟩
abbrev cX7_write : ByteArray := prog_1_method_2_code
def yX7_write : MethodName := ⟨RX7, "write", "(I)I"⟩
abbrev cX7_erase : ByteArray := prog_1_method_3_code
def yX7_erase : MethodName := ⟨RX7, "erase", "()I"⟩
abbrev cX7_fault : ByteArray := prog_1_method_4_code
def yX7_fault : MethodName := ⟨RX7, "fault", "()I"⟩
abbrev cX7_net : ByteArray := prog_1_method_5_code
def yX7_net : MethodName := ⟨RX7, "net", "()I"⟩
abbrev cX7_path : ByteArray := prog_1_method_6_code
def yX7_path : MethodName := ⟨RX7, "path", "(II)I"⟩
abbrev cX7_period : ByteArray := prog_1_method_7_code
def yX7_period : MethodName := ⟨RX7, "period", "(I)I"⟩
abbrev cX7_slower : ByteArray := prog_1_method_8_code
def yX7_slower : MethodName := ⟨RX7, "slower", "(II)I"⟩
abbrev cX7_undo : ByteArray := prog_1_method_9_code
def yX7_undo : MethodName := ⟨RX7, "undo", "()I"⟩
abbrev cX7_keep : ByteArray := prog_1_method_10_code
def yX7_keep : MethodName := ⟨RX7, "keep", "(I)I"⟩
abbrev cX7_back : ByteArray := prog_1_method_11_code
def yX7_back : MethodName := ⟨RX7, "back", "(I)I"⟩
abbrev cX7_feasible : ByteArray := prog_1_method_12_code
def yX7_feasible : MethodName := ⟨RX7, "feasible", "()I"⟩
abbrev cX7_shift : ByteArray := prog_1_method_13_code
def yX7_shift : MethodName := ⟨RX7, "shift", "(I)I"⟩
abbrev cX7_least : ByteArray := prog_1_method_14_code
def yX7_least : MethodName := ⟨RX7, "least", "()I"⟩
abbrev cX7_rate : ByteArray := prog_1_method_15_code
def yX7_rate : MethodName := ⟨RX7, "rate", "(I)I"⟩
abbrev cX7_margin : ByteArray := prog_1_method_16_code
def yX7_margin : MethodName := ⟨RX7, "margin", "()I"⟩
abbrev cX7_spare : ByteArray := prog_1_method_17_code
def yX7_spare : MethodName := ⟨RX7, "spare", "(II)I"⟩
abbrev cX7_cycle : ByteArray := prog_1_method_18_code
def yX7_cycle : MethodName := ⟨RX7, "cycle", "(I)I"⟩
abbrev cX7_buffer : ByteArray := prog_1_method_19_code
def yX7_buffer : MethodName := ⟨RX7, "buffer", "(I)I"⟩
abbrev cX7_trace : ByteArray := prog_1_method_20_code
def yX7_trace : MethodName := ⟨RX7, "trace", "(III)I"⟩
abbrev cX7_set : ByteArray := prog_1_method_21_code
def yX7_set : MethodName := ⟨RX7, "set", "(IIIII)I"⟩
abbrev cX7_get : ByteArray := prog_1_method_22_code
def yX7_get : MethodName := ⟨RX7, "get", "(III)I"⟩
abbrev cX7_rest : ByteArray := prog_1_method_23_code
def yX7_rest : MethodName := ⟨RX7, "rest", "(IIII)I"⟩
abbrev cX7_compare : ByteArray := prog_1_method_24_code
def yX7_compare : MethodName := ⟨RX7, "compare", "(IIII)I"⟩
abbrev cX7_sum : ByteArray := prog_1_method_25_code
def yX7_sum : MethodName := ⟨RX7, "sum", "(II)I"⟩
abbrev cX7_drop : ByteArray := prog_1_method_26_code
def yX7_drop : MethodName := ⟨RX7, "drop", "(I)I"⟩
abbrev cX7_count : ByteArray := prog_1_method_27_code
def yX7_count : MethodName := ⟨RX7, "count", "(I)I"⟩
abbrev cX7_isWithin : ByteArray := prog_1_method_28_code
def yX7_isWithin : MethodName := ⟨RX7, "isWithin", "(III)Z"⟩
abbrev cX7_isPath : ByteArray := prog_1_method_29_code
def yX7_isPath : MethodName := ⟨RX7, "isPath", "(I)Z"⟩
abbrev cX7_isKeptPlace : ByteArray := prog_1_method_30_code
def yX7_isKeptPlace : MethodName := ⟨RX7, "isKeptPlace", "(I)Z"⟩
abbrev cX7_isTrace : ByteArray := prog_1_method_31_code
def yX7_isTrace : MethodName := ⟨RX7, "isTrace", "(I)Z"⟩
abbrev cX7_isSort : ByteArray := prog_1_method_32_code
def yX7_isSort : MethodName := ⟨RX7, "isSort", "(I)Z"⟩
abbrev cX7_isQuotientPart : ByteArray := prog_1_method_33_code
def yX7_isQuotientPart : MethodName := ⟨RX7, "isQuotientPart", "(I)Z"⟩
abbrev cX7_traceRefusal : ByteArray := prog_1_method_34_code
def yX7_traceRefusal : MethodName := ⟨RX7, "traceRefusal", "(IIII)I"⟩
abbrev cX7_placesOfAllTraces : ByteArray := prog_1_method_35_code
def yX7_placesOfAllTraces : MethodName := ⟨RX7, "placesOfAllTraces", "()I"⟩
abbrev cX7_orAboveAll : ByteArray := prog_1_method_36_code
def yX7_orAboveAll : MethodName := ⟨RX7, "orAboveAll", "(I)I"⟩
def RX8 : String := "SkewPlanModel"
def TX8 : u_T := fun k => match k with
  | 0 => ("SkewPlanModel", "row", "[I", true)
  | 1 => ("SkewPlanModel", "registers", "I", false)
  | 2 => ("SkewPlanModel", "paths", "I", false)
  | 3 => ("SkewPlanModel", "from", "[I", true)
  | 4 => ("SkewPlanModel", "to", "[I", true)
  | 5 => ("SkewPlanModel", "setup", "I", false)
  | 6 => ("SkewPlanModel", "hold", "I", false)
  | 7 => ("SkewPlanModel", "step", "I", false)
  | 8 => ("SkewPlanModel", "undos", "I", false)
  | 9 => ("SkewPlanModel", "isKept", "[Z", true)
  | 10 => ("SkewPlanModel", "text", "[I", true)
  | 11 => ("SkewPlanModel", "length", "I", false)
  | 12 => ("SkewPlanModel", "sorts", "[I", true)
  | 13 => ("SkewPlanModel", "sizes", "[I", true)
  | 14 => ("SkewPlanModel", "floats", "[F", true)
  | 15 => ("SkewPlanModel", "doubles", "[D", true)
  | 16 => ("SkewPlanModel", "first", "I", false)
  | 17 => ("SkewPlanModel", "behind", "I", false)
  | 18 => ("SkewPlanModel", "readRegisters", "I", false)
  | 19 => ("SkewPlanModel", "readPaths", "I", false)
  | 20 => ("SkewPlanModel", "clauses", "I", false)
  | 21 => ("SkewPlanModel", "doing", "Z", false)
  | 22 => ("SkewPlanModel", "numbers", "[I", true)
  | 23 => ("SkewPlanModel", "netWord", "[I", true)
  | 24 => ("SkewPlanModel", "pathWord", "[I", true)
  | 25 => ("SkewPlanModel", "setupWord", "[I", true)
  | 26 => ("SkewPlanModel", "holdWord", "[I", true)
  | 27 => ("SkewPlanModel", "stepWord", "[I", true)
  | 28 => ("SkewPlanModel", "periodWord", "[I", true)
  | 29 => ("SkewPlanModel", "lates", "[I", true)
  | 30 => ("SkewPlanModel", "soons", "[I", true)
  | 31 => ("SkewPlanModel", "shifts", "[I", true)
  | 32 => ("SkewPlanModel", "bounds", "[I", true)
  | 33 => ("SkewPlanModel", "ring", "[I", true)
  | _ => ("SkewPlanModel", "ringMany", "I", false)
def tyX8 : Nat → FieldType := fun k => match k with
  | 0 => .array .int
  | 1 => .int
  | 2 => .int
  | 3 => .array .int
  | 4 => .array .int
  | 5 => .int
  | 6 => .int
  | 7 => .int
  | 8 => .int
  | 9 => .array .boolean
  | 10 => .array .int
  | 11 => .int
  | 12 => .array .int
  | 13 => .array .int
  | 14 => .array .float
  | 15 => .array .double
  | 16 => .int
  | 17 => .int
  | 18 => .int
  | 19 => .int
  | 20 => .int
  | 21 => .boolean
  | 22 => .array .int
  | 23 => .array .int
  | 24 => .array .int
  | 25 => .array .int
  | 26 => .array .int
  | 27 => .array .int
  | 28 => .array .int
  | 29 => .array .int
  | 30 => .array .int
  | 31 => .array .int
  | 32 => .array .int
  | 33 => .array .int
  | _ => .int
abbrev wsX80 : List Cond := u_ws RX8 TX8 35
theorem nmX8 : ∀ a, a < 35 → ∀ b, b < 35 → a ≠ b → (TX8 a).2.1 ≠ (TX8 b).2.1 := by decide +kernel
theorem tyX8_ok : ∀ k, k < 35 → parseFieldDescriptor (TX8 k).2.2.1 = some (tyX8 k) := by decide +kernel
abbrev cX8_init : ByteArray := prog_10_method_1_code
def yX8_init : MethodName := ⟨RX8, "<init>", "()V"⟩
abbrev cX8_in : ByteArray := prog_10_method_2_code
def yX8_in : MethodName := ⟨RX8, "in", "(JJJ)Z"⟩
abbrev cX8_copyRow : ByteArray := prog_10_method_3_code
def yX8_copyRow : MethodName := ⟨RX8, "copyRow", "(II)V"⟩
abbrev cX8_anew : ByteArray := prog_10_method_4_code
def yX8_anew : MethodName := ⟨RX8, "anew", "(I)V"⟩
abbrev cX8_write : ByteArray := prog_10_method_5_code
def yX8_write : MethodName := ⟨RX8, "write", "(I)I"⟩
abbrev cX8_erase : ByteArray := prog_10_method_6_code
def yX8_erase : MethodName := ⟨RX8, "erase", "()I"⟩
abbrev cX8_isLetter : ByteArray := prog_10_method_7_code
def yX8_isLetter : MethodName := ⟨RX8, "isLetter", "(I)Z"⟩
abbrev cX8_isDigit : ByteArray := prog_10_method_8_code
def yX8_isDigit : MethodName := ⟨RX8, "isDigit", "(I)Z"⟩
abbrev cX8_nextToken : ByteArray := prog_10_method_9_code
def yX8_nextToken : MethodName := ⟨RX8, "nextToken", "()V"⟩
abbrev cX8_isWord : ByteArray := prog_10_method_10_code
def yX8_isWord : MethodName := ⟨RX8, "isWord", "([I)Z"⟩
abbrev cX8_number : ByteArray := prog_10_method_11_code
def yX8_number : MethodName := ⟨RX8, "number", "(III)Z"⟩
abbrev cX8_wordHere : ByteArray := prog_10_method_12_code
def yX8_wordHere : MethodName := ⟨RX8, "wordHere", "()I"⟩
abbrev cX8_readsNumbers : ByteArray := prog_10_method_13_code
def yX8_readsNumbers : MethodName := ⟨RX8, "readsNumbers", "(I)Z"⟩
abbrev cX8_does : ByteArray := prog_10_method_14_code
def yX8_does : MethodName := ⟨RX8, "does", "(I)V"⟩
abbrev cX8_readsClause : ByteArray := prog_10_method_15_code
def yX8_readsClause : MethodName := ⟨RX8, "readsClause", "()Z"⟩
abbrev cX8_reads : ByteArray := prog_10_method_16_code
def yX8_reads : MethodName := ⟨RX8, "reads", "(Z)Z"⟩
abbrev cX8_fault : ByteArray := prog_10_method_17_code
def yX8_fault : MethodName := ⟨RX8, "fault", "()I"⟩
abbrev cX8_net : ByteArray := prog_10_method_18_code
def yX8_net : MethodName := ⟨RX8, "net", "()I"⟩
abbrev cX8_isPath : ByteArray := prog_10_method_19_code
def yX8_isPath : MethodName := ⟨RX8, "isPath", "(I)Z"⟩
abbrev cX8_isRegister : ByteArray := prog_10_method_20_code
def yX8_isRegister : MethodName := ⟨RX8, "isRegister", "(I)Z"⟩
abbrev cX8_lateOf : ByteArray := prog_10_method_21_code
def yX8_lateOf : MethodName := ⟨RX8, "lateOf", "(II)I"⟩
abbrev cX8_soonOf : ByteArray := prog_10_method_22_code
def yX8_soonOf : MethodName := ⟨RX8, "soonOf", "(I)I"⟩
abbrev cX8_path : ByteArray := prog_10_method_23_code
def yX8_path : MethodName := ⟨RX8, "path", "(II)I"⟩
abbrev cX8_keepPast : ByteArray := prog_10_method_24_code
def yX8_keepPast : MethodName := ⟨RX8, "keepPast", "()V"⟩
abbrev cX8_period : ByteArray := prog_10_method_25_code
def yX8_period : MethodName := ⟨RX8, "period", "(I)I"⟩
abbrev cX8_slower : ByteArray := prog_10_method_26_code
def yX8_slower : MethodName := ⟨RX8, "slower", "(II)I"⟩
abbrev cX8_undo : ByteArray := prog_10_method_27_code
def yX8_undo : MethodName := ⟨RX8, "undo", "()I"⟩
abbrev cX8_keep : ByteArray := prog_10_method_28_code
def yX8_keep : MethodName := ⟨RX8, "keep", "(I)I"⟩
abbrev cX8_back : ByteArray := prog_10_method_29_code
def yX8_back : MethodName := ⟨RX8, "back", "(I)I"⟩
abbrev cX8_floor : ByteArray := prog_10_method_30_code
def yX8_floor : MethodName := ⟨RX8, "floor", "(II)I"⟩
abbrev cX8_layBounds : ByteArray := prog_10_method_31_code
def yX8_layBounds : MethodName := ⟨RX8, "layBounds", "(II)V"⟩
abbrev cX8_makesLess : ByteArray := prog_10_method_32_code
def yX8_makesLess : MethodName := ⟨RX8, "makesLess", "(III)Z"⟩
abbrev cX8_areThere : ByteArray := prog_10_method_33_code
def yX8_areThere : MethodName := ⟨RX8, "areThere", "()Z"⟩
abbrev cX8_isFeasible : ByteArray := prog_10_method_34_code
def yX8_isFeasible : MethodName := ⟨RX8, "isFeasible", "(II)Z"⟩
abbrev cX8_feasible : ByteArray := prog_10_method_35_code
def yX8_feasible : MethodName := ⟨RX8, "feasible", "()I"⟩
abbrev cX8_shift : ByteArray := prog_10_method_36_code
def yX8_shift : MethodName := ⟨RX8, "shift", "(I)I"⟩
abbrev cX8_leastOf : ByteArray := prog_10_method_37_code
def yX8_leastOf : MethodName := ⟨RX8, "leastOf", "()I"⟩
abbrev cX8_least : ByteArray := prog_10_method_38_code
def yX8_least : MethodName := ⟨RX8, "least", "()I"⟩
abbrev cX8_isFeasibleBy : ByteArray := prog_10_method_39_code
def yX8_isFeasibleBy : MethodName := ⟨RX8, "isFeasibleBy", "(II)Z"⟩
abbrev cX8_rate : ByteArray := prog_10_method_40_code
def yX8_rate : MethodName := ⟨RX8, "rate", "(I)I"⟩
abbrev cX8_margin : ByteArray := prog_10_method_41_code
def yX8_margin : MethodName := ⟨RX8, "margin", "()I"⟩
abbrev cX8_spare : ByteArray := prog_10_method_42_code
def yX8_spare : MethodName := ⟨RX8, "spare", "(II)I"⟩
abbrev cX8_layLeast : ByteArray := prog_10_method_43_code
def yX8_layLeast : MethodName := ⟨RX8, "layLeast", "()V"⟩
abbrev cX8_isInRing : ByteArray := prog_10_method_44_code
def yX8_isInRing : MethodName := ⟨RX8, "isInRing", "(I)Z"⟩
abbrev cX8_isBelow : ByteArray := prog_10_method_45_code
def yX8_isBelow : MethodName := ⟨RX8, "isBelow", "()Z"⟩
abbrev cX8_nextFrom : ByteArray := prog_10_method_46_code
def yX8_nextFrom : MethodName := ⟨RX8, "nextFrom", "(I)I"⟩
abbrev cX8_goOn : ByteArray := prog_10_method_47_code
def yX8_goOn : MethodName := ⟨RX8, "goOn", "()V"⟩
abbrev cX8_cycle : ByteArray := prog_10_method_48_code
def yX8_cycle : MethodName := ⟨RX8, "cycle", "(I)I"⟩
abbrev cX8_buffer : ByteArray := prog_10_method_49_code
def yX8_buffer : MethodName := ⟨RX8, "buffer", "(I)I"⟩
abbrev cX8_isTrace : ByteArray := prog_10_method_50_code
def yX8_isTrace : MethodName := ⟨RX8, "isTrace", "(I)Z"⟩
abbrev cX8_trace : ByteArray := prog_10_method_51_code
def yX8_trace : MethodName := ⟨RX8, "trace", "(III)I"⟩
abbrev cX8_cut : ByteArray := prog_10_method_52_code
def yX8_cut : MethodName := ⟨RX8, "cut", "(D)I"⟩
abbrev cX8_thousand : ByteArray := prog_10_method_53_code
def yX8_thousand : MethodName := ⟨RX8, "thousand", "(II)I"⟩
abbrev cX8_noPlace : ByteArray := prog_10_method_54_code
def yX8_noPlace : MethodName := ⟨RX8, "noPlace", "(IIII)I"⟩
abbrev cX8_set : ByteArray := prog_10_method_55_code
def yX8_set : MethodName := ⟨RX8, "set", "(IIIII)I"⟩
abbrev cX8_get : ByteArray := prog_10_method_56_code
def yX8_get : MethodName := ⟨RX8, "get", "(III)I"⟩
abbrev cX8_rest : ByteArray := prog_10_method_57_code
def yX8_rest : MethodName := ⟨RX8, "rest", "(IIII)I"⟩
abbrev cX8_valueOf : ByteArray := prog_10_method_58_code
def yX8_valueOf : MethodName := ⟨RX8, "valueOf", "(II)D"⟩
abbrev cX8_compare : ByteArray := prog_10_method_59_code
def yX8_compare : MethodName := ⟨RX8, "compare", "(IIII)I"⟩
abbrev cX8_sum : ByteArray := prog_10_method_60_code
def yX8_sum : MethodName := ⟨RX8, "sum", "(II)I"⟩
abbrev cX8_drop : ByteArray := prog_10_method_61_code
def yX8_drop : MethodName := ⟨RX8, "drop", "(I)I"⟩
abbrev cX8_allPlaces : ByteArray := prog_10_method_62_code
def yX8_allPlaces : MethodName := ⟨RX8, "allPlaces", "()I"⟩
abbrev cX8_tooSoon : ByteArray := prog_10_method_63_code
def yX8_tooSoon : MethodName := ⟨RX8, "tooSoon", "()I"⟩
abbrev cX8_count : ByteArray := prog_10_method_64_code
def yX8_count : MethodName := ⟨RX8, "count", "(I)I"⟩
def RJx29ce0 : String := "java/lang/Enum"
def TJx29ce0 : u_T := fun k => match k with
  | _ => ("", "", "", false)
def tyJx29ce0 : Nat → FieldType := fun k => match k with
  | _ => .int
abbrev wsJx29ce00 : List Cond := u_ws RJx29ce0 TJx29ce0 0
theorem nmJx29ce0 : ∀ a, a < 0 → ∀ b, b < 0 → a ≠ b → (TJx29ce0 a).2.1 ≠ (TJx29ce0 b).2.1 := by decide +kernel
theorem tyJx29ce0_ok : ∀ k, k < 0 → parseFieldDescriptor (TJx29ce0 k).2.2.1 = some (tyJx29ce0 k) := by decide +kernel
abbrev cJx29ce0_ordinal_8abf5 : ByteArray := prog_11_method_2_code
def yJx29ce0_ordinal_8abf5 : MethodName := ⟨RJx29ce0, "ordinal", "()I"⟩
def RJ9 : String := "java/lang/Math"
def TJ9 : u_T := fun k => match k with
  | _ => ("", "", "", false)
def tyJ9 : Nat → FieldType := fun k => match k with
  | _ => .int
abbrev wsJ90 : List Cond := u_ws RJ9 TJ9 0
theorem nmJ9 : ∀ a, a < 0 → ∀ b, b < 0 → a ≠ b → (TJ9 a).2.1 ≠ (TJ9 b).2.1 := by decide +kernel
theorem tyJ9_ok : ∀ k, k < 0 → parseFieldDescriptor (TJ9 k).2.2.1 = some (tyJ9 k) := by decide +kernel
abbrev cJ9_floorDiv_7cf53 : ByteArray := prog_12_method_47_code
def yJ9_floorDiv_7cf53 : MethodName := ⟨RJ9, "floorDiv", "(II)I"⟩
abbrev cJ9_min_7cf53 : ByteArray := prog_12_method_69_code
def yJ9_min_7cf53 : MethodName := ⟨RJ9, "min", "(II)I"⟩
def RJ0 : String := "java/lang/String"
def TJ0 : u_T := fun k => match k with
  | _ => ("", "", "", false)
def tyJ0 : Nat → FieldType := fun k => match k with
  | _ => .int
abbrev wsJ00 : List Cond := u_ws RJ0 TJ0 0
theorem nmJ0 : ∀ a, a < 0 → ∀ b, b < 0 → a ≠ b → (TJ0 a).2.1 ≠ (TJ0 b).2.1 := by decide +kernel
theorem tyJ0_ok : ∀ k, k < 0 → parseFieldDescriptor (TJ0 k).2.2.1 = some (tyJ0 k) := by decide +kernel
abbrev cJ0_length_8abf5 : ByteArray := prog_13_method_54_code
def yJ0_length_8abf5 : MethodName := ⟨RJ0, "length", "()I"⟩
abbrev cJ0_charAt_5068e : ByteArray := prog_13_method_56_code
def yJ0_charAt_5068e : MethodName := ⟨RJ0, "charAt", "(I)C"⟩
abbrev cJ0_coder_7d493 : ByteArray := prog_13_method_152_code
def yJ0_coder_7d493 : MethodName := ⟨RJ0, "coder", "()B"⟩
abbrev cJ0_isLatin1_aae02 : ByteArray := prog_13_method_154_code
def yJ0_isLatin1_aae02 : MethodName := ⟨RJ0, "isLatin1", "()Z"⟩
abbrev cJ0_checkIndex_df160 : ByteArray := prog_13_method_155_code
def yJ0_checkIndex_df160 : MethodName := ⟨RJ0, "checkIndex", "(II)V"⟩
def RJ1 : String := "java/lang/StringLatin1"
def TJ1 : u_T := fun k => match k with
  | _ => ("", "", "", false)
def tyJ1 : Nat → FieldType := fun k => match k with
  | _ => .int
abbrev wsJ10 : List Cond := u_ws RJ1 TJ1 0
theorem nmJ1 : ∀ a, a < 0 → ∀ b, b < 0 → a ≠ b → (TJ1 a).2.1 ≠ (TJ1 b).2.1 := by decide +kernel
theorem tyJ1_ok : ∀ k, k < 0 → parseFieldDescriptor (TJ1 k).2.2.1 = some (tyJ1 k) := by decide +kernel
abbrev cJ1_charAt_3b067 : ByteArray := prog_14_method_2_code
def yJ1_charAt_3b067 : MethodName := ⟨RJ1, "charAt", "([BI)C"⟩
def RJ2 : String := "java/lang/StringUTF16"
def TJ2 : u_T := fun k => match k with
  | _ => ("", "", "", false)
def tyJ2 : Nat → FieldType := fun k => match k with
  | _ => .int
abbrev wsJ20 : List Cond := u_ws RJ2 TJ2 0
theorem nmJ2 : ∀ a, a < 0 → ∀ b, b < 0 → a ≠ b → (TJ2 a).2.1 ≠ (TJ2 b).2.1 := by decide +kernel
theorem tyJ2_ok : ∀ k, k < 0 → parseFieldDescriptor (TJ2 k).2.2.1 = some (tyJ2 k) := by decide +kernel
abbrev cJ2_getChar_3b067 : ByteArray := prog_15_method_5_code
def yJ2_getChar_3b067 : MethodName := ⟨RJ2, "getChar", "([BI)C"⟩
abbrev cJ2_length_9d52b : ByteArray := prog_15_method_6_code
def yJ2_length_9d52b : MethodName := ⟨RJ2, "length", "([B)I"⟩
abbrev cJ2_charAt_3b067 : ByteArray := prog_15_method_83_code
def yJ2_charAt_3b067 : MethodName := ⟨RJ2, "charAt", "([BI)C"⟩
abbrev cJ2_checkIndex_2214a : ByteArray := prog_15_method_91_code
def yJ2_checkIndex_2214a : MethodName := ⟨RJ2, "checkIndex", "(I[B)V"⟩
def RJ10 : String := "java/lang/System"
def TJ10 : u_T := fun k => match k with
  | _ => ("", "", "", false)
def tyJ10 : Nat → FieldType := fun k => match k with
  | _ => .int
abbrev wsJ100 : List Cond := u_ws RJ10 TJ10 0
theorem nmJ10 : ∀ a, a < 0 → ∀ b, b < 0 → a ≠ b → (TJ10 a).2.1 ≠ (TJ10 b).2.1 := by decide +kernel
theorem tyJ10_ok : ∀ k, k < 0 → parseFieldDescriptor (TJ10 k).2.2.1 = some (tyJ10 k) := by decide +kernel
def RJ3 : String := "jdk/internal/util/Preconditions"
def TJ3 : u_T := fun k => match k with
  | _ => ("", "", "", false)
def tyJ3 : Nat → FieldType := fun k => match k with
  | _ => .int
abbrev wsJ30 : List Cond := u_ws RJ3 TJ3 0
theorem nmJ3 : ∀ a, a < 0 → ∀ b, b < 0 → a ≠ b → (TJ3 a).2.1 ≠ (TJ3 b).2.1 := by decide +kernel
theorem tyJ3_ok : ∀ k, k < 0 → parseFieldDescriptor (TJ3 k).2.2.1 = some (tyJ3 k) := by decide +kernel
abbrev cJ3_checkIndex_8e157 : ByteArray := prog_17_method_11_code
def yJ3_checkIndex_8e157 : MethodName := ⟨RJ3, "checkIndex", "(IILjava/util/function/BiFunction;)I"⟩
def RL : String := "SkewPlanLaw"
abbrev cL_law : ByteArray := code
def yL_law : MethodName := ⟨RL, "law", "([I)Z"⟩
abbrev vwCl : List vw_C := [(RX1, TX1, 4), (RX2, TX2, 10), (RX3, TX3, 7), (RX4, TX4, 5), (RX5, TX5, 5), (RX7, TX7, 9), (RX8, TX8, 35)]
def g_all : List Cond := lw_tbl.filter goodWord
theorem g_w {w : Cond} (i : Nat) (h : tables_1[i]? = some w) (hg : goodWord w = true) : w ∈ g_all := List.mem_filter.mpr ⟨List.mem_append_right _ (List.mem_of_getElem? h), hg⟩
theorem g_s {w : Cond} (i : Nat) (h : (k2_sels lw_privs)[i]? = some w) (hg : goodWord w = true) : w ∈ g_all := List.mem_filter.mpr ⟨List.mem_append_left _ (List.mem_of_getElem? h), hg⟩
theorem g_in {ws : List Cond} (h : ws.all (fun w => decide (w ∈ tables_1) && goodWord w) = true) : ∀ w ∈ ws, w ∈ g_all := fun w hw => by
  have h1 := List.all_eq_true.mp h w hw
  simp only [Bool.and_eq_true, decide_eq_true_eq] at h1
  exact List.mem_filter.mpr ⟨List.mem_append_right _ h1.1, h1.2⟩
end
section
/-! the words, each by its place -/
theorem kw_0 : Cond.initialized RL ∈ g_all := g_w 0 (by decide +kernel) (by decide +kernel)
theorem kw_1 : Cond.initialized RX7 ∈ g_all := g_w 1 (by decide +kernel) (by decide +kernel)
theorem kw_2 : Cond.initialized RX4 ∈ g_all := g_w 2 (by decide +kernel) (by decide +kernel)
theorem kw_3 : Cond.initialized RX2 ∈ g_all := g_w 3 (by decide +kernel) (by decide +kernel)
theorem kw_4 : Cond.initialized RX1 ∈ g_all := g_w 4 (by decide +kernel) (by decide +kernel)
theorem kw_5 : Cond.initialized RX3 ∈ g_all := g_w 5 (by decide +kernel) (by decide +kernel)
theorem kw_6 : Cond.initialized RX5 ∈ g_all := g_w 6 (by decide +kernel) (by decide +kernel)
theorem kw_7 : Cond.initialized RX8 ∈ g_all := g_w 7 (by decide +kernel) (by decide +kernel)
theorem kw_8 : Cond.initialized RJ10 ∈ g_all := g_w 8 (by decide +kernel) (by decide +kernel)
theorem kw_9 : Cond.initialized RJ0 ∈ g_all := g_w 9 (by decide +kernel) (by decide +kernel)
theorem kw_10 : Cond.initialized RJ1 ∈ g_all := g_w 10 (by decide +kernel) (by decide +kernel)
theorem kw_11 : Cond.initialized RJ3 ∈ g_all := g_w 11 (by decide +kernel) (by decide +kernel)
theorem kw_12 : Cond.initialized RJ2 ∈ g_all := g_w 12 (by decide +kernel) (by decide +kernel)
theorem kw_13 : Cond.initialized RJx29ce0 ∈ g_all := g_w 13 (by decide +kernel) (by decide +kernel)
theorem kw_14 : Cond.initialized RX6 ∈ g_all := g_w 14 (by decide +kernel) (by decide +kernel)
theorem kw_15 : Cond.initialized RX0 ∈ g_all := g_w 15 (by decide +kernel) (by decide +kernel)
theorem kw_16 : Cond.initialized RJ9 ∈ g_all := g_w 16 (by decide +kernel) (by decide +kernel)
theorem kw_17 : Cond.classLink RL 7 RX7 ∈ g_all := g_w 17 (by decide +kernel) (by decide +kernel)
theorem kw_18 : Cond.instantiable RX7 9 ∈ g_all := g_w 18 (by decide +kernel) (by decide +kernel)
theorem kw_19 : Cond.methodLink RL 9 yX7_init ∈ g_all := g_w 19 (by decide +kernel) (by decide +kernel)
theorem kw_20 : Cond.instanceMethod yX7_init ∈ g_all := g_w 20 (by decide +kernel) (by decide +kernel)
theorem kw_21 : Cond.code yX7_init cX7_init 2 none ∈ g_all := g_w 21 (by decide +kernel) (by decide +kernel)
theorem kw_22 : Cond.methodLink RX7 1 ⟨"java/lang/Object", "<init>", "()V"⟩ ∈ g_all := g_w 22 (by decide +kernel) (by decide +kernel)
theorem kw_23 : Cond.instanceMethod ⟨"java/lang/Object", "<init>", "()V"⟩ ∈ g_all := g_w 23 (by decide +kernel) (by decide +kernel)
theorem kw_24 : Cond.code ⟨"java/lang/Object", "<init>", "()V"⟩ object_method_1_code 1 none ∈ g_all := g_w 24 (by decide +kernel) (by decide +kernel)
theorem kw_25 : Cond.classLink RX7 7 RX4 ∈ g_all := g_w 25 (by decide +kernel) (by decide +kernel)
theorem kw_26 : Cond.instantiable RX4 5 ∈ g_all := g_w 26 (by decide +kernel) (by decide +kernel)
theorem kw_28 : Cond.instanceMethod yX4_init ∈ g_all := g_w 28 (by decide +kernel) (by decide +kernel)
theorem kw_29 : Cond.code yX4_init cX4_init 1 none ∈ g_all := g_w 29 (by decide +kernel) (by decide +kernel)
theorem kw_30 : Cond.methodLink RX4 3 ⟨"java/lang/Object", "<init>", "()V"⟩ ∈ g_all := g_w 30 (by decide +kernel) (by decide +kernel)
theorem kw_31 : Cond.fieldLink RX4 9 "SkewPlan$Text" "letters" "[C" ∈ g_all := g_w 31 (by decide +kernel) (by decide +kernel)
theorem kw_32 : Cond.fieldLink RX4 15 "SkewPlan$Text" "length" "I" ∈ g_all := g_w 32 (by decide +kernel) (by decide +kernel)
theorem kw_33 : Cond.fieldLink RX4 19 "SkewPlan$Text" "clauses" "I" ∈ g_all := g_w 33 (by decide +kernel) (by decide +kernel)
theorem kw_34 : Cond.fieldLink RX4 38 "SkewPlan$Text" "tokenStart" "I" ∈ g_all := g_w 34 (by decide +kernel) (by decide +kernel)
theorem kw_35 : Cond.fieldLink RX4 28 "SkewPlan$Text" "tokenEnd" "I" ∈ g_all := g_w 35 (by decide +kernel) (by decide +kernel)
theorem kw_47 : Cond.arrayClass FieldType.char ∈ g_all := g_w 47 (by decide +kernel) (by decide +kernel)
theorem kw_48 : Cond.classLink RX7 16 RX2 ∈ g_all := g_w 48 (by decide +kernel) (by decide +kernel)
theorem kw_49 : Cond.instantiable RX2 10 ∈ g_all := g_w 49 (by decide +kernel) (by decide +kernel)
theorem kw_50 : Cond.methodLink RX7 18 yX2_init ∈ g_all := g_w 50 (by decide +kernel) (by decide +kernel)
theorem kw_51 : Cond.instanceMethod yX2_init ∈ g_all := g_w 51 (by decide +kernel) (by decide +kernel)
theorem kw_52 : Cond.code yX2_init cX2_init 1 none ∈ g_all := g_w 52 (by decide +kernel) (by decide +kernel)
theorem kw_53 : Cond.methodLink RX2 3 ⟨"java/lang/Object", "<init>", "()V"⟩ ∈ g_all := g_w 53 (by decide +kernel) (by decide +kernel)
theorem kw_54 : Cond.methodLink RX2 24 yX2_begin ∈ g_all := g_w 54 (by decide +kernel) (by decide +kernel)
theorem kw_56 : Cond.instanceMethod yX2_begin ∈ g_all := g_w 56 (by decide +kernel) (by decide +kernel)
theorem kw_57 : Cond.code yX2_begin cX2_begin 2 none ∈ g_all := g_w 57 (by decide +kernel) (by decide +kernel)
theorem kw_58 : Cond.fieldLink RX2 28 "SkewPlan$Net" "registers" "I" ∈ g_all := g_w 58 (by decide +kernel) (by decide +kernel)
theorem kw_62 : Cond.fieldLink RX2 32 "SkewPlan$Net" "setup" "I" ∈ g_all := g_w 62 (by decide +kernel) (by decide +kernel)
theorem kw_65 : Cond.fieldLink RX2 35 "SkewPlan$Net" "hold" "I" ∈ g_all := g_w 65 (by decide +kernel) (by decide +kernel)
theorem kw_67 : Cond.fieldLink RX2 38 "SkewPlan$Net" "step" "I" ∈ g_all := g_w 67 (by decide +kernel) (by decide +kernel)
theorem kw_70 : Cond.fieldLink RX2 41 "SkewPlan$Net" "period" "I" ∈ g_all := g_w 70 (by decide +kernel) (by decide +kernel)
theorem kw_74 : Cond.fieldLink RX2 44 "SkewPlan$Net" "paths" "I" ∈ g_all := g_w 74 (by decide +kernel) (by decide +kernel)
theorem kw_77 : Cond.fieldLink RX2 9 "SkewPlan$Net" "from" "[I" ∈ g_all := g_w 77 (by decide +kernel) (by decide +kernel)
theorem kw_80 : Cond.fieldLink RX2 15 "SkewPlan$Net" "to" "[I" ∈ g_all := g_w 80 (by decide +kernel) (by decide +kernel)
theorem kw_83 : Cond.fieldLink RX2 18 "SkewPlan$Net" "longs" "[I" ∈ g_all := g_w 83 (by decide +kernel) (by decide +kernel)
theorem kw_86 : Cond.fieldLink RX2 21 "SkewPlan$Net" "shorts" "[I" ∈ g_all := g_w 86 (by decide +kernel) (by decide +kernel)
theorem kw_109 : Cond.arrayClass FieldType.int ∈ g_all := g_w 109 (by decide +kernel) (by decide +kernel)
theorem kw_111 : Cond.classLink RX7 37 RX1 ∈ g_all := g_w 111 (by decide +kernel) (by decide +kernel)
theorem kw_112 : Cond.instantiable RX1 4 ∈ g_all := g_w 112 (by decide +kernel) (by decide +kernel)
theorem kw_114 : Cond.instanceMethod yX1_init ∈ g_all := g_w 114 (by decide +kernel) (by decide +kernel)
theorem kw_115 : Cond.code yX1_init cX1_init 1 none ∈ g_all := g_w 115 (by decide +kernel) (by decide +kernel)
theorem kw_116 : Cond.methodLink RX1 3 ⟨"java/lang/Object", "<init>", "()V"⟩ ∈ g_all := g_w 116 (by decide +kernel) (by decide +kernel)
theorem kw_117 : Cond.fieldLink RX1 9 "SkewPlan$History" "paths" "[I" ∈ g_all := g_w 117 (by decide +kernel) (by decide +kernel)
theorem kw_118 : Cond.fieldLink RX1 15 "SkewPlan$History" "amounts" "[I" ∈ g_all := g_w 118 (by decide +kernel) (by decide +kernel)
theorem kw_119 : Cond.fieldLink RX1 22 "SkewPlan$History" "next" "I" ∈ g_all := g_w 119 (by decide +kernel) (by decide +kernel)
theorem kw_120 : Cond.fieldLink RX1 18 "SkewPlan$History" "size" "I" ∈ g_all := g_w 120 (by decide +kernel) (by decide +kernel)
theorem kw_130 : Cond.arrayClass FieldType.boolean ∈ g_all := g_w 130 (by decide +kernel) (by decide +kernel)
theorem kw_131 : Cond.classLink RX7 44 RX3 ∈ g_all := g_w 131 (by decide +kernel) (by decide +kernel)
theorem kw_132 : Cond.instantiable RX3 7 ∈ g_all := g_w 132 (by decide +kernel) (by decide +kernel)
theorem kw_134 : Cond.instanceMethod yX3_init ∈ g_all := g_w 134 (by decide +kernel) (by decide +kernel)
theorem kw_135 : Cond.code yX3_init cX3_init 1 none ∈ g_all := g_w 135 (by decide +kernel) (by decide +kernel)
theorem kw_136 : Cond.methodLink RX3 5 ⟨"java/lang/Object", "<init>", "()V"⟩ ∈ g_all := g_w 136 (by decide +kernel) (by decide +kernel)
theorem kw_137 : Cond.classLink RX3 11 "[[I" ∈ g_all := g_w 137 (by decide +kernel) (by decide +kernel)
theorem kw_139 : Cond.fieldLink RX3 13 "SkewPlan$Planner" "bounds" "[[I" ∈ g_all := g_w 139 (by decide +kernel) (by decide +kernel)
theorem kw_140 : Cond.fieldLink RX3 18 "SkewPlan$Planner" "shifts" "[I" ∈ g_all := g_w 140 (by decide +kernel) (by decide +kernel)
theorem kw_141 : Cond.fieldLink RX3 22 "SkewPlan$Planner" "ring" "[I" ∈ g_all := g_w 141 (by decide +kernel) (by decide +kernel)
theorem kw_142 : Cond.fieldLink RX3 72 "SkewPlan$Planner" "registers" "I" ∈ g_all := g_w 142 (by decide +kernel) (by decide +kernel)
theorem kw_143 : Cond.fieldLink RX3 25 "SkewPlan$Planner" "ringLength" "I" ∈ g_all := g_w 143 (by decide +kernel) (by decide +kernel)
theorem kw_144 : Cond.fieldLink RX3 29 "SkewPlan$Planner" "rateAbove" "I" ∈ g_all := g_w 144 (by decide +kernel) (by decide +kernel)
theorem kw_145 : Cond.fieldLink RX3 32 "SkewPlan$Planner" "rateBelow" "I" ∈ g_all := g_w 145 (by decide +kernel) (by decide +kernel)
theorem kw_161 : Cond.classLink RX7 51 RX5 ∈ g_all := g_w 161 (by decide +kernel) (by decide +kernel)
theorem kw_163 : Cond.instantiable RX5 5 ∈ g_all := g_w 163 (by decide +kernel) (by decide +kernel)
theorem kw_165 : Cond.instanceMethod yX5_init ∈ g_all := g_w 165 (by decide +kernel) (by decide +kernel)
theorem kw_166 : Cond.code yX5_init cX5_init 1 none ∈ g_all := g_w 166 (by decide +kernel) (by decide +kernel)
theorem kw_167 : Cond.methodLink RX5 3 ⟨"java/lang/Object", "<init>", "()V"⟩ ∈ g_all := g_w 167 (by decide +kernel) (by decide +kernel)
theorem kw_168 : Cond.fieldLink RX5 9 "SkewPlan$Trace" "values" "[D" ∈ g_all := g_w 168 (by decide +kernel) (by decide +kernel)
theorem kw_169 : Cond.fieldLink RX5 15 "SkewPlan$Trace" "isNoNumber" "[Z" ∈ g_all := g_w 169 (by decide +kernel) (by decide +kernel)
theorem kw_170 : Cond.fieldLink RX5 19 "SkewPlan$Trace" "isPresent" "Z" ∈ g_all := g_w 170 (by decide +kernel) (by decide +kernel)
theorem kw_171 : Cond.fieldLink RX5 27 "SkewPlan$Trace" "sort" "I" ∈ g_all := g_w 171 (by decide +kernel) (by decide +kernel)
theorem kw_172 : Cond.fieldLink RX5 23 "SkewPlan$Trace" "places" "I" ∈ g_all := g_w 172 (by decide +kernel) (by decide +kernel)
theorem kw_184 : Cond.arrayClass FieldType.double ∈ g_all := g_w 184 (by decide +kernel) (by decide +kernel)
theorem kw_185 : Cond.fieldLink RX7 10 "SkewPlan" "text" "LSkewPlan$Text;" ∈ g_all := g_w 185 (by decide +kernel) (by decide +kernel)
theorem kw_186 : Cond.fieldLink RX7 19 "SkewPlan" "told" "LSkewPlan$Net;" ∈ g_all := g_w 186 (by decide +kernel) (by decide +kernel)
theorem kw_187 : Cond.fieldLink RX7 23 "SkewPlan" "now" "LSkewPlan$Net;" ∈ g_all := g_w 187 (by decide +kernel) (by decide +kernel)
theorem kw_188 : Cond.fieldLink RX7 26 "SkewPlan" "scratch" "LSkewPlan$Net;" ∈ g_all := g_w 188 (by decide +kernel) (by decide +kernel)
theorem kw_189 : Cond.fieldLink RX7 29 "SkewPlan" "kept" "[LSkewPlan$Net;" ∈ g_all := g_w 189 (by decide +kernel) (by decide +kernel)
theorem kw_190 : Cond.fieldLink RX7 33 "SkewPlan" "isKept" "[Z" ∈ g_all := g_w 190 (by decide +kernel) (by decide +kernel)
theorem kw_191 : Cond.fieldLink RX7 40 "SkewPlan" "history" "LSkewPlan$History;" ∈ g_all := g_w 191 (by decide +kernel) (by decide +kernel)
theorem kw_192 : Cond.fieldLink RX7 47 "SkewPlan" "planner" "LSkewPlan$Planner;" ∈ g_all := g_w 192 (by decide +kernel) (by decide +kernel)
theorem kw_193 : Cond.fieldLink RX7 53 "SkewPlan" "traces" "[LSkewPlan$Trace;" ∈ g_all := g_w 193 (by decide +kernel) (by decide +kernel)
theorem kw_213 : Cond.methodLink RL 13 yX7_write ∈ g_all := g_w 213 (by decide +kernel) (by decide +kernel)
theorem kw_214 : Cond.instanceMethod yX7_write ∈ g_all := g_w 214 (by decide +kernel) (by decide +kernel)
theorem kw_215 : Cond.selects RX7 yX7_write yX7_write ∈ g_all := g_w 215 (by decide +kernel) (by decide +kernel)
theorem kw_216 : Cond.code yX7_write cX7_write 2 (some FieldType.int) ∈ g_all := g_w 216 (by decide +kernel) (by decide +kernel)
theorem kw_217 : Cond.methodLink RX7 58 yX7_isWithin ∈ g_all := g_w 217 (by decide +kernel) (by decide +kernel)
theorem kw_218 : Cond.static yX7_isWithin ∈ g_all := g_w 218 (by decide +kernel) (by decide +kernel)
theorem kw_219 : Cond.code yX7_isWithin cX7_isWithin 3 (some FieldType.boolean) ∈ g_all := g_w 219 (by decide +kernel) (by decide +kernel)
theorem kw_220 : Cond.methodLink RX7 62 yX4_append ∈ g_all := g_w 220 (by decide +kernel) (by decide +kernel)
theorem kw_221 : Cond.instanceMethod yX4_append ∈ g_all := g_w 221 (by decide +kernel) (by decide +kernel)
theorem kw_222 : Cond.selects RX4 yX4_append yX4_append ∈ g_all := g_w 222 (by decide +kernel) (by decide +kernel)
theorem kw_223 : Cond.code yX4_append cX4_append 2 (some FieldType.boolean) ∈ g_all := g_w 223 (by decide +kernel) (by decide +kernel)
theorem kw_224 : Cond.methodLink RX7 66 yX4_letterCount ∈ g_all := g_w 224 (by decide +kernel) (by decide +kernel)
theorem kw_225 : Cond.instanceMethod yX4_letterCount ∈ g_all := g_w 225 (by decide +kernel) (by decide +kernel)
theorem kw_226 : Cond.selects RX4 yX4_letterCount yX4_letterCount ∈ g_all := g_w 226 (by decide +kernel) (by decide +kernel)
theorem kw_227 : Cond.code yX4_letterCount cX4_letterCount 1 (some FieldType.int) ∈ g_all := g_w 227 (by decide +kernel) (by decide +kernel)
theorem kw_228 : Cond.methodLink RL 18 yX7_erase ∈ g_all := g_w 228 (by decide +kernel) (by decide +kernel)
theorem kw_229 : Cond.instanceMethod yX7_erase ∈ g_all := g_w 229 (by decide +kernel) (by decide +kernel)
theorem kw_230 : Cond.selects RX7 yX7_erase yX7_erase ∈ g_all := g_w 230 (by decide +kernel) (by decide +kernel)
theorem kw_231 : Cond.code yX7_erase cX7_erase 2 (some FieldType.int) ∈ g_all := g_w 231 (by decide +kernel) (by decide +kernel)
theorem kw_232 : Cond.methodLink RX7 70 yX4_clear ∈ g_all := g_w 232 (by decide +kernel) (by decide +kernel)
theorem kw_233 : Cond.instanceMethod yX4_clear ∈ g_all := g_w 233 (by decide +kernel) (by decide +kernel)
theorem kw_234 : Cond.selects RX4 yX4_clear yX4_clear ∈ g_all := g_w 234 (by decide +kernel) (by decide +kernel)
theorem kw_235 : Cond.code yX4_clear cX4_clear 1 none ∈ g_all := g_w 235 (by decide +kernel) (by decide +kernel)
theorem kw_236 : Cond.methodLink RL 23 yX7_fault ∈ g_all := g_w 236 (by decide +kernel) (by decide +kernel)
theorem kw_237 : Cond.instanceMethod yX7_fault ∈ g_all := g_w 237 (by decide +kernel) (by decide +kernel)
theorem kw_238 : Cond.selects RX7 yX7_fault yX7_fault ∈ g_all := g_w 238 (by decide +kernel) (by decide +kernel)
theorem kw_239 : Cond.code yX7_fault cX7_fault 1 (some FieldType.int) ∈ g_all := g_w 239 (by decide +kernel) (by decide +kernel)
theorem kw_240 : Cond.methodLink RX7 73 yX4_read ∈ g_all := g_w 240 (by decide +kernel) (by decide +kernel)
theorem kw_241 : Cond.instanceMethod yX4_read ∈ g_all := g_w 241 (by decide +kernel) (by decide +kernel)
theorem kw_242 : Cond.selects RX4 yX4_read yX4_read ∈ g_all := g_w 242 (by decide +kernel) (by decide +kernel)
theorem kw_243 : Cond.code yX4_read cX4_read 4 (some FieldType.int) ∈ g_all := g_w 243 (by decide +kernel) (by decide +kernel)
theorem kw_244 : Cond.methodLink RX4 22 yX2_copyFrom ∈ g_all := g_w 244 (by decide +kernel) (by decide +kernel)
theorem kw_245 : Cond.instanceMethod yX2_copyFrom ∈ g_all := g_w 245 (by decide +kernel) (by decide +kernel)
theorem kw_246 : Cond.selects RX2 yX2_copyFrom yX2_copyFrom ∈ g_all := g_w 246 (by decide +kernel) (by decide +kernel)
theorem kw_247 : Cond.code yX2_copyFrom cX2_copyFrom 2 none ∈ g_all := g_w 247 (by decide +kernel) (by decide +kernel)
theorem kw_248 : Cond.methodLink RX2 47 ⟨"java/lang/System", "arraycopy", "(Ljava/lang/Object;ILjava/lang/Object;II)V"⟩ ∈ g_all := g_w 248 (by decide +kernel) (by decide +kernel)
theorem kw_249 : Cond.static ⟨"java/lang/System", "arraycopy", "(Ljava/lang/Object;ILjava/lang/Object;II)V"⟩ ∈ g_all := g_w 249 (by decide +kernel) (by decide +kernel)
theorem kw_250 : Cond.native ⟨"java/lang/System", "arraycopy", "(Ljava/lang/Object;ILjava/lang/Object;II)V"⟩ ∈ g_all := g_w 250 (by decide +kernel) (by decide +kernel)
theorem kw_251 : Cond.methodLink RX4 31 yX4_advance ∈ g_all := g_w 251 (by decide +kernel) (by decide +kernel)
theorem kw_253 : Cond.instanceMethod yX4_advance ∈ g_all := g_w 253 (by decide +kernel) (by decide +kernel)
theorem kw_254 : Cond.code yX4_advance cX4_advance 2 none ∈ g_all := g_w 254 (by decide +kernel) (by decide +kernel)
theorem kw_255 : Cond.methodLink RX4 41 yX4_isAtEnd ∈ g_all := g_w 255 (by decide +kernel) (by decide +kernel)
theorem kw_257 : Cond.instanceMethod yX4_isAtEnd ∈ g_all := g_w 257 (by decide +kernel) (by decide +kernel)
theorem kw_258 : Cond.code yX4_isAtEnd cX4_isAtEnd 1 (some FieldType.boolean) ∈ g_all := g_w 258 (by decide +kernel) (by decide +kernel)
theorem kw_259 : Cond.methodLink RX4 45 yX4_isSmall ∈ g_all := g_w 259 (by decide +kernel) (by decide +kernel)
theorem kw_260 : Cond.static yX4_isSmall ∈ g_all := g_w 260 (by decide +kernel) (by decide +kernel)
theorem kw_261 : Cond.code yX4_isSmall cX4_isSmall 1 (some FieldType.boolean) ∈ g_all := g_w 261 (by decide +kernel) (by decide +kernel)
theorem kw_262 : Cond.methodLink RX4 49 yX4_isDigit ∈ g_all := g_w 262 (by decide +kernel) (by decide +kernel)
theorem kw_263 : Cond.static yX4_isDigit ∈ g_all := g_w 263 (by decide +kernel) (by decide +kernel)
theorem kw_264 : Cond.code yX4_isDigit cX4_isDigit 1 (some FieldType.boolean) ∈ g_all := g_w 264 (by decide +kernel) (by decide +kernel)
theorem kw_265 : Cond.methodLink RX4 34 yX4_readClause ∈ g_all := g_w 265 (by decide +kernel) (by decide +kernel)
theorem kw_267 : Cond.instanceMethod yX4_readClause ∈ g_all := g_w 267 (by decide +kernel) (by decide +kernel)
theorem kw_268 : Cond.code yX4_readClause cX4_readClause 5 (some FieldType.boolean) ∈ g_all := g_w 268 (by decide +kernel) (by decide +kernel)
theorem kw_269 : Cond.methodLink RX4 52 yX4_wordHere ∈ g_all := g_w 269 (by decide +kernel) (by decide +kernel)
theorem kw_271 : Cond.instanceMethod yX4_wordHere ∈ g_all := g_w 271 (by decide +kernel) (by decide +kernel)
theorem kw_272 : Cond.code yX4_wordHere cX4_wordHere 2 (some FieldType.int) ∈ g_all := g_w 272 (by decide +kernel) (by decide +kernel)
theorem kw_275 : Cond.methodLink RX4 97 yX4_isSpelled ∈ g_all := g_w 275 (by decide +kernel) (by decide +kernel)
theorem kw_277 : Cond.instanceMethod yX4_isSpelled ∈ g_all := g_w 277 (by decide +kernel) (by decide +kernel)
theorem kw_278 : Cond.code yX4_isSpelled cX4_isSpelled 3 (some FieldType.boolean) ∈ g_all := g_w 278 (by decide +kernel) (by decide +kernel)
theorem kw_279 : Cond.methodLink RX4 101 yJ0_length_8abf5 ∈ g_all := g_w 279 (by decide +kernel) (by decide +kernel)
theorem kw_280 : Cond.instanceMethod yJ0_length_8abf5 ∈ g_all := g_w 280 (by decide +kernel) (by decide +kernel)
theorem kw_281 : Cond.selects RJ0 yJ0_length_8abf5 yJ0_length_8abf5 ∈ g_all := g_w 281 (by decide +kernel) (by decide +kernel)
theorem kw_282 : Cond.code yJ0_length_8abf5 cJ0_length_8abf5 1 (some FieldType.int) ∈ g_all := g_w 282 (by decide +kernel) (by decide +kernel)
theorem kw_283 : Cond.methodLink RJ0 335 yJ0_coder_7d493 ∈ g_all := g_w 283 (by decide +kernel) (by decide +kernel)
theorem kw_284 : Cond.instanceMethod yJ0_coder_7d493 ∈ g_all := g_w 284 (by decide +kernel) (by decide +kernel)
theorem kw_285 : Cond.selects RJ0 yJ0_coder_7d493 yJ0_coder_7d493 ∈ g_all := g_w 285 (by decide +kernel) (by decide +kernel)
theorem kw_286 : Cond.code yJ0_coder_7d493 cJ0_coder_7d493 1 (some FieldType.byte) ∈ g_all := g_w 286 (by decide +kernel) (by decide +kernel)
theorem kw_287 : Cond.fieldLink RJ0 38 "java/lang/String" "COMPACT_STRINGS" "Z" ∈ g_all := g_w 287 (by decide +kernel) (by decide +kernel)
theorem kw_289 : Cond.methodLink RX4 105 yJ0_charAt_5068e ∈ g_all := g_w 289 (by decide +kernel) (by decide +kernel)
theorem kw_290 : Cond.instanceMethod yJ0_charAt_5068e ∈ g_all := g_w 290 (by decide +kernel) (by decide +kernel)
theorem kw_291 : Cond.selects RJ0 yJ0_charAt_5068e yJ0_charAt_5068e ∈ g_all := g_w 291 (by decide +kernel) (by decide +kernel)
theorem kw_292 : Cond.code yJ0_charAt_5068e cJ0_charAt_5068e 2 (some FieldType.char) ∈ g_all := g_w 292 (by decide +kernel) (by decide +kernel)
theorem kw_293 : Cond.methodLink RJ0 492 yJ0_isLatin1_aae02 ∈ g_all := g_w 293 (by decide +kernel) (by decide +kernel)
theorem kw_294 : Cond.instanceMethod yJ0_isLatin1_aae02 ∈ g_all := g_w 294 (by decide +kernel) (by decide +kernel)
theorem kw_295 : Cond.selects RJ0 yJ0_isLatin1_aae02 yJ0_isLatin1_aae02 ∈ g_all := g_w 295 (by decide +kernel) (by decide +kernel)
theorem kw_296 : Cond.code yJ0_isLatin1_aae02 cJ0_isLatin1_aae02 1 (some FieldType.boolean) ∈ g_all := g_w 296 (by decide +kernel) (by decide +kernel)
theorem kw_297 : Cond.methodLink RJ0 495 yJ1_charAt_3b067 ∈ g_all := g_w 297 (by decide +kernel) (by decide +kernel)
theorem kw_298 : Cond.static yJ1_charAt_3b067 ∈ g_all := g_w 298 (by decide +kernel) (by decide +kernel)
theorem kw_299 : Cond.code yJ1_charAt_3b067 cJ1_charAt_3b067 2 (some FieldType.char) ∈ g_all := g_w 299 (by decide +kernel) (by decide +kernel)
theorem kw_300 : Cond.methodLink RJ1 9 yJ0_checkIndex_df160 ∈ g_all := g_w 300 (by decide +kernel) (by decide +kernel)
theorem kw_301 : Cond.static yJ0_checkIndex_df160 ∈ g_all := g_w 301 (by decide +kernel) (by decide +kernel)
theorem kw_302 : Cond.code yJ0_checkIndex_df160 cJ0_checkIndex_df160 2 none ∈ g_all := g_w 302 (by decide +kernel) (by decide +kernel)
theorem kw_303 : Cond.fieldLink RJ0 1053 "jdk/internal/util/Preconditions" "SIOOBE_FORMATTER" "Ljava/util/function/BiFunction;" ∈ g_all := g_w 303 (by decide +kernel) (by decide +kernel)
theorem kw_305 : Cond.methodLink RJ0 1059 yJ3_checkIndex_8e157 ∈ g_all := g_w 305 (by decide +kernel) (by decide +kernel)
theorem kw_306 : Cond.static yJ3_checkIndex_8e157 ∈ g_all := g_w 306 (by decide +kernel) (by decide +kernel)
theorem kw_307 : Cond.code yJ3_checkIndex_8e157 cJ3_checkIndex_8e157 3 (some FieldType.int) ∈ g_all := g_w 307 (by decide +kernel) (by decide +kernel)
theorem kw_308 : Cond.methodLink RJ0 498 yJ2_charAt_3b067 ∈ g_all := g_w 308 (by decide +kernel) (by decide +kernel)
theorem kw_309 : Cond.static yJ2_charAt_3b067 ∈ g_all := g_w 309 (by decide +kernel) (by decide +kernel)
theorem kw_310 : Cond.code yJ2_charAt_3b067 cJ2_charAt_3b067 2 (some FieldType.char) ∈ g_all := g_w 310 (by decide +kernel) (by decide +kernel)
theorem kw_311 : Cond.methodLink RJ2 67 yJ2_checkIndex_2214a ∈ g_all := g_w 311 (by decide +kernel) (by decide +kernel)
theorem kw_312 : Cond.static yJ2_checkIndex_2214a ∈ g_all := g_w 312 (by decide +kernel) (by decide +kernel)
theorem kw_313 : Cond.code yJ2_checkIndex_2214a cJ2_checkIndex_2214a 2 none ∈ g_all := g_w 313 (by decide +kernel) (by decide +kernel)
theorem kw_314 : Cond.methodLink RJ2 48 yJ2_length_9d52b ∈ g_all := g_w 314 (by decide +kernel) (by decide +kernel)
theorem kw_315 : Cond.static yJ2_length_9d52b ∈ g_all := g_w 315 (by decide +kernel) (by decide +kernel)
theorem kw_316 : Cond.code yJ2_length_9d52b cJ2_length_9d52b 1 (some FieldType.int) ∈ g_all := g_w 316 (by decide +kernel) (by decide +kernel)
theorem kw_317 : Cond.methodLink RJ2 414 yJ0_checkIndex_df160 ∈ g_all := g_w 317 (by decide +kernel) (by decide +kernel)
theorem kw_318 : Cond.methodLink RJ2 71 yJ2_getChar_3b067 ∈ g_all := g_w 318 (by decide +kernel) (by decide +kernel)
theorem kw_319 : Cond.static yJ2_getChar_3b067 ∈ g_all := g_w 319 (by decide +kernel) (by decide +kernel)
theorem kw_320 : Cond.code yJ2_getChar_3b067 cJ2_getChar_3b067 2 (some FieldType.char) ∈ g_all := g_w 320 (by decide +kernel) (by decide +kernel)
theorem kw_321 : Cond.fieldLink RJ2 44 "java/lang/StringUTF16" "$assertionsDisabled" "Z" ∈ g_all := g_w 321 (by decide +kernel) (by decide +kernel)
theorem kw_323 : Cond.fieldLink RJ2 59 "java/lang/StringUTF16" "HI_BYTE_SHIFT" "I" ∈ g_all := g_w 323 (by decide +kernel) (by decide +kernel)
theorem kw_325 : Cond.fieldLink RJ2 63 "java/lang/StringUTF16" "LO_BYTE_SHIFT" "I" ∈ g_all := g_w 325 (by decide +kernel) (by decide +kernel)
theorem kw_327 : Cond.fieldLink RX4 60 "SkewPlan$Word" "PATH" "LSkewPlan$Word;" ∈ g_all := g_w 327 (by decide +kernel) (by decide +kernel)
theorem kw_329 : Cond.methodLink RX4 66 yX2_hasAllPaths ∈ g_all := g_w 329 (by decide +kernel) (by decide +kernel)
theorem kw_330 : Cond.instanceMethod yX2_hasAllPaths ∈ g_all := g_w 330 (by decide +kernel) (by decide +kernel)
theorem kw_331 : Cond.selects RX2 yX2_hasAllPaths yX2_hasAllPaths ∈ g_all := g_w 331 (by decide +kernel) (by decide +kernel)
theorem kw_332 : Cond.code yX2_hasAllPaths cX2_hasAllPaths 1 (some FieldType.boolean) ∈ g_all := g_w 332 (by decide +kernel) (by decide +kernel)
theorem kw_333 : Cond.methodLink RX4 69 yX4_readPath ∈ g_all := g_w 333 (by decide +kernel) (by decide +kernel)
theorem kw_335 : Cond.instanceMethod yX4_readPath ∈ g_all := g_w 335 (by decide +kernel) (by decide +kernel)
theorem kw_336 : Cond.code yX4_readPath cX4_readPath 6 (some FieldType.boolean) ∈ g_all := g_w 336 (by decide +kernel) (by decide +kernel)
theorem kw_337 : Cond.methodLink RX4 78 yX4_readNumber ∈ g_all := g_w 337 (by decide +kernel) (by decide +kernel)
theorem kw_339 : Cond.instanceMethod yX4_readNumber ∈ g_all := g_w 339 (by decide +kernel) (by decide +kernel)
theorem kw_340 : Cond.code yX4_readNumber cX4_readNumber 5 (some FieldType.int) ∈ g_all := g_w 340 (by decide +kernel) (by decide +kernel)
theorem kw_342 : Cond.methodLink RX4 89 yX2_addPath ∈ g_all := g_w 342 (by decide +kernel) (by decide +kernel)
theorem kw_343 : Cond.instanceMethod yX2_addPath ∈ g_all := g_w 343 (by decide +kernel) (by decide +kernel)
theorem kw_344 : Cond.selects RX2 yX2_addPath yX2_addPath ∈ g_all := g_w 344 (by decide +kernel) (by decide +kernel)
theorem kw_345 : Cond.code yX2_addPath cX2_addPath 5 none ∈ g_all := g_w 345 (by decide +kernel) (by decide +kernel)
theorem kw_346 : Cond.methodLink RX2 64 yX2_hasAllPaths ∈ g_all := g_w 346 (by decide +kernel) (by decide +kernel)
theorem kw_347 : Cond.methodLink RX4 82 yX2_tell ∈ g_all := g_w 347 (by decide +kernel) (by decide +kernel)
theorem kw_348 : Cond.instanceMethod yX2_tell ∈ g_all := g_w 348 (by decide +kernel) (by decide +kernel)
theorem kw_349 : Cond.selects RX2 yX2_tell yX2_tell ∈ g_all := g_w 349 (by decide +kernel) (by decide +kernel)
theorem kw_350 : Cond.code yX2_tell cX2_tell 3 none ∈ g_all := g_w 350 (by decide +kernel) (by decide +kernel)
theorem kw_351 : Cond.fieldLink RX2 53 "SkewPlan$1" "$SwitchMap$SkewPlan$Word" "[I" ∈ g_all := g_w 351 (by decide +kernel) (by decide +kernel)
theorem kw_353 : Cond.methodLink RX2 58 ⟨"SkewPlan$Word", "ordinal", "()I"⟩ ∈ g_all := g_w 353 (by decide +kernel) (by decide +kernel)
theorem kw_354 : Cond.sameMethod "SkewPlan$Word" "java/lang/Enum" "ordinal" "()I" ∈ g_all := g_w 354 (by decide +kernel) (by decide +kernel)
theorem kw_356 : Cond.selects RX6 ⟨"SkewPlan$Word", "ordinal", "()I"⟩ yJx29ce0_ordinal_8abf5 ∈ g_all := g_w 356 (by decide +kernel) (by decide +kernel)
theorem kw_357 : Cond.instanceMethod yJx29ce0_ordinal_8abf5 ∈ g_all := g_w 357 (by decide +kernel) (by decide +kernel)
theorem kw_358 : Cond.code yJx29ce0_ordinal_8abf5 cJx29ce0_ordinal_8abf5 1 (some FieldType.int) ∈ g_all := g_w 358 (by decide +kernel) (by decide +kernel)
theorem kw_359 : Cond.methodLink RL 27 yX7_net ∈ g_all := g_w 359 (by decide +kernel) (by decide +kernel)
theorem kw_360 : Cond.instanceMethod yX7_net ∈ g_all := g_w 360 (by decide +kernel) (by decide +kernel)
theorem kw_361 : Cond.selects RX7 yX7_net yX7_net ∈ g_all := g_w 361 (by decide +kernel) (by decide +kernel)
theorem kw_362 : Cond.code yX7_net cX7_net 2 (some FieldType.int) ∈ g_all := g_w 362 (by decide +kernel) (by decide +kernel)
theorem kw_363 : Cond.methodLink RX7 77 yX2_copyFrom ∈ g_all := g_w 363 (by decide +kernel) (by decide +kernel)
theorem kw_364 : Cond.methodLink RX7 81 yX1_clear ∈ g_all := g_w 364 (by decide +kernel) (by decide +kernel)
theorem kw_365 : Cond.instanceMethod yX1_clear ∈ g_all := g_w 365 (by decide +kernel) (by decide +kernel)
theorem kw_366 : Cond.selects RX1 yX1_clear yX1_clear ∈ g_all := g_w 366 (by decide +kernel) (by decide +kernel)
theorem kw_367 : Cond.code yX1_clear cX1_clear 1 none ∈ g_all := g_w 367 (by decide +kernel) (by decide +kernel)
theorem kw_368 : Cond.methodLink RX7 82 yX5_lose ∈ g_all := g_w 368 (by decide +kernel) (by decide +kernel)
theorem kw_369 : Cond.instanceMethod yX5_lose ∈ g_all := g_w 369 (by decide +kernel) (by decide +kernel)
theorem kw_370 : Cond.selects RX5 yX5_lose yX5_lose ∈ g_all := g_w 370 (by decide +kernel) (by decide +kernel)
theorem kw_371 : Cond.code yX5_lose cX5_lose 1 none ∈ g_all := g_w 371 (by decide +kernel) (by decide +kernel)
theorem kw_372 : Cond.methodLink RX7 85 yX4_clauseCount ∈ g_all := g_w 372 (by decide +kernel) (by decide +kernel)
theorem kw_373 : Cond.instanceMethod yX4_clauseCount ∈ g_all := g_w 373 (by decide +kernel) (by decide +kernel)
theorem kw_374 : Cond.selects RX4 yX4_clauseCount yX4_clauseCount ∈ g_all := g_w 374 (by decide +kernel) (by decide +kernel)
theorem kw_375 : Cond.code yX4_clauseCount cX4_clauseCount 1 (some FieldType.int) ∈ g_all := g_w 375 (by decide +kernel) (by decide +kernel)
theorem kw_376 : Cond.methodLink RL 31 yX7_path ∈ g_all := g_w 376 (by decide +kernel) (by decide +kernel)
theorem kw_377 : Cond.instanceMethod yX7_path ∈ g_all := g_w 377 (by decide +kernel) (by decide +kernel)
theorem kw_378 : Cond.selects RX7 yX7_path yX7_path ∈ g_all := g_w 378 (by decide +kernel) (by decide +kernel)
theorem kw_379 : Cond.code yX7_path cX7_path 3 (some FieldType.int) ∈ g_all := g_w 379 (by decide +kernel) (by decide +kernel)
theorem kw_380 : Cond.methodLink RX7 88 yX7_isPath ∈ g_all := g_w 380 (by decide +kernel) (by decide +kernel)
theorem kw_382 : Cond.instanceMethod yX7_isPath ∈ g_all := g_w 382 (by decide +kernel) (by decide +kernel)
theorem kw_383 : Cond.code yX7_isPath cX7_isPath 2 (some FieldType.boolean) ∈ g_all := g_w 383 (by decide +kernel) (by decide +kernel)
theorem kw_384 : Cond.methodLink RX7 105 yX2_lateBound ∈ g_all := g_w 384 (by decide +kernel) (by decide +kernel)
theorem kw_385 : Cond.instanceMethod yX2_lateBound ∈ g_all := g_w 385 (by decide +kernel) (by decide +kernel)
theorem kw_386 : Cond.selects RX2 yX2_lateBound yX2_lateBound ∈ g_all := g_w 386 (by decide +kernel) (by decide +kernel)
theorem kw_387 : Cond.code yX2_lateBound cX2_lateBound 2 (some FieldType.int) ∈ g_all := g_w 387 (by decide +kernel) (by decide +kernel)
theorem kw_388 : Cond.methodLink RX7 109 yX2_soonBound ∈ g_all := g_w 388 (by decide +kernel) (by decide +kernel)
theorem kw_389 : Cond.instanceMethod yX2_soonBound ∈ g_all := g_w 389 (by decide +kernel) (by decide +kernel)
theorem kw_390 : Cond.selects RX2 yX2_soonBound yX2_soonBound ∈ g_all := g_w 390 (by decide +kernel) (by decide +kernel)
theorem kw_391 : Cond.code yX2_soonBound cX2_soonBound 2 (some FieldType.int) ∈ g_all := g_w 391 (by decide +kernel) (by decide +kernel)
theorem kw_392 : Cond.methodLink RL 36 yX7_period ∈ g_all := g_w 392 (by decide +kernel) (by decide +kernel)
theorem kw_393 : Cond.instanceMethod yX7_period ∈ g_all := g_w 393 (by decide +kernel) (by decide +kernel)
theorem kw_394 : Cond.selects RX7 yX7_period yX7_period ∈ g_all := g_w 394 (by decide +kernel) (by decide +kernel)
theorem kw_395 : Cond.code yX7_period cX7_period 3 (some FieldType.int) ∈ g_all := g_w 395 (by decide +kernel) (by decide +kernel)
theorem kw_396 : Cond.methodLink RX7 116 yX1_push ∈ g_all := g_w 396 (by decide +kernel) (by decide +kernel)
theorem kw_397 : Cond.instanceMethod yX1_push ∈ g_all := g_w 397 (by decide +kernel) (by decide +kernel)
theorem kw_398 : Cond.selects RX1 yX1_push yX1_push ∈ g_all := g_w 398 (by decide +kernel) (by decide +kernel)
theorem kw_399 : Cond.code yX1_push cX1_push 3 none ∈ g_all := g_w 399 (by decide +kernel) (by decide +kernel)
theorem kw_400 : Cond.methodLink RX1 25 yJ9_min_7cf53 ∈ g_all := g_w 400 (by decide +kernel) (by decide +kernel)
theorem kw_401 : Cond.static yJ9_min_7cf53 ∈ g_all := g_w 401 (by decide +kernel) (by decide +kernel)
theorem kw_402 : Cond.code yJ9_min_7cf53 cJ9_min_7cf53 2 (some FieldType.int) ∈ g_all := g_w 402 (by decide +kernel) (by decide +kernel)
theorem kw_403 : Cond.methodLink RL 40 yX7_slower ∈ g_all := g_w 403 (by decide +kernel) (by decide +kernel)
theorem kw_404 : Cond.instanceMethod yX7_slower ∈ g_all := g_w 404 (by decide +kernel) (by decide +kernel)
theorem kw_405 : Cond.selects RX7 yX7_slower yX7_slower ∈ g_all := g_w 405 (by decide +kernel) (by decide +kernel)
theorem kw_406 : Cond.code yX7_slower cX7_slower 3 (some FieldType.int) ∈ g_all := g_w 406 (by decide +kernel) (by decide +kernel)
theorem kw_407 : Cond.methodLink RX7 120 yX2_canBeSlower ∈ g_all := g_w 407 (by decide +kernel) (by decide +kernel)
theorem kw_408 : Cond.instanceMethod yX2_canBeSlower ∈ g_all := g_w 408 (by decide +kernel) (by decide +kernel)
theorem kw_409 : Cond.selects RX2 yX2_canBeSlower yX2_canBeSlower ∈ g_all := g_w 409 (by decide +kernel) (by decide +kernel)
theorem kw_410 : Cond.code yX2_canBeSlower cX2_canBeSlower 3 (some FieldType.boolean) ∈ g_all := g_w 410 (by decide +kernel) (by decide +kernel)
theorem kw_411 : Cond.methodLink RX7 124 yX2_delay ∈ g_all := g_w 411 (by decide +kernel) (by decide +kernel)
theorem kw_412 : Cond.instanceMethod yX2_delay ∈ g_all := g_w 412 (by decide +kernel) (by decide +kernel)
theorem kw_413 : Cond.selects RX2 yX2_delay yX2_delay ∈ g_all := g_w 413 (by decide +kernel) (by decide +kernel)
theorem kw_414 : Cond.code yX2_delay cX2_delay 3 none ∈ g_all := g_w 414 (by decide +kernel) (by decide +kernel)
theorem kw_415 : Cond.methodLink RL 44 yX7_undo ∈ g_all := g_w 415 (by decide +kernel) (by decide +kernel)
theorem kw_416 : Cond.instanceMethod yX7_undo ∈ g_all := g_w 416 (by decide +kernel) (by decide +kernel)
theorem kw_417 : Cond.selects RX7 yX7_undo yX7_undo ∈ g_all := g_w 417 (by decide +kernel) (by decide +kernel)
theorem kw_418 : Cond.code yX7_undo cX7_undo 1 (some FieldType.int) ∈ g_all := g_w 418 (by decide +kernel) (by decide +kernel)
theorem kw_419 : Cond.methodLink RX7 127 yX1_size ∈ g_all := g_w 419 (by decide +kernel) (by decide +kernel)
theorem kw_420 : Cond.instanceMethod yX1_size ∈ g_all := g_w 420 (by decide +kernel) (by decide +kernel)
theorem kw_421 : Cond.selects RX1 yX1_size yX1_size ∈ g_all := g_w 421 (by decide +kernel) (by decide +kernel)
theorem kw_422 : Cond.code yX1_size cX1_size 1 (some FieldType.int) ∈ g_all := g_w 422 (by decide +kernel) (by decide +kernel)
theorem kw_423 : Cond.methodLink RX7 130 yX1_revertLatest ∈ g_all := g_w 423 (by decide +kernel) (by decide +kernel)
theorem kw_424 : Cond.instanceMethod yX1_revertLatest ∈ g_all := g_w 424 (by decide +kernel) (by decide +kernel)
theorem kw_425 : Cond.selects RX1 yX1_revertLatest yX1_revertLatest ∈ g_all := g_w 425 (by decide +kernel) (by decide +kernel)
theorem kw_426 : Cond.code yX1_revertLatest cX1_revertLatest 2 none ∈ g_all := g_w 426 (by decide +kernel) (by decide +kernel)
theorem kw_427 : Cond.methodLink RX1 36 yX2_delay ∈ g_all := g_w 427 (by decide +kernel) (by decide +kernel)
theorem kw_428 : Cond.methodLink RL 48 yX7_keep ∈ g_all := g_w 428 (by decide +kernel) (by decide +kernel)
theorem kw_429 : Cond.instanceMethod yX7_keep ∈ g_all := g_w 429 (by decide +kernel) (by decide +kernel)
theorem kw_430 : Cond.selects RX7 yX7_keep yX7_keep ∈ g_all := g_w 430 (by decide +kernel) (by decide +kernel)
theorem kw_431 : Cond.code yX7_keep cX7_keep 2 (some FieldType.int) ∈ g_all := g_w 431 (by decide +kernel) (by decide +kernel)
theorem kw_432 : Cond.methodLink RX7 133 yX7_isKeptPlace ∈ g_all := g_w 432 (by decide +kernel) (by decide +kernel)
theorem kw_433 : Cond.static yX7_isKeptPlace ∈ g_all := g_w 433 (by decide +kernel) (by decide +kernel)
theorem kw_434 : Cond.code yX7_isKeptPlace cX7_isKeptPlace 1 (some FieldType.boolean) ∈ g_all := g_w 434 (by decide +kernel) (by decide +kernel)
theorem kw_435 : Cond.methodLink RL 52 yX7_back ∈ g_all := g_w 435 (by decide +kernel) (by decide +kernel)
theorem kw_436 : Cond.instanceMethod yX7_back ∈ g_all := g_w 436 (by decide +kernel) (by decide +kernel)
theorem kw_437 : Cond.selects RX7 yX7_back yX7_back ∈ g_all := g_w 437 (by decide +kernel) (by decide +kernel)
theorem kw_438 : Cond.code yX7_back cX7_back 2 (some FieldType.int) ∈ g_all := g_w 438 (by decide +kernel) (by decide +kernel)
theorem kw_439 : Cond.methodLink RL 56 yX7_feasible ∈ g_all := g_w 439 (by decide +kernel) (by decide +kernel)
theorem kw_440 : Cond.instanceMethod yX7_feasible ∈ g_all := g_w 440 (by decide +kernel) (by decide +kernel)
theorem kw_441 : Cond.selects RX7 yX7_feasible yX7_feasible ∈ g_all := g_w 441 (by decide +kernel) (by decide +kernel)
theorem kw_442 : Cond.code yX7_feasible cX7_feasible 1 (some FieldType.int) ∈ g_all := g_w 442 (by decide +kernel) (by decide +kernel)
theorem kw_443 : Cond.methodLink RX7 136 yX3_settlesNow ∈ g_all := g_w 443 (by decide +kernel) (by decide +kernel)
theorem kw_444 : Cond.instanceMethod yX3_settlesNow ∈ g_all := g_w 444 (by decide +kernel) (by decide +kernel)
theorem kw_445 : Cond.selects RX3 yX3_settlesNow yX3_settlesNow ∈ g_all := g_w 445 (by decide +kernel) (by decide +kernel)
theorem kw_446 : Cond.code yX3_settlesNow cX3_settlesNow 2 (some FieldType.boolean) ∈ g_all := g_w 446 (by decide +kernel) (by decide +kernel)
theorem kw_447 : Cond.methodLink RX3 35 yX3_settlesWithMargin ∈ g_all := g_w 447 (by decide +kernel) (by decide +kernel)
theorem kw_449 : Cond.instanceMethod yX3_settlesWithMargin ∈ g_all := g_w 449 (by decide +kernel) (by decide +kernel)
theorem kw_450 : Cond.code yX3_settlesWithMargin cX3_settlesWithMargin 3 (some FieldType.boolean) ∈ g_all := g_w 450 (by decide +kernel) (by decide +kernel)
theorem kw_451 : Cond.methodLink RX3 47 yX3_layBounds ∈ g_all := g_w 451 (by decide +kernel) (by decide +kernel)
theorem kw_453 : Cond.instanceMethod yX3_layBounds ∈ g_all := g_w 453 (by decide +kernel) (by decide +kernel)
theorem kw_454 : Cond.code yX3_layBounds cX3_layBounds 11 none ∈ g_all := g_w 454 (by decide +kernel) (by decide +kernel)
theorem kw_455 : Cond.constant RX3 73 (2147483647 : Int32) ∈ g_all := g_w 455 (by decide +kernel) (by decide +kernel)
theorem kw_456 : Cond.methodLink RX3 89 yX2_soonBound ∈ g_all := g_w 456 (by decide +kernel) (by decide +kernel)
theorem kw_457 : Cond.methodLink RX3 93 yX3_tighten ∈ g_all := g_w 457 (by decide +kernel) (by decide +kernel)
theorem kw_459 : Cond.instanceMethod yX3_tighten ∈ g_all := g_w 459 (by decide +kernel) (by decide +kernel)
theorem kw_460 : Cond.code yX3_tighten cX3_tighten 5 none ∈ g_all := g_w 460 (by decide +kernel) (by decide +kernel)
theorem kw_461 : Cond.methodLink RX3 66 yJ9_floorDiv_7cf53 ∈ g_all := g_w 461 (by decide +kernel) (by decide +kernel)
theorem kw_462 : Cond.static yJ9_floorDiv_7cf53 ∈ g_all := g_w 462 (by decide +kernel) (by decide +kernel)
theorem kw_463 : Cond.code yJ9_floorDiv_7cf53 cJ9_floorDiv_7cf53 3 (some FieldType.int) ∈ g_all := g_w 463 (by decide +kernel) (by decide +kernel)
theorem kw_464 : Cond.methodLink RX3 97 yJ9_min_7cf53 ∈ g_all := g_w 464 (by decide +kernel) (by decide +kernel)
theorem kw_465 : Cond.methodLink RX3 51 yX3_settle ∈ g_all := g_w 465 (by decide +kernel) (by decide +kernel)
theorem kw_467 : Cond.instanceMethod yX3_settle ∈ g_all := g_w 467 (by decide +kernel) (by decide +kernel)
theorem kw_468 : Cond.code yX3_settle cX3_settle 2 (some FieldType.boolean) ∈ g_all := g_w 468 (by decide +kernel) (by decide +kernel)
theorem kw_469 : Cond.methodLink RX3 100 yX3_lowerOnce ∈ g_all := g_w 469 (by decide +kernel) (by decide +kernel)
theorem kw_471 : Cond.instanceMethod yX3_lowerOnce ∈ g_all := g_w 471 (by decide +kernel) (by decide +kernel)
theorem kw_472 : Cond.code yX3_lowerOnce cX3_lowerOnce 5 (some FieldType.boolean) ∈ g_all := g_w 472 (by decide +kernel) (by decide +kernel)
theorem kw_473 : Cond.methodLink RL 60 yX7_shift ∈ g_all := g_w 473 (by decide +kernel) (by decide +kernel)
theorem kw_474 : Cond.instanceMethod yX7_shift ∈ g_all := g_w 474 (by decide +kernel) (by decide +kernel)
theorem kw_475 : Cond.selects RX7 yX7_shift yX7_shift ∈ g_all := g_w 475 (by decide +kernel) (by decide +kernel)
theorem kw_476 : Cond.code yX7_shift cX7_shift 2 (some FieldType.int) ∈ g_all := g_w 476 (by decide +kernel) (by decide +kernel)
theorem kw_477 : Cond.methodLink RX7 143 yX3_shiftOf ∈ g_all := g_w 477 (by decide +kernel) (by decide +kernel)
theorem kw_478 : Cond.instanceMethod yX3_shiftOf ∈ g_all := g_w 478 (by decide +kernel) (by decide +kernel)
theorem kw_479 : Cond.selects RX3 yX3_shiftOf yX3_shiftOf ∈ g_all := g_w 479 (by decide +kernel) (by decide +kernel)
theorem kw_480 : Cond.code yX3_shiftOf cX3_shiftOf 2 (some FieldType.int) ∈ g_all := g_w 480 (by decide +kernel) (by decide +kernel)
theorem kw_481 : Cond.methodLink RL 64 yX7_least ∈ g_all := g_w 481 (by decide +kernel) (by decide +kernel)
theorem kw_482 : Cond.instanceMethod yX7_least ∈ g_all := g_w 482 (by decide +kernel) (by decide +kernel)
theorem kw_483 : Cond.selects RX7 yX7_least yX7_least ∈ g_all := g_w 483 (by decide +kernel) (by decide +kernel)
theorem kw_484 : Cond.code yX7_least cX7_least 1 (some FieldType.int) ∈ g_all := g_w 484 (by decide +kernel) (by decide +kernel)
theorem kw_485 : Cond.methodLink RX7 149 yX3_leastPeriod ∈ g_all := g_w 485 (by decide +kernel) (by decide +kernel)
theorem kw_486 : Cond.instanceMethod yX3_leastPeriod ∈ g_all := g_w 486 (by decide +kernel) (by decide +kernel)
theorem kw_487 : Cond.selects RX3 yX3_leastPeriod yX3_leastPeriod ∈ g_all := g_w 487 (by decide +kernel) (by decide +kernel)
theorem kw_488 : Cond.code yX3_leastPeriod cX3_leastPeriod 2 (some FieldType.int) ∈ g_all := g_w 488 (by decide +kernel) (by decide +kernel)
theorem kw_489 : Cond.methodLink RX3 55 yX3_leastPeriodAbove ∈ g_all := g_w 489 (by decide +kernel) (by decide +kernel)
theorem kw_491 : Cond.instanceMethod yX3_leastPeriodAbove ∈ g_all := g_w 491 (by decide +kernel) (by decide +kernel)
theorem kw_492 : Cond.code yX3_leastPeriodAbove cX3_leastPeriodAbove 8 (some FieldType.int) ∈ g_all := g_w 492 (by decide +kernel) (by decide +kernel)
theorem kw_493 : Cond.methodLink RX3 59 yX3_settlesAtPeriod ∈ g_all := g_w 493 (by decide +kernel) (by decide +kernel)
theorem kw_495 : Cond.instanceMethod yX3_settlesAtPeriod ∈ g_all := g_w 495 (by decide +kernel) (by decide +kernel)
theorem kw_496 : Cond.code yX3_settlesAtPeriod cX3_settlesAtPeriod 5 (some FieldType.boolean) ∈ g_all := g_w 496 (by decide +kernel) (by decide +kernel)
theorem kw_497 : Cond.methodLink RL 68 yX7_rate ∈ g_all := g_w 497 (by decide +kernel) (by decide +kernel)
theorem kw_498 : Cond.instanceMethod yX7_rate ∈ g_all := g_w 498 (by decide +kernel) (by decide +kernel)
theorem kw_499 : Cond.selects RX7 yX7_rate yX7_rate ∈ g_all := g_w 499 (by decide +kernel) (by decide +kernel)
theorem kw_500 : Cond.code yX7_rate cX7_rate 2 (some FieldType.int) ∈ g_all := g_w 500 (by decide +kernel) (by decide +kernel)
theorem kw_501 : Cond.methodLink RX7 153 yX3_findRate ∈ g_all := g_w 501 (by decide +kernel) (by decide +kernel)
theorem kw_502 : Cond.instanceMethod yX3_findRate ∈ g_all := g_w 502 (by decide +kernel) (by decide +kernel)
theorem kw_503 : Cond.selects RX3 yX3_findRate yX3_findRate ∈ g_all := g_w 503 (by decide +kernel) (by decide +kernel)
theorem kw_504 : Cond.code yX3_findRate cX3_findRate 4 (some FieldType.boolean) ∈ g_all := g_w 504 (by decide +kernel) (by decide +kernel)
theorem kw_505 : Cond.methodLink RX7 156 yX3_rateAbove ∈ g_all := g_w 505 (by decide +kernel) (by decide +kernel)
theorem kw_506 : Cond.instanceMethod yX3_rateAbove ∈ g_all := g_w 506 (by decide +kernel) (by decide +kernel)
theorem kw_507 : Cond.selects RX3 yX3_rateAbove yX3_rateAbove ∈ g_all := g_w 507 (by decide +kernel) (by decide +kernel)
theorem kw_508 : Cond.code yX3_rateAbove cX3_rateAbove 1 (some FieldType.int) ∈ g_all := g_w 508 (by decide +kernel) (by decide +kernel)
theorem kw_509 : Cond.methodLink RX7 159 yX3_rateBelow ∈ g_all := g_w 509 (by decide +kernel) (by decide +kernel)
theorem kw_510 : Cond.instanceMethod yX3_rateBelow ∈ g_all := g_w 510 (by decide +kernel) (by decide +kernel)
theorem kw_511 : Cond.selects RX3 yX3_rateBelow yX3_rateBelow ∈ g_all := g_w 511 (by decide +kernel) (by decide +kernel)
theorem kw_512 : Cond.code yX3_rateBelow cX3_rateBelow 1 (some FieldType.int) ∈ g_all := g_w 512 (by decide +kernel) (by decide +kernel)
theorem kw_513 : Cond.methodLink RL 72 yX7_margin ∈ g_all := g_w 513 (by decide +kernel) (by decide +kernel)
theorem kw_514 : Cond.instanceMethod yX7_margin ∈ g_all := g_w 514 (by decide +kernel) (by decide +kernel)
theorem kw_515 : Cond.selects RX7 yX7_margin yX7_margin ∈ g_all := g_w 515 (by decide +kernel) (by decide +kernel)
theorem kw_516 : Cond.code yX7_margin cX7_margin 1 (some FieldType.int) ∈ g_all := g_w 516 (by decide +kernel) (by decide +kernel)
theorem kw_517 : Cond.methodLink RX7 162 yX3_greatestMargin ∈ g_all := g_w 517 (by decide +kernel) (by decide +kernel)
theorem kw_518 : Cond.instanceMethod yX3_greatestMargin ∈ g_all := g_w 518 (by decide +kernel) (by decide +kernel)
theorem kw_519 : Cond.selects RX3 yX3_greatestMargin yX3_greatestMargin ∈ g_all := g_w 519 (by decide +kernel) (by decide +kernel)
theorem kw_520 : Cond.code yX3_greatestMargin cX3_greatestMargin 6 (some FieldType.int) ∈ g_all := g_w 520 (by decide +kernel) (by decide +kernel)
theorem kw_521 : Cond.methodLink RL 76 yX7_spare ∈ g_all := g_w 521 (by decide +kernel) (by decide +kernel)
theorem kw_522 : Cond.instanceMethod yX7_spare ∈ g_all := g_w 522 (by decide +kernel) (by decide +kernel)
theorem kw_523 : Cond.selects RX7 yX7_spare yX7_spare ∈ g_all := g_w 523 (by decide +kernel) (by decide +kernel)
theorem kw_524 : Cond.code yX7_spare cX7_spare 5 (some FieldType.int) ∈ g_all := g_w 524 (by decide +kernel) (by decide +kernel)
theorem kw_525 : Cond.methodLink RL 80 yX7_cycle ∈ g_all := g_w 525 (by decide +kernel) (by decide +kernel)
theorem kw_526 : Cond.instanceMethod yX7_cycle ∈ g_all := g_w 526 (by decide +kernel) (by decide +kernel)
theorem kw_527 : Cond.selects RX7 yX7_cycle yX7_cycle ∈ g_all := g_w 527 (by decide +kernel) (by decide +kernel)
theorem kw_528 : Cond.code yX7_cycle cX7_cycle 2 (some FieldType.int) ∈ g_all := g_w 528 (by decide +kernel) (by decide +kernel)
theorem kw_529 : Cond.methodLink RX7 165 yX3_findRing ∈ g_all := g_w 529 (by decide +kernel) (by decide +kernel)
theorem kw_530 : Cond.instanceMethod yX3_findRing ∈ g_all := g_w 530 (by decide +kernel) (by decide +kernel)
theorem kw_531 : Cond.selects RX3 yX3_findRing yX3_findRing ∈ g_all := g_w 531 (by decide +kernel) (by decide +kernel)
theorem kw_532 : Cond.code yX3_findRing cX3_findRing 2 (some FieldType.boolean) ∈ g_all := g_w 532 (by decide +kernel) (by decide +kernel)
theorem kw_533 : Cond.methodLink RX3 103 yX3_closesFrom ∈ g_all := g_w 533 (by decide +kernel) (by decide +kernel)
theorem kw_535 : Cond.instanceMethod yX3_closesFrom ∈ g_all := g_w 535 (by decide +kernel) (by decide +kernel)
theorem kw_536 : Cond.code yX3_closesFrom cX3_closesFrom 8 (some FieldType.boolean) ∈ g_all := g_w 536 (by decide +kernel) (by decide +kernel)
theorem kw_537 : Cond.methodLink RX3 107 yX3_isInRing ∈ g_all := g_w 537 (by decide +kernel) (by decide +kernel)
theorem kw_539 : Cond.instanceMethod yX3_isInRing ∈ g_all := g_w 539 (by decide +kernel) (by decide +kernel)
theorem kw_540 : Cond.code yX3_isInRing cX3_isInRing 4 (some FieldType.boolean) ∈ g_all := g_w 540 (by decide +kernel) (by decide +kernel)
theorem kw_541 : Cond.methodLink RX7 169 yX3_ringLength ∈ g_all := g_w 541 (by decide +kernel) (by decide +kernel)
theorem kw_542 : Cond.instanceMethod yX3_ringLength ∈ g_all := g_w 542 (by decide +kernel) (by decide +kernel)
theorem kw_543 : Cond.selects RX3 yX3_ringLength yX3_ringLength ∈ g_all := g_w 543 (by decide +kernel) (by decide +kernel)
theorem kw_544 : Cond.code yX3_ringLength cX3_ringLength 1 (some FieldType.int) ∈ g_all := g_w 544 (by decide +kernel) (by decide +kernel)
theorem kw_545 : Cond.methodLink RX7 172 yX3_ringRegister ∈ g_all := g_w 545 (by decide +kernel) (by decide +kernel)
theorem kw_546 : Cond.instanceMethod yX3_ringRegister ∈ g_all := g_w 546 (by decide +kernel) (by decide +kernel)
theorem kw_547 : Cond.selects RX3 yX3_ringRegister yX3_ringRegister ∈ g_all := g_w 547 (by decide +kernel) (by decide +kernel)
theorem kw_548 : Cond.code yX3_ringRegister cX3_ringRegister 2 (some FieldType.int) ∈ g_all := g_w 548 (by decide +kernel) (by decide +kernel)
theorem kw_549 : Cond.methodLink RL 84 yX7_buffer ∈ g_all := g_w 549 (by decide +kernel) (by decide +kernel)
theorem kw_550 : Cond.instanceMethod yX7_buffer ∈ g_all := g_w 550 (by decide +kernel) (by decide +kernel)
theorem kw_551 : Cond.selects RX7 yX7_buffer yX7_buffer ∈ g_all := g_w 551 (by decide +kernel) (by decide +kernel)
theorem kw_552 : Cond.code yX7_buffer cX7_buffer 6 (some FieldType.int) ∈ g_all := g_w 552 (by decide +kernel) (by decide +kernel)
theorem kw_553 : Cond.methodLink RX7 175 yX7_orAboveAll ∈ g_all := g_w 553 (by decide +kernel) (by decide +kernel)
theorem kw_554 : Cond.static yX7_orAboveAll ∈ g_all := g_w 554 (by decide +kernel) (by decide +kernel)
theorem kw_555 : Cond.code yX7_orAboveAll cX7_orAboveAll 1 (some FieldType.int) ∈ g_all := g_w 555 (by decide +kernel) (by decide +kernel)
theorem kw_556 : Cond.methodLink RL 88 yX7_trace ∈ g_all := g_w 556 (by decide +kernel) (by decide +kernel)
theorem kw_557 : Cond.instanceMethod yX7_trace ∈ g_all := g_w 557 (by decide +kernel) (by decide +kernel)
theorem kw_558 : Cond.selects RX7 yX7_trace yX7_trace ∈ g_all := g_w 558 (by decide +kernel) (by decide +kernel)
theorem kw_559 : Cond.code yX7_trace cX7_trace 4 (some FieldType.int) ∈ g_all := g_w 559 (by decide +kernel) (by decide +kernel)
theorem kw_560 : Cond.methodLink RX7 181 yX7_isTrace ∈ g_all := g_w 560 (by decide +kernel) (by decide +kernel)
theorem kw_561 : Cond.static yX7_isTrace ∈ g_all := g_w 561 (by decide +kernel) (by decide +kernel)
theorem kw_562 : Cond.code yX7_isTrace cX7_isTrace 1 (some FieldType.boolean) ∈ g_all := g_w 562 (by decide +kernel) (by decide +kernel)
theorem kw_563 : Cond.methodLink RX7 184 yX7_isSort ∈ g_all := g_w 563 (by decide +kernel) (by decide +kernel)
theorem kw_564 : Cond.static yX7_isSort ∈ g_all := g_w 564 (by decide +kernel) (by decide +kernel)
theorem kw_565 : Cond.code yX7_isSort cX7_isSort 1 (some FieldType.boolean) ∈ g_all := g_w 565 (by decide +kernel) (by decide +kernel)
theorem kw_566 : Cond.methodLink RX7 187 yX5_renew ∈ g_all := g_w 566 (by decide +kernel) (by decide +kernel)
theorem kw_567 : Cond.instanceMethod yX5_renew ∈ g_all := g_w 567 (by decide +kernel) (by decide +kernel)
theorem kw_568 : Cond.selects RX5 yX5_renew yX5_renew ∈ g_all := g_w 568 (by decide +kernel) (by decide +kernel)
theorem kw_569 : Cond.code yX5_renew cX5_renew 4 none ∈ g_all := g_w 569 (by decide +kernel) (by decide +kernel)
theorem kw_570 : Cond.methodLink RX5 30 yX5_putNumber ∈ g_all := g_w 570 (by decide +kernel) (by decide +kernel)
theorem kw_572 : Cond.instanceMethod yX5_putNumber ∈ g_all := g_w 572 (by decide +kernel) (by decide +kernel)
theorem kw_573 : Cond.code yX5_putNumber cX5_putNumber 4 none ∈ g_all := g_w 573 (by decide +kernel) (by decide +kernel)
theorem kw_574 : Cond.methodLink RL 93 yX7_set ∈ g_all := g_w 574 (by decide +kernel) (by decide +kernel)
theorem kw_575 : Cond.instanceMethod yX7_set ∈ g_all := g_w 575 (by decide +kernel) (by decide +kernel)
theorem kw_576 : Cond.selects RX7 yX7_set yX7_set ∈ g_all := g_w 576 (by decide +kernel) (by decide +kernel)
theorem kw_577 : Cond.code yX7_set cX7_set 8 (some FieldType.int) ∈ g_all := g_w 577 (by decide +kernel) (by decide +kernel)
theorem kw_578 : Cond.methodLink RX7 190 yX7_isQuotientPart ∈ g_all := g_w 578 (by decide +kernel) (by decide +kernel)
theorem kw_579 : Cond.static yX7_isQuotientPart ∈ g_all := g_w 579 (by decide +kernel) (by decide +kernel)
theorem kw_580 : Cond.code yX7_isQuotientPart cX7_isQuotientPart 1 (some FieldType.boolean) ∈ g_all := g_w 580 (by decide +kernel) (by decide +kernel)
theorem kw_581 : Cond.methodLink RX7 193 yX5_finding ∈ g_all := g_w 581 (by decide +kernel) (by decide +kernel)
theorem kw_582 : Cond.instanceMethod yX5_finding ∈ g_all := g_w 582 (by decide +kernel) (by decide +kernel)
theorem kw_583 : Cond.selects RX5 yX5_finding yX5_finding ∈ g_all := g_w 583 (by decide +kernel) (by decide +kernel)
theorem kw_584 : Cond.code yX5_finding cX5_finding 4 (some FieldType.int) ∈ g_all := g_w 584 (by decide +kernel) (by decide +kernel)
theorem kw_586 : Cond.methodLink RX7 197 yX5_putQuotient ∈ g_all := g_w 586 (by decide +kernel) (by decide +kernel)
theorem kw_587 : Cond.instanceMethod yX5_putQuotient ∈ g_all := g_w 587 (by decide +kernel) (by decide +kernel)
theorem kw_588 : Cond.selects RX5 yX5_putQuotient yX5_putQuotient ∈ g_all := g_w 588 (by decide +kernel) (by decide +kernel)
theorem kw_589 : Cond.code yX5_putQuotient cX5_putQuotient 4 none ∈ g_all := g_w 589 (by decide +kernel) (by decide +kernel)
theorem kw_590 : Cond.methodLink RX5 38 yX5_putNoNumber ∈ g_all := g_w 590 (by decide +kernel) (by decide +kernel)
theorem kw_592 : Cond.instanceMethod yX5_putNoNumber ∈ g_all := g_w 592 (by decide +kernel) (by decide +kernel)
theorem kw_593 : Cond.code yX5_putNoNumber cX5_putNoNumber 2 none ∈ g_all := g_w 593 (by decide +kernel) (by decide +kernel)
theorem kw_594 : Cond.methodLink RX7 201 yX5_thousandAt ∈ g_all := g_w 594 (by decide +kernel) (by decide +kernel)
theorem kw_595 : Cond.instanceMethod yX5_thousandAt ∈ g_all := g_w 595 (by decide +kernel) (by decide +kernel)
theorem kw_596 : Cond.selects RX5 yX5_thousandAt yX5_thousandAt ∈ g_all := g_w 596 (by decide +kernel) (by decide +kernel)
theorem kw_597 : Cond.code yX5_thousandAt cX5_thousandAt 2 (some FieldType.int) ∈ g_all := g_w 597 (by decide +kernel) (by decide +kernel)
theorem kw_598 : Cond.constant RX5 56 (2000000 : Int32) ∈ g_all := g_w 598 (by decide +kernel) (by decide +kernel)
theorem kw_599 : Cond.constantFloat RX5 57 (1148846080 : UInt32) ∈ g_all := g_w 599 (by decide +kernel) (by decide +kernel)
theorem kw_600 : Cond.methodLink RX5 58 yX5_cutThousand ∈ g_all := g_w 600 (by decide +kernel) (by decide +kernel)
theorem kw_601 : Cond.static yX5_cutThousand ∈ g_all := g_w 601 (by decide +kernel) (by decide +kernel)
theorem kw_602 : Cond.code yX5_cutThousand cX5_cutThousand 2 (some FieldType.int) ∈ g_all := g_w 602 (by decide +kernel) (by decide +kernel)
theorem kw_603 : Cond.constantDouble RX5 52 (4696837146684686336 : UInt64) ∈ g_all := g_w 603 (by decide +kernel) (by decide +kernel)
theorem kw_604 : Cond.constant RX5 64 (3000000 : Int32) ∈ g_all := g_w 604 (by decide +kernel) (by decide +kernel)
theorem kw_605 : Cond.constantDouble RX5 54 (13920209183539462144 : UInt64) ∈ g_all := g_w 605 (by decide +kernel) (by decide +kernel)
theorem kw_606 : Cond.constant RX5 65 (1000000 : Int32) ∈ g_all := g_w 606 (by decide +kernel) (by decide +kernel)
theorem kw_607 : Cond.constantDouble RX5 62 (4652007308841189376 : UInt64) ∈ g_all := g_w 607 (by decide +kernel) (by decide +kernel)
theorem kw_608 : Cond.methodLink RL 98 yX7_get ∈ g_all := g_w 608 (by decide +kernel) (by decide +kernel)
theorem kw_609 : Cond.instanceMethod yX7_get ∈ g_all := g_w 609 (by decide +kernel) (by decide +kernel)
theorem kw_610 : Cond.selects RX7 yX7_get yX7_get ∈ g_all := g_w 610 (by decide +kernel) (by decide +kernel)
theorem kw_611 : Cond.code yX7_get cX7_get 5 (some FieldType.int) ∈ g_all := g_w 611 (by decide +kernel) (by decide +kernel)
theorem kw_612 : Cond.methodLink RX7 204 yX7_traceRefusal ∈ g_all := g_w 612 (by decide +kernel) (by decide +kernel)
theorem kw_614 : Cond.instanceMethod yX7_traceRefusal ∈ g_all := g_w 614 (by decide +kernel) (by decide +kernel)
theorem kw_615 : Cond.code yX7_traceRefusal cX7_traceRefusal 5 (some FieldType.int) ∈ g_all := g_w 615 (by decide +kernel) (by decide +kernel)
theorem kw_616 : Cond.methodLink RL 102 yX7_rest ∈ g_all := g_w 616 (by decide +kernel) (by decide +kernel)
theorem kw_617 : Cond.instanceMethod yX7_rest ∈ g_all := g_w 617 (by decide +kernel) (by decide +kernel)
theorem kw_618 : Cond.selects RX7 yX7_rest yX7_rest ∈ g_all := g_w 618 (by decide +kernel) (by decide +kernel)
theorem kw_619 : Cond.code yX7_rest cX7_rest 6 (some FieldType.int) ∈ g_all := g_w 619 (by decide +kernel) (by decide +kernel)
theorem kw_620 : Cond.methodLink RX7 208 yX5_putRemainder ∈ g_all := g_w 620 (by decide +kernel) (by decide +kernel)
theorem kw_621 : Cond.instanceMethod yX5_putRemainder ∈ g_all := g_w 621 (by decide +kernel) (by decide +kernel)
theorem kw_622 : Cond.selects RX5 yX5_putRemainder yX5_putRemainder ∈ g_all := g_w 622 (by decide +kernel) (by decide +kernel)
theorem kw_623 : Cond.code yX5_putRemainder cX5_putRemainder 3 none ∈ g_all := g_w 623 (by decide +kernel) (by decide +kernel)
theorem kw_624 : Cond.methodLink RX5 42 yX5_isEndless ∈ g_all := g_w 624 (by decide +kernel) (by decide +kernel)
theorem kw_625 : Cond.static yX5_isEndless ∈ g_all := g_w 625 (by decide +kernel) (by decide +kernel)
theorem kw_626 : Cond.code yX5_isEndless cX5_isEndless 2 (some FieldType.boolean) ∈ g_all := g_w 626 (by decide +kernel) (by decide +kernel)
theorem kw_627 : Cond.methodLink RX5 46 yX5_remainder ∈ g_all := g_w 627 (by decide +kernel) (by decide +kernel)
theorem kw_628 : Cond.static yX5_remainder ∈ g_all := g_w 628 (by decide +kernel) (by decide +kernel)
theorem kw_629 : Cond.code yX5_remainder cX5_remainder 10 (some FieldType.double) ∈ g_all := g_w 629 (by decide +kernel) (by decide +kernel)
theorem kw_630 : Cond.constantDouble RX5 50 (4611686018427387904 : UInt64) ∈ g_all := g_w 630 (by decide +kernel) (by decide +kernel)
theorem kw_631 : Cond.methodLink RL 107 yX7_compare ∈ g_all := g_w 631 (by decide +kernel) (by decide +kernel)
theorem kw_632 : Cond.instanceMethod yX7_compare ∈ g_all := g_w 632 (by decide +kernel) (by decide +kernel)
theorem kw_633 : Cond.selects RX7 yX7_compare yX7_compare ∈ g_all := g_w 633 (by decide +kernel) (by decide +kernel)
theorem kw_634 : Cond.code yX7_compare cX7_compare 6 (some FieldType.int) ∈ g_all := g_w 634 (by decide +kernel) (by decide +kernel)
theorem kw_635 : Cond.methodLink RX7 211 yX5_order ∈ g_all := g_w 635 (by decide +kernel) (by decide +kernel)
theorem kw_636 : Cond.instanceMethod yX5_order ∈ g_all := g_w 636 (by decide +kernel) (by decide +kernel)
theorem kw_637 : Cond.selects RX5 yX5_order yX5_order ∈ g_all := g_w 637 (by decide +kernel) (by decide +kernel)
theorem kw_638 : Cond.code yX5_order cX5_order 3 (some FieldType.int) ∈ g_all := g_w 638 (by decide +kernel) (by decide +kernel)
theorem kw_639 : Cond.methodLink RL 111 yX7_sum ∈ g_all := g_w 639 (by decide +kernel) (by decide +kernel)
theorem kw_640 : Cond.instanceMethod yX7_sum ∈ g_all := g_w 640 (by decide +kernel) (by decide +kernel)
theorem kw_641 : Cond.selects RX7 yX7_sum yX7_sum ∈ g_all := g_w 641 (by decide +kernel) (by decide +kernel)
theorem kw_642 : Cond.code yX7_sum cX7_sum 4 (some FieldType.int) ∈ g_all := g_w 642 (by decide +kernel) (by decide +kernel)
theorem kw_643 : Cond.methodLink RX7 215 yX5_isMissing ∈ g_all := g_w 643 (by decide +kernel) (by decide +kernel)
theorem kw_644 : Cond.instanceMethod yX5_isMissing ∈ g_all := g_w 644 (by decide +kernel) (by decide +kernel)
theorem kw_645 : Cond.selects RX5 yX5_isMissing yX5_isMissing ∈ g_all := g_w 645 (by decide +kernel) (by decide +kernel)
theorem kw_646 : Cond.code yX5_isMissing cX5_isMissing 1 (some FieldType.boolean) ∈ g_all := g_w 646 (by decide +kernel) (by decide +kernel)
theorem kw_647 : Cond.methodLink RX7 218 yX5_thousandOfAll ∈ g_all := g_w 647 (by decide +kernel) (by decide +kernel)
theorem kw_648 : Cond.instanceMethod yX5_thousandOfAll ∈ g_all := g_w 648 (by decide +kernel) (by decide +kernel)
theorem kw_649 : Cond.selects RX5 yX5_thousandOfAll yX5_thousandOfAll ∈ g_all := g_w 649 (by decide +kernel) (by decide +kernel)
theorem kw_650 : Cond.code yX5_thousandOfAll cX5_thousandOfAll 7 (some FieldType.int) ∈ g_all := g_w 650 (by decide +kernel) (by decide +kernel)
theorem kw_651 : Cond.methodLink RX7 221 yX5_noNumberCount ∈ g_all := g_w 651 (by decide +kernel) (by decide +kernel)
theorem kw_652 : Cond.instanceMethod yX5_noNumberCount ∈ g_all := g_w 652 (by decide +kernel) (by decide +kernel)
theorem kw_653 : Cond.selects RX5 yX5_noNumberCount yX5_noNumberCount ∈ g_all := g_w 653 (by decide +kernel) (by decide +kernel)
theorem kw_654 : Cond.code yX5_noNumberCount cX5_noNumberCount 3 (some FieldType.int) ∈ g_all := g_w 654 (by decide +kernel) (by decide +kernel)
theorem kw_655 : Cond.methodLink RL 115 yX7_drop ∈ g_all := g_w 655 (by decide +kernel) (by decide +kernel)
theorem kw_656 : Cond.instanceMethod yX7_drop ∈ g_all := g_w 656 (by decide +kernel) (by decide +kernel)
theorem kw_657 : Cond.selects RX7 yX7_drop yX7_drop ∈ g_all := g_w 657 (by decide +kernel) (by decide +kernel)
theorem kw_658 : Cond.code yX7_drop cX7_drop 4 (some FieldType.int) ∈ g_all := g_w 658 (by decide +kernel) (by decide +kernel)
theorem kw_659 : Cond.methodLink RX7 224 yX5_placeCount ∈ g_all := g_w 659 (by decide +kernel) (by decide +kernel)
theorem kw_660 : Cond.instanceMethod yX5_placeCount ∈ g_all := g_w 660 (by decide +kernel) (by decide +kernel)
theorem kw_661 : Cond.selects RX5 yX5_placeCount yX5_placeCount ∈ g_all := g_w 661 (by decide +kernel) (by decide +kernel)
theorem kw_662 : Cond.code yX5_placeCount cX5_placeCount 1 (some FieldType.int) ∈ g_all := g_w 662 (by decide +kernel) (by decide +kernel)
theorem kw_663 : Cond.methodLink RL 119 yX7_count ∈ g_all := g_w 663 (by decide +kernel) (by decide +kernel)
theorem kw_664 : Cond.instanceMethod yX7_count ∈ g_all := g_w 664 (by decide +kernel) (by decide +kernel)
theorem kw_665 : Cond.selects RX7 yX7_count yX7_count ∈ g_all := g_w 665 (by decide +kernel) (by decide +kernel)
theorem kw_666 : Cond.code yX7_count cX7_count 2 (some FieldType.int) ∈ g_all := g_w 666 (by decide +kernel) (by decide +kernel)
theorem kw_667 : Cond.methodLink RX7 233 yX7_placesOfAllTraces ∈ g_all := g_w 667 (by decide +kernel) (by decide +kernel)
theorem kw_669 : Cond.instanceMethod yX7_placesOfAllTraces ∈ g_all := g_w 669 (by decide +kernel) (by decide +kernel)
theorem kw_670 : Cond.code yX7_placesOfAllTraces cX7_placesOfAllTraces 3 (some FieldType.int) ∈ g_all := g_w 670 (by decide +kernel) (by decide +kernel)
theorem kw_671 : Cond.methodLink RX7 236 yX2_tooSoonCount ∈ g_all := g_w 671 (by decide +kernel) (by decide +kernel)
theorem kw_672 : Cond.instanceMethod yX2_tooSoonCount ∈ g_all := g_w 672 (by decide +kernel) (by decide +kernel)
theorem kw_673 : Cond.selects RX2 yX2_tooSoonCount yX2_tooSoonCount ∈ g_all := g_w 673 (by decide +kernel) (by decide +kernel)
theorem kw_674 : Cond.code yX2_tooSoonCount cX2_tooSoonCount 3 (some FieldType.int) ∈ g_all := g_w 674 (by decide +kernel) (by decide +kernel)
theorem kw_675 : Cond.methodLink RX2 68 yX2_soonBound ∈ g_all := g_w 675 (by decide +kernel) (by decide +kernel)
theorem kw_676 : Cond.classLink RL 10 RX8 ∈ g_all := g_w 676 (by decide +kernel) (by decide +kernel)
theorem kw_677 : Cond.instantiable RX8 35 ∈ g_all := g_w 677 (by decide +kernel) (by decide +kernel)
theorem kw_678 : Cond.methodLink RL 12 yX8_init ∈ g_all := g_w 678 (by decide +kernel) (by decide +kernel)
theorem kw_679 : Cond.instanceMethod yX8_init ∈ g_all := g_w 679 (by decide +kernel) (by decide +kernel)
theorem kw_680 : Cond.code yX8_init cX8_init 1 none ∈ g_all := g_w 680 (by decide +kernel) (by decide +kernel)
theorem kw_681 : Cond.methodLink RX8 1 ⟨"java/lang/Object", "<init>", "()V"⟩ ∈ g_all := g_w 681 (by decide +kernel) (by decide +kernel)
theorem kw_682 : Cond.methodLink RX8 76 yX8_anew ∈ g_all := g_w 682 (by decide +kernel) (by decide +kernel)
theorem kw_684 : Cond.instanceMethod yX8_anew ∈ g_all := g_w 684 (by decide +kernel) (by decide +kernel)
theorem kw_685 : Cond.code yX8_anew cX8_anew 2 none ∈ g_all := g_w 685 (by decide +kernel) (by decide +kernel)
theorem kw_686 : Cond.methodLink RX8 80 yX8_copyRow ∈ g_all := g_w 686 (by decide +kernel) (by decide +kernel)
theorem kw_688 : Cond.instanceMethod yX8_copyRow ∈ g_all := g_w 688 (by decide +kernel) (by decide +kernel)
theorem kw_689 : Cond.code yX8_copyRow cX8_copyRow 4 none ∈ g_all := g_w 689 (by decide +kernel) (by decide +kernel)
theorem kw_690 : Cond.fieldLink RX8 7 "SkewPlanModel" "row" "[I" ∈ g_all := g_w 690 (by decide +kernel) (by decide +kernel)
theorem kw_691 : Cond.fieldLink RX8 84 "SkewPlanModel" "registers" "I" ∈ g_all := g_w 691 (by decide +kernel) (by decide +kernel)
theorem kw_692 : Cond.fieldLink RX8 88 "SkewPlanModel" "paths" "I" ∈ g_all := g_w 692 (by decide +kernel) (by decide +kernel)
theorem kw_693 : Cond.fieldLink RX8 13 "SkewPlanModel" "from" "[I" ∈ g_all := g_w 693 (by decide +kernel) (by decide +kernel)
theorem kw_694 : Cond.fieldLink RX8 16 "SkewPlanModel" "to" "[I" ∈ g_all := g_w 694 (by decide +kernel) (by decide +kernel)
theorem kw_695 : Cond.fieldLink RX8 91 "SkewPlanModel" "setup" "I" ∈ g_all := g_w 695 (by decide +kernel) (by decide +kernel)
theorem kw_696 : Cond.fieldLink RX8 94 "SkewPlanModel" "hold" "I" ∈ g_all := g_w 696 (by decide +kernel) (by decide +kernel)
theorem kw_697 : Cond.fieldLink RX8 97 "SkewPlanModel" "step" "I" ∈ g_all := g_w 697 (by decide +kernel) (by decide +kernel)
theorem kw_698 : Cond.fieldLink RX8 172 "SkewPlanModel" "undos" "I" ∈ g_all := g_w 698 (by decide +kernel) (by decide +kernel)
theorem kw_699 : Cond.fieldLink RX8 19 "SkewPlanModel" "isKept" "[Z" ∈ g_all := g_w 699 (by decide +kernel) (by decide +kernel)
theorem kw_700 : Cond.fieldLink RX8 23 "SkewPlanModel" "text" "[I" ∈ g_all := g_w 700 (by decide +kernel) (by decide +kernel)
theorem kw_701 : Cond.fieldLink RX8 106 "SkewPlanModel" "length" "I" ∈ g_all := g_w 701 (by decide +kernel) (by decide +kernel)
theorem kw_702 : Cond.fieldLink RX8 26 "SkewPlanModel" "sorts" "[I" ∈ g_all := g_w 702 (by decide +kernel) (by decide +kernel)
theorem kw_703 : Cond.fieldLink RX8 29 "SkewPlanModel" "sizes" "[I" ∈ g_all := g_w 703 (by decide +kernel) (by decide +kernel)
theorem kw_704 : Cond.fieldLink RX8 32 "SkewPlanModel" "floats" "[F" ∈ g_all := g_w 704 (by decide +kernel) (by decide +kernel)
theorem kw_705 : Cond.fieldLink RX8 36 "SkewPlanModel" "doubles" "[D" ∈ g_all := g_w 705 (by decide +kernel) (by decide +kernel)
theorem kw_706 : Cond.fieldLink RX8 120 "SkewPlanModel" "first" "I" ∈ g_all := g_w 706 (by decide +kernel) (by decide +kernel)
theorem kw_707 : Cond.fieldLink RX8 117 "SkewPlanModel" "behind" "I" ∈ g_all := g_w 707 (by decide +kernel) (by decide +kernel)
theorem kw_708 : Cond.fieldLink RX8 141 "SkewPlanModel" "readRegisters" "I" ∈ g_all := g_w 708 (by decide +kernel) (by decide +kernel)
theorem kw_709 : Cond.fieldLink RX8 148 "SkewPlanModel" "readPaths" "I" ∈ g_all := g_w 709 (by decide +kernel) (by decide +kernel)
theorem kw_710 : Cond.fieldLink RX8 161 "SkewPlanModel" "clauses" "I" ∈ g_all := g_w 710 (by decide +kernel) (by decide +kernel)
theorem kw_711 : Cond.fieldLink RX8 154 "SkewPlanModel" "doing" "Z" ∈ g_all := g_w 711 (by decide +kernel) (by decide +kernel)
theorem kw_712 : Cond.fieldLink RX8 40 "SkewPlanModel" "numbers" "[I" ∈ g_all := g_w 712 (by decide +kernel) (by decide +kernel)
theorem kw_713 : Cond.fieldLink RX8 43 "SkewPlanModel" "netWord" "[I" ∈ g_all := g_w 713 (by decide +kernel) (by decide +kernel)
theorem kw_714 : Cond.fieldLink RX8 46 "SkewPlanModel" "pathWord" "[I" ∈ g_all := g_w 714 (by decide +kernel) (by decide +kernel)
theorem kw_715 : Cond.fieldLink RX8 49 "SkewPlanModel" "setupWord" "[I" ∈ g_all := g_w 715 (by decide +kernel) (by decide +kernel)
theorem kw_716 : Cond.fieldLink RX8 52 "SkewPlanModel" "holdWord" "[I" ∈ g_all := g_w 716 (by decide +kernel) (by decide +kernel)
theorem kw_717 : Cond.fieldLink RX8 55 "SkewPlanModel" "stepWord" "[I" ∈ g_all := g_w 717 (by decide +kernel) (by decide +kernel)
theorem kw_718 : Cond.fieldLink RX8 58 "SkewPlanModel" "periodWord" "[I" ∈ g_all := g_w 718 (by decide +kernel) (by decide +kernel)
theorem kw_719 : Cond.fieldLink RX8 61 "SkewPlanModel" "lates" "[I" ∈ g_all := g_w 719 (by decide +kernel) (by decide +kernel)
theorem kw_720 : Cond.fieldLink RX8 64 "SkewPlanModel" "soons" "[I" ∈ g_all := g_w 720 (by decide +kernel) (by decide +kernel)
theorem kw_721 : Cond.fieldLink RX8 67 "SkewPlanModel" "shifts" "[I" ∈ g_all := g_w 721 (by decide +kernel) (by decide +kernel)
theorem kw_722 : Cond.fieldLink RX8 70 "SkewPlanModel" "bounds" "[I" ∈ g_all := g_w 722 (by decide +kernel) (by decide +kernel)
theorem kw_723 : Cond.fieldLink RX8 73 "SkewPlanModel" "ring" "[I" ∈ g_all := g_w 723 (by decide +kernel) (by decide +kernel)
theorem kw_724 : Cond.fieldLink RX8 219 "SkewPlanModel" "ringMany" "I" ∈ g_all := g_w 724 (by decide +kernel) (by decide +kernel)
theorem kw_796 : Cond.arrayClass FieldType.float ∈ g_all := g_w 796 (by decide +kernel) (by decide +kernel)
theorem kw_797 : Cond.methodLink RL 17 yX8_write ∈ g_all := g_w 797 (by decide +kernel) (by decide +kernel)
theorem kw_798 : Cond.instanceMethod yX8_write ∈ g_all := g_w 798 (by decide +kernel) (by decide +kernel)
theorem kw_799 : Cond.selects RX8 yX8_write yX8_write ∈ g_all := g_w 799 (by decide +kernel) (by decide +kernel)
theorem kw_800 : Cond.code yX8_write cX8_write 2 (some FieldType.int) ∈ g_all := g_w 800 (by decide +kernel) (by decide +kernel)
theorem kw_801 : Cond.constantLong RX8 100 (255 : Int64) ∈ g_all := g_w 801 (by decide +kernel) (by decide +kernel)
theorem kw_802 : Cond.methodLink RX8 102 yX8_in ∈ g_all := g_w 802 (by decide +kernel) (by decide +kernel)
theorem kw_803 : Cond.static yX8_in ∈ g_all := g_w 803 (by decide +kernel) (by decide +kernel)
theorem kw_804 : Cond.code yX8_in cX8_in 6 (some FieldType.boolean) ∈ g_all := g_w 804 (by decide +kernel) (by decide +kernel)
theorem kw_805 : Cond.methodLink RL 22 yX8_erase ∈ g_all := g_w 805 (by decide +kernel) (by decide +kernel)
theorem kw_806 : Cond.instanceMethod yX8_erase ∈ g_all := g_w 806 (by decide +kernel) (by decide +kernel)
theorem kw_807 : Cond.selects RX8 yX8_erase yX8_erase ∈ g_all := g_w 807 (by decide +kernel) (by decide +kernel)
theorem kw_808 : Cond.code yX8_erase cX8_erase 2 (some FieldType.int) ∈ g_all := g_w 808 (by decide +kernel) (by decide +kernel)
theorem kw_809 : Cond.methodLink RL 26 yX8_fault ∈ g_all := g_w 809 (by decide +kernel) (by decide +kernel)
theorem kw_810 : Cond.instanceMethod yX8_fault ∈ g_all := g_w 810 (by decide +kernel) (by decide +kernel)
theorem kw_811 : Cond.selects RX8 yX8_fault yX8_fault ∈ g_all := g_w 811 (by decide +kernel) (by decide +kernel)
theorem kw_812 : Cond.code yX8_fault cX8_fault 1 (some FieldType.int) ∈ g_all := g_w 812 (by decide +kernel) (by decide +kernel)
theorem kw_813 : Cond.methodLink RX8 168 yX8_reads ∈ g_all := g_w 813 (by decide +kernel) (by decide +kernel)
theorem kw_815 : Cond.instanceMethod yX8_reads ∈ g_all := g_w 815 (by decide +kernel) (by decide +kernel)
theorem kw_816 : Cond.code yX8_reads cX8_reads 3 (some FieldType.boolean) ∈ g_all := g_w 816 (by decide +kernel) (by decide +kernel)
theorem kw_817 : Cond.methodLink RX8 130 yX8_nextToken ∈ g_all := g_w 817 (by decide +kernel) (by decide +kernel)
theorem kw_819 : Cond.instanceMethod yX8_nextToken ∈ g_all := g_w 819 (by decide +kernel) (by decide +kernel)
theorem kw_820 : Cond.code yX8_nextToken cX8_nextToken 1 none ∈ g_all := g_w 820 (by decide +kernel) (by decide +kernel)
theorem kw_821 : Cond.methodLink RX8 123 yX8_isLetter ∈ g_all := g_w 821 (by decide +kernel) (by decide +kernel)
theorem kw_822 : Cond.static yX8_isLetter ∈ g_all := g_w 822 (by decide +kernel) (by decide +kernel)
theorem kw_823 : Cond.code yX8_isLetter cX8_isLetter 1 (some FieldType.boolean) ∈ g_all := g_w 823 (by decide +kernel) (by decide +kernel)
theorem kw_824 : Cond.constantLong RX8 109 (97 : Int64) ∈ g_all := g_w 824 (by decide +kernel) (by decide +kernel)
theorem kw_825 : Cond.constantLong RX8 111 (122 : Int64) ∈ g_all := g_w 825 (by decide +kernel) (by decide +kernel)
theorem kw_826 : Cond.methodLink RX8 127 yX8_isDigit ∈ g_all := g_w 826 (by decide +kernel) (by decide +kernel)
theorem kw_827 : Cond.static yX8_isDigit ∈ g_all := g_w 827 (by decide +kernel) (by decide +kernel)
theorem kw_828 : Cond.code yX8_isDigit cX8_isDigit 1 (some FieldType.boolean) ∈ g_all := g_w 828 (by decide +kernel) (by decide +kernel)
theorem kw_829 : Cond.constantLong RX8 113 (48 : Int64) ∈ g_all := g_w 829 (by decide +kernel) (by decide +kernel)
theorem kw_830 : Cond.constantLong RX8 115 (57 : Int64) ∈ g_all := g_w 830 (by decide +kernel) (by decide +kernel)
theorem kw_831 : Cond.methodLink RX8 164 yX8_readsClause ∈ g_all := g_w 831 (by decide +kernel) (by decide +kernel)
theorem kw_833 : Cond.instanceMethod yX8_readsClause ∈ g_all := g_w 833 (by decide +kernel) (by decide +kernel)
theorem kw_834 : Cond.code yX8_readsClause cX8_readsClause 2 (some FieldType.boolean) ∈ g_all := g_w 834 (by decide +kernel) (by decide +kernel)
theorem kw_835 : Cond.methodLink RX8 144 yX8_wordHere ∈ g_all := g_w 835 (by decide +kernel) (by decide +kernel)
theorem kw_837 : Cond.instanceMethod yX8_wordHere ∈ g_all := g_w 837 (by decide +kernel) (by decide +kernel)
theorem kw_838 : Cond.code yX8_wordHere cX8_wordHere 1 (some FieldType.int) ∈ g_all := g_w 838 (by decide +kernel) (by decide +kernel)
theorem kw_839 : Cond.methodLink RX8 133 yX8_isWord ∈ g_all := g_w 839 (by decide +kernel) (by decide +kernel)
theorem kw_841 : Cond.instanceMethod yX8_isWord ∈ g_all := g_w 841 (by decide +kernel) (by decide +kernel)
theorem kw_842 : Cond.code yX8_isWord cX8_isWord 4 (some FieldType.boolean) ∈ g_all := g_w 842 (by decide +kernel) (by decide +kernel)
theorem kw_843 : Cond.methodLink RX8 151 yX8_readsNumbers ∈ g_all := g_w 843 (by decide +kernel) (by decide +kernel)
theorem kw_845 : Cond.instanceMethod yX8_readsNumbers ∈ g_all := g_w 845 (by decide +kernel) (by decide +kernel)
theorem kw_846 : Cond.code yX8_readsNumbers cX8_readsNumbers 2 (some FieldType.boolean) ∈ g_all := g_w 846 (by decide +kernel) (by decide +kernel)
theorem kw_847 : Cond.methodLink RX8 137 yX8_number ∈ g_all := g_w 847 (by decide +kernel) (by decide +kernel)
theorem kw_849 : Cond.instanceMethod yX8_number ∈ g_all := g_w 849 (by decide +kernel) (by decide +kernel)
theorem kw_850 : Cond.code yX8_number cX8_number 6 (some FieldType.boolean) ∈ g_all := g_w 850 (by decide +kernel) (by decide +kernel)
theorem kw_851 : Cond.methodLink RX8 158 yX8_does ∈ g_all := g_w 851 (by decide +kernel) (by decide +kernel)
theorem kw_853 : Cond.instanceMethod yX8_does ∈ g_all := g_w 853 (by decide +kernel) (by decide +kernel)
theorem kw_854 : Cond.code yX8_does cX8_does 2 none ∈ g_all := g_w 854 (by decide +kernel) (by decide +kernel)
theorem kw_855 : Cond.methodLink RL 30 yX8_net ∈ g_all := g_w 855 (by decide +kernel) (by decide +kernel)
theorem kw_856 : Cond.instanceMethod yX8_net ∈ g_all := g_w 856 (by decide +kernel) (by decide +kernel)
theorem kw_857 : Cond.selects RX8 yX8_net yX8_net ∈ g_all := g_w 857 (by decide +kernel) (by decide +kernel)
theorem kw_858 : Cond.code yX8_net cX8_net 2 (some FieldType.int) ∈ g_all := g_w 858 (by decide +kernel) (by decide +kernel)
theorem kw_859 : Cond.methodLink RL 35 yX8_path ∈ g_all := g_w 859 (by decide +kernel) (by decide +kernel)
theorem kw_860 : Cond.instanceMethod yX8_path ∈ g_all := g_w 860 (by decide +kernel) (by decide +kernel)
theorem kw_861 : Cond.selects RX8 yX8_path yX8_path ∈ g_all := g_w 861 (by decide +kernel) (by decide +kernel)
theorem kw_862 : Cond.code yX8_path cX8_path 3 (some FieldType.int) ∈ g_all := g_w 862 (by decide +kernel) (by decide +kernel)
theorem kw_863 : Cond.methodLink RX8 175 yX8_isPath ∈ g_all := g_w 863 (by decide +kernel) (by decide +kernel)
theorem kw_865 : Cond.instanceMethod yX8_isPath ∈ g_all := g_w 865 (by decide +kernel) (by decide +kernel)
theorem kw_866 : Cond.code yX8_isPath cX8_isPath 2 (some FieldType.boolean) ∈ g_all := g_w 866 (by decide +kernel) (by decide +kernel)
theorem kw_867 : Cond.methodLink RX8 178 yX8_lateOf ∈ g_all := g_w 867 (by decide +kernel) (by decide +kernel)
theorem kw_869 : Cond.instanceMethod yX8_lateOf ∈ g_all := g_w 869 (by decide +kernel) (by decide +kernel)
theorem kw_870 : Cond.code yX8_lateOf cX8_lateOf 3 (some FieldType.int) ∈ g_all := g_w 870 (by decide +kernel) (by decide +kernel)
theorem kw_871 : Cond.methodLink RX8 182 yX8_soonOf ∈ g_all := g_w 871 (by decide +kernel) (by decide +kernel)
theorem kw_873 : Cond.instanceMethod yX8_soonOf ∈ g_all := g_w 873 (by decide +kernel) (by decide +kernel)
theorem kw_874 : Cond.code yX8_soonOf cX8_soonOf 2 (some FieldType.int) ∈ g_all := g_w 874 (by decide +kernel) (by decide +kernel)
theorem kw_875 : Cond.methodLink RL 39 yX8_period ∈ g_all := g_w 875 (by decide +kernel) (by decide +kernel)
theorem kw_876 : Cond.instanceMethod yX8_period ∈ g_all := g_w 876 (by decide +kernel) (by decide +kernel)
theorem kw_877 : Cond.selects RX8 yX8_period yX8_period ∈ g_all := g_w 877 (by decide +kernel) (by decide +kernel)
theorem kw_878 : Cond.code yX8_period cX8_period 3 (some FieldType.int) ∈ g_all := g_w 878 (by decide +kernel) (by decide +kernel)
theorem kw_879 : Cond.constantLong RX8 186 (999 : Int64) ∈ g_all := g_w 879 (by decide +kernel) (by decide +kernel)
theorem kw_880 : Cond.methodLink RX8 188 yX8_keepPast ∈ g_all := g_w 880 (by decide +kernel) (by decide +kernel)
theorem kw_882 : Cond.instanceMethod yX8_keepPast ∈ g_all := g_w 882 (by decide +kernel) (by decide +kernel)
theorem kw_883 : Cond.code yX8_keepPast cX8_keepPast 2 none ∈ g_all := g_w 883 (by decide +kernel) (by decide +kernel)
theorem kw_884 : Cond.methodLink RL 43 yX8_slower ∈ g_all := g_w 884 (by decide +kernel) (by decide +kernel)
theorem kw_885 : Cond.instanceMethod yX8_slower ∈ g_all := g_w 885 (by decide +kernel) (by decide +kernel)
theorem kw_886 : Cond.selects RX8 yX8_slower yX8_slower ∈ g_all := g_w 886 (by decide +kernel) (by decide +kernel)
theorem kw_887 : Cond.code yX8_slower cX8_slower 3 (some FieldType.int) ∈ g_all := g_w 887 (by decide +kernel) (by decide +kernel)
theorem kw_888 : Cond.constantLong RX8 191 (20 : Int64) ∈ g_all := g_w 888 (by decide +kernel) (by decide +kernel)
theorem kw_889 : Cond.methodLink RL 47 yX8_undo ∈ g_all := g_w 889 (by decide +kernel) (by decide +kernel)
theorem kw_890 : Cond.instanceMethod yX8_undo ∈ g_all := g_w 890 (by decide +kernel) (by decide +kernel)
theorem kw_891 : Cond.selects RX8 yX8_undo yX8_undo ∈ g_all := g_w 891 (by decide +kernel) (by decide +kernel)
theorem kw_892 : Cond.code yX8_undo cX8_undo 1 (some FieldType.int) ∈ g_all := g_w 892 (by decide +kernel) (by decide +kernel)
theorem kw_893 : Cond.methodLink RL 51 yX8_keep ∈ g_all := g_w 893 (by decide +kernel) (by decide +kernel)
theorem kw_894 : Cond.instanceMethod yX8_keep ∈ g_all := g_w 894 (by decide +kernel) (by decide +kernel)
theorem kw_895 : Cond.selects RX8 yX8_keep yX8_keep ∈ g_all := g_w 895 (by decide +kernel) (by decide +kernel)
theorem kw_896 : Cond.code yX8_keep cX8_keep 2 (some FieldType.int) ∈ g_all := g_w 896 (by decide +kernel) (by decide +kernel)
theorem kw_897 : Cond.methodLink RL 55 yX8_back ∈ g_all := g_w 897 (by decide +kernel) (by decide +kernel)
theorem kw_898 : Cond.instanceMethod yX8_back ∈ g_all := g_w 898 (by decide +kernel) (by decide +kernel)
theorem kw_899 : Cond.selects RX8 yX8_back yX8_back ∈ g_all := g_w 899 (by decide +kernel) (by decide +kernel)
theorem kw_900 : Cond.code yX8_back cX8_back 2 (some FieldType.int) ∈ g_all := g_w 900 (by decide +kernel) (by decide +kernel)
theorem kw_901 : Cond.methodLink RL 59 yX8_feasible ∈ g_all := g_w 901 (by decide +kernel) (by decide +kernel)
theorem kw_902 : Cond.instanceMethod yX8_feasible ∈ g_all := g_w 902 (by decide +kernel) (by decide +kernel)
theorem kw_903 : Cond.selects RX8 yX8_feasible yX8_feasible ∈ g_all := g_w 903 (by decide +kernel) (by decide +kernel)
theorem kw_904 : Cond.code yX8_feasible cX8_feasible 1 (some FieldType.int) ∈ g_all := g_w 904 (by decide +kernel) (by decide +kernel)
theorem kw_905 : Cond.methodLink RX8 205 yX8_isFeasible ∈ g_all := g_w 905 (by decide +kernel) (by decide +kernel)
theorem kw_907 : Cond.instanceMethod yX8_isFeasible ∈ g_all := g_w 907 (by decide +kernel) (by decide +kernel)
theorem kw_908 : Cond.code yX8_isFeasible cX8_isFeasible 3 (some FieldType.boolean) ∈ g_all := g_w 908 (by decide +kernel) (by decide +kernel)
theorem kw_909 : Cond.methodLink RX8 199 yX8_layBounds ∈ g_all := g_w 909 (by decide +kernel) (by decide +kernel)
theorem kw_911 : Cond.instanceMethod yX8_layBounds ∈ g_all := g_w 911 (by decide +kernel) (by decide +kernel)
theorem kw_912 : Cond.code yX8_layBounds cX8_layBounds 4 none ∈ g_all := g_w 912 (by decide +kernel) (by decide +kernel)
theorem kw_913 : Cond.methodLink RX8 193 yX8_floor ∈ g_all := g_w 913 (by decide +kernel) (by decide +kernel)
theorem kw_914 : Cond.static yX8_floor ∈ g_all := g_w 914 (by decide +kernel) (by decide +kernel)
theorem kw_915 : Cond.code yX8_floor cX8_floor 2 (some FieldType.int) ∈ g_all := g_w 915 (by decide +kernel) (by decide +kernel)
theorem kw_916 : Cond.methodLink RX8 202 yX8_areThere ∈ g_all := g_w 916 (by decide +kernel) (by decide +kernel)
theorem kw_918 : Cond.instanceMethod yX8_areThere ∈ g_all := g_w 918 (by decide +kernel) (by decide +kernel)
theorem kw_919 : Cond.code yX8_areThere cX8_areThere 4 (some FieldType.boolean) ∈ g_all := g_w 919 (by decide +kernel) (by decide +kernel)
theorem kw_920 : Cond.methodLink RX8 196 yX8_makesLess ∈ g_all := g_w 920 (by decide +kernel) (by decide +kernel)
theorem kw_922 : Cond.instanceMethod yX8_makesLess ∈ g_all := g_w 922 (by decide +kernel) (by decide +kernel)
theorem kw_923 : Cond.code yX8_makesLess cX8_makesLess 5 (some FieldType.boolean) ∈ g_all := g_w 923 (by decide +kernel) (by decide +kernel)
theorem kw_924 : Cond.methodLink RL 63 yX8_shift ∈ g_all := g_w 924 (by decide +kernel) (by decide +kernel)
theorem kw_925 : Cond.instanceMethod yX8_shift ∈ g_all := g_w 925 (by decide +kernel) (by decide +kernel)
theorem kw_926 : Cond.selects RX8 yX8_shift yX8_shift ∈ g_all := g_w 926 (by decide +kernel) (by decide +kernel)
theorem kw_927 : Cond.code yX8_shift cX8_shift 2 (some FieldType.int) ∈ g_all := g_w 927 (by decide +kernel) (by decide +kernel)
theorem kw_928 : Cond.methodLink RX8 209 yX8_isRegister ∈ g_all := g_w 928 (by decide +kernel) (by decide +kernel)
theorem kw_930 : Cond.instanceMethod yX8_isRegister ∈ g_all := g_w 930 (by decide +kernel) (by decide +kernel)
theorem kw_931 : Cond.code yX8_isRegister cX8_isRegister 2 (some FieldType.boolean) ∈ g_all := g_w 931 (by decide +kernel) (by decide +kernel)
theorem kw_932 : Cond.methodLink RL 67 yX8_least ∈ g_all := g_w 932 (by decide +kernel) (by decide +kernel)
theorem kw_933 : Cond.instanceMethod yX8_least ∈ g_all := g_w 933 (by decide +kernel) (by decide +kernel)
theorem kw_934 : Cond.selects RX8 yX8_least yX8_least ∈ g_all := g_w 934 (by decide +kernel) (by decide +kernel)
theorem kw_935 : Cond.code yX8_least cX8_least 1 (some FieldType.int) ∈ g_all := g_w 935 (by decide +kernel) (by decide +kernel)
theorem kw_936 : Cond.methodLink RX8 212 yX8_leastOf ∈ g_all := g_w 936 (by decide +kernel) (by decide +kernel)
theorem kw_938 : Cond.instanceMethod yX8_leastOf ∈ g_all := g_w 938 (by decide +kernel) (by decide +kernel)
theorem kw_939 : Cond.code yX8_leastOf cX8_leastOf 5 (some FieldType.int) ∈ g_all := g_w 939 (by decide +kernel) (by decide +kernel)
theorem kw_940 : Cond.methodLink RL 71 yX8_rate ∈ g_all := g_w 940 (by decide +kernel) (by decide +kernel)
theorem kw_941 : Cond.instanceMethod yX8_rate ∈ g_all := g_w 941 (by decide +kernel) (by decide +kernel)
theorem kw_942 : Cond.selects RX8 yX8_rate yX8_rate ∈ g_all := g_w 942 (by decide +kernel) (by decide +kernel)
theorem kw_943 : Cond.code yX8_rate cX8_rate 9 (some FieldType.int) ∈ g_all := g_w 943 (by decide +kernel) (by decide +kernel)
theorem kw_944 : Cond.methodLink RX8 215 yX8_isFeasibleBy ∈ g_all := g_w 944 (by decide +kernel) (by decide +kernel)
theorem kw_946 : Cond.instanceMethod yX8_isFeasibleBy ∈ g_all := g_w 946 (by decide +kernel) (by decide +kernel)
theorem kw_947 : Cond.code yX8_isFeasibleBy cX8_isFeasibleBy 4 (some FieldType.boolean) ∈ g_all := g_w 947 (by decide +kernel) (by decide +kernel)
theorem kw_948 : Cond.methodLink RL 75 yX8_margin ∈ g_all := g_w 948 (by decide +kernel) (by decide +kernel)
theorem kw_949 : Cond.instanceMethod yX8_margin ∈ g_all := g_w 949 (by decide +kernel) (by decide +kernel)
theorem kw_950 : Cond.selects RX8 yX8_margin yX8_margin ∈ g_all := g_w 950 (by decide +kernel) (by decide +kernel)
theorem kw_951 : Cond.code yX8_margin cX8_margin 5 (some FieldType.int) ∈ g_all := g_w 951 (by decide +kernel) (by decide +kernel)
theorem kw_952 : Cond.methodLink RL 79 yX8_spare ∈ g_all := g_w 952 (by decide +kernel) (by decide +kernel)
theorem kw_953 : Cond.instanceMethod yX8_spare ∈ g_all := g_w 953 (by decide +kernel) (by decide +kernel)
theorem kw_954 : Cond.selects RX8 yX8_spare yX8_spare ∈ g_all := g_w 954 (by decide +kernel) (by decide +kernel)
theorem kw_955 : Cond.code yX8_spare cX8_spare 4 (some FieldType.int) ∈ g_all := g_w 955 (by decide +kernel) (by decide +kernel)
theorem kw_956 : Cond.methodLink RL 83 yX8_cycle ∈ g_all := g_w 956 (by decide +kernel) (by decide +kernel)
theorem kw_957 : Cond.instanceMethod yX8_cycle ∈ g_all := g_w 957 (by decide +kernel) (by decide +kernel)
theorem kw_958 : Cond.selects RX8 yX8_cycle yX8_cycle ∈ g_all := g_w 958 (by decide +kernel) (by decide +kernel)
theorem kw_959 : Cond.code yX8_cycle cX8_cycle 2 (some FieldType.int) ∈ g_all := g_w 959 (by decide +kernel) (by decide +kernel)
theorem kw_960 : Cond.methodLink RX8 228 yX8_layLeast ∈ g_all := g_w 960 (by decide +kernel) (by decide +kernel)
theorem kw_962 : Cond.instanceMethod yX8_layLeast ∈ g_all := g_w 962 (by decide +kernel) (by decide +kernel)
theorem kw_963 : Cond.code yX8_layLeast cX8_layLeast 4 none ∈ g_all := g_w 963 (by decide +kernel) (by decide +kernel)
theorem kw_964 : Cond.constant RX8 218 (99999 : Int32) ∈ g_all := g_w 964 (by decide +kernel) (by decide +kernel)
theorem kw_965 : Cond.methodLink RX8 231 yX8_isBelow ∈ g_all := g_w 965 (by decide +kernel) (by decide +kernel)
theorem kw_967 : Cond.instanceMethod yX8_isBelow ∈ g_all := g_w 967 (by decide +kernel) (by decide +kernel)
theorem kw_968 : Cond.code yX8_isBelow cX8_isBelow 3 (some FieldType.boolean) ∈ g_all := g_w 968 (by decide +kernel) (by decide +kernel)
theorem kw_969 : Cond.methodLink RX8 234 yX8_goOn ∈ g_all := g_w 969 (by decide +kernel) (by decide +kernel)
theorem kw_971 : Cond.instanceMethod yX8_goOn ∈ g_all := g_w 971 (by decide +kernel) (by decide +kernel)
theorem kw_972 : Cond.code yX8_goOn cX8_goOn 2 none ∈ g_all := g_w 972 (by decide +kernel) (by decide +kernel)
theorem kw_973 : Cond.methodLink RX8 225 yX8_nextFrom ∈ g_all := g_w 973 (by decide +kernel) (by decide +kernel)
theorem kw_975 : Cond.instanceMethod yX8_nextFrom ∈ g_all := g_w 975 (by decide +kernel) (by decide +kernel)
theorem kw_976 : Cond.code yX8_nextFrom cX8_nextFrom 3 (some FieldType.int) ∈ g_all := g_w 976 (by decide +kernel) (by decide +kernel)
theorem kw_977 : Cond.methodLink RX8 222 yX8_isInRing ∈ g_all := g_w 977 (by decide +kernel) (by decide +kernel)
theorem kw_979 : Cond.instanceMethod yX8_isInRing ∈ g_all := g_w 979 (by decide +kernel) (by decide +kernel)
theorem kw_980 : Cond.code yX8_isInRing cX8_isInRing 4 (some FieldType.boolean) ∈ g_all := g_w 980 (by decide +kernel) (by decide +kernel)
theorem kw_981 : Cond.methodLink RL 87 yX8_buffer ∈ g_all := g_w 981 (by decide +kernel) (by decide +kernel)
theorem kw_982 : Cond.instanceMethod yX8_buffer ∈ g_all := g_w 982 (by decide +kernel) (by decide +kernel)
theorem kw_983 : Cond.selects RX8 yX8_buffer yX8_buffer ∈ g_all := g_w 983 (by decide +kernel) (by decide +kernel)
theorem kw_984 : Cond.code yX8_buffer cX8_buffer 8 (some FieldType.int) ∈ g_all := g_w 984 (by decide +kernel) (by decide +kernel)
theorem kw_985 : Cond.methodLink RL 92 yX8_trace ∈ g_all := g_w 985 (by decide +kernel) (by decide +kernel)
theorem kw_986 : Cond.instanceMethod yX8_trace ∈ g_all := g_w 986 (by decide +kernel) (by decide +kernel)
theorem kw_987 : Cond.selects RX8 yX8_trace yX8_trace ∈ g_all := g_w 987 (by decide +kernel) (by decide +kernel)
theorem kw_988 : Cond.code yX8_trace cX8_trace 5 (some FieldType.int) ∈ g_all := g_w 988 (by decide +kernel) (by decide +kernel)
theorem kw_989 : Cond.methodLink RX8 239 yX8_isTrace ∈ g_all := g_w 989 (by decide +kernel) (by decide +kernel)
theorem kw_990 : Cond.static yX8_isTrace ∈ g_all := g_w 990 (by decide +kernel) (by decide +kernel)
theorem kw_991 : Cond.code yX8_isTrace cX8_isTrace 1 (some FieldType.boolean) ∈ g_all := g_w 991 (by decide +kernel) (by decide +kernel)
theorem kw_992 : Cond.constantLong RX8 237 (2 : Int64) ∈ g_all := g_w 992 (by decide +kernel) (by decide +kernel)
theorem kw_993 : Cond.methodLink RL 97 yX8_set ∈ g_all := g_w 993 (by decide +kernel) (by decide +kernel)
theorem kw_994 : Cond.instanceMethod yX8_set ∈ g_all := g_w 994 (by decide +kernel) (by decide +kernel)
theorem kw_995 : Cond.selects RX8 yX8_set yX8_set ∈ g_all := g_w 995 (by decide +kernel) (by decide +kernel)
theorem kw_996 : Cond.code yX8_set cX8_set 7 (some FieldType.int) ∈ g_all := g_w 996 (by decide +kernel) (by decide +kernel)
theorem kw_997 : Cond.constantLong RX8 256 (-9999 : Int64) ∈ g_all := g_w 997 (by decide +kernel) (by decide +kernel)
theorem kw_998 : Cond.constantLong RX8 258 (9999 : Int64) ∈ g_all := g_w 998 (by decide +kernel) (by decide +kernel)
theorem kw_999 : Cond.methodLink RX8 260 yX8_noPlace ∈ g_all := g_w 999 (by decide +kernel) (by decide +kernel)
theorem kw_1001 : Cond.instanceMethod yX8_noPlace ∈ g_all := g_w 1001 (by decide +kernel) (by decide +kernel)
theorem kw_1002 : Cond.code yX8_noPlace cX8_noPlace 5 (some FieldType.int) ∈ g_all := g_w 1002 (by decide +kernel) (by decide +kernel)
theorem kw_1003 : Cond.methodLink RX8 264 yX8_thousand ∈ g_all := g_w 1003 (by decide +kernel) (by decide +kernel)
theorem kw_1005 : Cond.instanceMethod yX8_thousand ∈ g_all := g_w 1005 (by decide +kernel) (by decide +kernel)
theorem kw_1006 : Cond.code yX8_thousand cX8_thousand 3 (some FieldType.int) ∈ g_all := g_w 1006 (by decide +kernel) (by decide +kernel)
theorem kw_1007 : Cond.constantFloat RX8 249 (1148846080 : UInt32) ∈ g_all := g_w 1007 (by decide +kernel) (by decide +kernel)
theorem kw_1008 : Cond.methodLink RX8 250 yX8_cut ∈ g_all := g_w 1008 (by decide +kernel) (by decide +kernel)
theorem kw_1009 : Cond.static yX8_cut ∈ g_all := g_w 1009 (by decide +kernel) (by decide +kernel)
theorem kw_1010 : Cond.code yX8_cut cX8_cut 2 (some FieldType.int) ∈ g_all := g_w 1010 (by decide +kernel) (by decide +kernel)
theorem kw_1011 : Cond.constant RX8 242 (2000000 : Int32) ∈ g_all := g_w 1011 (by decide +kernel) (by decide +kernel)
theorem kw_1012 : Cond.constantDouble RX8 243 (4696837146684686336 : UInt64) ∈ g_all := g_w 1012 (by decide +kernel) (by decide +kernel)
theorem kw_1013 : Cond.constant RX8 245 (3000000 : Int32) ∈ g_all := g_w 1013 (by decide +kernel) (by decide +kernel)
theorem kw_1014 : Cond.constantDouble RX8 246 (13920209183539462144 : UInt64) ∈ g_all := g_w 1014 (by decide +kernel) (by decide +kernel)
theorem kw_1015 : Cond.constant RX8 248 (1000000 : Int32) ∈ g_all := g_w 1015 (by decide +kernel) (by decide +kernel)
theorem kw_1016 : Cond.constantDouble RX8 254 (4652007308841189376 : UInt64) ∈ g_all := g_w 1016 (by decide +kernel) (by decide +kernel)
theorem kw_1017 : Cond.methodLink RL 101 yX8_get ∈ g_all := g_w 1017 (by decide +kernel) (by decide +kernel)
theorem kw_1018 : Cond.instanceMethod yX8_get ∈ g_all := g_w 1018 (by decide +kernel) (by decide +kernel)
theorem kw_1019 : Cond.selects RX8 yX8_get yX8_get ∈ g_all := g_w 1019 (by decide +kernel) (by decide +kernel)
theorem kw_1020 : Cond.code yX8_get cX8_get 5 (some FieldType.int) ∈ g_all := g_w 1020 (by decide +kernel) (by decide +kernel)
theorem kw_1021 : Cond.methodLink RL 106 yX8_rest ∈ g_all := g_w 1021 (by decide +kernel) (by decide +kernel)
theorem kw_1022 : Cond.instanceMethod yX8_rest ∈ g_all := g_w 1022 (by decide +kernel) (by decide +kernel)
theorem kw_1023 : Cond.selects RX8 yX8_rest yX8_rest ∈ g_all := g_w 1023 (by decide +kernel) (by decide +kernel)
theorem kw_1024 : Cond.code yX8_rest cX8_rest 6 (some FieldType.int) ∈ g_all := g_w 1024 (by decide +kernel) (by decide +kernel)
theorem kw_1025 : Cond.methodLink RL 110 yX8_compare ∈ g_all := g_w 1025 (by decide +kernel) (by decide +kernel)
theorem kw_1026 : Cond.instanceMethod yX8_compare ∈ g_all := g_w 1026 (by decide +kernel) (by decide +kernel)
theorem kw_1027 : Cond.selects RX8 yX8_compare yX8_compare ∈ g_all := g_w 1027 (by decide +kernel) (by decide +kernel)
theorem kw_1028 : Cond.code yX8_compare cX8_compare 10 (some FieldType.int) ∈ g_all := g_w 1028 (by decide +kernel) (by decide +kernel)
theorem kw_1029 : Cond.methodLink RX8 267 yX8_valueOf ∈ g_all := g_w 1029 (by decide +kernel) (by decide +kernel)
theorem kw_1031 : Cond.instanceMethod yX8_valueOf ∈ g_all := g_w 1031 (by decide +kernel) (by decide +kernel)
theorem kw_1032 : Cond.code yX8_valueOf cX8_valueOf 3 (some FieldType.double) ∈ g_all := g_w 1032 (by decide +kernel) (by decide +kernel)
theorem kw_1033 : Cond.methodLink RL 114 yX8_sum ∈ g_all := g_w 1033 (by decide +kernel) (by decide +kernel)
theorem kw_1034 : Cond.instanceMethod yX8_sum ∈ g_all := g_w 1034 (by decide +kernel) (by decide +kernel)
theorem kw_1035 : Cond.selects RX8 yX8_sum yX8_sum ∈ g_all := g_w 1035 (by decide +kernel) (by decide +kernel)
theorem kw_1036 : Cond.code yX8_sum cX8_sum 9 (some FieldType.int) ∈ g_all := g_w 1036 (by decide +kernel) (by decide +kernel)
theorem kw_1037 : Cond.methodLink RL 118 yX8_drop ∈ g_all := g_w 1037 (by decide +kernel) (by decide +kernel)
theorem kw_1038 : Cond.instanceMethod yX8_drop ∈ g_all := g_w 1038 (by decide +kernel) (by decide +kernel)
theorem kw_1039 : Cond.selects RX8 yX8_drop yX8_drop ∈ g_all := g_w 1039 (by decide +kernel) (by decide +kernel)
theorem kw_1040 : Cond.code yX8_drop cX8_drop 3 (some FieldType.int) ∈ g_all := g_w 1040 (by decide +kernel) (by decide +kernel)
theorem kw_1041 : Cond.methodLink RL 122 yX8_count ∈ g_all := g_w 1041 (by decide +kernel) (by decide +kernel)
theorem kw_1042 : Cond.instanceMethod yX8_count ∈ g_all := g_w 1042 (by decide +kernel) (by decide +kernel)
theorem kw_1043 : Cond.selects RX8 yX8_count yX8_count ∈ g_all := g_w 1043 (by decide +kernel) (by decide +kernel)
theorem kw_1044 : Cond.code yX8_count cX8_count 2 (some FieldType.int) ∈ g_all := g_w 1044 (by decide +kernel) (by decide +kernel)
theorem kw_1045 : Cond.methodLink RX8 271 yX8_allPlaces ∈ g_all := g_w 1045 (by decide +kernel) (by decide +kernel)
theorem kw_1047 : Cond.instanceMethod yX8_allPlaces ∈ g_all := g_w 1047 (by decide +kernel) (by decide +kernel)
theorem kw_1048 : Cond.code yX8_allPlaces cX8_allPlaces 3 (some FieldType.int) ∈ g_all := g_w 1048 (by decide +kernel) (by decide +kernel)
theorem kw_1049 : Cond.methodLink RX8 274 yX8_tooSoon ∈ g_all := g_w 1049 (by decide +kernel) (by decide +kernel)
theorem kw_1051 : Cond.instanceMethod yX8_tooSoon ∈ g_all := g_w 1051 (by decide +kernel) (by decide +kernel)
theorem kw_1052 : Cond.code yX8_tooSoon cX8_tooSoon 3 (some FieldType.int) ∈ g_all := g_w 1052 (by decide +kernel) (by decide +kernel)
theorem kw_1054 : Cond.fieldLink RJ0 9 "java/lang/String" "value" "[B" ∈ g_all := g_w 1054 (by decide +kernel) (by decide +kernel)
theorem kw_1055 : Cond.fieldLink RJ0 15 "java/lang/String" "coder" "B" ∈ g_all := g_w 1055 (by decide +kernel) (by decide +kernel)
theorem kw_1058 : Cond.fieldLink RJx29ce0 7 "java/lang/Enum" "ordinal" "I" ∈ g_all := g_w 1058 (by decide +kernel) (by decide +kernel)
theorem kw_1065 : Cond.arrayClass FieldType.byte ∈ g_all := g_w 1065 (by decide +kernel) (by decide +kernel)
theorem ks_0 : Cond.selects RX2 yX2_begin yX2_begin ∈ g_all := g_s 0 (by decide +kernel) (by decide +kernel)
theorem ks_1 : Cond.selects RX4 yX4_advance yX4_advance ∈ g_all := g_s 1 (by decide +kernel) (by decide +kernel)
theorem ks_2 : Cond.selects RX4 yX4_isAtEnd yX4_isAtEnd ∈ g_all := g_s 2 (by decide +kernel) (by decide +kernel)
theorem ks_3 : Cond.selects RX4 yX4_readClause yX4_readClause ∈ g_all := g_s 3 (by decide +kernel) (by decide +kernel)
theorem ks_4 : Cond.selects RX4 yX4_wordHere yX4_wordHere ∈ g_all := g_s 4 (by decide +kernel) (by decide +kernel)
theorem ks_5 : Cond.selects RX4 yX4_isSpelled yX4_isSpelled ∈ g_all := g_s 5 (by decide +kernel) (by decide +kernel)
theorem ks_6 : Cond.selects RX4 yX4_readPath yX4_readPath ∈ g_all := g_s 6 (by decide +kernel) (by decide +kernel)
theorem ks_7 : Cond.selects RX4 yX4_readNumber yX4_readNumber ∈ g_all := g_s 7 (by decide +kernel) (by decide +kernel)
theorem ks_8 : Cond.selects RX7 yX7_isPath yX7_isPath ∈ g_all := g_s 8 (by decide +kernel) (by decide +kernel)
theorem ks_9 : Cond.selects RX3 yX3_settlesWithMargin yX3_settlesWithMargin ∈ g_all := g_s 9 (by decide +kernel) (by decide +kernel)
theorem ks_10 : Cond.selects RX3 yX3_layBounds yX3_layBounds ∈ g_all := g_s 10 (by decide +kernel) (by decide +kernel)
theorem ks_11 : Cond.selects RX3 yX3_tighten yX3_tighten ∈ g_all := g_s 11 (by decide +kernel) (by decide +kernel)
theorem ks_12 : Cond.selects RX3 yX3_settle yX3_settle ∈ g_all := g_s 12 (by decide +kernel) (by decide +kernel)
theorem ks_13 : Cond.selects RX3 yX3_lowerOnce yX3_lowerOnce ∈ g_all := g_s 13 (by decide +kernel) (by decide +kernel)
theorem ks_14 : Cond.selects RX3 yX3_leastPeriodAbove yX3_leastPeriodAbove ∈ g_all := g_s 14 (by decide +kernel) (by decide +kernel)
theorem ks_15 : Cond.selects RX3 yX3_settlesAtPeriod yX3_settlesAtPeriod ∈ g_all := g_s 15 (by decide +kernel) (by decide +kernel)
theorem ks_16 : Cond.selects RX3 yX3_closesFrom yX3_closesFrom ∈ g_all := g_s 16 (by decide +kernel) (by decide +kernel)
theorem ks_17 : Cond.selects RX3 yX3_isInRing yX3_isInRing ∈ g_all := g_s 17 (by decide +kernel) (by decide +kernel)
theorem ks_18 : Cond.selects RX5 yX5_putNumber yX5_putNumber ∈ g_all := g_s 18 (by decide +kernel) (by decide +kernel)
theorem ks_19 : Cond.selects RX5 yX5_putNoNumber yX5_putNoNumber ∈ g_all := g_s 19 (by decide +kernel) (by decide +kernel)
theorem ks_20 : Cond.selects RX7 yX7_traceRefusal yX7_traceRefusal ∈ g_all := g_s 20 (by decide +kernel) (by decide +kernel)
theorem ks_21 : Cond.selects RX7 yX7_placesOfAllTraces yX7_placesOfAllTraces ∈ g_all := g_s 21 (by decide +kernel) (by decide +kernel)
theorem ks_22 : Cond.selects RX8 yX8_anew yX8_anew ∈ g_all := g_s 22 (by decide +kernel) (by decide +kernel)
theorem ks_23 : Cond.selects RX8 yX8_copyRow yX8_copyRow ∈ g_all := g_s 23 (by decide +kernel) (by decide +kernel)
theorem ks_24 : Cond.selects RX8 yX8_reads yX8_reads ∈ g_all := g_s 24 (by decide +kernel) (by decide +kernel)
theorem ks_25 : Cond.selects RX8 yX8_nextToken yX8_nextToken ∈ g_all := g_s 25 (by decide +kernel) (by decide +kernel)
theorem ks_26 : Cond.selects RX8 yX8_readsClause yX8_readsClause ∈ g_all := g_s 26 (by decide +kernel) (by decide +kernel)
theorem ks_27 : Cond.selects RX8 yX8_wordHere yX8_wordHere ∈ g_all := g_s 27 (by decide +kernel) (by decide +kernel)
theorem ks_28 : Cond.selects RX8 yX8_isWord yX8_isWord ∈ g_all := g_s 28 (by decide +kernel) (by decide +kernel)
theorem ks_29 : Cond.selects RX8 yX8_readsNumbers yX8_readsNumbers ∈ g_all := g_s 29 (by decide +kernel) (by decide +kernel)
theorem ks_30 : Cond.selects RX8 yX8_number yX8_number ∈ g_all := g_s 30 (by decide +kernel) (by decide +kernel)
theorem ks_31 : Cond.selects RX8 yX8_does yX8_does ∈ g_all := g_s 31 (by decide +kernel) (by decide +kernel)
theorem ks_32 : Cond.selects RX8 yX8_isPath yX8_isPath ∈ g_all := g_s 32 (by decide +kernel) (by decide +kernel)
theorem ks_33 : Cond.selects RX8 yX8_lateOf yX8_lateOf ∈ g_all := g_s 33 (by decide +kernel) (by decide +kernel)
theorem ks_34 : Cond.selects RX8 yX8_soonOf yX8_soonOf ∈ g_all := g_s 34 (by decide +kernel) (by decide +kernel)
theorem ks_35 : Cond.selects RX8 yX8_keepPast yX8_keepPast ∈ g_all := g_s 35 (by decide +kernel) (by decide +kernel)
theorem ks_36 : Cond.selects RX8 yX8_isFeasible yX8_isFeasible ∈ g_all := g_s 36 (by decide +kernel) (by decide +kernel)
theorem ks_37 : Cond.selects RX8 yX8_layBounds yX8_layBounds ∈ g_all := g_s 37 (by decide +kernel) (by decide +kernel)
theorem ks_38 : Cond.selects RX8 yX8_areThere yX8_areThere ∈ g_all := g_s 38 (by decide +kernel) (by decide +kernel)
theorem ks_39 : Cond.selects RX8 yX8_makesLess yX8_makesLess ∈ g_all := g_s 39 (by decide +kernel) (by decide +kernel)
theorem ks_40 : Cond.selects RX8 yX8_isRegister yX8_isRegister ∈ g_all := g_s 40 (by decide +kernel) (by decide +kernel)
theorem ks_41 : Cond.selects RX8 yX8_leastOf yX8_leastOf ∈ g_all := g_s 41 (by decide +kernel) (by decide +kernel)
theorem ks_42 : Cond.selects RX8 yX8_isFeasibleBy yX8_isFeasibleBy ∈ g_all := g_s 42 (by decide +kernel) (by decide +kernel)
theorem ks_43 : Cond.selects RX8 yX8_layLeast yX8_layLeast ∈ g_all := g_s 43 (by decide +kernel) (by decide +kernel)
theorem ks_44 : Cond.selects RX8 yX8_isBelow yX8_isBelow ∈ g_all := g_s 44 (by decide +kernel) (by decide +kernel)
theorem ks_45 : Cond.selects RX8 yX8_goOn yX8_goOn ∈ g_all := g_s 45 (by decide +kernel) (by decide +kernel)
theorem ks_46 : Cond.selects RX8 yX8_nextFrom yX8_nextFrom ∈ g_all := g_s 46 (by decide +kernel) (by decide +kernel)
theorem ks_47 : Cond.selects RX8 yX8_isInRing yX8_isInRing ∈ g_all := g_s 47 (by decide +kernel) (by decide +kernel)
theorem ks_48 : Cond.selects RX8 yX8_noPlace yX8_noPlace ∈ g_all := g_s 48 (by decide +kernel) (by decide +kernel)
theorem ks_49 : Cond.selects RX8 yX8_thousand yX8_thousand ∈ g_all := g_s 49 (by decide +kernel) (by decide +kernel)
theorem ks_50 : Cond.selects RX8 yX8_valueOf yX8_valueOf ∈ g_all := g_s 50 (by decide +kernel) (by decide +kernel)
theorem ks_51 : Cond.selects RX8 yX8_allPlaces yX8_allPlaces ∈ g_all := g_s 51 (by decide +kernel) (by decide +kernel)
theorem ks_52 : Cond.selects RX8 yX8_tooSoon yX8_tooSoon ∈ g_all := g_s 52 (by decide +kernel) (by decide +kernel)
theorem ga_X1 : ∀ w ∈ wsX10, w ∈ g_all := g_in (by decide +kernel)
theorem ga_X2 : ∀ w ∈ wsX20, w ∈ g_all := g_in (by decide +kernel)
theorem ga_X3 : ∀ w ∈ wsX30, w ∈ g_all := g_in (by decide +kernel)
theorem ga_X4 : ∀ w ∈ wsX40, w ∈ g_all := g_in (by decide +kernel)
theorem ga_X5 : ∀ w ∈ wsX50, w ∈ g_all := g_in (by decide +kernel)
theorem ga_X7 : ∀ w ∈ wsX70, w ∈ g_all := g_in (by decide +kernel)
theorem ga_X8 : ∀ w ∈ wsX80, w ∈ g_all := g_in (by decide +kernel)
end
section
/-! the judgement of a walk: ints are Int behind iI, worlds are lists of cells, draws are let be -/
def sU {α : Type} (f : Nat → α) (k : Nat) (v : α) : Nat → α := fun j => if j = k then v else f j
theorem sU_s {α : Type} (f : Nat → α) (k : Nat) (v : α) : sU f k v k = v := if_pos rfl
theorem sU_n {α : Type} (f : Nat → α) {k j : Nat} (v : α) (h : j ≠ k) : sU f k v j = f j := if_neg h
theorem sU_id {α : Type} (f : Nat → α) (k : Nat) : sU f k (f k) = f := funext fun j => by
  by_cases h : j = k
  · rw [h, sU_s]
  · rw [sU_n _ _ h]
theorem sU_sU {α : Type} (f : Nat → α) (k : Nat) (v u : α) : sU (sU f k v) k u = sU f k u := funext fun j => by
  by_cases h : j = k
  · rw [h, sU_s, sU_s]
  · rw [sU_n _ _ h, sU_n _ _ h, sU_n _ _ h]
def iI (z : Int) : Int32 := Int32.ofInt z
def iA (f : Nat → Int) : Nat → Int32 := fun k => iI (f k)
def inR (z : Int) : Prop := -2147483648 ≤ z ∧ z < 2147483648
theorem iI_toInt {z : Int} (h : inR z) : (iI z).toInt = z := Int32.toInt_ofInt_of_le (by have := h.1; omega) (by have := h.2; omega)
theorem iI_of (x : Int32) : x = iI x.toInt := (Int32.ofInt_toInt x).symm
theorem inR_of (x : Int32) : inR x.toInt := ⟨Int32.le_toInt x, Int32.toInt_lt x⟩
theorem iI_add (a b : Int) : iI a + iI b = iI (a + b) := (Int32.ofInt_add a b).symm
theorem iI_sub (a b : Int) : iI a - iI b = iI (a - b) := (Int32.ofInt_sub a b).symm
theorem iI_mul (a b : Int) : iI a * iI b = iI (a * b) := (Int32.ofInt_mul a b).symm
theorem iI_neg (a : Int) : -iI a = iI (-a) := (Int32.ofInt_neg a).symm
theorem iI_lt {a b : Int} (ha : inR a) (hb : inR b) : iI a < iI b ↔ a < b := by rw [Int32.lt_iff_toInt_lt, iI_toInt ha, iI_toInt hb]
theorem iI_le {a b : Int} (ha : inR a) (hb : inR b) : iI a ≤ iI b ↔ a ≤ b := by rw [Int32.le_iff_toInt_le, iI_toInt ha, iI_toInt hb]
theorem iI_eq {a b : Int} (ha : inR a) (hb : inR b) : iI a = iI b ↔ a = b := ⟨fun h => by rw [← iI_toInt ha, ← iI_toInt hb, h], fun h => by rw [h]⟩
theorem iI_0 : iI 0 = 0 := rfl
theorem iI_clamp {z : Int} (h : inR z) : (iI z).toNatClampNeg = z.toNat := by
  show (iI z).toInt.toNat = z.toNat
  rw [iI_toInt h]
theorem iI_in {z : Int} {n : Nat} (h0 : 0 ≤ z) (h : z < n) (hr : z < 2147483648) : vp_in (iI z) n := by
  rw [vp_in_iff, iI_toInt ⟨by omega, hr⟩]
  exact ⟨h0, h⟩
theorem iI_div {a b : Int} (ha : inR a) (hb : inR b) (h0 : b ≠ 0) (h1 : inR (a.tdiv b)) : iI a / iI b = iI (a.tdiv b) := by
  apply Int32.toInt_inj.mp
  rw [Int32.toInt_div, iI_toInt ha, iI_toInt hb, iI_toInt h1]
  exact Int.bmod_eq_of_le (by have := h1.1; omega) (by have := h1.2; omega)
theorem iA_upd (f : Nat → Int) (z v : Int) (hz : inR z) : upd (iA f) (iI z).toNatClampNeg (iI v) = iA (sU f z.toNat v) := by
  rw [iI_clamp hz]
  funext j
  unfold upd iA sU
  by_cases h : j = z.toNat
  · rw [if_pos h, if_pos h]
  · rw [if_neg h, if_neg h]
theorem iA_get (f : Nat → Int) {z : Int} (hz : inR z) : iA f (iI z).toNatClampNeg = iI (f z.toNat) := by rw [iI_clamp hz]; rfl
def lL (z : Int) : Int64 := Int64.ofInt z
theorem iI_l {z : Int} (h : inR z) : (iI z).toInt64 = lL z := by
  apply Int64.toInt_inj.mp
  rw [Int32.toInt_toInt64, iI_toInt h]
  exact (Int64.toInt_ofInt_of_le (by have := h.1; omega) (by have := h.2; omega)).symm
theorem lL_toInt {z : Int} (h : inR z) : (lL z).toInt = z := Int64.toInt_ofInt_of_le (by have := h.1; omega) (by have := h.2; omega)
theorem lL_cmp {a b : Int} (ha : inR a) (hb : inR b) : lg_cmp (lL a) (lL b) = iI (if a < b then -1 else if a = b then 0 else 1) := by
  have h1 : lL a < lL b ↔ a < b := by rw [Int64.lt_iff_toInt_lt, lL_toInt ha, lL_toInt hb]
  have h2 : lL a = lL b ↔ a = b := ⟨fun h => by rw [← lL_toInt ha, ← lL_toInt hb, h], fun h => by rw [h]⟩
  have h3 : lL b < lL a ↔ b < a := by rw [Int64.lt_iff_toInt_lt, lL_toInt ha, lL_toInt hb]
  unfold lg_cmp
  simp only [h2, h3]
  by_cases q : a < b
  · rw [if_neg (by omega), if_neg (by omega), if_pos q]
    rfl
  · by_cases q2 : a = b
    · rw [if_neg (by omega), if_pos q2, if_neg q, if_pos q2]
      rfl
    · rw [if_pos (by omega), if_neg q, if_neg q2]
      rfl
def g_nest : List Cond := [.methodLinkNest "SkewPlan" 9 ⟨"SkewPlan$Text", "<init>", "()V"⟩ "SkewPlan", .fieldLinkNest "SkewPlan$Text" 86 "SkewPlan$Net" "registers" "I" "SkewPlan", .fieldLinkNest "SkewPlan$Planner" 63 "SkewPlan$Net" "registers" "I" "SkewPlan", .fieldLinkNest "SkewPlan" 140 "SkewPlan$Net" "registers" "I" "SkewPlan", .fieldLinkNest "SkewPlan$Planner" 86 "SkewPlan$Net" "setup" "I" "SkewPlan", .fieldLinkNest "SkewPlan" 227 "SkewPlan$Net" "setup" "I" "SkewPlan", .fieldLinkNest "SkewPlan" 230 "SkewPlan$Net" "hold" "I" "SkewPlan", .fieldLinkNest "SkewPlan$Planner" 44 "SkewPlan$Net" "step" "I" "SkewPlan", .fieldLinkNest "SkewPlan" 146 "SkewPlan$Net" "step" "I" "SkewPlan", .fieldLinkNest "SkewPlan$History" 31 "SkewPlan$Net" "period" "I" "SkewPlan", .fieldLinkNest "SkewPlan" 112 "SkewPlan$Net" "period" "I" "SkewPlan", .fieldLinkNest "SkewPlan$Planner" 39 "SkewPlan$Net" "period" "I" "SkewPlan", .fieldLinkNest "SkewPlan$Planner" 74 "SkewPlan$Net" "paths" "I" "SkewPlan", .fieldLinkNest "SkewPlan" 178 "SkewPlan$Net" "paths" "I" "SkewPlan", .fieldLinkNest "SkewPlan" 92 "SkewPlan$Net" "from" "[I" "SkewPlan", .fieldLinkNest "SkewPlan$Planner" 77 "SkewPlan$Net" "from" "[I" "SkewPlan", .fieldLinkNest "SkewPlan" 96 "SkewPlan$Net" "to" "[I" "SkewPlan", .fieldLinkNest "SkewPlan$Planner" 80 "SkewPlan$Net" "to" "[I" "SkewPlan", .fieldLinkNest "SkewPlan" 99 "SkewPlan$Net" "longs" "[I" "SkewPlan", .fieldLinkNest "SkewPlan$Planner" 83 "SkewPlan$Net" "longs" "[I" "SkewPlan", .fieldLinkNest "SkewPlan" 102 "SkewPlan$Net" "shorts" "[I" "SkewPlan", .methodLinkNest "SkewPlan" 39 ⟨"SkewPlan$History", "<init>", "()V"⟩ "SkewPlan", .methodLinkNest "SkewPlan" 46 ⟨"SkewPlan$Planner", "<init>", "()V"⟩ "SkewPlan", .methodLinkNest "SkewPlan" 57 ⟨"SkewPlan$Trace", "<init>", "()V"⟩ "SkewPlan", .fieldLinkNest "SkewPlan$Text" 56 "SkewPlan" "WORDS" "[LSkewPlan$Word;" "SkewPlan", .methodLinkNest "SkewPlan$Text" 109 ⟨"SkewPlan", "isWithin", "(III)Z"⟩ "SkewPlan", .methodLinkNest "SkewPlan$Trace" 34 ⟨"SkewPlan", "isWithin", "(III)Z"⟩ "SkewPlan", .fieldLinkNest "SkewPlan$Text" 93 "SkewPlan$Word" "spelling" "Ljava/lang/String;" "SkewPlan", .fieldLinkNest "SkewPlan$Text" 72 "SkewPlan$Word" "low" "I" "SkewPlan", .fieldLinkNest "SkewPlan$Text" 75 "SkewPlan$Word" "high" "I" "SkewPlan"]
def g_isN : Cond → Bool
  | .fieldLinkNest _ _ _ _ _ _ => true
  | .methodLinkNest _ _ _ _ => true
  | _ => false
theorem g_nest_is : g_nest.all g_isN = true := by decide +kernel
theorem g_nest_t {w : Cond} (h : w ∈ g_nest) : w.onTables = true := by
  have := List.all_eq_true.mp g_nest_is w h
  cases w <;> first | rfl | (simp [g_isN] at this)
theorem g_nest_w {s U : State} (hW : s.WarmedH U.vm) (h : ∀ w ∈ g_nest, va_Nw w s) : ∀ w ∈ g_nest, va_Nw w U := by
  intro w hw
  have h1 := List.all_eq_true.mp g_nest_is w hw
  have h2 := h w hw
  cases w <;> first | exact va_Nw.warmF hW h2 | exact va_Nw.warmM hW h2 | (simp [g_isN] at h1)
def g_Stab (E : (Nat → Prop) → State → Heap → Prop) : Prop := (∀ (A : Nat → Prop) (u U : State) (H : Heap), u.vm.Alike U.vm → E A u H → E A U H) ∧ (∀ (A : Nat → Prop) (U : State) (H H1 : Heap), (∀ a : Nat, a < H.size → ¬ A a → H1[a]? = H[a]?) → E A U H → E A U H1) ∧ (∀ (A B : Nat → Prop) (U : State) (H : Heap), (∀ q, B q → A q) → E A U H → E B U H)
theorem iI_char {x : Int} (h0 : 0 ≤ x) (h1 : x < 65536) : ((iI x).toUInt32 % 65536).toInt32 = iI x := by
  have e : iI x = nI x.toNat := by
    apply Int32.toInt_inj.mp
    rw [iI_toInt ⟨by omega, by omega⟩, nI_toInt (by omega)]
    omega
  rw [e, pk_char, pk_tn (by omega), Nat.mod_eq_of_lt (by omega)]
section GK
variable {p : Program} {l : Launch} {e : Env} {R : Room} {s : State} {m : MethodId} {args : Array Value} {below : List Frame} {meth : Method} {c : Code} {Q : State → Prop}
variable {cc : ByteArray} {nL : Nat} {own : String} {D : va_G} {tys : List (ClassId × FieldType)} {A : Nat → Prop} {ce sl pc : Nat} {w : va_W} {lv : List (Nat × Value)} {st : List Value} {E : (Nat → Prop) → State → Heap → Prop}
def g_Cx (p : Program) (s : State) (m : MethodId) (args : Array Value) (c : Code) (cc : ByteArray) (nL : Nat) (own : String) (D : va_G) (tys : List (ClassId × FieldType)) (A : Nat → Prop) (E : (Nat → Prop) → State → Heap → Prop) : Prop := p.tables.exec = Jvm.exec ∧ c.code = cc ∧ c.maxLocals = nL ∧ s.vm.findClass own = some m.cls ∧ (∀ w ∈ g_all, w.before args s = true) ∧ va_K D vwCl tys s ∧ (∀ q : Nat, s.heap.size ≤ q → A q) ∧ (∀ w ∈ g_nest, va_Nw w s) ∧ g_Stab E ∧ E A s s.heap
theorem g_nestD {s : State} (h : ∀ w ∈ g_nest, va_Nw w s) (d : Drawn) {args : Array Value} {w : Cond} (hw : w ∈ g_nest) : w.before args (s.setDrawn d) = true := va_Nw.use (g_nest_t hw) (va_Nw.same (g_nest_t hw) (u := s) (U := s.setDrawn d) rfl (h w hw))
def g_G (p : Program) (l : Launch) (e : Env) (R : Room) (s : State) (m : MethodId) (args : Array Value) (below : List Frame) (meth : Method) (c : Code) (nL : Nat) (D : va_G) (A : Nat → Prop) (Q : State → Prop) (ce sl : Nat) (w : va_W) (lv : List (Nat × Value)) (pc : Nat) (st : List Value) : Prop :=
  ∀ (d0 : Drawn) (H : Heap) (locs : List Loc) (ls : Array Slot), s.drawn.sameBut d0 lw_cs → va_P D vwCl w H → va_D A w → va_S A s.heap H locs → lv_has ls nL lv → W p l e R (s.setDrawn d0) m args below meth c H locs ce sl Q (F0 m pc ls st)
theorem g_iconst (C : g_Cx p s m args c cc nL own D tys A E) {n : Int}  (hdg : decode cc pc = .ok (.iconst n, 1)) {n' : Nat} (hn : pc + 1 = n')  (k : g_G p l e R s m args below meth c nL D A Q ce sl w lv n' (.int (iI n) :: st)) : g_G p l e R s m args below meth c nL D A Q ce sl w lv pc st := by
  subst hn
  intro d0 H locs ls hd hP hD hS hl
  have k := k d0 H locs ls hd hP hD hS hl
  exact lv_iconst C.1 C.2.1 hdg rfl k
theorem g_bipush (C : g_Cx p s m args c cc nL own D tys A E) {n : Int} (hv : (Int8.ofInt n).toInt32 = iI n) (hdg : decode cc pc = .ok (.bipush n, 2)) {n' : Nat} (hn : pc + 2 = n')  (k : g_G p l e R s m args below meth c nL D A Q ce sl w lv n' (.int (iI n) :: st)) : g_G p l e R s m args below meth c nL D A Q ce sl w lv pc st := by
  subst hn
  intro d0 H locs ls hd hP hD hS hl
  have k := k d0 H locs ls hd hP hD hS hl
  exact lv_bipush C.1 C.2.1 hdg hv k
theorem g_sipush (C : g_Cx p s m args c cc nL own D tys A E) {n : Int} (hv : (Int16.ofInt n).toInt32 = iI n) (hdg : decode cc pc = .ok (.sipush n, 3)) {n' : Nat} (hn : pc + 3 = n')  (k : g_G p l e R s m args below meth c nL D A Q ce sl w lv n' (.int (iI n) :: st)) : g_G p l e R s m args below meth c nL D A Q ce sl w lv pc st := by
  subst hn
  intro d0 H locs ls hd hP hD hS hl
  have k := k d0 H locs ls hd hP hD hS hl
  exact lv_sipush C.1 C.2.1 hdg hv k
theorem g_ldc (C : g_Cx p s m args c cc nL own D tys A E) {index : Nat} {v : Int32} (z : Int) (hz : v = iI z) (hc : Cond.constant own index v ∈ g_all) (hdg : decode cc pc = .ok (.ldc index, 2)) {n' : Nat} (hn : pc + 2 = n')  (k : g_G p l e R s m args below meth c nL D A Q ce sl w lv n' (.int (iI z) :: st)) : g_G p l e R s m args below meth c nL D A Q ce sl w lv pc st := by
  subst hn
  intro d0 H locs ls hd hP hD hS hl
  have k := k d0 H locs ls hd hP hD hS hl
  subst hz
  exact lv_ldc C.1 C.2.1 C.2.2.2.1 (dr_words C.2.2.2.2.1 _ _ hc) hdg k
theorem g_ldc2l (C : g_Cx p s m args c cc nL own D tys A E) {index : Nat} {v : Int64} (z : Int) (hz : v = lL z) (hc : Cond.constantLong own index v ∈ g_all) (hdg : decode cc pc = .ok (.ldc2_w index, 3)) {n' : Nat} (hn : pc + 3 = n')  (k : g_G p l e R s m args below meth c nL D A Q ce sl w lv n' (.long (lL z) :: st)) : g_G p l e R s m args below meth c nL D A Q ce sl w lv pc st := by
  subst hn
  intro d0 H locs ls hd hP hD hS hl
  have k := k d0 H locs ls hd hP hD hS hl
  subst hz
  exact lv_ldc2 C.1 C.2.1 C.2.2.2.1 (dr_words C.2.2.2.2.1 _ _ hc) hdg k
theorem g_ldc2d (C : g_Cx p s m args c cc nL own D tys A E) {index : Nat} {v : UInt64} (hc : Cond.constantDouble own index v ∈ g_all) (hdg : decode cc pc = .ok (.ldc2_w index, 3)) {n' : Nat} (hn : pc + 3 = n')  (k : g_G p l e R s m args below meth c nL D A Q ce sl w lv n' (.double v :: st)) : g_G p l e R s m args below meth c nL D A Q ce sl w lv pc st := by
  subst hn
  intro d0 H locs ls hd hP hD hS hl
  have k := k d0 H locs ls hd hP hD hS hl
  exact lv_ldc2d C.1 C.2.1 C.2.2.2.1 (dr_words C.2.2.2.2.1 _ _ hc) hdg k
theorem g_lconst (C : g_Cx p s m args c cc nL own D tys A E) {n : Fin 2} (z : Int) (hz : Int64.ofNat (n : Nat) = lL z) (hdg : decode cc pc = .ok (.lconst n, 1)) {n' : Nat} (hn : pc + 1 = n')  (k : g_G p l e R s m args below meth c nL D A Q ce sl w lv n' (.long (lL z) :: st)) : g_G p l e R s m args below meth c nL D A Q ce sl w lv pc st := by
  subst hn
  intro d0 H locs ls hd hP hD hS hl
  have k := k d0 H locs ls hd hP hD hS hl
  exact lv_lconst C.1 C.2.1 hdg hz k
theorem g_iload_n (C : g_Cx p s m args c cc nL own D tys A E) {k0 : Fin 4} {i : Nat} {x : Int32} (j : Nat) (hj : lv[j]? = some (i, .int x)) (hdg : decode cc pc = .ok (.iload_n k0, 1)) {n' : Nat} (hn : pc + 1 = n') (hi : (k0 : Nat) = i) (k : g_G p l e R s m args below meth c nL D A Q ce sl w lv n' (.int x :: st)) : g_G p l e R s m args below meth c nL D A Q ce sl w lv pc st := by
  subst hn
  intro d0 H locs ls hd hP hD hS hl
  have k := k d0 H locs ls hd hP hD hS hl
  exact lv_iload_n C.1 C.2.1 hdg hi (lv_at hl j hj) k
theorem g_iload (C : g_Cx p s m args c cc nL own D tys A E) {i : Nat} {x : Int32} (j : Nat) (hj : lv[j]? = some (i, .int x)) (hdg : decode cc pc = .ok (.iload i, 2)) {n' : Nat} (hn : pc + 2 = n')  (k : g_G p l e R s m args below meth c nL D A Q ce sl w lv n' (.int x :: st)) : g_G p l e R s m args below meth c nL D A Q ce sl w lv pc st := by
  subst hn
  intro d0 H locs ls hd hP hD hS hl
  have k := k d0 H locs ls hd hP hD hS hl
  exact lv_iload C.1 C.2.1 hdg (lv_at hl j hj) k
theorem g_aload_n (C : g_Cx p s m args c cc nL own D tys A E) {k0 : Fin 4} {i : Nat} {x : Nat} (j : Nat) (hj : lv[j]? = some (i, .ref x)) (hdg : decode cc pc = .ok (.aload_n k0, 1)) {n' : Nat} (hn : pc + 1 = n') (hi : (k0 : Nat) = i) (k : g_G p l e R s m args below meth c nL D A Q ce sl w lv n' (.ref x :: st)) : g_G p l e R s m args below meth c nL D A Q ce sl w lv pc st := by
  subst hn
  intro d0 H locs ls hd hP hD hS hl
  have k := k d0 H locs ls hd hP hD hS hl
  exact lv_aload_n C.1 C.2.1 hdg hi (lv_at hl j hj) k
theorem g_aload (C : g_Cx p s m args c cc nL own D tys A E) {i : Nat} {x : Nat} (j : Nat) (hj : lv[j]? = some (i, .ref x)) (hdg : decode cc pc = .ok (.aload i, 2)) {n' : Nat} (hn : pc + 2 = n')  (k : g_G p l e R s m args below meth c nL D A Q ce sl w lv n' (.ref x :: st)) : g_G p l e R s m args below meth c nL D A Q ce sl w lv pc st := by
  subst hn
  intro d0 H locs ls hd hP hD hS hl
  have k := k d0 H locs ls hd hP hD hS hl
  exact lv_aload C.1 C.2.1 hdg (lv_at hl j hj) k
theorem g_dload_n (C : g_Cx p s m args c cc nL own D tys A E) {k0 : Fin 4} {i : Nat} {x : UInt64} (j : Nat) (hj : lv[j]? = some (i, .double x)) (hdg : decode cc pc = .ok (.dload_n k0, 1)) {n' : Nat} (hn : pc + 1 = n') (hi : (k0 : Nat) = i) (k : g_G p l e R s m args below meth c nL D A Q ce sl w lv n' (.double x :: st)) : g_G p l e R s m args below meth c nL D A Q ce sl w lv pc st := by
  subst hn
  intro d0 H locs ls hd hP hD hS hl
  have k := k d0 H locs ls hd hP hD hS hl
  exact lv_dload_n C.1 C.2.1 hdg hi (lv_at hl j hj) k
theorem g_dload (C : g_Cx p s m args c cc nL own D tys A E) {i : Nat} {x : UInt64} (j : Nat) (hj : lv[j]? = some (i, .double x)) (hdg : decode cc pc = .ok (.dload i, 2)) {n' : Nat} (hn : pc + 2 = n')  (k : g_G p l e R s m args below meth c nL D A Q ce sl w lv n' (.double x :: st)) : g_G p l e R s m args below meth c nL D A Q ce sl w lv pc st := by
  subst hn
  intro d0 H locs ls hd hP hD hS hl
  have k := k d0 H locs ls hd hP hD hS hl
  exact lv_dload C.1 C.2.1 hdg (lv_at hl j hj) k
theorem g_lload_n (C : g_Cx p s m args c cc nL own D tys A E) {k0 : Fin 4} {i : Nat} {x : Int64} (j : Nat) (hj : lv[j]? = some (i, .long x)) (hdg : decode cc pc = .ok (.lload_n k0, 1)) {n' : Nat} (hn : pc + 1 = n') (hi : (k0 : Nat) = i) (k : g_G p l e R s m args below meth c nL D A Q ce sl w lv n' (.long x :: st)) : g_G p l e R s m args below meth c nL D A Q ce sl w lv pc st := by
  subst hn
  intro d0 H locs ls hd hP hD hS hl
  have k := k d0 H locs ls hd hP hD hS hl
  exact lv_lload_n C.1 C.2.1 hdg hi (lv_at hl j hj) k
theorem g_lload (C : g_Cx p s m args c cc nL own D tys A E) {i : Nat} {x : Int64} (j : Nat) (hj : lv[j]? = some (i, .long x)) (hdg : decode cc pc = .ok (.lload i, 2)) {n' : Nat} (hn : pc + 2 = n')  (k : g_G p l e R s m args below meth c nL D A Q ce sl w lv n' (.long x :: st)) : g_G p l e R s m args below meth c nL D A Q ce sl w lv pc st := by
  subst hn
  intro d0 H locs ls hd hP hD hS hl
  have k := k d0 H locs ls hd hP hD hS hl
  exact lv_lload C.1 C.2.1 hdg (lv_at hl j hj) k
theorem g_istore_n (C : g_Cx p s m args c cc nL own D tys A E) {k0 : Fin 4} {i : Nat} {x : Int32} (lv' : List (Nat × Value)) (hdg : decode cc pc = .ok (.istore_n k0, 1)) {n' : Nat} (hn : pc + 1 = n') (hi : (k0 : Nat) = i) (hb : i < nL) (hl' : (i, Value.int x) :: lv.filter (fun q => !(q.1 == i) && !(q.1 + 1 == i && q.2.category == 2)) = lv') (k : g_G p l e R s m args below meth c nL D A Q ce sl w lv' n' st) : g_G p l e R s m args below meth c nL D A Q ce sl w lv pc (.int x :: st) := by
  subst hn
  intro d0 H locs ls hd hP hD hS hl
  exact lv_istore_n C.1 C.2.1 hdg hi hl hb hl' (fun ls' h => k d0 H locs ls' hd hP hD hS h)
theorem g_istore (C : g_Cx p s m args c cc nL own D tys A E) {i : Nat} {x : Int32} (lv' : List (Nat × Value)) (hdg : decode cc pc = .ok (.istore i, 2)) {n' : Nat} (hn : pc + 2 = n') (hb : i < nL) (hl' : (i, Value.int x) :: lv.filter (fun q => !(q.1 == i) && !(q.1 + 1 == i && q.2.category == 2)) = lv') (k : g_G p l e R s m args below meth c nL D A Q ce sl w lv' n' st) : g_G p l e R s m args below meth c nL D A Q ce sl w lv pc (.int x :: st) := by
  subst hn
  intro d0 H locs ls hd hP hD hS hl
  exact lv_istore C.1 C.2.1 hdg hl hb hl' (fun ls' h => k d0 H locs ls' hd hP hD hS h)
theorem g_astore_n (C : g_Cx p s m args c cc nL own D tys A E) {k0 : Fin 4} {i : Nat} {x : Nat} (lv' : List (Nat × Value)) (hdg : decode cc pc = .ok (.astore_n k0, 1)) {n' : Nat} (hn : pc + 1 = n') (hi : (k0 : Nat) = i) (hb : i < nL) (hl' : (i, Value.ref x) :: lv.filter (fun q => !(q.1 == i) && !(q.1 + 1 == i && q.2.category == 2)) = lv') (k : g_G p l e R s m args below meth c nL D A Q ce sl w lv' n' st) : g_G p l e R s m args below meth c nL D A Q ce sl w lv pc (.ref x :: st) := by
  subst hn
  intro d0 H locs ls hd hP hD hS hl
  exact lv_astore_n C.1 C.2.1 hdg hi hl hb hl' (fun ls' h => k d0 H locs ls' hd hP hD hS h)
theorem g_astore (C : g_Cx p s m args c cc nL own D tys A E) {i : Nat} {x : Nat} (lv' : List (Nat × Value)) (hdg : decode cc pc = .ok (.astore i, 2)) {n' : Nat} (hn : pc + 2 = n') (hb : i < nL) (hl' : (i, Value.ref x) :: lv.filter (fun q => !(q.1 == i) && !(q.1 + 1 == i && q.2.category == 2)) = lv') (k : g_G p l e R s m args below meth c nL D A Q ce sl w lv' n' st) : g_G p l e R s m args below meth c nL D A Q ce sl w lv pc (.ref x :: st) := by
  subst hn
  intro d0 H locs ls hd hP hD hS hl
  exact lv_astore C.1 C.2.1 hdg hl hb hl' (fun ls' h => k d0 H locs ls' hd hP hD hS h)
theorem g_dstore_n (C : g_Cx p s m args c cc nL own D tys A E) {k0 : Fin 4} {i : Nat} {x : UInt64} (lv' : List (Nat × Value)) (hdg : decode cc pc = .ok (.dstore_n k0, 1)) {n' : Nat} (hn : pc + 1 = n') (hi : (k0 : Nat) = i) (hb : i + 1 < nL) (hl' : (i, Value.double x) :: lv.filter (fun q => !(q.1 == i) && (!(q.1 == i + 1) && !(q.1 + 1 == i && q.2.category == 2))) = lv') (k : g_G p l e R s m args below meth c nL D A Q ce sl w lv' n' st) : g_G p l e R s m args below meth c nL D A Q ce sl w lv pc (.double x :: st) := by
  subst hn
  intro d0 H locs ls hd hP hD hS hl
  exact lv_dstore_n C.1 C.2.1 hdg hi hl hb hl' (fun ls' h => k d0 H locs ls' hd hP hD hS h)
theorem g_dstore (C : g_Cx p s m args c cc nL own D tys A E) {i : Nat} {x : UInt64} (lv' : List (Nat × Value)) (hdg : decode cc pc = .ok (.dstore i, 2)) {n' : Nat} (hn : pc + 2 = n') (hb : i + 1 < nL) (hl' : (i, Value.double x) :: lv.filter (fun q => !(q.1 == i) && (!(q.1 == i + 1) && !(q.1 + 1 == i && q.2.category == 2))) = lv') (k : g_G p l e R s m args below meth c nL D A Q ce sl w lv' n' st) : g_G p l e R s m args below meth c nL D A Q ce sl w lv pc (.double x :: st) := by
  subst hn
  intro d0 H locs ls hd hP hD hS hl
  exact lv_dstore C.1 C.2.1 hdg hl hb hl' (fun ls' h => k d0 H locs ls' hd hP hD hS h)
theorem g_iinc (C : g_Cx p s m args c cc nL own D tys A E) {i : Nat} {n x : Int} (j : Nat) (lv' : List (Nat × Value)) (hj : lv[j]? = some (i, .int (iI x))) (hdg : decode cc pc = .ok (.iinc i n, 3)) {n' : Nat} (hn : pc + 3 = n') (hb : i < nL) (hl' : (i, Value.int (iI (x + n))) :: lv.filter (fun q => !(q.1 == i) && !(q.1 + 1 == i && q.2.category == 2)) = lv') (k : g_G p l e R s m args below meth c nL D A Q ce sl w lv' n' st) : g_G p l e R s m args below meth c nL D A Q ce sl w lv pc st := by
  subst hn
  intro d0 H locs ls hd hP hD hS hl
  exact lv_iinc C.1 C.2.1 hdg hl hj (iI_add x n) hb hl' (fun ls' h => k d0 H locs ls' hd hP hD hS h)
theorem g_dup (C : g_Cx p s m args c cc nL own D tys A E) {va : Value} (hva : va.category = 1) (hdg : decode cc pc = .ok (.dup, 1)) {n' : Nat} (hn : pc + 1 = n')  (k : g_G p l e R s m args below meth c nL D A Q ce sl w lv n' (va :: va :: st)) : g_G p l e R s m args below meth c nL D A Q ce sl w lv pc (va :: st) := by
  subst hn
  intro d0 H locs ls hd hP hD hS hl
  have k := k d0 H locs ls hd hP hD hS hl
  exact lv_dup C.1 C.2.1 hdg hva k
theorem g_pop (C : g_Cx p s m args c cc nL own D tys A E) {va : Value} (hva : va.category = 1) (hdg : decode cc pc = .ok (.pop, 1)) {n' : Nat} (hn : pc + 1 = n')  (k : g_G p l e R s m args below meth c nL D A Q ce sl w lv n' st) : g_G p l e R s m args below meth c nL D A Q ce sl w lv pc (va :: st) := by
  subst hn
  intro d0 H locs ls hd hP hD hS hl
  have k := k d0 H locs ls hd hP hD hS hl
  exact lv_pop C.1 C.2.1 hdg hva k
theorem g_dup2 (C : g_Cx p s m args c cc nL own D tys A E) {va vb : Value} (hva : va.category = 1) (hvb : vb.category = 1) (hdg : decode cc pc = .ok (.dup2, 1)) {n' : Nat} (hn : pc + 1 = n')  (k : g_G p l e R s m args below meth c nL D A Q ce sl w lv n' (va :: vb :: va :: vb :: st)) : g_G p l e R s m args below meth c nL D A Q ce sl w lv pc (va :: vb :: st) := by
  subst hn
  intro d0 H locs ls hd hP hD hS hl
  have k := k d0 H locs ls hd hP hD hS hl
  exact lv_dup2_11 C.1 C.2.1 hdg hva hvb k
theorem g_iadd (C : g_Cx p s m args c cc nL own D tys A E) {x y : Int}  (hdg : decode cc pc = .ok (.iadd, 1)) {n' : Nat} (hn : pc + 1 = n')  (k : g_G p l e R s m args below meth c nL D A Q ce sl w lv n' (.int (iI (x + y)) :: st)) : g_G p l e R s m args below meth c nL D A Q ce sl w lv pc (.int (iI y) :: .int (iI x) :: st) := by
  subst hn
  intro d0 H locs ls hd hP hD hS hl
  have k := k d0 H locs ls hd hP hD hS hl
  refine lv_iadd C.1 C.2.1 hdg ?_
  rw [iI_add]
  exact k
theorem g_isub (C : g_Cx p s m args c cc nL own D tys A E) {x y : Int}  (hdg : decode cc pc = .ok (.isub, 1)) {n' : Nat} (hn : pc + 1 = n')  (k : g_G p l e R s m args below meth c nL D A Q ce sl w lv n' (.int (iI (x - y)) :: st)) : g_G p l e R s m args below meth c nL D A Q ce sl w lv pc (.int (iI y) :: .int (iI x) :: st) := by
  subst hn
  intro d0 H locs ls hd hP hD hS hl
  have k := k d0 H locs ls hd hP hD hS hl
  refine lv_isub C.1 C.2.1 hdg ?_
  rw [iI_sub]
  exact k
theorem g_imul (C : g_Cx p s m args c cc nL own D tys A E) {x y : Int}  (hdg : decode cc pc = .ok (.imul, 1)) {n' : Nat} (hn : pc + 1 = n')  (k : g_G p l e R s m args below meth c nL D A Q ce sl w lv n' (.int (iI (x * y)) :: st)) : g_G p l e R s m args below meth c nL D A Q ce sl w lv pc (.int (iI y) :: .int (iI x) :: st) := by
  subst hn
  intro d0 H locs ls hd hP hD hS hl
  have k := k d0 H locs ls hd hP hD hS hl
  refine lv_imul C.1 C.2.1 hdg ?_
  rw [iI_mul]
  exact k
theorem g_ineg (C : g_Cx p s m args c cc nL own D tys A E) {x : Int}  (hdg : decode cc pc = .ok (.ineg, 1)) {n' : Nat} (hn : pc + 1 = n')  (k : g_G p l e R s m args below meth c nL D A Q ce sl w lv n' (.int (iI (-x)) :: st)) : g_G p l e R s m args below meth c nL D A Q ce sl w lv pc (.int (iI x) :: st) := by
  subst hn
  intro d0 H locs ls hd hP hD hS hl
  have k := k d0 H locs ls hd hP hD hS hl
  refine lv_ineg C.1 C.2.1 hdg ?_
  rw [iI_neg]
  exact k
theorem g_idiv (C : g_Cx p s m args c cc nL own D tys A E) {x y : Int} (hx : inR x) (hy : inR y) (h0 : y ≠ 0) (h1 : inR (x.tdiv y)) (hdg : decode cc pc = .ok (.idiv, 1)) {n' : Nat} (hn : pc + 1 = n')  (k : g_G p l e R s m args below meth c nL D A Q ce sl w lv n' (.int (iI (x.tdiv y)) :: st)) : g_G p l e R s m args below meth c nL D A Q ce sl w lv pc (.int (iI y) :: .int (iI x) :: st) := by
  subst hn
  intro d0 H locs ls hd hP hD hS hl
  have k := k d0 H locs ls hd hP hD hS hl
  refine lv_idiv C.1 C.2.1 hdg (fun q => h0 ((iI_eq hy (b := 0) (by unfold inR; omega)).mp q)) ?_
  rw [iI_div hx hy h0 h1]
  exact k
theorem g_irem (C : g_Cx p s m args c cc nL own D tys A E) {x y : Int} (hx : inR x) (hy : inR y) (h0 : y ≠ 0) (h1 : inR (x.tdiv y)) (hdg : decode cc pc = .ok (.irem, 1)) {n' : Nat} (hn : pc + 1 = n')  (k : g_G p l e R s m args below meth c nL D A Q ce sl w lv n' (.int (iI (x.tmod y)) :: st)) : g_G p l e R s m args below meth c nL D A Q ce sl w lv pc (.int (iI y) :: .int (iI x) :: st) := by
  subst hn
  intro d0 H locs ls hd hP hD hS hl
  have k := k d0 H locs ls hd hP hD hS hl
  refine lv_irem C.1 C.2.1 hdg (fun q => h0 ((iI_eq hy (b := 0) (by unfold inR; omega)).mp q)) ?_
  rw [iI_div hx hy h0 h1, iI_mul, iI_sub, show x - x.tdiv y * y = x.tmod y by rw [Int.tmod_def, Int.mul_comm]]
  exact k
theorem g_iand (C : g_Cx p s m args c cc nL own D tys A E) {x y : Int32} (v : Int) (hv : x &&& y = iI v) (hdg : decode cc pc = .ok (.iand, 1)) {n' : Nat} (hn : pc + 1 = n')  (k : g_G p l e R s m args below meth c nL D A Q ce sl w lv n' (.int (iI v) :: st)) : g_G p l e R s m args below meth c nL D A Q ce sl w lv pc (.int y :: .int x :: st) := by
  subst hn
  intro d0 H locs ls hd hP hD hS hl
  have k := k d0 H locs ls hd hP hD hS hl
  refine lv_iand C.1 C.2.1 hdg ?_
  rw [hv]
  exact k
theorem g_ior (C : g_Cx p s m args c cc nL own D tys A E) {x y : Int32} (v : Int) (hv : x ||| y = iI v) (hdg : decode cc pc = .ok (.ior, 1)) {n' : Nat} (hn : pc + 1 = n')  (k : g_G p l e R s m args below meth c nL D A Q ce sl w lv n' (.int (iI v) :: st)) : g_G p l e R s m args below meth c nL D A Q ce sl w lv pc (.int y :: .int x :: st) := by
  subst hn
  intro d0 H locs ls hd hP hD hS hl
  have k := k d0 H locs ls hd hP hD hS hl
  refine lv_ior C.1 C.2.1 hdg ?_
  rw [hv]
  exact k
theorem g_ixor (C : g_Cx p s m args c cc nL own D tys A E) {x y : Int32} (v : Int) (hv : x ^^^ y = iI v) (hdg : decode cc pc = .ok (.ixor, 1)) {n' : Nat} (hn : pc + 1 = n')  (k : g_G p l e R s m args below meth c nL D A Q ce sl w lv n' (.int (iI v) :: st)) : g_G p l e R s m args below meth c nL D A Q ce sl w lv pc (.int y :: .int x :: st) := by
  subst hn
  intro d0 H locs ls hd hP hD hS hl
  have k := k d0 H locs ls hd hP hD hS hl
  refine lv_ixor C.1 C.2.1 hdg ?_
  rw [hv]
  exact k
theorem g_ishl (C : g_Cx p s m args c cc nL own D tys A E) {x y : Int32} (v : Int) (hv : x <<< (y &&& 31) = iI v) (hdg : decode cc pc = .ok (.ishl, 1)) {n' : Nat} (hn : pc + 1 = n')  (k : g_G p l e R s m args below meth c nL D A Q ce sl w lv n' (.int (iI v) :: st)) : g_G p l e R s m args below meth c nL D A Q ce sl w lv pc (.int y :: .int x :: st) := by
  subst hn
  intro d0 H locs ls hd hP hD hS hl
  have k := k d0 H locs ls hd hP hD hS hl
  refine lv_ishl C.1 C.2.1 hdg ?_
  rw [hv]
  exact k
theorem g_ishr (C : g_Cx p s m args c cc nL own D tys A E) {x y : Int32} (v : Int) (hv : x >>> (y &&& 31) = iI v) (hdg : decode cc pc = .ok (.ishr, 1)) {n' : Nat} (hn : pc + 1 = n')  (k : g_G p l e R s m args below meth c nL D A Q ce sl w lv n' (.int (iI v) :: st)) : g_G p l e R s m args below meth c nL D A Q ce sl w lv pc (.int y :: .int x :: st) := by
  subst hn
  intro d0 H locs ls hd hP hD hS hl
  have k := k d0 H locs ls hd hP hD hS hl
  refine lv_ishr C.1 C.2.1 hdg ?_
  rw [hv]
  exact k
theorem g_i2l (C : g_Cx p s m args c cc nL own D tys A E) {x : Int} (hx : inR x) (hdg : decode cc pc = .ok (.i2l, 1)) {n' : Nat} (hn : pc + 1 = n')  (k : g_G p l e R s m args below meth c nL D A Q ce sl w lv n' (.long (lL x) :: st)) : g_G p l e R s m args below meth c nL D A Q ce sl w lv pc (.int (iI x) :: st) := by
  subst hn
  intro d0 H locs ls hd hP hD hS hl
  have k := k d0 H locs ls hd hP hD hS hl
  exact lv_i2l C.1 C.2.1 hdg (iI_l hx) k
theorem g_lcmp (C : g_Cx p s m args c cc nL own D tys A E) {x y : Int} (hx : inR x) (hy : inR y) (hdg : decode cc pc = .ok (.lcmp, 1)) {n' : Nat} (hn : pc + 1 = n')  (k : g_G p l e R s m args below meth c nL D A Q ce sl w lv n' (.int (iI (if x < y then -1 else if x = y then 0 else 1)) :: st)) : g_G p l e R s m args below meth c nL D A Q ce sl w lv pc (.long (lL y) :: .long (lL x) :: st) := by
  subst hn
  intro d0 H locs ls hd hP hD hS hl
  have k := k d0 H locs ls hd hP hD hS hl
  refine W.lcmp C.1 C.2.1 hdg ?_
  rw [lL_cmp hx hy]
  exact k
theorem g_i2c (C : g_Cx p s m args c cc nL own D tys A E) {x : Int} (h0 : 0 ≤ x) (h1 : x < 65536) (hdg : decode cc pc = .ok (.i2c, 1)) {n' : Nat} (hn : pc + 1 = n')  (k : g_G p l e R s m args below meth c nL D A Q ce sl w lv n' (.int (iI x) :: st)) : g_G p l e R s m args below meth c nL D A Q ce sl w lv pc (.int (iI x) :: st) := by
  subst hn
  intro d0 H locs ls hd hP hD hS hl
  have k := k d0 H locs ls hd hP hD hS hl
  exact lv_i2c C.1 C.2.1 hdg (iI_char h0 h1) k
theorem g_i2f (C : g_Cx p s m args c cc nL own D tys A E) {x : Int32}  (hdg : decode cc pc = .ok (.i2f, 1)) {n' : Nat} (hn : pc + 1 = n')  (k : g_G p l e R s m args below meth c nL D A Q ce sl w lv n' (.float (FP.i2f x) :: st)) : g_G p l e R s m args below meth c nL D A Q ce sl w lv pc (.int x :: st) := by
  subst hn
  intro d0 H locs ls hd hP hD hS hl
  have k := k d0 H locs ls hd hP hD hS hl
  exact lv_i2f C.1 C.2.1 hdg k
theorem g_i2d (C : g_Cx p s m args c cc nL own D tys A E) {x : Int32}  (hdg : decode cc pc = .ok (.i2d, 1)) {n' : Nat} (hn : pc + 1 = n')  (k : g_G p l e R s m args below meth c nL D A Q ce sl w lv n' (.double (FP.i2d x) :: st)) : g_G p l e R s m args below meth c nL D A Q ce sl w lv pc (.int x :: st) := by
  subst hn
  intro d0 H locs ls hd hP hD hS hl
  have k := k d0 H locs ls hd hP hD hS hl
  exact lv_i2d C.1 C.2.1 hdg k
theorem g_d2i (C : g_Cx p s m args c cc nL own D tys A E) {x : UInt64} (v : Int) (hv : FP.d2i x = iI v) (hdg : decode cc pc = .ok (.d2i, 1)) {n' : Nat} (hn : pc + 1 = n')  (k : g_G p l e R s m args below meth c nL D A Q ce sl w lv n' (.int (iI v) :: st)) : g_G p l e R s m args below meth c nL D A Q ce sl w lv pc (.double x :: st) := by
  subst hn
  intro d0 H locs ls hd hP hD hS hl
  have k := k d0 H locs ls hd hP hD hS hl
  refine lv_d2i C.1 C.2.1 hdg ?_
  rw [hv]
  exact k
theorem g_dneg (C : g_Cx p s m args c cc nL own D tys A E) {x : UInt64}  (hdg : decode cc pc = .ok (.dneg, 1)) {n' : Nat} (hn : pc + 1 = n')  (k : g_G p l e R s m args below meth c nL D A Q ce sl w lv n' (.double (FP.dneg x) :: st)) : g_G p l e R s m args below meth c nL D A Q ce sl w lv pc (.double x :: st) := by
  subst hn
  intro d0 H locs ls hd hP hD hS hl
  have k := k d0 H locs ls hd hP hD hS hl
  exact lv_dneg C.1 C.2.1 hdg k
theorem g_dcmp (C : g_Cx p s m args c cc nL own D tys A E) {x y : UInt64} {op : CmpOp} (v : Int) (hv : Op.cmpValue (FP.dcmp x y) op = iI v) (hdg : decode cc pc = .ok (.dcmp op, 1)) {n' : Nat} (hn : pc + 1 = n')  (k : g_G p l e R s m args below meth c nL D A Q ce sl w lv n' (.int (iI v) :: st)) : g_G p l e R s m args below meth c nL D A Q ce sl w lv pc (.double y :: .double x :: st) := by
  subst hn
  intro d0 H locs ls hd hP hD hS hl
  have k := k d0 H locs ls hd hP hD hS hl
  refine lv_dcmp C.1 C.2.1 hdg ?_
  rw [hv]
  exact k
theorem g_dconst0 (C : g_Cx p s m args c cc nL own D tys A E)   (hdg : decode cc pc = .ok (.dconst 0, 1)) {n' : Nat} (hn : pc + 1 = n')  (k : g_G p l e R s m args below meth c nL D A Q ce sl w lv n' (.double 0 :: st)) : g_G p l e R s m args below meth c nL D A Q ce sl w lv pc st := by
  subst hn
  intro d0 H locs ls hd hP hD hS hl
  have k := k d0 H locs ls hd hP hD hS hl
  exact lv_dconst0 C.1 C.2.1 hdg k
theorem g_fconst0 (C : g_Cx p s m args c cc nL own D tys A E)   (hdg : decode cc pc = .ok (.fconst 0, 1)) {n' : Nat} (hn : pc + 1 = n')  (k : g_G p l e R s m args below meth c nL D A Q ce sl w lv n' (.float 0 :: st)) : g_G p l e R s m args below meth c nL D A Q ce sl w lv pc st := by
  subst hn
  intro d0 H locs ls hd hP hD hS hl
  have k := k d0 H locs ls hd hP hD hS hl
  exact lv_fconst0 C.1 C.2.1 hdg k
theorem g_dadd (C : g_Cx p s m args c cc nL own D tys A E) {x y : UInt64} (hdg : decode cc pc = .ok (.dadd, 1)) {n' : Nat} (hn : pc + 1 = n') (k : ∀ r : UInt64, alike64 r (FP.dadd x y) = true → g_G p l e R s m args below meth c nL D A Q ce sl w lv n' (.double r :: st)) : g_G p l e R s m args below meth c nL D A Q ce sl w lv pc (.double y :: .double x :: st) := by
  subst hn
  intro d0 H locs ls hd hP hD hS hl
  exact lv_dadd_any hd lw_bits C.1 C.2.1 hdg (fun r d1 h1 h2 => k r h1 d1 H locs ls h2 hP hD hS hl)
theorem g_dsub (C : g_Cx p s m args c cc nL own D tys A E) {x y : UInt64} (hdg : decode cc pc = .ok (.dsub, 1)) {n' : Nat} (hn : pc + 1 = n') (k : ∀ r : UInt64, alike64 r (FP.dsub x y) = true → g_G p l e R s m args below meth c nL D A Q ce sl w lv n' (.double r :: st)) : g_G p l e R s m args below meth c nL D A Q ce sl w lv pc (.double y :: .double x :: st) := by
  subst hn
  intro d0 H locs ls hd hP hD hS hl
  exact lv_dsub_any hd lw_bits C.1 C.2.1 hdg (fun r d1 h1 h2 => k r h1 d1 H locs ls h2 hP hD hS hl)
theorem g_dmul (C : g_Cx p s m args c cc nL own D tys A E) {x y : UInt64} (hdg : decode cc pc = .ok (.dmul, 1)) {n' : Nat} (hn : pc + 1 = n') (k : ∀ r : UInt64, alike64 r (FP.dmul x y) = true → g_G p l e R s m args below meth c nL D A Q ce sl w lv n' (.double r :: st)) : g_G p l e R s m args below meth c nL D A Q ce sl w lv pc (.double y :: .double x :: st) := by
  subst hn
  intro d0 H locs ls hd hP hD hS hl
  exact lv_dmul_any hd lw_bits C.1 C.2.1 hdg (fun r d1 h1 h2 => k r h1 d1 H locs ls h2 hP hD hS hl)
theorem g_ddiv (C : g_Cx p s m args c cc nL own D tys A E) {x y : UInt64} (hdg : decode cc pc = .ok (.ddiv, 1)) {n' : Nat} (hn : pc + 1 = n') (k : ∀ r : UInt64, alike64 r (FP.ddiv x y) = true → g_G p l e R s m args below meth c nL D A Q ce sl w lv n' (.double r :: st)) : g_G p l e R s m args below meth c nL D A Q ce sl w lv pc (.double y :: .double x :: st) := by
  subst hn
  intro d0 H locs ls hd hP hD hS hl
  exact lv_ddiv_any hd lw_bits C.1 C.2.1 hdg (fun r d1 h1 h2 => k r h1 d1 H locs ls h2 hP hD hS hl)
theorem g_drem (C : g_Cx p s m args c cc nL own D tys A E) {x y : UInt64} (hdg : decode cc pc = .ok (.drem, 1)) {n' : Nat} (hn : pc + 1 = n') (k : ∀ r : UInt64, alike64 r (FP.drem x y) = true → g_G p l e R s m args below meth c nL D A Q ce sl w lv n' (.double r :: st)) : g_G p l e R s m args below meth c nL D A Q ce sl w lv pc (.double y :: .double x :: st) := by
  subst hn
  intro d0 H locs ls hd hP hD hS hl
  exact lv_drem_any hd lw_bits C.1 C.2.1 hdg (fun r d1 h1 h2 => k r h1 d1 H locs ls h2 hP hD hS hl)
theorem g_fmul (C : g_Cx p s m args c cc nL own D tys A E) {x y : UInt32} (hdg : decode cc pc = .ok (.fmul, 1)) {n' : Nat} (hn : pc + 1 = n') (k : ∀ r : UInt32, alike32 r (FP.fmul x y) = true → g_G p l e R s m args below meth c nL D A Q ce sl w lv n' (.float r :: st)) : g_G p l e R s m args below meth c nL D A Q ce sl w lv pc (.float y :: .float x :: st) := by
  subst hn
  intro d0 H locs ls hd hP hD hS hl
  exact lv_fmul_any hd lw_bits C.1 C.2.1 hdg (fun r d1 h1 h2 => k r h1 d1 H locs ls h2 hP hD hS hl)
theorem g_fdiv (C : g_Cx p s m args c cc nL own D tys A E) {x y : UInt32} (hdg : decode cc pc = .ok (.fdiv, 1)) {n' : Nat} (hn : pc + 1 = n') (k : ∀ r : UInt32, alike32 r (FP.fdiv x y) = true → g_G p l e R s m args below meth c nL D A Q ce sl w lv n' (.float r :: st)) : g_G p l e R s m args below meth c nL D A Q ce sl w lv pc (.float y :: .float x :: st) := by
  subst hn
  intro d0 H locs ls hd hP hD hS hl
  exact lv_fdiv_any hd lw_bits C.1 C.2.1 hdg (fun r d1 h1 h2 => k r h1 d1 H locs ls h2 hP hD hS hl)
theorem g_frem (C : g_Cx p s m args c cc nL own D tys A E) {x y : UInt32} (hdg : decode cc pc = .ok (.frem, 1)) {n' : Nat} (hn : pc + 1 = n') (k : ∀ r : UInt32, alike32 r (FP.frem x y) = true → g_G p l e R s m args below meth c nL D A Q ce sl w lv n' (.float r :: st)) : g_G p l e R s m args below meth c nL D A Q ce sl w lv pc (.float y :: .float x :: st) := by
  subst hn
  intro d0 H locs ls hd hP hD hS hl
  exact lv_frem_any hd lw_bits C.1 C.2.1 hdg (fun r d1 h1 h2 => k r h1 d1 H locs ls h2 hP hD hS hl)
theorem g_f2d (C : g_Cx p s m args c cc nL own D tys A E) {x : UInt32} (hdg : decode cc pc = .ok (.f2d, 1)) {n' : Nat} (hn : pc + 1 = n') (k : ∀ r : UInt64, alike64 r (FP.f2d x) = true → g_G p l e R s m args below meth c nL D A Q ce sl w lv n' (.double r :: st)) : g_G p l e R s m args below meth c nL D A Q ce sl w lv pc (.float x :: st) := by
  subst hn
  intro d0 H locs ls hd hP hD hS hl
  exact lv_f2d_any hd lw_bits C.1 C.2.1 hdg (fun r d1 h1 h2 => k r h1 d1 H locs ls h2 hP hD hS hl)
theorem g_d2f (C : g_Cx p s m args c cc nL own D tys A E) {x : UInt64} (hdg : decode cc pc = .ok (.d2f, 1)) {n' : Nat} (hn : pc + 1 = n') (k : ∀ r : UInt32, alike32 r (FP.d2f x) = true → g_G p l e R s m args below meth c nL D A Q ce sl w lv n' (.float r :: st)) : g_G p l e R s m args below meth c nL D A Q ce sl w lv pc (.double x :: st) := by
  subst hn
  intro d0 H locs ls hd hP hD hS hl
  exact lv_d2f_any hd lw_bits C.1 C.2.1 hdg (fun r d1 h1 h2 => k r h1 d1 H locs ls h2 hP hD hS hl)
theorem g_goto (C : g_Cx p s m args c cc nL own D tys A E) {off : Int} (tgt : Nat) (hdg : decode cc pc = .ok (.goto off, 3)) (ht : (pc : Int) + off = (tgt : Int)) (k : g_G p l e R s m args below meth c nL D A Q ce sl w lv tgt st) : g_G p l e R s m args below meth c nL D A Q ce sl w lv pc st := fun d0 H locs ls hd hP hD hS hl => lv_goto C.1 C.2.1 hdg ht (k d0 H locs ls hd hP hD hS hl)
theorem g_if_lt (C : g_Cx p s m args c cc nL own D tys A E) {x : Int} {off : Int} (tgt : Nat) (hdg : decode cc pc = .ok (.ifCond .lt off, 3)) (ht : (pc : Int) + off = (tgt : Int)) {n' : Nat} (hn : pc + 3 = n') (hx : inR x) (kt : x < 0 → g_G p l e R s m args below meth c nL D A Q ce sl w lv tgt st) (kf : ¬ x < 0 → g_G p l e R s m args below meth c nL D A Q ce sl w lv n' st) : g_G p l e R s m args below meth c nL D A Q ce sl w lv pc (.int (iI x) :: st) := by
  subst hn
  intro d0 H locs ls hd hP hD hS hl
  exact lv_if_lt C.1 C.2.1 hdg ht (fun q => kt ((iI_lt hx (b := 0) (by unfold inR; omega)).mp q) d0 H locs ls hd hP hD hS hl) (fun q => kf (fun z => q ((iI_lt hx (b := 0) (by unfold inR; omega)).mpr z)) d0 H locs ls hd hP hD hS hl)
theorem g_if_ge (C : g_Cx p s m args c cc nL own D tys A E) {x : Int} {off : Int} (tgt : Nat) (hdg : decode cc pc = .ok (.ifCond .ge off, 3)) (ht : (pc : Int) + off = (tgt : Int)) {n' : Nat} (hn : pc + 3 = n') (hx : inR x) (kt : 0 ≤ x → g_G p l e R s m args below meth c nL D A Q ce sl w lv tgt st) (kf : ¬ 0 ≤ x → g_G p l e R s m args below meth c nL D A Q ce sl w lv n' st) : g_G p l e R s m args below meth c nL D A Q ce sl w lv pc (.int (iI x) :: st) := by
  subst hn
  intro d0 H locs ls hd hP hD hS hl
  exact lv_if_ge C.1 C.2.1 hdg ht (fun q => kt ((iI_le (a := 0) (by unfold inR; omega) hx).mp q) d0 H locs ls hd hP hD hS hl) (fun q => kf (fun z => q ((iI_le (a := 0) (by unfold inR; omega) hx).mpr z)) d0 H locs ls hd hP hD hS hl)
theorem g_if_gt (C : g_Cx p s m args c cc nL own D tys A E) {x : Int} {off : Int} (tgt : Nat) (hdg : decode cc pc = .ok (.ifCond .gt off, 3)) (ht : (pc : Int) + off = (tgt : Int)) {n' : Nat} (hn : pc + 3 = n') (hx : inR x) (kt : 0 < x → g_G p l e R s m args below meth c nL D A Q ce sl w lv tgt st) (kf : ¬ 0 < x → g_G p l e R s m args below meth c nL D A Q ce sl w lv n' st) : g_G p l e R s m args below meth c nL D A Q ce sl w lv pc (.int (iI x) :: st) := by
  subst hn
  intro d0 H locs ls hd hP hD hS hl
  exact lv_if_gt C.1 C.2.1 hdg ht (fun q => kt ((iI_lt (a := 0) (by unfold inR; omega) hx).mp q) d0 H locs ls hd hP hD hS hl) (fun q => kf (fun z => q ((iI_lt (a := 0) (by unfold inR; omega) hx).mpr z)) d0 H locs ls hd hP hD hS hl)
theorem g_if_le (C : g_Cx p s m args c cc nL own D tys A E) {x : Int} {off : Int} (tgt : Nat) (hdg : decode cc pc = .ok (.ifCond .le off, 3)) (ht : (pc : Int) + off = (tgt : Int)) {n' : Nat} (hn : pc + 3 = n') (hx : inR x) (kt : x ≤ 0 → g_G p l e R s m args below meth c nL D A Q ce sl w lv tgt st) (kf : ¬ x ≤ 0 → g_G p l e R s m args below meth c nL D A Q ce sl w lv n' st) : g_G p l e R s m args below meth c nL D A Q ce sl w lv pc (.int (iI x) :: st) := by
  subst hn
  intro d0 H locs ls hd hP hD hS hl
  exact lv_if_le C.1 C.2.1 hdg ht (fun q => kt ((iI_le hx (b := 0) (by unfold inR; omega)).mp q) d0 H locs ls hd hP hD hS hl) (fun q => kf (fun z => q ((iI_le hx (b := 0) (by unfold inR; omega)).mpr z)) d0 H locs ls hd hP hD hS hl)
theorem g_if_eq (C : g_Cx p s m args c cc nL own D tys A E) {x : Int} {off : Int} (tgt : Nat) (hdg : decode cc pc = .ok (.ifCond .eq off, 3)) (ht : (pc : Int) + off = (tgt : Int)) {n' : Nat} (hn : pc + 3 = n') (hx : inR x) (kt : x = 0 → g_G p l e R s m args below meth c nL D A Q ce sl w lv tgt st) (kf : ¬ x = 0 → g_G p l e R s m args below meth c nL D A Q ce sl w lv n' st) : g_G p l e R s m args below meth c nL D A Q ce sl w lv pc (.int (iI x) :: st) := by
  subst hn
  intro d0 H locs ls hd hP hD hS hl
  exact lv_if_eq C.1 C.2.1 hdg ht (fun q => kt ((iI_eq hx (b := 0) (by unfold inR; omega)).mp q) d0 H locs ls hd hP hD hS hl) (fun q => kf (fun z => q ((iI_eq hx (b := 0) (by unfold inR; omega)).mpr z)) d0 H locs ls hd hP hD hS hl)
theorem g_if_ne (C : g_Cx p s m args c cc nL own D tys A E) {x : Int} {off : Int} (tgt : Nat) (hdg : decode cc pc = .ok (.ifCond .ne off, 3)) (ht : (pc : Int) + off = (tgt : Int)) {n' : Nat} (hn : pc + 3 = n') (hx : inR x) (kt : x ≠ 0 → g_G p l e R s m args below meth c nL D A Q ce sl w lv tgt st) (kf : ¬ x ≠ 0 → g_G p l e R s m args below meth c nL D A Q ce sl w lv n' st) : g_G p l e R s m args below meth c nL D A Q ce sl w lv pc (.int (iI x) :: st) := by
  subst hn
  intro d0 H locs ls hd hP hD hS hl
  exact lv_if_ne C.1 C.2.1 hdg ht (fun q => kt ((not_congr (iI_eq hx (b := 0) (by unfold inR; omega))).mp q) d0 H locs ls hd hP hD hS hl) (fun q => kf (fun z => z ((iI_eq hx (b := 0) (by unfold inR; omega)).mp q)) d0 H locs ls hd hP hD hS hl)
theorem g_icmp_lt (C : g_Cx p s m args c cc nL own D tys A E) {x y : Int} {off : Int} (tgt : Nat) (hdg : decode cc pc = .ok (.if_icmp .lt off, 3)) (ht : (pc : Int) + off = (tgt : Int)) {n' : Nat} (hn : pc + 3 = n') (hx : inR x) (hy : inR y) (kt : x < y → g_G p l e R s m args below meth c nL D A Q ce sl w lv tgt st) (kf : ¬ x < y → g_G p l e R s m args below meth c nL D A Q ce sl w lv n' st) : g_G p l e R s m args below meth c nL D A Q ce sl w lv pc (.int (iI y) :: .int (iI x) :: st) := by
  subst hn
  intro d0 H locs ls hd hP hD hS hl
  exact lv_icmp_lt C.1 C.2.1 hdg ht (fun q => kt ((iI_lt hx hy).mp q) d0 H locs ls hd hP hD hS hl) (fun q => kf (fun z => q ((iI_lt hx hy).mpr z)) d0 H locs ls hd hP hD hS hl)
theorem g_icmp_ge (C : g_Cx p s m args c cc nL own D tys A E) {x y : Int} {off : Int} (tgt : Nat) (hdg : decode cc pc = .ok (.if_icmp .ge off, 3)) (ht : (pc : Int) + off = (tgt : Int)) {n' : Nat} (hn : pc + 3 = n') (hx : inR x) (hy : inR y) (kt : y ≤ x → g_G p l e R s m args below meth c nL D A Q ce sl w lv tgt st) (kf : ¬ y ≤ x → g_G p l e R s m args below meth c nL D A Q ce sl w lv n' st) : g_G p l e R s m args below meth c nL D A Q ce sl w lv pc (.int (iI y) :: .int (iI x) :: st) := by
  subst hn
  intro d0 H locs ls hd hP hD hS hl
  exact lv_icmp_ge C.1 C.2.1 hdg ht (fun q => kt ((iI_le hy hx).mp q) d0 H locs ls hd hP hD hS hl) (fun q => kf (fun z => q ((iI_le hy hx).mpr z)) d0 H locs ls hd hP hD hS hl)
theorem g_icmp_gt (C : g_Cx p s m args c cc nL own D tys A E) {x y : Int} {off : Int} (tgt : Nat) (hdg : decode cc pc = .ok (.if_icmp .gt off, 3)) (ht : (pc : Int) + off = (tgt : Int)) {n' : Nat} (hn : pc + 3 = n') (hx : inR x) (hy : inR y) (kt : y < x → g_G p l e R s m args below meth c nL D A Q ce sl w lv tgt st) (kf : ¬ y < x → g_G p l e R s m args below meth c nL D A Q ce sl w lv n' st) : g_G p l e R s m args below meth c nL D A Q ce sl w lv pc (.int (iI y) :: .int (iI x) :: st) := by
  subst hn
  intro d0 H locs ls hd hP hD hS hl
  exact lv_icmp_gt C.1 C.2.1 hdg ht (fun q => kt ((iI_lt hy hx).mp q) d0 H locs ls hd hP hD hS hl) (fun q => kf (fun z => q ((iI_lt hy hx).mpr z)) d0 H locs ls hd hP hD hS hl)
theorem g_icmp_le (C : g_Cx p s m args c cc nL own D tys A E) {x y : Int} {off : Int} (tgt : Nat) (hdg : decode cc pc = .ok (.if_icmp .le off, 3)) (ht : (pc : Int) + off = (tgt : Int)) {n' : Nat} (hn : pc + 3 = n') (hx : inR x) (hy : inR y) (kt : x ≤ y → g_G p l e R s m args below meth c nL D A Q ce sl w lv tgt st) (kf : ¬ x ≤ y → g_G p l e R s m args below meth c nL D A Q ce sl w lv n' st) : g_G p l e R s m args below meth c nL D A Q ce sl w lv pc (.int (iI y) :: .int (iI x) :: st) := by
  subst hn
  intro d0 H locs ls hd hP hD hS hl
  exact lv_icmp_le C.1 C.2.1 hdg ht (fun q => kt ((iI_le hx hy).mp q) d0 H locs ls hd hP hD hS hl) (fun q => kf (fun z => q ((iI_le hx hy).mpr z)) d0 H locs ls hd hP hD hS hl)
theorem g_icmp_eq (C : g_Cx p s m args c cc nL own D tys A E) {x y : Int} {off : Int} (tgt : Nat) (hdg : decode cc pc = .ok (.if_icmp .eq off, 3)) (ht : (pc : Int) + off = (tgt : Int)) {n' : Nat} (hn : pc + 3 = n') (hx : inR x) (hy : inR y) (kt : x = y → g_G p l e R s m args below meth c nL D A Q ce sl w lv tgt st) (kf : ¬ x = y → g_G p l e R s m args below meth c nL D A Q ce sl w lv n' st) : g_G p l e R s m args below meth c nL D A Q ce sl w lv pc (.int (iI y) :: .int (iI x) :: st) := by
  subst hn
  intro d0 H locs ls hd hP hD hS hl
  exact lv_icmp_eq C.1 C.2.1 hdg ht (fun q => kt ((iI_eq hx hy).mp q) d0 H locs ls hd hP hD hS hl) (fun q => kf (fun z => q ((iI_eq hx hy).mpr z)) d0 H locs ls hd hP hD hS hl)
theorem g_icmp_ne (C : g_Cx p s m args c cc nL own D tys A E) {x y : Int} {off : Int} (tgt : Nat) (hdg : decode cc pc = .ok (.if_icmp .ne off, 3)) (ht : (pc : Int) + off = (tgt : Int)) {n' : Nat} (hn : pc + 3 = n') (hx : inR x) (hy : inR y) (kt : x ≠ y → g_G p l e R s m args below meth c nL D A Q ce sl w lv tgt st) (kf : ¬ x ≠ y → g_G p l e R s m args below meth c nL D A Q ce sl w lv n' st) : g_G p l e R s m args below meth c nL D A Q ce sl w lv pc (.int (iI y) :: .int (iI x) :: st) := by
  subst hn
  intro d0 H locs ls hd hP hD hS hl
  exact lv_icmp_ne C.1 C.2.1 hdg ht (fun q => kt ((not_congr (iI_eq hx hy)).mp q) d0 H locs ls hd hP hD hS hl) (fun q => kf (fun z => z ((iI_eq hx hy).mp q)) d0 H locs ls hd hP hD hS hl)
theorem g_tsIn (C : g_Cx p s m args c cc nL own D tys A E) {x : Int} {dflt lo hi : Int} {offs : Array Int} {len : Nat} {off : Int} (tgt : Nat) (hdg : decode cc pc = .ok (.tableswitch dflt lo hi offs, len)) (hx : inR x) (h1 : lo ≤ x) (h2 : x ≤ hi) (ho : offs[(x - lo).toNat]? = some off) (ht : (pc : Int) + off = (tgt : Int)) (k : g_G p l e R s m args below meth c nL D A Q ce sl w lv tgt st) : g_G p l e R s m args below meth c nL D A Q ce sl w lv pc (.int (iI x) :: st) := by
  intro d0 H locs ls hd hP hD hS hl
  exact lv_tableIn C.1 C.2.1 hdg (by rw [iI_toInt hx]; omega) (by rw [iI_toInt hx]; omega) (by rw [iI_toInt hx]; exact ho) ht (k d0 H locs ls hd hP hD hS hl)
theorem g_tsOut (C : g_Cx p s m args c cc nL own D tys A E) {x : Int} {dflt lo hi : Int} {offs : Array Int} {len : Nat} (tgt : Nat) (hdg : decode cc pc = .ok (.tableswitch dflt lo hi offs, len)) (hx : inR x) (h1 : x < lo ∨ hi < x) (ht : (pc : Int) + dflt = (tgt : Int)) (k : g_G p l e R s m args below meth c nL D A Q ce sl w lv tgt st) : g_G p l e R s m args below meth c nL D A Q ce sl w lv pc (.int (iI x) :: st) := by
  intro d0 H locs ls hd hP hD hS hl
  exact lv_tableOut C.1 C.2.1 hdg (by rw [iI_toInt hx]; exact h1) ht (k d0 H locs ls hd hP hD hS hl)
theorem g_get (C : g_Cx p s m args c cc nL own D tys A E) {ref Cn : String} {T : u_T} {N ci index : Nat} (hin : ∀ w ∈ u_ws Cn T N, w ∈ g_all) (q0 : Nat) {a : Nat} {fs : List Value} (he : w[q0]? = some (a, .inr (ci, fs))) (hc : vwCl[ci]? = some (Cn, T, N)) (k : Nat) (hk : k < N) (hlink : Cond.fieldLink own index ref (T k).2.1 (T k).2.2.1 ∈ g_all) (href : ref = (T k).1) {v : Value} (hv : fs[k]? = some v) (hdg : decode cc pc = .ok (.getfield index, 3)) {n' : Nat} (hn : pc + 3 = n') (kk : g_G p l e R s m args below meth c nL D A Q ce sl w lv n' (v :: st)) : g_G p l e R s m args below meth c nL D A Q ce sl w lv pc (.ref a :: st) := by
  subst hn
  intro d0 H locs ls hd hP hD hS hl
  exact va_get (s := s.setDrawn d0) C.1 C.2.1 (dr_words C.2.2.2.2.1 _) hin C.2.2.2.1 C.2.2.2.2.2.1 hP q0 he hc k hk (dr_words C.2.2.2.2.1 _ _ hlink) (fun x h => by rw [href]; exact h) hv hdg (kk d0 H locs ls hd hP hD hS hl)
theorem g_getN (C : g_Cx p s m args c cc nL own D tys A E) {ref Cn : String} {host : String} {T : u_T} {N ci index : Nat} (hin : ∀ w ∈ u_ws Cn T N, w ∈ g_all) (q0 : Nat) {a : Nat} {fs : List Value} (he : w[q0]? = some (a, .inr (ci, fs))) (hc : vwCl[ci]? = some (Cn, T, N)) (k : Nat) (hk : k < N) (hlink : Cond.fieldLinkNest own index ref (T k).2.1 (T k).2.2.1 host ∈ g_nest) (href : ref = (T k).1) {v : Value} (hv : fs[k]? = some v) (hdg : decode cc pc = .ok (.getfield index, 3)) {n' : Nat} (hn : pc + 3 = n') (kk : g_G p l e R s m args below meth c nL D A Q ce sl w lv n' (v :: st)) : g_G p l e R s m args below meth c nL D A Q ce sl w lv pc (.ref a :: st) := by
  subst hn
  intro d0 H locs ls hd hP hD hS hl
  exact va_getN (s := s.setDrawn d0) C.1 C.2.1 (dr_words C.2.2.2.2.1 _) hin C.2.2.2.1 C.2.2.2.2.2.1 hP q0 he hc k hk (g_nestD C.2.2.2.2.2.2.2.1 d0 hlink) (fun x h => by rw [href]; exact h) hv hdg (kk d0 H locs ls hd hP hD hS hl)
theorem g_put (C : g_Cx p s m args c cc nL own D tys A E) {ref Cn : String} {T : u_T} {N ci index : Nat} (hin : ∀ w ∈ u_ws Cn T N, w ∈ g_all) (q0 : Nat) {a : Nat} {fs : List Value} (he : w[q0]? = some (a, .inr (ci, fs))) (hc : vwCl[ci]? = some (Cn, T, N)) (k : Nat) (hk : k < N) (hlink : Cond.fieldLink own index ref (T k).2.1 (T k).2.2.1 ∈ g_all) (href : ref = (T k).1) (ty0 : Nat → FieldType) (hty : ∀ k, k < N → parseFieldDescriptor (T k).2.2.1 = some (ty0 k)) (hnm : ∀ a, a < N → ∀ b, b < N → a ≠ b → (T a).2.1 ≠ (T b).2.1) (hfin : (T k).2.2.2 = false) {ty : FieldType} {v : Value} (hd : parseFieldDescriptor (T k).2.2.1 = some ty) (hnr : narrow ty v = v) (hfit : fits ty v = true) (hl0 : k < fs.length) (w' : va_W) (hw : w.set q0 (a, .inr (ci, fs.set k v)) = w') (hdg : decode cc pc = .ok (.putfield index, 3)) {n' : Nat} (hn : pc + 3 = n') (kk : g_G p l e R s m args below meth c nL D A Q ce sl w' lv n' st) : g_G p l e R s m args below meth c nL D A Q ce sl w lv pc (v :: .ref a :: st) := by
  subst hn
  subst hw
  intro d0 H locs ls hdr hP hD hS hl
  exact va_put (s := s.setDrawn d0) C.1 C.2.1 (dr_words C.2.2.2.2.1 _) hin ty0 hty hnm C.2.2.2.1 C.2.2.2.2.2.1 hP hD hS q0 he hc k hk (dr_words C.2.2.2.2.1 _ _ hlink) (fun x h => by rw [href]; exact h) hfin hd hnr hfit hl0 hdg (fun H1 locs1 h1 h2 h3 => kk d0 H1 locs1 ls hdr h1 h2 h3 hl)
theorem g_putN (C : g_Cx p s m args c cc nL own D tys A E) {ref Cn : String} {host : String} {T : u_T} {N ci index : Nat} (hin : ∀ w ∈ u_ws Cn T N, w ∈ g_all) (q0 : Nat) {a : Nat} {fs : List Value} (he : w[q0]? = some (a, .inr (ci, fs))) (hc : vwCl[ci]? = some (Cn, T, N)) (k : Nat) (hk : k < N) (hlink : Cond.fieldLinkNest own index ref (T k).2.1 (T k).2.2.1 host ∈ g_nest) (href : ref = (T k).1) (ty0 : Nat → FieldType) (hty : ∀ k, k < N → parseFieldDescriptor (T k).2.2.1 = some (ty0 k)) (hnm : ∀ a, a < N → ∀ b, b < N → a ≠ b → (T a).2.1 ≠ (T b).2.1) (hfin : (T k).2.2.2 = false) {ty : FieldType} {v : Value} (hd : parseFieldDescriptor (T k).2.2.1 = some ty) (hnr : narrow ty v = v) (hfit : fits ty v = true) (hl0 : k < fs.length) (w' : va_W) (hw : w.set q0 (a, .inr (ci, fs.set k v)) = w') (hdg : decode cc pc = .ok (.putfield index, 3)) {n' : Nat} (hn : pc + 3 = n') (kk : g_G p l e R s m args below meth c nL D A Q ce sl w' lv n' st) : g_G p l e R s m args below meth c nL D A Q ce sl w lv pc (v :: .ref a :: st) := by
  subst hn
  subst hw
  intro d0 H locs ls hdr hP hD hS hl
  exact va_putN (s := s.setDrawn d0) C.1 C.2.1 (dr_words C.2.2.2.2.1 _) hin ty0 hty hnm C.2.2.2.1 C.2.2.2.2.2.1 hP hD hS q0 he hc k hk (g_nestD C.2.2.2.2.2.2.2.1 d0 hlink) (fun x h => by rw [href]; exact h) hfin hd hnr hfit hl0 hdg (fun H1 locs1 h1 h2 h3 => kk d0 H1 locs1 ls hdr h1 h2 h3 hl)
theorem g_putF (C : g_Cx p s m args c cc nL own D tys A E) {ref Cn : String} {T : u_T} {N ci index : Nat} (hin : ∀ w ∈ u_ws Cn T N, w ∈ g_all) (q0 : Nat) {a : Nat} {fs : List Value} (he : w[q0]? = some (a, .inr (ci, fs))) (hc : vwCl[ci]? = some (Cn, T, N)) (k : Nat) (hk : k < N) (hlink : Cond.fieldLink own index ref (T k).2.1 (T k).2.2.1 ∈ g_all) (href : ref = (T k).1) (ty0 : Nat → FieldType) (hty : ∀ k, k < N → parseFieldDescriptor (T k).2.2.1 = some (ty0 k)) (hnm : ∀ a, a < N → ∀ b, b < N → a ≠ b → (T a).2.1 ≠ (T b).2.1) (hfin : (T k).2.2.2 = true) (hin2 : meth.name = "<init>") (hdecl : (T k).1 = own) {ty : FieldType} {v : Value} (hd : parseFieldDescriptor (T k).2.2.1 = some ty) (hnr : narrow ty v = v) (hfit : fits ty v = true) (hl0 : k < fs.length) (w' : va_W) (hw : w.set q0 (a, .inr (ci, fs.set k v)) = w') (hdg : decode cc pc = .ok (.putfield index, 3)) {n' : Nat} (hn : pc + 3 = n') (kk : g_G p l e R s m args below meth c nL D A Q ce sl w' lv n' st) : g_G p l e R s m args below meth c nL D A Q ce sl w lv pc (v :: .ref a :: st) := by
  subst hn
  subst hw
  intro d0 H locs ls hdr hP hD hS hl
  exact va_putF (s := s.setDrawn d0) C.1 C.2.1 (dr_words C.2.2.2.2.1 _) hin ty0 hty hnm C.2.2.2.1 C.2.2.2.2.2.1 hP hD hS q0 he hc k hk (dr_words C.2.2.2.2.1 _ _ hlink) (fun x h => by rw [href]; exact h) hfin hin2 hdecl hd hnr hfit hl0 hdg (fun H1 locs1 h1 h2 h3 => kk d0 H1 locs1 ls hdr h1 h2 h3 hl)
theorem vp_nar_charI {x : Int} (h0 : 0 ≤ x) (h1 : x < 65536) : vp_nar .char (iI x) = iI x := by
  have e : iI x = nI x.toNat := by
    apply Int32.toInt_inj.mp
    rw [iI_toInt ⟨by omega, by omega⟩, nI_toInt (by omega)]
    omega
  rw [e]
  have h := (pk_charN (q := x.toNat) (by omega)).1
  show (match narrow .char (.int (nI x.toNat)) with | .int z => z | _ => 0) = _
  rw [h]
theorem vp_nar_boolI {x : Int} (h : x = 0 ∨ x = 1) : vp_nar .boolean (iI x) = iI x := by
  rcases h with rfl | rfl <;> decide
theorem g_iald (C : g_Cx p s m args c cc nL own D tys A E) (q0 t0 : Nat) {a : Nat} {cA : ClassId} {n : Nat} {f : Nat → Int} (he : w[q0]? = some (a, .inl (cA, n, .inl (iA f)))) (ht : tys[t0]? = some (cA, .int)) {i : Int} (h0 : 0 ≤ i) (h1 : i < n) (hs : (n : Int) < 2147483648) {ins : Instr} (hi : ins = .iaload) (hdg : decode cc pc = .ok (ins, 1)) {n' : Nat} (hn : pc + 1 = n') (k : g_G p l e R s m args below meth c nL D A Q ce sl w lv n' (.int (iI (f i.toNat)) :: st)) : g_G p l e R s m args below meth c nL D A Q ce sl w lv pc (.int (iI i) :: .ref a :: st) := by
  subst hn
  subst hi
  intro d0 H locs ls hd hP hD hS hl
  refine va_iald (s := s.setDrawn d0) C.1 C.2.1 C.2.2.2.2.2.1 hP q0 t0 he ht (iI_in h0 h1 (by omega)) hdg ?_
  rw [iA_get f ⟨by omega, by omega⟩]
  exact k d0 H locs ls hd hP hD hS hl
theorem g_iast (C : g_Cx p s m args c cc nL own D tys A E) (q0 t0 : Nat) {a : Nat} {cA : ClassId} {n : Nat} {f : Nat → Int} (he : w[q0]? = some (a, .inl (cA, n, .inl (iA f)))) (ht : tys[t0]? = some (cA, .int)) {i x : Int} (h0 : 0 ≤ i) (h1 : i < n) (hs : (n : Int) < 2147483648) {ins : Instr} (hi : ins = .iastore) (hdg : decode cc pc = .ok (ins, 1)) {n' : Nat} (hn : pc + 1 = n') (w' : va_W) (hw : w.set q0 (a, .inl (cA, n, .inl (iA (sU f i.toNat x)))) = w') (k : g_G p l e R s m args below meth c nL D A Q ce sl w' lv n' st) : g_G p l e R s m args below meth c nL D A Q ce sl w lv pc (.int (iI x) :: .int (iI i) :: .ref a :: st) := by
  subst hn
  subst hi
  subst hw
  intro d0 H locs ls hd hP hD hS hl
  refine va_iast (s := s.setDrawn d0) C.1 C.2.1 C.2.2.2.2.2.1 hP hD hS q0 t0 he ht (iI_in h0 h1 (by omega)) hdg (fun H1 locs1 h1 h2 h3 => ?_)
  rw [iA_upd f i x ⟨by omega, by omega⟩] at h1 h2
  exact k d0 H1 locs1 ls hd h1 h2 h3 hl
theorem g_cald (C : g_Cx p s m args c cc nL own D tys A E) (q0 t0 : Nat) {a : Nat} {cA : ClassId} {n : Nat} {f : Nat → Int} (he : w[q0]? = some (a, .inl (cA, n, .inl (iA f)))) (ht : tys[t0]? = some (cA, .char)) {i : Int} (h0 : 0 ≤ i) (h1 : i < n) (hs : (n : Int) < 2147483648) {ins : Instr} (hi : ins = .caload) (hdg : decode cc pc = .ok (ins, 1)) {n' : Nat} (hn : pc + 1 = n') (k : g_G p l e R s m args below meth c nL D A Q ce sl w lv n' (.int (iI (f i.toNat)) :: st)) : g_G p l e R s m args below meth c nL D A Q ce sl w lv pc (.int (iI i) :: .ref a :: st) := by
  subst hn
  subst hi
  intro d0 H locs ls hd hP hD hS hl
  refine va_cald (s := s.setDrawn d0) C.1 C.2.1 C.2.2.2.2.2.1 hP q0 t0 he ht (iI_in h0 h1 (by omega)) hdg ?_
  rw [iA_get f ⟨by omega, by omega⟩]
  exact k d0 H locs ls hd hP hD hS hl
theorem g_cast (C : g_Cx p s m args c cc nL own D tys A E) (q0 t0 : Nat) {a : Nat} {cA : ClassId} {n : Nat} {f : Nat → Int} (he : w[q0]? = some (a, .inl (cA, n, .inl (iA f)))) (ht : tys[t0]? = some (cA, .char)) {i x : Int} (h0 : 0 ≤ i) (h1 : i < n) (hs : (n : Int) < 2147483648) (hv0 : 0 ≤ x) (hv1 : x < 65536) {ins : Instr} (hi : ins = .castore) (hdg : decode cc pc = .ok (ins, 1)) {n' : Nat} (hn : pc + 1 = n') (w' : va_W) (hw : w.set q0 (a, .inl (cA, n, .inl (iA (sU f i.toNat x)))) = w') (k : g_G p l e R s m args below meth c nL D A Q ce sl w' lv n' st) : g_G p l e R s m args below meth c nL D A Q ce sl w lv pc (.int (iI x) :: .int (iI i) :: .ref a :: st) := by
  subst hn
  subst hi
  subst hw
  intro d0 H locs ls hd hP hD hS hl
  refine va_cast (s := s.setDrawn d0) C.1 C.2.1 C.2.2.2.2.2.1 hP hD hS q0 t0 he ht (iI_in h0 h1 (by omega)) hdg (fun H1 locs1 h1 h2 h3 => ?_)
  rw [vp_nar_charI hv0 hv1] at h1 h2
  rw [iA_upd f i x ⟨by omega, by omega⟩] at h1 h2
  exact k d0 H1 locs1 ls hd h1 h2 h3 hl
theorem g_zald (C : g_Cx p s m args c cc nL own D tys A E) (q0 t0 : Nat) {a : Nat} {cA : ClassId} {n : Nat} {f : Nat → Int} (he : w[q0]? = some (a, .inl (cA, n, .inl (iA f)))) (ht : tys[t0]? = some (cA, .boolean)) {i : Int} (h0 : 0 ≤ i) (h1 : i < n) (hs : (n : Int) < 2147483648) {ins : Instr} (hi : ins = .baload) (hdg : decode cc pc = .ok (ins, 1)) {n' : Nat} (hn : pc + 1 = n') (k : g_G p l e R s m args below meth c nL D A Q ce sl w lv n' (.int (iI (f i.toNat)) :: st)) : g_G p l e R s m args below meth c nL D A Q ce sl w lv pc (.int (iI i) :: .ref a :: st) := by
  subst hn
  subst hi
  intro d0 H locs ls hd hP hD hS hl
  refine va_zald (s := s.setDrawn d0) C.1 C.2.1 C.2.2.2.2.2.1 hP q0 t0 he ht (iI_in h0 h1 (by omega)) hdg ?_
  rw [iA_get f ⟨by omega, by omega⟩]
  exact k d0 H locs ls hd hP hD hS hl
theorem g_zast (C : g_Cx p s m args c cc nL own D tys A E) (q0 t0 : Nat) {a : Nat} {cA : ClassId} {n : Nat} {f : Nat → Int} (he : w[q0]? = some (a, .inl (cA, n, .inl (iA f)))) (ht : tys[t0]? = some (cA, .boolean)) {i x : Int} (h0 : 0 ≤ i) (h1 : i < n) (hs : (n : Int) < 2147483648) (hv0 : x = 0 ∨ x = 1) {ins : Instr} (hi : ins = .bastore) (hdg : decode cc pc = .ok (ins, 1)) {n' : Nat} (hn : pc + 1 = n') (w' : va_W) (hw : w.set q0 (a, .inl (cA, n, .inl (iA (sU f i.toNat x)))) = w') (k : g_G p l e R s m args below meth c nL D A Q ce sl w' lv n' st) : g_G p l e R s m args below meth c nL D A Q ce sl w lv pc (.int (iI x) :: .int (iI i) :: .ref a :: st) := by
  subst hn
  subst hi
  subst hw
  intro d0 H locs ls hd hP hD hS hl
  refine va_zast (s := s.setDrawn d0) C.1 C.2.1 C.2.2.2.2.2.1 hP hD hS q0 t0 he ht (iI_in h0 h1 (by omega)) hdg (fun H1 locs1 h1 h2 h3 => ?_)
  rw [vp_nar_boolI hv0] at h1 h2
  rw [iA_upd f i x ⟨by omega, by omega⟩] at h1 h2
  exact k d0 H1 locs1 ls hd h1 h2 h3 hl
theorem g_dald (C : g_Cx p s m args c cc nL own D tys A E) (q0 t0 : Nat) {a : Nat} {cA : ClassId} {n : Nat} {f : Nat → UInt64} (he : w[q0]? = some (a, .inl (cA, n, (.inr (.inr (.inr (.inl f))))))) (ht : tys[t0]? = some (cA, .double)) {i : Int} (h0 : 0 ≤ i) (h1 : i < n) (hs : (n : Int) < 2147483648) (hdg : decode cc pc = .ok (.daload, 1)) {n' : Nat} (hn : pc + 1 = n') (k : g_G p l e R s m args below meth c nL D A Q ce sl w lv n' (.double (f i.toNat) :: st)) : g_G p l e R s m args below meth c nL D A Q ce sl w lv pc (.int (iI i) :: .ref a :: st) := by
  subst hn
  intro d0 H locs ls hd hP hD hS hl
  refine va_dald (s := s.setDrawn d0) C.1 C.2.1 C.2.2.2.2.2.1 hP q0 t0 he ht (iI_in h0 h1 (by omega)) hdg ?_
  rw [iI_clamp ⟨by omega, by omega⟩]
  exact k d0 H locs ls hd hP hD hS hl
theorem g_dast (C : g_Cx p s m args c cc nL own D tys A E) (q0 t0 : Nat) {a : Nat} {cA : ClassId} {n : Nat} {f : Nat → UInt64} (he : w[q0]? = some (a, .inl (cA, n, (.inr (.inr (.inr (.inl f))))))) (ht : tys[t0]? = some (cA, .double)) {i : Int} {x : UInt64} (h0 : 0 ≤ i) (h1 : i < n) (hs : (n : Int) < 2147483648) (hdg : decode cc pc = .ok (.dastore, 1)) {n' : Nat} (hn : pc + 1 = n') (w' : va_W) (hw : w.set q0 (a, .inl (cA, n, (.inr (.inr (.inr (.inl (sU f i.toNat x))))))) = w') (k : g_G p l e R s m args below meth c nL D A Q ce sl w' lv n' st) : g_G p l e R s m args below meth c nL D A Q ce sl w lv pc (.double x :: .int (iI i) :: .ref a :: st) := by
  subst hn
  subst hw
  intro d0 H locs ls hd hP hD hS hl
  refine va_dast (s := s.setDrawn d0) C.1 C.2.1 C.2.2.2.2.2.1 hP hD hS q0 t0 he ht (iI_in h0 h1 (by omega)) hdg (fun H1 locs1 h1 h2 h3 => ?_)
  rw [iI_clamp ⟨by omega, by omega⟩] at h1 h2
  exact k d0 H1 locs1 ls hd h1 h2 h3 hl
theorem g_fald (C : g_Cx p s m args c cc nL own D tys A E) (q0 t0 : Nat) {a : Nat} {cA : ClassId} {n : Nat} {f : Nat → UInt32} (he : w[q0]? = some (a, .inl (cA, n, (.inr (.inr (.inl f)))))) (ht : tys[t0]? = some (cA, .float)) {i : Int} (h0 : 0 ≤ i) (h1 : i < n) (hs : (n : Int) < 2147483648) (hdg : decode cc pc = .ok (.faload, 1)) {n' : Nat} (hn : pc + 1 = n') (k : g_G p l e R s m args below meth c nL D A Q ce sl w lv n' (.float (f i.toNat) :: st)) : g_G p l e R s m args below meth c nL D A Q ce sl w lv pc (.int (iI i) :: .ref a :: st) := by
  subst hn
  intro d0 H locs ls hd hP hD hS hl
  refine va_fald (s := s.setDrawn d0) C.1 C.2.1 C.2.2.2.2.2.1 hP q0 t0 he ht (iI_in h0 h1 (by omega)) hdg ?_
  rw [iI_clamp ⟨by omega, by omega⟩]
  exact k d0 H locs ls hd hP hD hS hl
theorem g_fast (C : g_Cx p s m args c cc nL own D tys A E) (q0 t0 : Nat) {a : Nat} {cA : ClassId} {n : Nat} {f : Nat → UInt32} (he : w[q0]? = some (a, .inl (cA, n, (.inr (.inr (.inl f)))))) (ht : tys[t0]? = some (cA, .float)) {i : Int} {x : UInt32} (h0 : 0 ≤ i) (h1 : i < n) (hs : (n : Int) < 2147483648) (hdg : decode cc pc = .ok (.fastore, 1)) {n' : Nat} (hn : pc + 1 = n') (w' : va_W) (hw : w.set q0 (a, .inl (cA, n, (.inr (.inr (.inl (sU f i.toNat x)))))) = w') (k : g_G p l e R s m args below meth c nL D A Q ce sl w' lv n' st) : g_G p l e R s m args below meth c nL D A Q ce sl w lv pc (.float x :: .int (iI i) :: .ref a :: st) := by
  subst hn
  subst hw
  intro d0 H locs ls hd hP hD hS hl
  refine va_fast (s := s.setDrawn d0) C.1 C.2.1 C.2.2.2.2.2.1 hP hD hS q0 t0 he ht (iI_in h0 h1 (by omega)) hdg (fun H1 locs1 h1 h2 h3 => ?_)
  rw [iI_clamp ⟨by omega, by omega⟩] at h1 h2
  exact k d0 H1 locs1 ls hd h1 h2 h3 hl
theorem g_aald (C : g_Cx p s m args c cc nL own D tys A E) (q0 t0 : Nat) {a : Nat} {cA : ClassId} {Cn : String} {n : Nat} {f : Nat → Option Nat} (he : w[q0]? = some (a, .inl (cA, n, .inr (.inr (.inr (.inr f)))))) (ht : tys[t0]? = some (cA, .object Cn)) {i : Int} (h0 : 0 ≤ i) (h1 : i < n) (hs : (n : Int) < 2147483648) {v : Nat} (hv : f i.toNat = some v) (hdg : decode cc pc = .ok (.aaload, 1)) {n' : Nat} (hn : pc + 1 = n') (k : g_G p l e R s m args below meth c nL D A Q ce sl w lv n' (.ref v :: st)) : g_G p l e R s m args below meth c nL D A Q ce sl w lv pc (.int (iI i) :: .ref a :: st) := by
  subst hn
  intro d0 H locs ls hd hP hD hS hl
  refine va_aldq (s := s.setDrawn d0) C.1 C.2.1 C.2.2.2.2.2.1 hP q0 t0 he ht (iI_in h0 h1 (by omega)) hdg ?_
  rw [iI_clamp ⟨by omega, by omega⟩, hv]
  exact k d0 H locs ls hd hP hD hS hl
theorem g_alen (C : g_Cx p s m args c cc nL own D tys A E) (q0 t0 : Nat) {a : Nat} {cA : ClassId} {x : vp_A} (he : w[q0]? = some (a, .inl (cA, x))) {ty : FieldType} (ht : tys[t0]? = some (cA, ty)) {v : Int} (hv : Int32.ofNat x.1 = iI v) (hdg : decode cc pc = .ok (.arraylength, 1)) {n' : Nat} (hn : pc + 1 = n') (k : g_G p l e R s m args below meth c nL D A Q ce sl w lv n' (.int (iI v) :: st)) : g_G p l e R s m args below meth c nL D A Q ce sl w lv pc (.ref a :: st) := by
  subst hn
  intro d0 H locs ls hd hP hD hS hl
  exact va_alen (s := s.setDrawn d0) C.1 C.2.1 C.2.2.2.2.2.1 hP q0 t0 he ht hv hdg (k d0 H locs ls hd hP hD hS hl)
end GK
end
section
/-! contracts over worlds, the ends of methods, calls -/
theorem ga_pair {w : va_W} : (∀ (i j : Nat) (p q : Nat × va_E), w[i]? = some p → w[j]? = some q → p.1 = q.1 → i = j) ↔ w.Pairwise (fun p q => p.1 ≠ q.1) := by
  rw [List.pairwise_iff_getElem]
  constructor
  · intro h i j hi hj hij e
    have := h i j _ _ (List.getElem?_eq_getElem hi) (List.getElem?_eq_getElem hj) e
    omega
  · intro h i j p q hp hq e
    obtain ⟨hi, rfl⟩ := List.getElem?_eq_some_iff.mp hp
    obtain ⟨hj, rfl⟩ := List.getElem?_eq_some_iff.mp hq
    rcases Nat.lt_trichotomy i j with z | z | z
    · exact absurd e (h i j hi hj z)
    · exact z
    · exact absurd e.symm (h j i hj hi z)
theorem ga_P {D : va_G} {cl : List vw_C} {w w' : va_W} {H : Heap} (h : w.Perm w') (hP : va_P D cl w H) : va_P D cl w' H := by
  intro k q hk
  obtain ⟨i, hi⟩ := List.getElem?_of_mem (h.mem_iff.mpr (List.mem_of_getElem? hk))
  exact hP i q hi
theorem ga_D {A : Nat → Prop} {w w' : va_W} (h : w.Perm w') (hD : va_D A w) : va_D A w' := by
  refine ⟨ga_pair.mpr ((h.pairwise_iff (fun {x y} z => Ne.symm z)).mp (ga_pair.mp hD.1)), fun k q hk => ?_⟩
  obtain ⟨i, hi⟩ := List.getElem?_of_mem (h.mem_iff.mpr (List.mem_of_getElem? hk))
  exact hD.2 i q hi
theorem ga_Pl {D : va_G} {cl : List vw_C} {w1 w2 : va_W} {H : Heap} (h : va_P D cl (w1 ++ w2) H) : va_P D cl w1 H := fun k q hk => h k q (by rw [List.getElem?_append_left (List.getElem?_eq_some_iff.mp hk).1]; exact hk)
theorem ga_Dl {A : Nat → Prop} {w1 w2 : va_W} (h : va_D A (w1 ++ w2)) : va_D A w1 := by
  have g : ∀ (k : Nat) (q : Nat × va_E), w1[k]? = some q → (w1 ++ w2)[k]? = some q := fun k q hk => by rw [List.getElem?_append_left (List.getElem?_eq_some_iff.mp hk).1]; exact hk
  exact ⟨fun i j p q hp hq => h.1 i j p q (g i p hp) (g j q hq), fun k q hk => h.2 k q (g k q hk)⟩
theorem ga_r {w1 w2 : va_W} {k : Nat} {q : Nat × va_E} (hk : w2[k]? = some q) : (w1 ++ w2)[w1.length + k]? = some q := by rw [List.getElem?_append_right (by omega), show w1.length + k - w1.length = k by omega]; exact hk
theorem ga_Dr {A : Nat → Prop} {w1 w2 : va_W} (h : va_D A (w1 ++ w2)) : va_D A w2 := ⟨fun i j p q hp hq e => by have := h.1 _ _ p q (ga_r hp) (ga_r hq) e; omega, fun k q hk => h.2 _ q (ga_r hk)⟩
/-- behind a call: the callee's new world beside the rest, which is unchanged -/
theorem ga_join {A : Nat → Prop} {D : va_G} {cl : List vw_C} {wc wr w1 : va_W} {H H1 : Heap} (hP : va_P D cl (wc ++ wr) H) (hD : va_D A (wc ++ wr)) (hk : ∀ q : Nat, q < H.size → ¬ va_A wc H.size q → H1[q]? = H[q]?) (hF : ∀ q, va_A wc H.size q → A q) (hP1 : va_P D cl w1 H1) (hD1 : va_D (va_A wc H.size) w1) : va_P D cl (w1 ++ wr) H1 ∧ va_D A (w1 ++ wr) := by
  have apart : ∀ (k : Nat) (q : Nat × va_E), wr[k]? = some q → q.1 < H.size ∧ ¬ va_A wc H.size q.1 := by
    intro k q hq
    have hl := (hP _ q (ga_r hq)).lt
    refine ⟨hl, fun h => ?_⟩
    rcases h with ⟨k2, e, h⟩ | h
    · have hk2 := (List.getElem?_eq_some_iff.mp h).1
      have := hD.1 _ _ q (q.1, e) (ga_r hq) (show (wc ++ wr)[k2]? = some (q.1, e) by rw [List.getElem?_append_left hk2]; exact h) rfl
      omega
    · omega
  refine ⟨va_P.app hP1 (fun k q hq => ?_), va_D.app (hD1.weaken (fun k q _ h => hF q.1 h)) (ga_Dr hD) (fun i j x y hx hy hxy => ?_)⟩
  · obtain ⟨g1, g2⟩ := apart k q hq
    exact (hP _ q (ga_r hq)).kept (hk q.1 g1 g2)
  · exact (apart j y hy).2 (by rw [← hxy]; exact hD1.2 i x hx)
theorem ga_free {A : Nat → Prop} {wc wr : va_W} {H0 H : Heap} {locs : List Loc} (hD : va_D A (wc ++ wr)) (hS : va_S A H0 H locs) (hA : ∀ q, H0.size ≤ q → A q) : ∀ q, va_A wc H.size q → A q := by
  intro q h
  rcases h with ⟨k, e, h⟩ | h
  · exact hD.2 k (q, e) (by rw [List.getElem?_append_left (List.getElem?_eq_some_iff.mp h).1]; exact h)
  · exact hA q (Nat.le_trans hS.1 h)
def g_Q (post : Option Value → va_W → Prop) (D : va_G) (A : Nat → Prop) : Array Value → State → Outcome → State → Prop := fun _ st oc t => (∃ (r : Option Value) (w' : va_W), oc = .returned r ∧ post r w' ∧ va_P D vwCl w' t.heap ∧ va_D A w') ∧ va_F A st t
def g_det (r0 : Option Value) (w0 : va_W) : Option Value → va_W → Prop := fun r w => r = r0 ∧ w = w0
def g_Pre (D : va_G) (tys : List (ClassId × FieldType)) (E : (Nat → Prop) → State → Heap → Prop) (w : va_W) (sz : Nat) (U : State) : Prop := U.heap.size = sz ∧ va_P D vwCl w U.heap ∧ va_K D vwCl tys U ∧ va_D (fun _ => True) w ∧ (∀ w ∈ g_nest, va_Nw w U) ∧ E (va_A w sz) U U.heap
/-- the contract of method y on the world w with the values av: it ends, 'post' of its answer and of the world then, at most mc cells of ms slots are new, nothing else changed -/
def g_Ct (l : Launch) (y : MethodName) (cc : ByteArray) (maxL : Nat) (ret : Option FieldType) (rm : Room) (D : va_G) (tys : List (ClassId × FieldType)) (E : (Nat → Prop) → State → Heap → Prop) (av : List Value) (w : va_W) (mc ms : Nat) (post : Option Value → va_W → Prop) : Prop := ∀ sz : Nat, MetD lw_cs l y (Cond.code y cc maxL ret :: g_all) rm (va_Pc av (g_Pre D tys E w sz)) (g_Q post D (va_A w sz)) mc ms (va_A w sz)
theorem g_ofG {l : Launch} {y : MethodName} {own : String} {rm : Room} {D : va_G} {tys : List (ClassId × FieldType)} {E : (Nat → Prop) → State → Heap → Prop} (hE : g_Stab E) {av : List Value} {w : va_W} {mc ms : Nat} {post : Option Value → va_W → Prop} {cc : ByteArray} {maxL : Nat} {ret : Option FieldType} (hy : plainName y.cls = true) (ho : y.cls = own) (hlen : (lg_sl av).length ≤ maxL) (lv0 : List (Nat × Value)) (hlv : lv_args 0 av = lv0)
    (body : ∀ (p : Program) (e : Env) (s : State) (m : MethodId) (below : List Frame) (meth : Method) (c : Code) (A : Nat → Prop), g_Cx p s m av.toArray c cc maxL own D tys A E → meth.sig.returnType = ret → meth.locks = false → meth.name = y.name → g_G p l e rm s m av.toArray below meth c maxL D A (MQD lw_cs below (g_Q post D A) av.toArray s mc ms A) 0 0 w lv0 0 []) : g_Ct l y cc maxL ret rm D tys E av w mc ms post := by
  intro sz
  refine MetD.ofW (cc := cc) (maxL := maxL) (ret := ret) hy rfl ?_
  subst ho
  intro p e s m args below meth c s₁ B hml hv hd0
  obtain ⟨rfl, hsz, hP, hK, hD0, hN, hE0⟩ := hv
  have hown : s.vm.findClass y.cls = some m.cls := findClass_of_methodNamed B.named
  subst hsz
  have hD := hD0.self (sz := s.heap.size)
  rw [lg_entry_eq]
  have hl := lv_entry av hlen
  rw [hlv] at hl
  exact body p e s m below meth c (va_A w s.heap.size) ⟨B.exec, B.bytes, hml, hown, fun w h => atoms_spec (ws := Cond.code y cc maxL ret :: g_all) B.pre w (List.mem_cons_of_mem _ h), hK, fun q h => Or.inr h, hN, hE, hE0⟩ B.returns B.notSynchronized (name_of_methodNamed B.named B.method).1 s.drawn s.heap [] _ hd0 hP hD va_S.rf hl
/-- a method that can be called: its code and what the tables say of it -/
def g_cee (Cn : String) (y : MethodName) (cc : ByteArray) (maxL : Nat) (ret : Option FieldType) : Prop := Cond.code y cc maxL ret ∈ g_all ∧ Cond.instanceMethod y ∈ g_all ∧ Cond.selects Cn y y ∈ g_all ∧ Cond.initialized Cn ∈ g_all
def g_sta (y : MethodName) (cc : ByteArray) (maxL : Nat) (ret : Option FieldType) : Prop := Cond.code y cc maxL ret ∈ g_all ∧ Cond.static y ∈ g_all ∧ Cond.initialized y.cls ∈ g_all
theorem g_ok {w : Cond} (h : w ∈ g_all) : (w.onTables && w.keeps) = true ∨ ∃ ty, w = .arrayClass ty := good_of_word (List.mem_filter.mp h).2
theorem g_gN {w : Cond} (h : w ∈ g_all) : GoodIn g_all (w :: g_all) := fun x hx => (List.mem_cons.mp hx).elim (fun q => by subst q; exact ⟨h, g_ok h⟩) (fun q => ⟨q, g_ok q⟩)
theorem g_gV {own : String} {index : Nat} {Cn : String} {y : MethodName} {cc : ByteArray} {maxL : Nat} {ret : Option FieldType} (hl : Cond.methodLink own index y ∈ g_all) (h : g_cee Cn y cc maxL ret) : GoodIn g_all (wsV own index Cn y (Cond.code y cc maxL ret :: g_all)) := by
  intro x hx
  unfold wsV at hx
  rcases List.mem_append.mp hx with q | q
  · simp only [List.mem_cons, List.not_mem_nil, or_false] at q
    rcases q with rfl | rfl | rfl | rfl
    · exact ⟨hl, g_ok hl⟩
    · exact ⟨h.2.1, g_ok h.2.1⟩
    · exact ⟨h.2.2.1, g_ok h.2.2.1⟩
    · exact ⟨h.2.2.2, g_ok h.2.2.2⟩
  · exact g_gN h.1 x q
theorem g_gS {own : String} {index : Nat} {y : MethodName} {cc : ByteArray} {maxL : Nat} {ret : Option FieldType} (hl : Cond.methodLink own index y ∈ g_all) (h : g_sta y cc maxL ret) : GoodIn g_all (va_wsS own index y (Cond.code y cc maxL ret :: g_all)) := by
  intro x hx
  unfold va_wsS at hx
  rcases List.mem_append.mp hx with q | q
  · simp only [List.mem_cons, List.not_mem_nil, or_false] at q
    rcases q with rfl | rfl | rfl
    · exact ⟨hl, g_ok hl⟩
    · exact ⟨h.2.1, g_ok h.2.1⟩
    · exact ⟨h.2.2, g_ok h.2.2⟩
  · exact g_gN h.1 x q
section GC
variable {p : Program} {l : Launch} {e : Env} {R : Room} {s : State} {m : MethodId} {args : Array Value} {below : List Frame} {meth : Method} {c : Code} {Q : State → Prop}
variable {cc : ByteArray} {nL : Nat} {own : String} {D : va_G} {tys : List (ClassId × FieldType)} {A : Nat → Prop} {ce sl pc : Nat} {w : va_W} {lv : List (Nat × Value)} {st : List Value} {E : (Nat → Prop) → State → Heap → Prop}
theorem g_iret (C : g_Cx p s m args c cc nL own D tys A E) {post : Option Value → va_W → Prop} {ty : FieldType} {v : Int32} (hr : meth.sig.returnType = some ty) (hlk : meth.locks = false) (hnr : narrow ty (.int v) = .int v) (hpost : post (some (.int v)) w) (hdg : decode cc pc = .ok (.ireturn, 1)) : g_G p l e R s m args below meth c nL D A (MQD lw_cs below (g_Q post D A) args s ce sl A) ce sl w lv pc [.int v] :=
  fun d0 H locs ls hd hP hD hS hl => W.endD hd (W.zret C.1 C.2.1 hr hnr (fun t ht hW => ⟨⟨_, w, rfl, hpost, by rw [ht]; exact hP, hD⟩, va_S.F hS ht⟩) hS.2.2 hdg hlk)
theorem g_vret (C : g_Cx p s m args c cc nL own D tys A E) {post : Option Value → va_W → Prop} (hr : meth.sig.returnType = none) (hlk : meth.locks = false) (hpost : post none w) (hdg : decode cc pc = .ok (.return_, 1)) : g_G p l e R s m args below meth c nL D A (MQD lw_cs below (g_Q post D A) args s ce sl A) ce sl w lv pc [] :=
  fun d0 H locs ls hd hP hD hS hl => W.endD hd (W.vret C.1 C.2.1 hr (fun t ht hW => ⟨⟨_, w, rfl, hpost, by rw [ht]; exact hP, hD⟩, va_S.F hS ht⟩) hS.2.2 hdg hlk)
theorem g_dret (C : g_Cx p s m args c cc nL own D tys A E) {post : Option Value → va_W → Prop} {v : UInt64} (hr : meth.sig.returnType = some .double) (hlk : meth.locks = false) (hpost : post (some (.double v)) w) (hdg : decode cc pc = .ok (.dreturn, 1)) : g_G p l e R s m args below meth c nL D A (MQD lw_cs below (g_Q post D A) args s ce sl A) ce sl w lv pc [.double v] :=
  fun d0 H locs ls hd hP hD hS hl => W.endD hd (W.dret C.1 C.2.1 hr (fun t ht hW => ⟨⟨_, w, rfl, hpost, by rw [ht]; exact hP, hD⟩, va_S.F hS ht⟩) hS.2.2 hdg hlk)
theorem fit_z {v : Int} (h : v = 0 ∨ v = 1) : fits .boolean (.int (iI v)) = true := by
  rcases h with rfl | rfl <;> decide
theorem nar_z {v : Int} (h : v = 0 ∨ v = 1) : narrow .boolean (.int (iI v)) = .int (iI v) := by
  rcases h with rfl | rfl <;> decide
theorem g_perm {w' : va_W} (h : w.Perm w') (k : g_G p l e R s m args below meth c nL D A Q ce sl w' lv pc st) : g_G p l e R s m args below meth c nL D A Q ce sl w lv pc st := fun d0 H locs ls hd hP hD hS hl => k d0 H locs ls hd (ga_P h hP) (ga_D h hD) hS hl
theorem g_lv {lv' : List (Nat × Value)} (ks : List Nat) (h : lv_pick lv ks = lv') (k : g_G p l e R s m args below meth c nL D A Q ce sl w lv' pc st) : g_G p l e R s m args below meth c nL D A Q ce sl w lv pc st := fun d0 H locs ls hd hP hD hS hl => k d0 H locs ls hd hP hD hS (lv_sub hl ks h)
theorem g_wd {w' : va_W} (h : w = w') (k : g_G p l e R s m args below meth c nL D A Q ce sl w' lv pc st) : g_G p l e R s m args below meth c nL D A Q ce sl w lv pc st := h ▸ k
theorem g_st {st' : List Value} (h : st = st') (k : g_G p l e R s m args below meth c nL D A Q ce sl w lv pc st') : g_G p l e R s m args below meth c nL D A Q ce sl w lv pc st := h ▸ k
theorem ga_blind (hE : g_Stab E) {av : List Value} {wc : va_W} {sz : Nat} : FrameBlind (va_Pc av (g_Pre D tys E wc sz)) := fun a U g mk q => by
  obtain ⟨q0, q1, qP, qK, qD, qN, qE⟩ := q
  exact ⟨q0, q1, qP, va_K.moved (u := U) (U := U.calling g mk a) (Vm.Alike.refl U.vm) qK, qD, fun w hw => va_Nw.same (g_nest_t hw) (u := U) (U := U.calling g mk a) rfl (qN w hw), hE.1 _ U (U.calling g mk a) _ (Vm.Alike.refl U.vm) qE⟩
/-- out of a run: the world behind it -/
theorem g_run {wc wr : va_W} {rest st0 : List Value} {mc ms : Nat} {a : Array Value} {post : Option Value → va_W → Prop} (C : g_Cx p s m args c cc nL own D tys A E) (hp : w.Perm (wc ++ wr))
    (hr : ∀ (d0 : Drawn) (H : Heap) (locs : List Loc) (ls : Array Slot), s.drawn.sameBut d0 lw_cs → va_P D vwCl wc H → va_D (fun _ => True) wc → (∀ U : State, (s.setDrawn d0).WarmedH U.vm → E (va_A wc H.size) U H) → lv_has ls nL lv → va_RunD lw_cs p l e R (s.setDrawn d0) m args below meth c H locs ce sl mc ms (F0 m pc ls st0) rest (g_Q post D (va_A wc H.size) a) (va_A wc H.size))
    (k : ∀ (r : Option Value) (w1 : va_W), post r w1 → g_G p l e R s m args below meth c nL D A Q (ce + mc) (sl + ms) (w1 ++ wr) lv (pc + 3) (r.toList ++ rest)) : g_G p l e R s m args below meth c nL D A Q ce sl w lv pc st0 := by
  intro d0 H locs ls hd hP hD hS hl
  have hP2 := ga_P hp hP
  have hD2 := ga_D hp hD
  have hF := ga_free hD2 hS C.2.2.2.2.2.2.1
  intro T hT X
  obtain ⟨v, st₀, t, T', L, d', hd', h0, X', hL, e1, e2, ⟨⟨r, w1, hv, hpost, hP1, hD1⟩, hz, hk⟩, st⟩ := hr d0 H locs ls hd (ga_Pl hP2) ((ga_Dl hD2).weaken (fun _ _ _ _ => trivial)) (fun U hW => C.2.2.2.2.2.2.2.2.1.1 _ s U _ (show s.vm.Alike U.vm from hW.alike) (C.2.2.2.2.2.2.2.2.1.2.2 _ _ _ _ hF (C.2.2.2.2.2.2.2.2.1.2.1 _ _ _ _ hS.2.1 C.2.2.2.2.2.2.2.2.2))) hl T hT X
  cases hv
  rw [h0] at hz hk
  rw [← e1] at hz hk hP1
  obtain ⟨j1, j2⟩ := ga_join hP2 hD2 hk hF hP1 hD1
  have hS2 : va_S A s.heap T'.heap (locs ++ L) := ⟨Nat.le_trans hS.1 hz, fun q h1 h2 => by rw [hk q (Nat.lt_of_lt_of_le h1 hS.1) (fun z => h2 (hF q z))]; exact hS.2.1 q h1 h2, fun q hq => by
    rcases List.mem_append.mp hq with h | h
    · exact hS.2.2 q h
    · exact hF _ (hL q h)⟩
  obtain ⟨t2, a1, b1⟩ := k _ w1 hpost d' T'.heap (locs ++ L) ls (hd.trans hd') j1 j2 hS2 hl T' rfl X'
  exact ⟨t2, st t2 a1, b1⟩
theorem g_callV (C : g_Cx p s m args c cc nL own D tys A E) {wc wr : va_W} {y : MethodName} {rm : Room} {bytes : ByteArray} {maxL mc ms index : Nat} {ret : Option FieldType} {post : Option Value → va_W → Prop} {Cn : String} {b : Nat} {As : List Value} (hM : g_Ct l y bytes maxL ret rm D tys E (.ref b :: As) wc mc ms post) (n : Nat) (hlk : Cond.methodLink own index y ∈ g_all) (hcd : g_cee Cn y bytes maxL ret) (hd : y.cls = Cn ∧ y.cls ≠ "java/lang/invoke/MethodHandle" ∧ y.cls ≠ "java/lang/invoke/VarHandle" ∧ (parseMethodDescriptor y.desc).map (fun d => d.parameters.length) = some n) (hp : w.Perm (wc ++ wr)) (q0 : Nat) {ci : Nat} {q : vw_C} {fs : List Value} (hc : vwCl[ci]? = some q) (hcn : q.1 = Cn) (he : wc[q0]? = some (b, .inr (ci, fs))) (hn : As.length = n) (hR : rm.frames + 1 ≤ R.frames ∧ 8 + (maxL + 11) + rm.locals ≤ R.locals) (hm : rm.cells = mc ∧ rm.slots = ms) (hf : ce + mc ≤ R.cells ∧ sl + ms ≤ R.slots) (hrm : (st.map fun v => v.category).sum ≤ 8) (hdg : decode cc pc = .ok (.invokevirtual index, 3)) {n' : Nat} (hn' : pc + 3 = n') (k : ∀ (r : Option Value) (w1 : va_W), post r w1 → g_G p l e R s m args below meth c nL D A Q (ce + mc) (sl + ms) (w1 ++ wr) lv n' (r.toList ++ st)) : g_G p l e R s m args below meth c nL D A Q ce sl w lv pc (As.reverse ++ .ref b :: st) := by
  subst hn'
  refine g_run (a := (Value.ref b :: As).toArray) C hp (fun d0 H locs ls hdr hPc hDc hEc hl => ?_) k
  exact va_runV_D (Ts := g_all) ⟨C.1, C.2.1, C.2.2.1, C.2.2.2.1, dr_words C.2.2.2.2.1 _⟩ (hM H.size) (cwV n (ws' := g_all) (dr_words C.2.2.2.2.1 _) (g_gV hlk hcd) rfl hm.1 hm.2 hd hR) ⟨ga_blind C.2.2.2.2.2.2.2.2.1, by rw [← hcn]; exact va_recv C.2.2.2.2.2.1 hPc hc he, fun U hU hW => ⟨rfl, by rw [hU], by rw [hU]; exact hPc, va_K.moved hW.alike C.2.2.2.2.2.1, hDc, g_nest_w hW (fun w hw => va_Nw.same (g_nest_t hw) (u := s) (U := s.setDrawn d0) rfl (C.2.2.2.2.2.2.2.1 w hw)), by rw [hU]; exact hEc U hW⟩⟩ rfl hn hl.1 rfl (lv_room hrm) hdg hf
theorem g_callS (C : g_Cx p s m args c cc nL own D tys A E) {wc wr : va_W} {y : MethodName} {rm : Room} {bytes : ByteArray} {maxL mc ms index : Nat} {ret : Option FieldType} {post : Option Value → va_W → Prop} {As : List Value} (hM : g_Ct l y bytes maxL ret rm D tys E As wc mc ms post) (n : Nat) (hlk : Cond.methodLink own index y ∈ g_all) (hcd : g_sta y bytes maxL ret) (hd : y.cls ≠ "java/lang/invoke/MethodHandle" ∧ y.cls ≠ "java/lang/invoke/VarHandle" ∧ (parseMethodDescriptor y.desc).map (fun d => d.parameters.length) = some n) (hp : w.Perm (wc ++ wr)) (hn : As.length = n) (hR : rm.frames + 1 ≤ R.frames ∧ 8 + (maxL + 11) + rm.locals ≤ R.locals) (hm : rm.cells = mc ∧ rm.slots = ms) (hf : ce + mc ≤ R.cells ∧ sl + ms ≤ R.slots) (hrm : (st.map fun v => v.category).sum ≤ 8) (hdg : decode cc pc = .ok (.invokestatic index, 3)) {n' : Nat} (hn' : pc + 3 = n') (k : ∀ (r : Option Value) (w1 : va_W), post r w1 → g_G p l e R s m args below meth c nL D A Q (ce + mc) (sl + ms) (w1 ++ wr) lv n' (r.toList ++ st)) : g_G p l e R s m args below meth c nL D A Q ce sl w lv pc (As.reverse ++ st) := by
  subst hn'
  refine g_run (a := As.toArray) C hp (fun d0 H locs ls hdr hPc hDc hEc hl => ?_) k
  exact va_runS_D (Ts := g_all) ⟨C.1, C.2.1, C.2.2.1, C.2.2.2.1, dr_words C.2.2.2.2.1 _⟩ (hM H.size) (va_cwS n (ws' := g_all) (dr_words C.2.2.2.2.1 _) (g_gS hlk hcd) rfl hm.1 hm.2 hd hR) ⟨ga_blind C.2.2.2.2.2.2.2.2.1, fun U hU hW => ⟨rfl, by rw [hU], by rw [hU]; exact hPc, va_K.moved hW.alike C.2.2.2.2.2.1, hDc, g_nest_w hW (fun w hw => va_Nw.same (g_nest_t hw) (u := s) (U := s.setDrawn d0) rfl (C.2.2.2.2.2.2.2.1 w hw)), by rw [hU]; exact hEc U hW⟩⟩ rfl hn hl.1 rfl (lv_room hrm) hdg hf
theorem g_callSN (C : g_Cx p s m args c cc nL own D tys A E) {wc wr : va_W} {y : MethodName} {rm : Room} {bytes : ByteArray} {maxL mc ms index : Nat} {ret : Option FieldType} {post : Option Value → va_W → Prop} {host : String} {As : List Value} (hM : g_Ct l y bytes maxL ret rm D tys E As wc mc ms post) (n : Nat) (hcd : g_sta y bytes maxL ret) (hl0 : Cond.methodLinkNest own index y host ∈ g_nest) (hd : y.cls ≠ "java/lang/invoke/MethodHandle" ∧ y.cls ≠ "java/lang/invoke/VarHandle" ∧ (parseMethodDescriptor y.desc).map (fun d => d.parameters.length) = some n) (hp : w.Perm (wc ++ wr)) (hn : As.length = n) (hR : rm.frames + 1 ≤ R.frames ∧ 8 + (maxL + 11) + rm.locals ≤ R.locals) (hm : rm.cells = mc ∧ rm.slots = ms) (hf : ce + mc ≤ R.cells ∧ sl + ms ≤ R.slots) (hrm : (st.map fun v => v.category).sum ≤ 8) (hdg : decode cc pc = .ok (.invokestatic index, 3)) {n' : Nat} (hn' : pc + 3 = n') (k : ∀ (r : Option Value) (w1 : va_W), post r w1 → g_G p l e R s m args below meth c nL D A Q (ce + mc) (sl + ms) (w1 ++ wr) lv n' (r.toList ++ st)) : g_G p l e R s m args below meth c nL D A Q ce sl w lv pc (As.reverse ++ st) := by
  subst hn'
  refine g_run (a := As.toArray) C hp (fun d0 H locs ls hdr hPc hDc hEc hl => ?_) k
  exact va_runSN_D (Ts := g_all) ⟨C.1, C.2.1, C.2.2.1, C.2.2.2.1, dr_words C.2.2.2.2.1 _⟩ (hM H.size) ⟨va_cnB n (ws' := g_all) (dr_words C.2.2.2.2.1 _) (g_gN hcd.1) rfl hm.1 hm.2 (va_Nw.of (args := #[]) rfl (g_nestD C.2.2.2.2.2.2.2.1 d0 hl0)) (dr_words C.2.2.2.2.1 _ _ hcd.2.2) hd hR, dr_words C.2.2.2.2.1 _ _ hcd.2.1, trivial⟩ ⟨ga_blind C.2.2.2.2.2.2.2.2.1, fun U hU hW => ⟨rfl, by rw [hU], by rw [hU]; exact hPc, va_K.moved hW.alike C.2.2.2.2.2.1, hDc, g_nest_w hW (fun w hw => va_Nw.same (g_nest_t hw) (u := s) (U := s.setDrawn d0) rfl (C.2.2.2.2.2.2.2.1 w hw)), by rw [hU]; exact hEc U hW⟩⟩ rfl hn hl.1 rfl (lv_room hrm) hdg hf
theorem g_cVv (C : g_Cx p s m args c cc nL own D tys A E) {wc wr : va_W} {y : MethodName} {rm : Room} {bytes : ByteArray} {maxL mc ms index : Nat} {ret : Option FieldType} {v : Value} {wc' : va_W} {Cn : String} {b : Nat} {As : List Value} (hM : g_Ct l y bytes maxL ret rm D tys E (.ref b :: As) wc mc ms (g_det (some v) wc')) (n : Nat) (hlk : Cond.methodLink own index y ∈ g_all) (hcd : g_cee Cn y bytes maxL ret) (hd : y.cls = Cn ∧ y.cls ≠ "java/lang/invoke/MethodHandle" ∧ y.cls ≠ "java/lang/invoke/VarHandle" ∧ (parseMethodDescriptor y.desc).map (fun d => d.parameters.length) = some n) (hp : w.Perm (wc ++ wr)) (q0 : Nat) {ci : Nat} {q : vw_C} {fs : List Value} (hc : vwCl[ci]? = some q) (hcn : q.1 = Cn) (he : wc[q0]? = some (b, .inr (ci, fs))) (hn : As.length = n) (hR : rm.frames + 1 ≤ R.frames ∧ 8 + (maxL + 11) + rm.locals ≤ R.locals) (hm : rm.cells = mc ∧ rm.slots = ms) (hf : ce + mc ≤ R.cells ∧ sl + ms ≤ R.slots) (hrm : (st.map fun v => v.category).sum ≤ 8) (hdg : decode cc pc = .ok (.invokevirtual index, 3)) {n' : Nat} (hn' : pc + 3 = n') {st0 : List Value} (hst : st0 = As.reverse ++ .ref b :: st) (w2 : va_W) (hp2 : (wc' ++ wr).Perm w2) (k : g_G p l e R s m args below meth c nL D A Q (ce + mc) (sl + ms) w2 lv n' (v :: st)) : g_G p l e R s m args below meth c nL D A Q ce sl w lv pc st0 := by
  subst hst
  exact g_callV C hM n hlk hcd hd hp q0 hc hcn he hn hR hm hf hrm hdg hn' (fun r w1 h => by
    obtain ⟨rfl, rfl⟩ := h
    exact g_perm hp2 k)
theorem g_cVn (C : g_Cx p s m args c cc nL own D tys A E) {wc wr : va_W} {y : MethodName} {rm : Room} {bytes : ByteArray} {maxL mc ms index : Nat} {ret : Option FieldType} {wc' : va_W} {Cn : String} {b : Nat} {As : List Value} (hM : g_Ct l y bytes maxL ret rm D tys E (.ref b :: As) wc mc ms (g_det none wc')) (n : Nat) (hlk : Cond.methodLink own index y ∈ g_all) (hcd : g_cee Cn y bytes maxL ret) (hd : y.cls = Cn ∧ y.cls ≠ "java/lang/invoke/MethodHandle" ∧ y.cls ≠ "java/lang/invoke/VarHandle" ∧ (parseMethodDescriptor y.desc).map (fun d => d.parameters.length) = some n) (hp : w.Perm (wc ++ wr)) (q0 : Nat) {ci : Nat} {q : vw_C} {fs : List Value} (hc : vwCl[ci]? = some q) (hcn : q.1 = Cn) (he : wc[q0]? = some (b, .inr (ci, fs))) (hn : As.length = n) (hR : rm.frames + 1 ≤ R.frames ∧ 8 + (maxL + 11) + rm.locals ≤ R.locals) (hm : rm.cells = mc ∧ rm.slots = ms) (hf : ce + mc ≤ R.cells ∧ sl + ms ≤ R.slots) (hrm : (st.map fun v => v.category).sum ≤ 8) (hdg : decode cc pc = .ok (.invokevirtual index, 3)) {n' : Nat} (hn' : pc + 3 = n') {st0 : List Value} (hst : st0 = As.reverse ++ .ref b :: st) (w2 : va_W) (hp2 : (wc' ++ wr).Perm w2) (k : g_G p l e R s m args below meth c nL D A Q (ce + mc) (sl + ms) w2 lv n' st) : g_G p l e R s m args below meth c nL D A Q ce sl w lv pc st0 := by
  subst hst
  exact g_callV C hM n hlk hcd hd hp q0 hc hcn he hn hR hm hf hrm hdg hn' (fun r w1 h => by
    obtain ⟨rfl, rfl⟩ := h
    exact g_perm hp2 k)
theorem g_cSv (C : g_Cx p s m args c cc nL own D tys A E) {wc wr : va_W} {y : MethodName} {rm : Room} {bytes : ByteArray} {maxL mc ms index : Nat} {ret : Option FieldType} {v : Value} {wc' : va_W} {As : List Value} (hM : g_Ct l y bytes maxL ret rm D tys E As wc mc ms (g_det (some v) wc')) (n : Nat) (hlk : Cond.methodLink own index y ∈ g_all) (hcd : g_sta y bytes maxL ret) (hd : y.cls ≠ "java/lang/invoke/MethodHandle" ∧ y.cls ≠ "java/lang/invoke/VarHandle" ∧ (parseMethodDescriptor y.desc).map (fun d => d.parameters.length) = some n) (hp : w.Perm (wc ++ wr)) (hn : As.length = n) (hR : rm.frames + 1 ≤ R.frames ∧ 8 + (maxL + 11) + rm.locals ≤ R.locals) (hm : rm.cells = mc ∧ rm.slots = ms) (hf : ce + mc ≤ R.cells ∧ sl + ms ≤ R.slots) (hrm : (st.map fun v => v.category).sum ≤ 8) (hdg : decode cc pc = .ok (.invokestatic index, 3)) {n' : Nat} (hn' : pc + 3 = n') {st0 : List Value} (hst : st0 = As.reverse ++ st) (w2 : va_W) (hp2 : (wc' ++ wr).Perm w2) (k : g_G p l e R s m args below meth c nL D A Q (ce + mc) (sl + ms) w2 lv n' (v :: st)) : g_G p l e R s m args below meth c nL D A Q ce sl w lv pc st0 := by
  subst hst
  exact g_callS C hM n hlk hcd hd hp hn hR hm hf hrm hdg hn' (fun r w1 h => by
    obtain ⟨rfl, rfl⟩ := h
    exact g_perm hp2 k)
theorem g_cSn (C : g_Cx p s m args c cc nL own D tys A E) {wc wr : va_W} {y : MethodName} {rm : Room} {bytes : ByteArray} {maxL mc ms index : Nat} {ret : Option FieldType} {wc' : va_W} {As : List Value} (hM : g_Ct l y bytes maxL ret rm D tys E As wc mc ms (g_det none wc')) (n : Nat) (hlk : Cond.methodLink own index y ∈ g_all) (hcd : g_sta y bytes maxL ret) (hd : y.cls ≠ "java/lang/invoke/MethodHandle" ∧ y.cls ≠ "java/lang/invoke/VarHandle" ∧ (parseMethodDescriptor y.desc).map (fun d => d.parameters.length) = some n) (hp : w.Perm (wc ++ wr)) (hn : As.length = n) (hR : rm.frames + 1 ≤ R.frames ∧ 8 + (maxL + 11) + rm.locals ≤ R.locals) (hm : rm.cells = mc ∧ rm.slots = ms) (hf : ce + mc ≤ R.cells ∧ sl + ms ≤ R.slots) (hrm : (st.map fun v => v.category).sum ≤ 8) (hdg : decode cc pc = .ok (.invokestatic index, 3)) {n' : Nat} (hn' : pc + 3 = n') {st0 : List Value} (hst : st0 = As.reverse ++ st) (w2 : va_W) (hp2 : (wc' ++ wr).Perm w2) (k : g_G p l e R s m args below meth c nL D A Q (ce + mc) (sl + ms) w2 lv n' st) : g_G p l e R s m args below meth c nL D A Q ce sl w lv pc st0 := by
  subst hst
  exact g_callS C hM n hlk hcd hd hp hn hR hm hf hrm hdg hn' (fun r w1 h => by
    obtain ⟨rfl, rfl⟩ := h
    exact g_perm hp2 k)
theorem g_cNv (C : g_Cx p s m args c cc nL own D tys A E) {wc wr : va_W} {y : MethodName} {rm : Room} {bytes : ByteArray} {maxL mc ms index : Nat} {ret : Option FieldType} {v : Value} {wc' : va_W} {host : String} {As : List Value} (hM : g_Ct l y bytes maxL ret rm D tys E As wc mc ms (g_det (some v) wc')) (n : Nat) (hlk : Cond.methodLinkNest own index y host ∈ g_nest) (hcd : g_sta y bytes maxL ret) (hd : y.cls ≠ "java/lang/invoke/MethodHandle" ∧ y.cls ≠ "java/lang/invoke/VarHandle" ∧ (parseMethodDescriptor y.desc).map (fun d => d.parameters.length) = some n) (hp : w.Perm (wc ++ wr)) (hn : As.length = n) (hR : rm.frames + 1 ≤ R.frames ∧ 8 + (maxL + 11) + rm.locals ≤ R.locals) (hm : rm.cells = mc ∧ rm.slots = ms) (hf : ce + mc ≤ R.cells ∧ sl + ms ≤ R.slots) (hrm : (st.map fun v => v.category).sum ≤ 8) (hdg : decode cc pc = .ok (.invokestatic index, 3)) {n' : Nat} (hn' : pc + 3 = n') {st0 : List Value} (hst : st0 = As.reverse ++ st) (w2 : va_W) (hp2 : (wc' ++ wr).Perm w2) (k : g_G p l e R s m args below meth c nL D A Q (ce + mc) (sl + ms) w2 lv n' (v :: st)) : g_G p l e R s m args below meth c nL D A Q ce sl w lv pc st0 := by
  subst hst
  exact g_callSN C hM n hcd hlk hd hp hn hR hm hf hrm hdg hn' (fun r w1 h => by
    obtain ⟨rfl, rfl⟩ := h
    exact g_perm hp2 k)
theorem g_cNn (C : g_Cx p s m args c cc nL own D tys A E) {wc wr : va_W} {y : MethodName} {rm : Room} {bytes : ByteArray} {maxL mc ms index : Nat} {ret : Option FieldType} {wc' : va_W} {host : String} {As : List Value} (hM : g_Ct l y bytes maxL ret rm D tys E As wc mc ms (g_det none wc')) (n : Nat) (hlk : Cond.methodLinkNest own index y host ∈ g_nest) (hcd : g_sta y bytes maxL ret) (hd : y.cls ≠ "java/lang/invoke/MethodHandle" ∧ y.cls ≠ "java/lang/invoke/VarHandle" ∧ (parseMethodDescriptor y.desc).map (fun d => d.parameters.length) = some n) (hp : w.Perm (wc ++ wr)) (hn : As.length = n) (hR : rm.frames + 1 ≤ R.frames ∧ 8 + (maxL + 11) + rm.locals ≤ R.locals) (hm : rm.cells = mc ∧ rm.slots = ms) (hf : ce + mc ≤ R.cells ∧ sl + ms ≤ R.slots) (hrm : (st.map fun v => v.category).sum ≤ 8) (hdg : decode cc pc = .ok (.invokestatic index, 3)) {n' : Nat} (hn' : pc + 3 = n') {st0 : List Value} (hst : st0 = As.reverse ++ st) (w2 : va_W) (hp2 : (wc' ++ wr).Perm w2) (k : g_G p l e R s m args below meth c nL D A Q (ce + mc) (sl + ms) w2 lv n' st) : g_G p l e R s m args below meth c nL D A Q ce sl w lv pc st0 := by
  subst hst
  exact g_callSN C hM n hcd hlk hd hp hn hR hm hf hrm hdg hn' (fun r w1 h => by
    obtain ⟨rfl, rfl⟩ := h
    exact g_perm hp2 k)
end GC
theorem pm0 (w : va_W) : w.Perm (w ++ []) := by rw [List.append_nil]; exact List.Perm.refl _
theorem pm0' (w : va_W) : (w ++ []).Perm w := by rw [List.append_nil]
theorem pm_n (w : va_W) : w.Perm ([] ++ w) := List.Perm.refl _
end
