section
-- ===== PART A: goes FIRST, ahead of the names: the tables' words, and 'selects' of the private methods out of them =====
/-- a private method of a class that the tables say can be made, by its rows of tables_1 -/
def lw_okq (q : MethodName × Nat) : Prop := (q.1.cls ≠ "java/lang/invoke/MethodHandle" ∧ q.1.cls ≠ "java/lang/invoke/VarHandle") ∧ Cond.instantiable q.1.cls q.2 ∈ tables_1 ∧ Cond.privateMethod q.1 ∈ tables_1 ∧ Cond.instanceMethod q.1 ∈ tables_1
theorem lw_p0 : lw_okq (⟨"SkewPlan$Net", "begin", "(I)V"⟩, 10) := ⟨⟨by decide +kernel, by decide +kernel⟩, List.mem_of_getElem? (i := 49) (by decide +kernel), List.mem_of_getElem? (i := 55) (by decide +kernel), List.mem_of_getElem? (i := 56) (by decide +kernel)⟩
theorem lw_p1 : lw_okq (⟨"SkewPlan$Text", "advance", "()V"⟩, 5) := ⟨⟨by decide +kernel, by decide +kernel⟩, List.mem_of_getElem? (i := 26) (by decide +kernel), List.mem_of_getElem? (i := 252) (by decide +kernel), List.mem_of_getElem? (i := 253) (by decide +kernel)⟩
theorem lw_p2 : lw_okq (⟨"SkewPlan$Text", "isAtEnd", "()Z"⟩, 5) := ⟨⟨by decide +kernel, by decide +kernel⟩, List.mem_of_getElem? (i := 26) (by decide +kernel), List.mem_of_getElem? (i := 256) (by decide +kernel), List.mem_of_getElem? (i := 257) (by decide +kernel)⟩
theorem lw_p3 : lw_okq (⟨"SkewPlan$Text", "readClause", "(LSkewPlan$Net;)Z"⟩, 5) := ⟨⟨by decide +kernel, by decide +kernel⟩, List.mem_of_getElem? (i := 26) (by decide +kernel), List.mem_of_getElem? (i := 266) (by decide +kernel), List.mem_of_getElem? (i := 267) (by decide +kernel)⟩
theorem lw_p4 : lw_okq (⟨"SkewPlan$Text", "wordHere", "()I"⟩, 5) := ⟨⟨by decide +kernel, by decide +kernel⟩, List.mem_of_getElem? (i := 26) (by decide +kernel), List.mem_of_getElem? (i := 270) (by decide +kernel), List.mem_of_getElem? (i := 271) (by decide +kernel)⟩
theorem lw_p5 : lw_okq (⟨"SkewPlan$Text", "isSpelled", "(Ljava/lang/String;)Z"⟩, 5) := ⟨⟨by decide +kernel, by decide +kernel⟩, List.mem_of_getElem? (i := 26) (by decide +kernel), List.mem_of_getElem? (i := 276) (by decide +kernel), List.mem_of_getElem? (i := 277) (by decide +kernel)⟩
theorem lw_p6 : lw_okq (⟨"SkewPlan$Text", "readPath", "(LSkewPlan$Net;)Z"⟩, 5) := ⟨⟨by decide +kernel, by decide +kernel⟩, List.mem_of_getElem? (i := 26) (by decide +kernel), List.mem_of_getElem? (i := 334) (by decide +kernel), List.mem_of_getElem? (i := 335) (by decide +kernel)⟩
theorem lw_p7 : lw_okq (⟨"SkewPlan$Text", "readNumber", "(II)I"⟩, 5) := ⟨⟨by decide +kernel, by decide +kernel⟩, List.mem_of_getElem? (i := 26) (by decide +kernel), List.mem_of_getElem? (i := 338) (by decide +kernel), List.mem_of_getElem? (i := 339) (by decide +kernel)⟩
theorem lw_p8 : lw_okq (⟨"SkewPlan", "isPath", "(I)Z"⟩, 9) := ⟨⟨by decide +kernel, by decide +kernel⟩, List.mem_of_getElem? (i := 18) (by decide +kernel), List.mem_of_getElem? (i := 381) (by decide +kernel), List.mem_of_getElem? (i := 382) (by decide +kernel)⟩
theorem lw_p9 : lw_okq (⟨"SkewPlan$Planner", "settlesWithMargin", "(LSkewPlan$Net;I)Z"⟩, 7) := ⟨⟨by decide +kernel, by decide +kernel⟩, List.mem_of_getElem? (i := 132) (by decide +kernel), List.mem_of_getElem? (i := 448) (by decide +kernel), List.mem_of_getElem? (i := 449) (by decide +kernel)⟩
theorem lw_p10 : lw_okq (⟨"SkewPlan$Planner", "layBounds", "(LSkewPlan$Net;IIII)V"⟩, 7) := ⟨⟨by decide +kernel, by decide +kernel⟩, List.mem_of_getElem? (i := 132) (by decide +kernel), List.mem_of_getElem? (i := 452) (by decide +kernel), List.mem_of_getElem? (i := 453) (by decide +kernel)⟩
theorem lw_p11 : lw_okq (⟨"SkewPlan$Planner", "tighten", "(IIII)V"⟩, 7) := ⟨⟨by decide +kernel, by decide +kernel⟩, List.mem_of_getElem? (i := 132) (by decide +kernel), List.mem_of_getElem? (i := 458) (by decide +kernel), List.mem_of_getElem? (i := 459) (by decide +kernel)⟩
theorem lw_p12 : lw_okq (⟨"SkewPlan$Planner", "settle", "()Z"⟩, 7) := ⟨⟨by decide +kernel, by decide +kernel⟩, List.mem_of_getElem? (i := 132) (by decide +kernel), List.mem_of_getElem? (i := 466) (by decide +kernel), List.mem_of_getElem? (i := 467) (by decide +kernel)⟩
theorem lw_p13 : lw_okq (⟨"SkewPlan$Planner", "lowerOnce", "()Z"⟩, 7) := ⟨⟨by decide +kernel, by decide +kernel⟩, List.mem_of_getElem? (i := 132) (by decide +kernel), List.mem_of_getElem? (i := 470) (by decide +kernel), List.mem_of_getElem? (i := 471) (by decide +kernel)⟩
theorem lw_p14 : lw_okq (⟨"SkewPlan$Planner", "leastPeriodAbove", "(LSkewPlan$Net;II)I"⟩, 7) := ⟨⟨by decide +kernel, by decide +kernel⟩, List.mem_of_getElem? (i := 132) (by decide +kernel), List.mem_of_getElem? (i := 490) (by decide +kernel), List.mem_of_getElem? (i := 491) (by decide +kernel)⟩
theorem lw_p15 : lw_okq (⟨"SkewPlan$Planner", "settlesAtPeriod", "(LSkewPlan$Net;III)Z"⟩, 7) := ⟨⟨by decide +kernel, by decide +kernel⟩, List.mem_of_getElem? (i := 132) (by decide +kernel), List.mem_of_getElem? (i := 494) (by decide +kernel), List.mem_of_getElem? (i := 495) (by decide +kernel)⟩
def lw_privs_1 : List (MethodName × Nat) := [(⟨"SkewPlan$Net", "begin", "(I)V"⟩, 10), (⟨"SkewPlan$Text", "advance", "()V"⟩, 5), (⟨"SkewPlan$Text", "isAtEnd", "()Z"⟩, 5), (⟨"SkewPlan$Text", "readClause", "(LSkewPlan$Net;)Z"⟩, 5), (⟨"SkewPlan$Text", "wordHere", "()I"⟩, 5), (⟨"SkewPlan$Text", "isSpelled", "(Ljava/lang/String;)Z"⟩, 5), (⟨"SkewPlan$Text", "readPath", "(LSkewPlan$Net;)Z"⟩, 5), (⟨"SkewPlan$Text", "readNumber", "(II)I"⟩, 5), (⟨"SkewPlan", "isPath", "(I)Z"⟩, 9), (⟨"SkewPlan$Planner", "settlesWithMargin", "(LSkewPlan$Net;I)Z"⟩, 7), (⟨"SkewPlan$Planner", "layBounds", "(LSkewPlan$Net;IIII)V"⟩, 7), (⟨"SkewPlan$Planner", "tighten", "(IIII)V"⟩, 7), (⟨"SkewPlan$Planner", "settle", "()Z"⟩, 7), (⟨"SkewPlan$Planner", "lowerOnce", "()Z"⟩, 7), (⟨"SkewPlan$Planner", "leastPeriodAbove", "(LSkewPlan$Net;II)I"⟩, 7), (⟨"SkewPlan$Planner", "settlesAtPeriod", "(LSkewPlan$Net;III)Z"⟩, 7)]
theorem lw_r1 : ∀ q ∈ lw_privs_1, lw_okq q := List.forall_mem_cons.mpr ⟨lw_p0, List.forall_mem_cons.mpr ⟨lw_p1, List.forall_mem_cons.mpr ⟨lw_p2, List.forall_mem_cons.mpr ⟨lw_p3, List.forall_mem_cons.mpr ⟨lw_p4, List.forall_mem_cons.mpr ⟨lw_p5, List.forall_mem_cons.mpr ⟨lw_p6, List.forall_mem_cons.mpr ⟨lw_p7, List.forall_mem_cons.mpr ⟨lw_p8, List.forall_mem_cons.mpr ⟨lw_p9, List.forall_mem_cons.mpr ⟨lw_p10, List.forall_mem_cons.mpr ⟨lw_p11, List.forall_mem_cons.mpr ⟨lw_p12, List.forall_mem_cons.mpr ⟨lw_p13, List.forall_mem_cons.mpr ⟨lw_p14, List.forall_mem_cons.mpr ⟨lw_p15, fun _ h => absurd h List.not_mem_nil⟩⟩⟩⟩⟩⟩⟩⟩⟩⟩⟩⟩⟩⟩⟩⟩
theorem lw_p16 : lw_okq (⟨"SkewPlan$Planner", "closesFrom", "(II)Z"⟩, 7) := ⟨⟨by decide +kernel, by decide +kernel⟩, List.mem_of_getElem? (i := 132) (by decide +kernel), List.mem_of_getElem? (i := 534) (by decide +kernel), List.mem_of_getElem? (i := 535) (by decide +kernel)⟩
theorem lw_p17 : lw_okq (⟨"SkewPlan$Planner", "isInRing", "(II)Z"⟩, 7) := ⟨⟨by decide +kernel, by decide +kernel⟩, List.mem_of_getElem? (i := 132) (by decide +kernel), List.mem_of_getElem? (i := 538) (by decide +kernel), List.mem_of_getElem? (i := 539) (by decide +kernel)⟩
theorem lw_p18 : lw_okq (⟨"SkewPlan$Trace", "putNumber", "(ID)V"⟩, 5) := ⟨⟨by decide +kernel, by decide +kernel⟩, List.mem_of_getElem? (i := 163) (by decide +kernel), List.mem_of_getElem? (i := 571) (by decide +kernel), List.mem_of_getElem? (i := 572) (by decide +kernel)⟩
theorem lw_p19 : lw_okq (⟨"SkewPlan$Trace", "putNoNumber", "(I)V"⟩, 5) := ⟨⟨by decide +kernel, by decide +kernel⟩, List.mem_of_getElem? (i := 163) (by decide +kernel), List.mem_of_getElem? (i := 591) (by decide +kernel), List.mem_of_getElem? (i := 592) (by decide +kernel)⟩
theorem lw_p20 : lw_okq (⟨"SkewPlan", "traceRefusal", "(IIII)I"⟩, 9) := ⟨⟨by decide +kernel, by decide +kernel⟩, List.mem_of_getElem? (i := 18) (by decide +kernel), List.mem_of_getElem? (i := 613) (by decide +kernel), List.mem_of_getElem? (i := 614) (by decide +kernel)⟩
theorem lw_p21 : lw_okq (⟨"SkewPlan", "placesOfAllTraces", "()I"⟩, 9) := ⟨⟨by decide +kernel, by decide +kernel⟩, List.mem_of_getElem? (i := 18) (by decide +kernel), List.mem_of_getElem? (i := 668) (by decide +kernel), List.mem_of_getElem? (i := 669) (by decide +kernel)⟩
theorem lw_p22 : lw_okq (⟨"SkewPlanModel", "anew", "(I)V"⟩, 35) := ⟨⟨by decide +kernel, by decide +kernel⟩, List.mem_of_getElem? (i := 677) (by decide +kernel), List.mem_of_getElem? (i := 683) (by decide +kernel), List.mem_of_getElem? (i := 684) (by decide +kernel)⟩
theorem lw_p23 : lw_okq (⟨"SkewPlanModel", "copyRow", "(II)V"⟩, 35) := ⟨⟨by decide +kernel, by decide +kernel⟩, List.mem_of_getElem? (i := 677) (by decide +kernel), List.mem_of_getElem? (i := 687) (by decide +kernel), List.mem_of_getElem? (i := 688) (by decide +kernel)⟩
theorem lw_p24 : lw_okq (⟨"SkewPlanModel", "reads", "(Z)Z"⟩, 35) := ⟨⟨by decide +kernel, by decide +kernel⟩, List.mem_of_getElem? (i := 677) (by decide +kernel), List.mem_of_getElem? (i := 814) (by decide +kernel), List.mem_of_getElem? (i := 815) (by decide +kernel)⟩
theorem lw_p25 : lw_okq (⟨"SkewPlanModel", "nextToken", "()V"⟩, 35) := ⟨⟨by decide +kernel, by decide +kernel⟩, List.mem_of_getElem? (i := 677) (by decide +kernel), List.mem_of_getElem? (i := 818) (by decide +kernel), List.mem_of_getElem? (i := 819) (by decide +kernel)⟩
theorem lw_p26 : lw_okq (⟨"SkewPlanModel", "readsClause", "()Z"⟩, 35) := ⟨⟨by decide +kernel, by decide +kernel⟩, List.mem_of_getElem? (i := 677) (by decide +kernel), List.mem_of_getElem? (i := 832) (by decide +kernel), List.mem_of_getElem? (i := 833) (by decide +kernel)⟩
theorem lw_p27 : lw_okq (⟨"SkewPlanModel", "wordHere", "()I"⟩, 35) := ⟨⟨by decide +kernel, by decide +kernel⟩, List.mem_of_getElem? (i := 677) (by decide +kernel), List.mem_of_getElem? (i := 836) (by decide +kernel), List.mem_of_getElem? (i := 837) (by decide +kernel)⟩
theorem lw_p28 : lw_okq (⟨"SkewPlanModel", "isWord", "([I)Z"⟩, 35) := ⟨⟨by decide +kernel, by decide +kernel⟩, List.mem_of_getElem? (i := 677) (by decide +kernel), List.mem_of_getElem? (i := 840) (by decide +kernel), List.mem_of_getElem? (i := 841) (by decide +kernel)⟩
theorem lw_p29 : lw_okq (⟨"SkewPlanModel", "readsNumbers", "(I)Z"⟩, 35) := ⟨⟨by decide +kernel, by decide +kernel⟩, List.mem_of_getElem? (i := 677) (by decide +kernel), List.mem_of_getElem? (i := 844) (by decide +kernel), List.mem_of_getElem? (i := 845) (by decide +kernel)⟩
theorem lw_p30 : lw_okq (⟨"SkewPlanModel", "number", "(III)Z"⟩, 35) := ⟨⟨by decide +kernel, by decide +kernel⟩, List.mem_of_getElem? (i := 677) (by decide +kernel), List.mem_of_getElem? (i := 848) (by decide +kernel), List.mem_of_getElem? (i := 849) (by decide +kernel)⟩
theorem lw_p31 : lw_okq (⟨"SkewPlanModel", "does", "(I)V"⟩, 35) := ⟨⟨by decide +kernel, by decide +kernel⟩, List.mem_of_getElem? (i := 677) (by decide +kernel), List.mem_of_getElem? (i := 852) (by decide +kernel), List.mem_of_getElem? (i := 853) (by decide +kernel)⟩
def lw_privs_2 : List (MethodName × Nat) := [(⟨"SkewPlan$Planner", "closesFrom", "(II)Z"⟩, 7), (⟨"SkewPlan$Planner", "isInRing", "(II)Z"⟩, 7), (⟨"SkewPlan$Trace", "putNumber", "(ID)V"⟩, 5), (⟨"SkewPlan$Trace", "putNoNumber", "(I)V"⟩, 5), (⟨"SkewPlan", "traceRefusal", "(IIII)I"⟩, 9), (⟨"SkewPlan", "placesOfAllTraces", "()I"⟩, 9), (⟨"SkewPlanModel", "anew", "(I)V"⟩, 35), (⟨"SkewPlanModel", "copyRow", "(II)V"⟩, 35), (⟨"SkewPlanModel", "reads", "(Z)Z"⟩, 35), (⟨"SkewPlanModel", "nextToken", "()V"⟩, 35), (⟨"SkewPlanModel", "readsClause", "()Z"⟩, 35), (⟨"SkewPlanModel", "wordHere", "()I"⟩, 35), (⟨"SkewPlanModel", "isWord", "([I)Z"⟩, 35), (⟨"SkewPlanModel", "readsNumbers", "(I)Z"⟩, 35), (⟨"SkewPlanModel", "number", "(III)Z"⟩, 35), (⟨"SkewPlanModel", "does", "(I)V"⟩, 35)]
theorem lw_r2 : ∀ q ∈ lw_privs_2, lw_okq q := List.forall_mem_cons.mpr ⟨lw_p16, List.forall_mem_cons.mpr ⟨lw_p17, List.forall_mem_cons.mpr ⟨lw_p18, List.forall_mem_cons.mpr ⟨lw_p19, List.forall_mem_cons.mpr ⟨lw_p20, List.forall_mem_cons.mpr ⟨lw_p21, List.forall_mem_cons.mpr ⟨lw_p22, List.forall_mem_cons.mpr ⟨lw_p23, List.forall_mem_cons.mpr ⟨lw_p24, List.forall_mem_cons.mpr ⟨lw_p25, List.forall_mem_cons.mpr ⟨lw_p26, List.forall_mem_cons.mpr ⟨lw_p27, List.forall_mem_cons.mpr ⟨lw_p28, List.forall_mem_cons.mpr ⟨lw_p29, List.forall_mem_cons.mpr ⟨lw_p30, List.forall_mem_cons.mpr ⟨lw_p31, fun _ h => absurd h List.not_mem_nil⟩⟩⟩⟩⟩⟩⟩⟩⟩⟩⟩⟩⟩⟩⟩⟩
theorem lw_p32 : lw_okq (⟨"SkewPlanModel", "isPath", "(I)Z"⟩, 35) := ⟨⟨by decide +kernel, by decide +kernel⟩, List.mem_of_getElem? (i := 677) (by decide +kernel), List.mem_of_getElem? (i := 864) (by decide +kernel), List.mem_of_getElem? (i := 865) (by decide +kernel)⟩
theorem lw_p33 : lw_okq (⟨"SkewPlanModel", "lateOf", "(II)I"⟩, 35) := ⟨⟨by decide +kernel, by decide +kernel⟩, List.mem_of_getElem? (i := 677) (by decide +kernel), List.mem_of_getElem? (i := 868) (by decide +kernel), List.mem_of_getElem? (i := 869) (by decide +kernel)⟩
theorem lw_p34 : lw_okq (⟨"SkewPlanModel", "soonOf", "(I)I"⟩, 35) := ⟨⟨by decide +kernel, by decide +kernel⟩, List.mem_of_getElem? (i := 677) (by decide +kernel), List.mem_of_getElem? (i := 872) (by decide +kernel), List.mem_of_getElem? (i := 873) (by decide +kernel)⟩
theorem lw_p35 : lw_okq (⟨"SkewPlanModel", "keepPast", "()V"⟩, 35) := ⟨⟨by decide +kernel, by decide +kernel⟩, List.mem_of_getElem? (i := 677) (by decide +kernel), List.mem_of_getElem? (i := 881) (by decide +kernel), List.mem_of_getElem? (i := 882) (by decide +kernel)⟩
theorem lw_p36 : lw_okq (⟨"SkewPlanModel", "isFeasible", "(II)Z"⟩, 35) := ⟨⟨by decide +kernel, by decide +kernel⟩, List.mem_of_getElem? (i := 677) (by decide +kernel), List.mem_of_getElem? (i := 906) (by decide +kernel), List.mem_of_getElem? (i := 907) (by decide +kernel)⟩
theorem lw_p37 : lw_okq (⟨"SkewPlanModel", "layBounds", "(II)V"⟩, 35) := ⟨⟨by decide +kernel, by decide +kernel⟩, List.mem_of_getElem? (i := 677) (by decide +kernel), List.mem_of_getElem? (i := 910) (by decide +kernel), List.mem_of_getElem? (i := 911) (by decide +kernel)⟩
theorem lw_p38 : lw_okq (⟨"SkewPlanModel", "areThere", "()Z"⟩, 35) := ⟨⟨by decide +kernel, by decide +kernel⟩, List.mem_of_getElem? (i := 677) (by decide +kernel), List.mem_of_getElem? (i := 917) (by decide +kernel), List.mem_of_getElem? (i := 918) (by decide +kernel)⟩
theorem lw_p39 : lw_okq (⟨"SkewPlanModel", "makesLess", "(III)Z"⟩, 35) := ⟨⟨by decide +kernel, by decide +kernel⟩, List.mem_of_getElem? (i := 677) (by decide +kernel), List.mem_of_getElem? (i := 921) (by decide +kernel), List.mem_of_getElem? (i := 922) (by decide +kernel)⟩
theorem lw_p40 : lw_okq (⟨"SkewPlanModel", "isRegister", "(I)Z"⟩, 35) := ⟨⟨by decide +kernel, by decide +kernel⟩, List.mem_of_getElem? (i := 677) (by decide +kernel), List.mem_of_getElem? (i := 929) (by decide +kernel), List.mem_of_getElem? (i := 930) (by decide +kernel)⟩
theorem lw_p41 : lw_okq (⟨"SkewPlanModel", "leastOf", "()I"⟩, 35) := ⟨⟨by decide +kernel, by decide +kernel⟩, List.mem_of_getElem? (i := 677) (by decide +kernel), List.mem_of_getElem? (i := 937) (by decide +kernel), List.mem_of_getElem? (i := 938) (by decide +kernel)⟩
theorem lw_p42 : lw_okq (⟨"SkewPlanModel", "isFeasibleBy", "(II)Z"⟩, 35) := ⟨⟨by decide +kernel, by decide +kernel⟩, List.mem_of_getElem? (i := 677) (by decide +kernel), List.mem_of_getElem? (i := 945) (by decide +kernel), List.mem_of_getElem? (i := 946) (by decide +kernel)⟩
theorem lw_p43 : lw_okq (⟨"SkewPlanModel", "layLeast", "()V"⟩, 35) := ⟨⟨by decide +kernel, by decide +kernel⟩, List.mem_of_getElem? (i := 677) (by decide +kernel), List.mem_of_getElem? (i := 961) (by decide +kernel), List.mem_of_getElem? (i := 962) (by decide +kernel)⟩
theorem lw_p44 : lw_okq (⟨"SkewPlanModel", "isBelow", "()Z"⟩, 35) := ⟨⟨by decide +kernel, by decide +kernel⟩, List.mem_of_getElem? (i := 677) (by decide +kernel), List.mem_of_getElem? (i := 966) (by decide +kernel), List.mem_of_getElem? (i := 967) (by decide +kernel)⟩
theorem lw_p45 : lw_okq (⟨"SkewPlanModel", "goOn", "()V"⟩, 35) := ⟨⟨by decide +kernel, by decide +kernel⟩, List.mem_of_getElem? (i := 677) (by decide +kernel), List.mem_of_getElem? (i := 970) (by decide +kernel), List.mem_of_getElem? (i := 971) (by decide +kernel)⟩
theorem lw_p46 : lw_okq (⟨"SkewPlanModel", "nextFrom", "(I)I"⟩, 35) := ⟨⟨by decide +kernel, by decide +kernel⟩, List.mem_of_getElem? (i := 677) (by decide +kernel), List.mem_of_getElem? (i := 974) (by decide +kernel), List.mem_of_getElem? (i := 975) (by decide +kernel)⟩
theorem lw_p47 : lw_okq (⟨"SkewPlanModel", "isInRing", "(I)Z"⟩, 35) := ⟨⟨by decide +kernel, by decide +kernel⟩, List.mem_of_getElem? (i := 677) (by decide +kernel), List.mem_of_getElem? (i := 978) (by decide +kernel), List.mem_of_getElem? (i := 979) (by decide +kernel)⟩
def lw_privs_3 : List (MethodName × Nat) := [(⟨"SkewPlanModel", "isPath", "(I)Z"⟩, 35), (⟨"SkewPlanModel", "lateOf", "(II)I"⟩, 35), (⟨"SkewPlanModel", "soonOf", "(I)I"⟩, 35), (⟨"SkewPlanModel", "keepPast", "()V"⟩, 35), (⟨"SkewPlanModel", "isFeasible", "(II)Z"⟩, 35), (⟨"SkewPlanModel", "layBounds", "(II)V"⟩, 35), (⟨"SkewPlanModel", "areThere", "()Z"⟩, 35), (⟨"SkewPlanModel", "makesLess", "(III)Z"⟩, 35), (⟨"SkewPlanModel", "isRegister", "(I)Z"⟩, 35), (⟨"SkewPlanModel", "leastOf", "()I"⟩, 35), (⟨"SkewPlanModel", "isFeasibleBy", "(II)Z"⟩, 35), (⟨"SkewPlanModel", "layLeast", "()V"⟩, 35), (⟨"SkewPlanModel", "isBelow", "()Z"⟩, 35), (⟨"SkewPlanModel", "goOn", "()V"⟩, 35), (⟨"SkewPlanModel", "nextFrom", "(I)I"⟩, 35), (⟨"SkewPlanModel", "isInRing", "(I)Z"⟩, 35)]
theorem lw_r3 : ∀ q ∈ lw_privs_3, lw_okq q := List.forall_mem_cons.mpr ⟨lw_p32, List.forall_mem_cons.mpr ⟨lw_p33, List.forall_mem_cons.mpr ⟨lw_p34, List.forall_mem_cons.mpr ⟨lw_p35, List.forall_mem_cons.mpr ⟨lw_p36, List.forall_mem_cons.mpr ⟨lw_p37, List.forall_mem_cons.mpr ⟨lw_p38, List.forall_mem_cons.mpr ⟨lw_p39, List.forall_mem_cons.mpr ⟨lw_p40, List.forall_mem_cons.mpr ⟨lw_p41, List.forall_mem_cons.mpr ⟨lw_p42, List.forall_mem_cons.mpr ⟨lw_p43, List.forall_mem_cons.mpr ⟨lw_p44, List.forall_mem_cons.mpr ⟨lw_p45, List.forall_mem_cons.mpr ⟨lw_p46, List.forall_mem_cons.mpr ⟨lw_p47, fun _ h => absurd h List.not_mem_nil⟩⟩⟩⟩⟩⟩⟩⟩⟩⟩⟩⟩⟩⟩⟩⟩
theorem lw_p48 : lw_okq (⟨"SkewPlanModel", "noPlace", "(IIII)I"⟩, 35) := ⟨⟨by decide +kernel, by decide +kernel⟩, List.mem_of_getElem? (i := 677) (by decide +kernel), List.mem_of_getElem? (i := 1000) (by decide +kernel), List.mem_of_getElem? (i := 1001) (by decide +kernel)⟩
theorem lw_p49 : lw_okq (⟨"SkewPlanModel", "thousand", "(II)I"⟩, 35) := ⟨⟨by decide +kernel, by decide +kernel⟩, List.mem_of_getElem? (i := 677) (by decide +kernel), List.mem_of_getElem? (i := 1004) (by decide +kernel), List.mem_of_getElem? (i := 1005) (by decide +kernel)⟩
theorem lw_p50 : lw_okq (⟨"SkewPlanModel", "valueOf", "(II)D"⟩, 35) := ⟨⟨by decide +kernel, by decide +kernel⟩, List.mem_of_getElem? (i := 677) (by decide +kernel), List.mem_of_getElem? (i := 1030) (by decide +kernel), List.mem_of_getElem? (i := 1031) (by decide +kernel)⟩
theorem lw_p51 : lw_okq (⟨"SkewPlanModel", "allPlaces", "()I"⟩, 35) := ⟨⟨by decide +kernel, by decide +kernel⟩, List.mem_of_getElem? (i := 677) (by decide +kernel), List.mem_of_getElem? (i := 1046) (by decide +kernel), List.mem_of_getElem? (i := 1047) (by decide +kernel)⟩
theorem lw_p52 : lw_okq (⟨"SkewPlanModel", "tooSoon", "()I"⟩, 35) := ⟨⟨by decide +kernel, by decide +kernel⟩, List.mem_of_getElem? (i := 677) (by decide +kernel), List.mem_of_getElem? (i := 1050) (by decide +kernel), List.mem_of_getElem? (i := 1051) (by decide +kernel)⟩
def lw_privs_4 : List (MethodName × Nat) := [(⟨"SkewPlanModel", "noPlace", "(IIII)I"⟩, 35), (⟨"SkewPlanModel", "thousand", "(II)I"⟩, 35), (⟨"SkewPlanModel", "valueOf", "(II)D"⟩, 35), (⟨"SkewPlanModel", "allPlaces", "()I"⟩, 35), (⟨"SkewPlanModel", "tooSoon", "()I"⟩, 35)]
theorem lw_r4 : ∀ q ∈ lw_privs_4, lw_okq q := List.forall_mem_cons.mpr ⟨lw_p48, List.forall_mem_cons.mpr ⟨lw_p49, List.forall_mem_cons.mpr ⟨lw_p50, List.forall_mem_cons.mpr ⟨lw_p51, List.forall_mem_cons.mpr ⟨lw_p52, fun _ h => absurd h List.not_mem_nil⟩⟩⟩⟩⟩
def lw_privs : List (MethodName × Nat) := lw_privs_1 ++ (lw_privs_2 ++ (lw_privs_3 ++ (lw_privs_4)))
def lw_tbl : List Cond := k2_sels lw_privs ++ tables_1
theorem lw_privs_ok : ∀ q ∈ lw_privs, lw_okq q := by
  show ∀ q ∈ lw_privs_1 ++ (lw_privs_2 ++ (lw_privs_3 ++ (lw_privs_4))), lw_okq q
  exact List.forall_mem_append.mpr ⟨lw_r1, List.forall_mem_append.mpr ⟨lw_r2, List.forall_mem_append.mpr ⟨lw_r3, lw_r4⟩⟩⟩
/-- the streams that the claim lets the run draw from -/
abbrev lw_cs : List Choice := [Jvm.Choice.named "NaN.bits"]
theorem lw_bits : nanBits ∈ lw_cs := by first | decide | exact List.mem_cons_self | simp [lw_cs, nanBits]
-- ===== end of PART A; then your names; then what follows =====
def RX0 : String := "SkewPlan$1"
def TX0 : u_T := fun k => match k with
  | _ => ("", "", "", false)
def tyX0 : Nat → FieldType := fun k => match k with
  | _ => .int
abbrev wsX00 : List Cond := u_ws RX0 TX0 0
theorem nmX0 : ∀ a, a < 0 → ∀ b, b < 0 → a ≠ b → (TX0 a).2.1 ≠ (TX0 b).2.1 := by decide +kernel
theorem tyX0_ok : ∀ k, k < 0 → parseFieldDescriptor (TX0 k).2.2.1 = some (tyX0 k) := by decide +kernel
def RX1 : String := "SkewPlan$History"
def TX1 : u_T := fun k => match k with
  | 0 => ("SkewPlan$History", "paths", "[I", true)
  | 1 => ("SkewPlan$History", "amounts", "[I", true)
  | 2 => ("SkewPlan$History", "next", "I", false)
  | _ => ("SkewPlan$History", "size", "I", false)
def tyX1 : Nat → FieldType := fun k => match k with
  | 0 => .array .int
  | 1 => .array .int
  | 2 => .int
  | _ => .int
abbrev wsX10 : List Cond := u_ws RX1 TX1 4
theorem nmX1 : ∀ a, a < 4 → ∀ b, b < 4 → a ≠ b → (TX1 a).2.1 ≠ (TX1 b).2.1 := by decide +kernel
theorem tyX1_ok : ∀ k, k < 4 → parseFieldDescriptor (TX1 k).2.2.1 = some (tyX1 k) := by decide +kernel
abbrev cX1_init : ByteArray := prog_3_method_1_code
def yX1_init : MethodName := ⟨RX1, "<init>", "()V"⟩
abbrev cX1_size : ByteArray := prog_3_method_2_code
def yX1_size : MethodName := ⟨RX1, "size", "()I"⟩
abbrev cX1_clear : ByteArray := prog_3_method_3_code
def yX1_clear : MethodName := ⟨RX1, "clear", "()V"⟩
abbrev cX1_push : ByteArray := prog_3_method_4_code
def yX1_push : MethodName := ⟨RX1, "push", "(II)V"⟩
abbrev cX1_revertLatest : ByteArray := prog_3_method_5_code
def yX1_revertLatest : MethodName := ⟨RX1, "revertLatest", "(LSkewPlan$Net;)V"⟩
def RX2 : String := "SkewPlan$Net"
def TX2 : u_T := fun k => match k with
  | 0 => ("SkewPlan$Net", "registers", "I", false)
  | 1 => ("SkewPlan$Net", "setup", "I", false)
  | 2 => ("SkewPlan$Net", "hold", "I", false)
  | 3 => ("SkewPlan$Net", "step", "I", false)
  | 4 => ("SkewPlan$Net", "period", "I", false)
  | 5 => ("SkewPlan$Net", "paths", "I", false)
  | 6 => ("SkewPlan$Net", "from", "[I", true)
  | 7 => ("SkewPlan$Net", "to", "[I", true)
  | 8 => ("SkewPlan$Net", "longs", "[I", true)
  | _ => ("SkewPlan$Net", "shorts", "[I", true)
def tyX2 : Nat → FieldType := fun k => match k with
  | 0 => .int
  | 1 => .int
  | 2 => .int
  | 3 => .int
  | 4 => .int
  | 5 => .int
  | 6 => .array .int
  | 7 => .array .int
  | 8 => .array .int
  | _ => .array .int
abbrev wsX20 : List Cond := u_ws RX2 TX2 10
theorem nmX2 : ∀ a, a < 10 → ∀ b, b < 10 → a ≠ b → (TX2 a).2.1 ≠ (TX2 b).2.1 := by decide +kernel
theorem tyX2_ok : ∀ k, k < 10 → parseFieldDescriptor (TX2 k).2.2.1 = some (tyX2 k) := by decide +kernel
abbrev cX2_init : ByteArray := prog_4_method_1_code
def yX2_init : MethodName := ⟨RX2, "<init>", "()V"⟩
abbrev cX2_begin : ByteArray := prog_4_method_2_code
def yX2_begin : MethodName := ⟨RX2, "begin", "(I)V"⟩
abbrev cX2_copyFrom : ByteArray := prog_4_method_3_code
def yX2_copyFrom : MethodName := ⟨RX2, "copyFrom", "(LSkewPlan$Net;)V"⟩
abbrev cX2_tell : ByteArray := prog_4_method_4_code
def yX2_tell : MethodName := ⟨RX2, "tell", "(LSkewPlan$Word;I)V"⟩
abbrev cX2_hasAllPaths : ByteArray := prog_4_method_5_code
def yX2_hasAllPaths : MethodName := ⟨RX2, "hasAllPaths", "()Z"⟩
abbrev cX2_addPath : ByteArray := prog_4_method_6_code
def yX2_addPath : MethodName := ⟨RX2, "addPath", "(IIII)V"⟩
abbrev cX2_canBeSlower : ByteArray := prog_4_method_7_code
def yX2_canBeSlower : MethodName := ⟨RX2, "canBeSlower", "(II)Z"⟩
abbrev cX2_delay : ByteArray := prog_4_method_8_code
def yX2_delay : MethodName := ⟨RX2, "delay", "(II)V"⟩
abbrev cX2_lateBound : ByteArray := prog_4_method_9_code
def yX2_lateBound : MethodName := ⟨RX2, "lateBound", "(I)I"⟩
abbrev cX2_soonBound : ByteArray := prog_4_method_10_code
def yX2_soonBound : MethodName := ⟨RX2, "soonBound", "(I)I"⟩
abbrev cX2_tooSoonCount : ByteArray := prog_4_method_11_code
def yX2_tooSoonCount : MethodName := ⟨RX2, "tooSoonCount", "()I"⟩
def RX3 : String := "SkewPlan$Planner"
def TX3 : u_T := fun k => match k with
  | 0 => ("SkewPlan$Planner", "bounds", "[[I", true)
  | 1 => ("SkewPlan$Planner", "shifts", "[I", true)
  | 2 => ("SkewPlan$Planner", "ring", "[I", true)
  | 3 => ("SkewPlan$Planner", "registers", "I", false)
  | 4 => ("SkewPlan$Planner", "ringLength", "I", false)
  | 5 => ("SkewPlan$Planner", "rateAbove", "I", false)
  | _ => ("SkewPlan$Planner", "rateBelow", "I", false)
def tyX3 : Nat → FieldType := fun k => match k with
  | 0 => .array (.array .int)
  | 1 => .array .int
  | 2 => .array .int
  | 3 => .int
  | 4 => .int
  | 5 => .int
  | _ => .int
abbrev wsX30 : List Cond := u_ws RX3 TX3 7
theorem nmX3 : ∀ a, a < 7 → ∀ b, b < 7 → a ≠ b → (TX3 a).2.1 ≠ (TX3 b).2.1 := by decide +kernel
theorem tyX3_ok : ∀ k, k < 7 → parseFieldDescriptor (TX3 k).2.2.1 = some (tyX3 k) := by decide +kernel
abbrev cX3_init : ByteArray := prog_5_method_1_code
def yX3_init : MethodName := ⟨RX3, "<init>", "()V"⟩
abbrev cX3_shiftOf : ByteArray := prog_5_method_2_code
def yX3_shiftOf : MethodName := ⟨RX3, "shiftOf", "(I)I"⟩
abbrev cX3_ringLength : ByteArray := prog_5_method_3_code
def yX3_ringLength : MethodName := ⟨RX3, "ringLength", "()I"⟩
abbrev cX3_ringRegister : ByteArray := prog_5_method_4_code
def yX3_ringRegister : MethodName := ⟨RX3, "ringRegister", "(I)I"⟩
abbrev cX3_rateAbove : ByteArray := prog_5_method_5_code
def yX3_rateAbove : MethodName := ⟨RX3, "rateAbove", "()I"⟩
abbrev cX3_rateBelow : ByteArray := prog_5_method_6_code
def yX3_rateBelow : MethodName := ⟨RX3, "rateBelow", "()I"⟩
abbrev cX3_settlesNow : ByteArray := prog_5_method_7_code
def yX3_settlesNow : MethodName := ⟨RX3, "settlesNow", "(LSkewPlan$Net;)Z"⟩
abbrev cX3_settlesWithMargin : ByteArray := prog_5_method_8_code
def yX3_settlesWithMargin : MethodName := ⟨RX3, "settlesWithMargin", "(LSkewPlan$Net;I)Z"⟩
abbrev cX3_settlesAtPeriod : ByteArray := prog_5_method_9_code
def yX3_settlesAtPeriod : MethodName := ⟨RX3, "settlesAtPeriod", "(LSkewPlan$Net;III)Z"⟩
abbrev cX3_leastPeriod : ByteArray := prog_5_method_10_code
def yX3_leastPeriod : MethodName := ⟨RX3, "leastPeriod", "(LSkewPlan$Net;)I"⟩
abbrev cX3_leastPeriodAbove : ByteArray := prog_5_method_11_code
def yX3_leastPeriodAbove : MethodName := ⟨RX3, "leastPeriodAbove", "(LSkewPlan$Net;II)I"⟩
abbrev cX3_findRate : ByteArray := prog_5_method_12_code
def yX3_findRate : MethodName := ⟨RX3, "findRate", "(LSkewPlan$Net;)Z"⟩
abbrev cX3_greatestMargin : ByteArray := prog_5_method_13_code
def yX3_greatestMargin : MethodName := ⟨RX3, "greatestMargin", "(LSkewPlan$Net;)I"⟩
abbrev cX3_layBounds : ByteArray := prog_5_method_14_code
def yX3_layBounds : MethodName := ⟨RX3, "layBounds", "(LSkewPlan$Net;IIII)V"⟩
abbrev cX3_tighten : ByteArray := prog_5_method_15_code
def yX3_tighten : MethodName := ⟨RX3, "tighten", "(IIII)V"⟩
abbrev cX3_settle : ByteArray := prog_5_method_16_code
def yX3_settle : MethodName := ⟨RX3, "settle", "()Z"⟩
abbrev cX3_lowerOnce : ByteArray := prog_5_method_17_code
def yX3_lowerOnce : MethodName := ⟨RX3, "lowerOnce", "()Z"⟩
abbrev cX3_findRing : ByteArray := prog_5_method_18_code
def yX3_findRing : MethodName := ⟨RX3, "findRing", "()Z"⟩
abbrev cX3_closesFrom : ByteArray := prog_5_method_19_code
def yX3_closesFrom : MethodName := ⟨RX3, "closesFrom", "(II)Z"⟩
abbrev cX3_isInRing : ByteArray := prog_5_method_20_code
def yX3_isInRing : MethodName := ⟨RX3, "isInRing", "(II)Z"⟩
def RX4 : String := "SkewPlan$Text"
def TX4 : u_T := fun k => match k with
  | 0 => ("SkewPlan$Text", "letters", "[C", true)
  | 1 => ("SkewPlan$Text", "length", "I", false)
  | 2 => ("SkewPlan$Text", "clauses", "I", false)
  | 3 => ("SkewPlan$Text", "tokenStart", "I", false)
  | _ => ("SkewPlan$Text", "tokenEnd", "I", false)
def tyX4 : Nat → FieldType := fun k => match k with
  | 0 => .array .char
  | 1 => .int
  | 2 => .int
  | 3 => .int
  | _ => .int
abbrev wsX40 : List Cond := u_ws RX4 TX4 5
theorem nmX4 : ∀ a, a < 5 → ∀ b, b < 5 → a ≠ b → (TX4 a).2.1 ≠ (TX4 b).2.1 := by decide +kernel
theorem tyX4_ok : ∀ k, k < 5 → parseFieldDescriptor (TX4 k).2.2.1 = some (tyX4 k) := by decide +kernel
abbrev cX4_init : ByteArray := prog_6_method_1_code
def yX4_init : MethodName := ⟨RX4, "<init>", "()V"⟩
abbrev cX4_letterCount : ByteArray := prog_6_method_2_code
def yX4_letterCount : MethodName := ⟨RX4, "letterCount", "()I"⟩
abbrev cX4_clauseCount : ByteArray := prog_6_method_3_code
def yX4_clauseCount : MethodName := ⟨RX4, "clauseCount", "()I"⟩
abbrev cX4_clear : ByteArray := prog_6_method_4_code
def yX4_clear : MethodName := ⟨RX4, "clear", "()V"⟩
abbrev cX4_append : ByteArray := prog_6_method_5_code
def yX4_append : MethodName := ⟨RX4, "append", "(C)Z"⟩
abbrev cX4_read : ByteArray := prog_6_method_6_code
def yX4_read : MethodName := ⟨RX4, "read", "(LSkewPlan$Net;LSkewPlan$Net;)I"⟩
abbrev cX4_isAtEnd : ByteArray := prog_6_method_7_code
def yX4_isAtEnd : MethodName := ⟨RX4, "isAtEnd", "()Z"⟩
abbrev cX4_advance : ByteArray := prog_6_method_8_code
def yX4_advance : MethodName := ⟨RX4, "advance", "()V"⟩
abbrev cX4_isSmall : ByteArray := prog_6_method_9_code
def yX4_isSmall : MethodName := ⟨RX4, "isSmall", "(C)Z"⟩
abbrev cX4_isDigit : ByteArray := prog_6_method_10_code
def yX4_isDigit : MethodName := ⟨RX4, "isDigit", "(C)Z"⟩
abbrev cX4_readClause : ByteArray := prog_6_method_11_code
def yX4_readClause : MethodName := ⟨RX4, "readClause", "(LSkewPlan$Net;)Z"⟩
abbrev cX4_readPath : ByteArray := prog_6_method_12_code
def yX4_readPath : MethodName := ⟨RX4, "readPath", "(LSkewPlan$Net;)Z"⟩
abbrev cX4_wordHere : ByteArray := prog_6_method_13_code
def yX4_wordHere : MethodName := ⟨RX4, "wordHere", "()I"⟩
abbrev cX4_isSpelled : ByteArray := prog_6_method_14_code
def yX4_isSpelled : MethodName := ⟨RX4, "isSpelled", "(Ljava/lang/String;)Z"⟩
abbrev cX4_readNumber : ByteArray := prog_6_method_15_code
def yX4_readNumber : MethodName := ⟨RX4, "readNumber", "(II)I"⟩
def RX5 : String := "SkewPlan$Trace"
def TX5 : u_T := fun k => match k with
  | 0 => ("SkewPlan$Trace", "values", "[D", true)
  | 1 => ("SkewPlan$Trace", "isNoNumber", "[Z", true)
  | 2 => ("SkewPlan$Trace", "isPresent", "Z", false)
  | 3 => ("SkewPlan$Trace", "sort", "I", false)
  | _ => ("SkewPlan$Trace", "places", "I", false)
def tyX5 : Nat → FieldType := fun k => match k with
  | 0 => .array .double
  | 1 => .array .boolean
  | 2 => .boolean
  | 3 => .int
  | _ => .int
abbrev wsX50 : List Cond := u_ws RX5 TX5 5
theorem nmX5 : ∀ a, a < 5 → ∀ b, b < 5 → a ≠ b → (TX5 a).2.1 ≠ (TX5 b).2.1 := by decide +kernel
theorem tyX5_ok : ∀ k, k < 5 → parseFieldDescriptor (TX5 k).2.2.1 = some (tyX5 k) := by decide +kernel
abbrev cX5_init : ByteArray := prog_7_method_1_code
def yX5_init : MethodName := ⟨RX5, "<init>", "()V"⟩
abbrev cX5_isMissing : ByteArray := prog_7_method_2_code
def yX5_isMissing : MethodName := ⟨RX5, "isMissing", "()Z"⟩
abbrev cX5_placeCount : ByteArray := prog_7_method_3_code
def yX5_placeCount : MethodName := ⟨RX5, "placeCount", "()I"⟩
abbrev cX5_lose : ByteArray := prog_7_method_4_code
def yX5_lose : MethodName := ⟨RX5, "lose", "()V"⟩
abbrev cX5_renew : ByteArray := prog_7_method_5_code
def yX5_renew : MethodName := ⟨RX5, "renew", "(II)V"⟩
abbrev cX5_finding : ByteArray := prog_7_method_6_code
def yX5_finding : MethodName := ⟨RX5, "finding", "(III)I"⟩
abbrev cX5_putNumber : ByteArray := prog_7_method_7_code
def yX5_putNumber : MethodName := ⟨RX5, "putNumber", "(ID)V"⟩
abbrev cX5_putNoNumber : ByteArray := prog_7_method_8_code
def yX5_putNoNumber : MethodName := ⟨RX5, "putNoNumber", "(I)V"⟩
abbrev cX5_putQuotient : ByteArray := prog_7_method_9_code
def yX5_putQuotient : MethodName := ⟨RX5, "putQuotient", "(III)V"⟩
abbrev cX5_putRemainder : ByteArray := prog_7_method_10_code
def yX5_putRemainder : MethodName := ⟨RX5, "putRemainder", "(II)V"⟩
abbrev cX5_remainder : ByteArray := prog_7_method_11_code
def yX5_remainder : MethodName := ⟨RX5, "remainder", "(DD)D"⟩
abbrev cX5_isEndless : ByteArray := prog_7_method_12_code
def yX5_isEndless : MethodName := ⟨RX5, "isEndless", "(D)Z"⟩
abbrev cX5_order : ByteArray := prog_7_method_13_code
def yX5_order : MethodName := ⟨RX5, "order", "(II)I"⟩
abbrev cX5_thousandAt : ByteArray := prog_7_method_14_code
def yX5_thousandAt : MethodName := ⟨RX5, "thousandAt", "(I)I"⟩
abbrev cX5_thousandOfAll : ByteArray := prog_7_method_15_code
def yX5_thousandOfAll : MethodName := ⟨RX5, "thousandOfAll", "()I"⟩
abbrev cX5_cutThousand : ByteArray := prog_7_method_16_code
def yX5_cutThousand : MethodName := ⟨RX5, "cutThousand", "(D)I"⟩
abbrev cX5_noNumberCount : ByteArray := prog_7_method_17_code
def yX5_noNumberCount : MethodName := ⟨RX5, "noNumberCount", "()I"⟩
def RX6 : String := "SkewPlan$Word"
def TX6 : u_T := fun k => match k with
  | _ => ("", "", "", false)
def tyX6 : Nat → FieldType := fun k => match k with
  | _ => .int
abbrev wsX60 : List Cond := u_ws RX6 TX6 0
theorem nmX6 : ∀ a, a < 0 → ∀ b, b < 0 → a ≠ b → (TX6 a).2.1 ≠ (TX6 b).2.1 := by decide +kernel
theorem tyX6_ok : ∀ k, k < 0 → parseFieldDescriptor (TX6 k).2.2.1 = some (tyX6 k) := by decide +kernel
def RX7 : String := "SkewPlan"
def TX7 : u_T := fun k => match k with
  | 0 => ("SkewPlan", "text", "LSkewPlan$Text;", true)
  | 1 => ("SkewPlan", "told", "LSkewPlan$Net;", true)
  | 2 => ("SkewPlan", "now", "LSkewPlan$Net;", true)
  | 3 => ("SkewPlan", "scratch", "LSkewPlan$Net;", true)
  | 4 => ("SkewPlan", "kept", "[LSkewPlan$Net;", true)
  | 5 => ("SkewPlan", "isKept", "[Z", true)
  | 6 => ("SkewPlan", "history", "LSkewPlan$History;", true)
  | 7 => ("SkewPlan", "planner", "LSkewPlan$Planner;", true)
  | _ => ("SkewPlan", "traces", "[LSkewPlan$Trace;", true)
def tyX7 : Nat → FieldType := fun k => match k with
  | 0 => .object "SkewPlan$Text"
  | 1 => .object "SkewPlan$Net"
  | 2 => .object "SkewPlan$Net"
  | 3 => .object "SkewPlan$Net"
  | 4 => .array (.object "SkewPlan$Net")
  | 5 => .array .boolean
  | 6 => .object "SkewPlan$History"
  | 7 => .object "SkewPlan$Planner"
  | _ => .array (.object "SkewPlan$Trace")
abbrev wsX70 : List Cond := u_ws RX7 TX7 9
theorem nmX7 : ∀ a, a < 9 → ∀ b, b < 9 → a ≠ b → (TX7 a).2.1 ≠ (TX7 b).2.1 := by decide +kernel
theorem tyX7_ok : ∀ k, k < 9 → parseFieldDescriptor (TX7 k).2.2.1 = some (tyX7 k) := by decide +kernel
abbrev cX7_init : ByteArray := prog_1_method_1_code
def yX7_init : MethodName := ⟨RX7, "<init>", "()V"⟩
abbrev cX7_write : ByteArray := prog_1_method_2_code
def yX7_write : MethodName := ⟨RX7, "write", "(I)I"⟩
abbrev cX7_erase : ByteArray := prog_1_method_3_code
def yX7_erase : MethodName := ⟨RX7, "erase", "()I"⟩
abbrev cX7_fault : ByteArray := prog_1_method_4_code
def yX7_fault : MethodName := ⟨RX7, "fault", "()I"⟩
abbrev cX7_net : ByteArray := prog_1_method_5_code
def yX7_net : MethodName := ⟨RX7, "net", "()I"⟩
abbrev cX7_path : ByteArray := prog_1_method_6_code
def yX7_path : MethodName := ⟨RX7, "path", "(II)I"⟩
abbrev cX7_period : ByteArray := prog_1_method_7_code
def yX7_period : MethodName := ⟨RX7, "period", "(I)I"⟩
abbrev cX7_slower : ByteArray := prog_1_method_8_code
def yX7_slower : MethodName := ⟨RX7, "slower", "(II)I"⟩
abbrev cX7_undo : ByteArray := prog_1_method_9_code
def yX7_undo : MethodName := ⟨RX7, "undo", "()I"⟩
abbrev cX7_keep : ByteArray := prog_1_method_10_code
def yX7_keep : MethodName := ⟨RX7, "keep", "(I)I"⟩
abbrev cX7_back : ByteArray := prog_1_method_11_code
def yX7_back : MethodName := ⟨RX7, "back", "(I)I"⟩
abbrev cX7_feasible : ByteArray := prog_1_method_12_code
def yX7_feasible : MethodName := ⟨RX7, "feasible", "()I"⟩
abbrev cX7_shift : ByteArray := prog_1_method_13_code
def yX7_shift : MethodName := ⟨RX7, "shift", "(I)I"⟩
abbrev cX7_least : ByteArray := prog_1_method_14_code
def yX7_least : MethodName := ⟨RX7, "least", "()I"⟩
abbrev cX7_rate : ByteArray := prog_1_method_15_code
def yX7_rate : MethodName := ⟨RX7, "rate", "(I)I"⟩
abbrev cX7_margin : ByteArray := prog_1_method_16_code
def yX7_margin : MethodName := ⟨RX7, "margin", "()I"⟩
abbrev cX7_spare : ByteArray := prog_1_method_17_code
def yX7_spare : MethodName := ⟨RX7, "spare", "(II)I"⟩
abbrev cX7_cycle : ByteArray := prog_1_method_18_code
def yX7_cycle : MethodName := ⟨RX7, "cycle", "(I)I"⟩
abbrev cX7_buffer : ByteArray := prog_1_method_19_code
def yX7_buffer : MethodName := ⟨RX7, "buffer", "(I)I"⟩
abbrev cX7_trace : ByteArray := prog_1_method_20_code
def yX7_trace : MethodName := ⟨RX7, "trace", "(III)I"⟩
abbrev cX7_set : ByteArray := prog_1_method_21_code
def yX7_set : MethodName := ⟨RX7, "set", "(IIIII)I"⟩
abbrev cX7_get : ByteArray := prog_1_method_22_code
def yX7_get : MethodName := ⟨RX7, "get", "(III)I"⟩
abbrev cX7_rest : ByteArray := prog_1_method_23_code
def yX7_rest : MethodName := ⟨RX7, "rest", "(IIII)I"⟩
abbrev cX7_compare : ByteArray := prog_1_method_24_code
def yX7_compare : MethodName := ⟨RX7, "compare", "(IIII)I"⟩
abbrev cX7_sum : ByteArray := prog_1_method_25_code
def yX7_sum : MethodName := ⟨RX7, "sum", "(II)I"⟩
abbrev cX7_drop : ByteArray := prog_1_method_26_code
def yX7_drop : MethodName := ⟨RX7, "drop", "(I)I"⟩
abbrev cX7_count : ByteArray := prog_1_method_27_code
def yX7_count : MethodName := ⟨RX7, "count", "(I)I"⟩
abbrev cX7_isWithin : ByteArray := prog_1_method_28_code
def yX7_isWithin : MethodName := ⟨RX7, "isWithin", "(III)Z"⟩
abbrev cX7_isPath : ByteArray := prog_1_method_29_code
def yX7_isPath : MethodName := ⟨RX7, "isPath", "(I)Z"⟩
abbrev cX7_isKeptPlace : ByteArray := prog_1_method_30_code
def yX7_isKeptPlace : MethodName := ⟨RX7, "isKeptPlace", "(I)Z"⟩
abbrev cX7_isTrace : ByteArray := prog_1_method_31_code
def yX7_isTrace : MethodName := ⟨RX7, "isTrace", "(I)Z"⟩
abbrev cX7_isSort : ByteArray := prog_1_method_32_code
def yX7_isSort : MethodName := ⟨RX7, "isSort", "(I)Z"⟩
abbrev cX7_isQuotientPart : ByteArray := prog_1_method_33_code
def yX7_isQuotientPart : MethodName := ⟨RX7, "isQuotientPart", "(I)Z"⟩
abbrev cX7_traceRefusal : ByteArray := prog_1_method_34_code
def yX7_traceRefusal : MethodName := ⟨RX7, "traceRefusal", "(IIII)I"⟩
abbrev cX7_placesOfAllTraces : ByteArray := prog_1_method_35_code
def yX7_placesOfAllTraces : MethodName := ⟨RX7, "placesOfAllTraces", "()I"⟩
abbrev cX7_orAboveAll : ByteArray := prog_1_method_36_code
def yX7_orAboveAll : MethodName := ⟨RX7, "orAboveAll", "(I)I"⟩
def RX8 : String := "SkewPlanModel"
def TX8 : u_T := fun k => match k with
  | 0 => ("SkewPlanModel", "row", "[I", true)
  | 1 => ("SkewPlanModel", "registers", "I", false)
  | 2 => ("SkewPlanModel", "paths", "I", false)
  | 3 => ("SkewPlanModel", "from", "[I", true)
  | 4 => ("SkewPlanModel", "to", "[I", true)
  | 5 => ("SkewPlanModel", "setup", "I", false)
  | 6 => ("SkewPlanModel", "hold", "I", false)
  | 7 => ("SkewPlanModel", "step", "I", false)
  | 8 => ("SkewPlanModel", "undos", "I", false)
  | 9 => ("SkewPlanModel", "isKept", "[Z", true)
  | 10 => ("SkewPlanModel", "text", "[I", true)
  | 11 => ("SkewPlanModel", "length", "I", false)
  | 12 => ("SkewPlanModel", "sorts", "[I", true)
  | 13 => ("SkewPlanModel", "sizes", "[I", true)
  | 14 => ("SkewPlanModel", "floats", "[F", true)
  | 15 => ("SkewPlanModel", "doubles", "[D", true)
  | 16 => ("SkewPlanModel", "first", "I", false)
  | 17 => ("SkewPlanModel", "behind", "I", false)
  | 18 => ("SkewPlanModel", "readRegisters", "I", false)
  | 19 => ("SkewPlanModel", "readPaths", "I", false)
  | 20 => ("SkewPlanModel", "clauses", "I", false)
  | 21 => ("SkewPlanModel", "doing", "Z", false)
  | 22 => ("SkewPlanModel", "numbers", "[I", true)
  | 23 => ("SkewPlanModel", "netWord", "[I", true)
  | 24 => ("SkewPlanModel", "pathWord", "[I", true)
  | 25 => ("SkewPlanModel", "setupWord", "[I", true)
  | 26 => ("SkewPlanModel", "holdWord", "[I", true)
  | 27 => ("SkewPlanModel", "stepWord", "[I", true)
  | 28 => ("SkewPlanModel", "periodWord", "[I", true)
  | 29 => ("SkewPlanModel", "lates", "[I", true)
  | 30 => ("SkewPlanModel", "soons", "[I", true)
  | 31 => ("SkewPlanModel", "shifts", "[I", true)
  | 32 => ("SkewPlanModel", "bounds", "[I", true)
  | 33 => ("SkewPlanModel", "ring", "[I", true)
  | _ => ("SkewPlanModel", "ringMany", "I", false)
def tyX8 : Nat → FieldType := fun k => match k with
  | 0 => .array .int
  | 1 => .int
  | 2 => .int
  | 3 => .array .int
  | 4 => .array .int
  | 5 => .int
  | 6 => .int
  | 7 => .int
  | 8 => .int
  | 9 => .array .boolean
  | 10 => .array .int
  | 11 => .int
  | 12 => .array .int
  | 13 => .array .int
  | 14 => .array .float
  | 15 => .array .double
  | 16 => .int
  | 17 => .int
  | 18 => .int
  | 19 => .int
  | 20 => .int
  | 21 => .boolean
  | 22 => .array .int
  | 23 => .array .int
  | 24 => .array .int
  | 25 => .array .int
  | 26 => .array .int
  | 27 => .array .int
  | 28 => .array .int
  | 29 => .array .int
  | 30 => .array .int
  | 31 => .array .int
  | 32 => .array .int
  | 33 => .array .int
  | _ => .int
abbrev wsX80 : List Cond := u_ws RX8 TX8 35
theorem nmX8 : ∀ a, a < 35 → ∀ b, b < 35 → a ≠ b → (TX8 a).2.1 ≠ (TX8 b).2.1 := by decide +kernel
theorem tyX8_ok : ∀ k, k < 35 → parseFieldDescriptor (TX8 k).2.2.1 = some (tyX8 k) := by decide +kernel
abbrev cX8_init : ByteArray := prog_10_method_1_code
def yX8_init : MethodName := ⟨RX8, "<init>", "()V"⟩
abbrev cX8_in : ByteArray := prog_10_method_2_code
def yX8_in : MethodName := ⟨RX8, "in", "(JJJ)Z"⟩
abbrev cX8_copyRow : ByteArray := prog_10_method_3_code
def yX8_copyRow : MethodName := ⟨RX8, "copyRow", "(II)V"⟩
abbrev cX8_anew : ByteArray := prog_10_method_4_code
def yX8_anew : MethodName := ⟨RX8, "anew", "(I)V"⟩
abbrev cX8_write : ByteArray := prog_10_method_5_code
def yX8_write : MethodName := ⟨RX8, "write", "(I)I"⟩
abbrev cX8_erase : ByteArray := prog_10_method_6_code
def yX8_erase : MethodName := ⟨RX8, "erase", "()I"⟩
abbrev cX8_isLetter : ByteArray := prog_10_method_7_code
def yX8_isLetter : MethodName := ⟨RX8, "isLetter", "(I)Z"⟩
abbrev cX8_isDigit : ByteArray := prog_10_method_8_code
def yX8_isDigit : MethodName := ⟨RX8, "isDigit", "(I)Z"⟩
abbrev cX8_nextToken : ByteArray := prog_10_method_9_code
def yX8_nextToken : MethodName := ⟨RX8, "nextToken", "()V"⟩
abbrev cX8_isWord : ByteArray := prog_10_method_10_code
def yX8_isWord : MethodName := ⟨RX8, "isWord", "([I)Z"⟩
abbrev cX8_number : ByteArray := prog_10_method_11_code
def yX8_number : MethodName := ⟨RX8, "number", "(III)Z"⟩
abbrev cX8_wordHere : ByteArray := prog_10_method_12_code
def yX8_wordHere : MethodName := ⟨RX8, "wordHere", "()I"⟩
abbrev cX8_readsNumbers : ByteArray := prog_10_method_13_code
def yX8_readsNumbers : MethodName := ⟨RX8, "readsNumbers", "(I)Z"⟩
abbrev cX8_does : ByteArray := prog_10_method_14_code
def yX8_does : MethodName := ⟨RX8, "does", "(I)V"⟩
abbrev cX8_readsClause : ByteArray := prog_10_method_15_code
def yX8_readsClause : MethodName := ⟨RX8, "readsClause", "()Z"⟩
abbrev cX8_reads : ByteArray := prog_10_method_16_code
def yX8_reads : MethodName := ⟨RX8, "reads", "(Z)Z"⟩
abbrev cX8_fault : ByteArray := prog_10_method_17_code
def yX8_fault : MethodName := ⟨RX8, "fault", "()I"⟩
abbrev cX8_net : ByteArray := prog_10_method_18_code
def yX8_net : MethodName := ⟨RX8, "net", "()I"⟩
abbrev cX8_isPath : ByteArray := prog_10_method_19_code
def yX8_isPath : MethodName := ⟨RX8, "isPath", "(I)Z"⟩
abbrev cX8_isRegister : ByteArray := prog_10_method_20_code
def yX8_isRegister : MethodName := ⟨RX8, "isRegister", "(I)Z"⟩
abbrev cX8_lateOf : ByteArray := prog_10_method_21_code
def yX8_lateOf : MethodName := ⟨RX8, "lateOf", "(II)I"⟩
abbrev cX8_soonOf : ByteArray := prog_10_method_22_code
def yX8_soonOf : MethodName := ⟨RX8, "soonOf", "(I)I"⟩
abbrev cX8_path : ByteArray := prog_10_method_23_code
def yX8_path : MethodName := ⟨RX8, "path", "(II)I"⟩
abbrev cX8_keepPast : ByteArray := prog_10_method_24_code
def yX8_keepPast : MethodName := ⟨RX8, "keepPast", "()V"⟩
abbrev cX8_period : ByteArray := prog_10_method_25_code
def yX8_period : MethodName := ⟨RX8, "period", "(I)I"⟩
abbrev cX8_slower : ByteArray := prog_10_method_26_code
def yX8_slower : MethodName := ⟨RX8, "slower", "(II)I"⟩
abbrev cX8_undo : ByteArray := prog_10_method_27_code
def yX8_undo : MethodName := ⟨RX8, "undo", "()I"⟩
abbrev cX8_keep : ByteArray := prog_10_method_28_code
def yX8_keep : MethodName := ⟨RX8, "keep", "(I)I"⟩
abbrev cX8_back : ByteArray := prog_10_method_29_code
def yX8_back : MethodName := ⟨RX8, "back", "(I)I"⟩
abbrev cX8_floor : ByteArray := prog_10_method_30_code
def yX8_floor : MethodName := ⟨RX8, "floor", "(II)I"⟩
abbrev cX8_layBounds : ByteArray := prog_10_method_31_code
def yX8_layBounds : MethodName := ⟨RX8, "layBounds", "(II)V"⟩
abbrev cX8_makesLess : ByteArray := prog_10_method_32_code
def yX8_makesLess : MethodName := ⟨RX8, "makesLess", "(III)Z"⟩
abbrev cX8_areThere : ByteArray := prog_10_method_33_code
def yX8_areThere : MethodName := ⟨RX8, "areThere", "()Z"⟩
abbrev cX8_isFeasible : ByteArray := prog_10_method_34_code
def yX8_isFeasible : MethodName := ⟨RX8, "isFeasible", "(II)Z"⟩
abbrev cX8_feasible : ByteArray := prog_10_method_35_code
def yX8_feasible : MethodName := ⟨RX8, "feasible", "()I"⟩
abbrev cX8_shift : ByteArray := prog_10_method_36_code
def yX8_shift : MethodName := ⟨RX8, "shift", "(I)I"⟩
abbrev cX8_leastOf : ByteArray := prog_10_method_37_code
def yX8_leastOf : MethodName := ⟨RX8, "leastOf", "()I"⟩
abbrev cX8_least : ByteArray := prog_10_method_38_code
def yX8_least : MethodName := ⟨RX8, "least", "()I"⟩
abbrev cX8_isFeasibleBy : ByteArray := prog_10_method_39_code
def yX8_isFeasibleBy : MethodName := ⟨RX8, "isFeasibleBy", "(II)Z"⟩
abbrev cX8_rate : ByteArray := prog_10_method_40_code
def yX8_rate : MethodName := ⟨RX8, "rate", "(I)I"⟩
abbrev cX8_margin : ByteArray := prog_10_method_41_code
def yX8_margin : MethodName := ⟨RX8, "margin", "()I"⟩
abbrev cX8_spare : ByteArray := prog_10_method_42_code
def yX8_spare : MethodName := ⟨RX8, "spare", "(II)I"⟩
abbrev cX8_layLeast : ByteArray := prog_10_method_43_code
def yX8_layLeast : MethodName := ⟨RX8, "layLeast", "()V"⟩
abbrev cX8_isInRing : ByteArray := prog_10_method_44_code
def yX8_isInRing : MethodName := ⟨RX8, "isInRing", "(I)Z"⟩
abbrev cX8_isBelow : ByteArray := prog_10_method_45_code
def yX8_isBelow : MethodName := ⟨RX8, "isBelow", "()Z"⟩
abbrev cX8_nextFrom : ByteArray := prog_10_method_46_code
def yX8_nextFrom : MethodName := ⟨RX8, "nextFrom", "(I)I"⟩
abbrev cX8_goOn : ByteArray := prog_10_method_47_code
def yX8_goOn : MethodName := ⟨RX8, "goOn", "()V"⟩
abbrev cX8_cycle : ByteArray := prog_10_method_48_code
def yX8_cycle : MethodName := ⟨RX8, "cycle", "(I)I"⟩
abbrev cX8_buffer : ByteArray := prog_10_method_49_code
def yX8_buffer : MethodName := ⟨RX8, "buffer", "(I)I"⟩
abbrev cX8_isTrace : ByteArray := prog_10_method_50_code
def yX8_isTrace : MethodName := ⟨RX8, "isTrace", "(I)Z"⟩
abbrev cX8_trace : ByteArray := prog_10_method_51_code
def yX8_trace : MethodName := ⟨RX8, "trace", "(III)I"⟩
abbrev cX8_cut : ByteArray := prog_10_method_52_code
def yX8_cut : MethodName := ⟨RX8, "cut", "(D)I"⟩
abbrev cX8_thousand : ByteArray := prog_10_method_53_code
def yX8_thousand : MethodName := ⟨RX8, "thousand", "(II)I"⟩
abbrev cX8_noPlace : ByteArray := prog_10_method_54_code
def yX8_noPlace : MethodName := ⟨RX8, "noPlace", "(IIII)I"⟩
abbrev cX8_set : ByteArray := prog_10_method_55_code
def yX8_set : MethodName := ⟨RX8, "set", "(IIIII)I"⟩
abbrev cX8_get : ByteArray := prog_10_method_56_code
def yX8_get : MethodName := ⟨RX8, "get", "(III)I"⟩
abbrev cX8_rest : ByteArray := prog_10_method_57_code
def yX8_rest : MethodName := ⟨RX8, "rest", "(IIII)I"⟩
abbrev cX8_valueOf : ByteArray := prog_10_method_58_code
def yX8_valueOf : MethodName := ⟨RX8, "valueOf", "(II)D"⟩
abbrev cX8_compare : ByteArray := prog_10_method_59_code
def yX8_compare : MethodName := ⟨RX8, "compare", "(IIII)I"⟩
abbrev cX8_sum : ByteArray := prog_10_method_60_code
def yX8_sum : MethodName := ⟨RX8, "sum", "(II)I"⟩
abbrev cX8_drop : ByteArray := prog_10_method_61_code
def yX8_drop : MethodName := ⟨RX8, "drop", "(I)I"⟩
abbrev cX8_allPlaces : ByteArray := prog_10_method_62_code
def yX8_allPlaces : MethodName := ⟨RX8, "allPlaces", "()I"⟩
abbrev cX8_tooSoon : ByteArray := prog_10_method_63_code
def yX8_tooSoon : MethodName := ⟨RX8, "tooSoon", "()I"⟩
abbrev cX8_count : ByteArray := prog_10_method_64_code
def yX8_count : MethodName := ⟨RX8, "count", "(I)I"⟩
def RJx29ce0 : String := "java/lang/Enum"
def TJx29ce0 : u_T := fun k => match k with
  | _ => ("", "", "", false)
def tyJx29ce0 : Nat → FieldType := fun k => match k with
  | _ => .int
abbrev wsJx29ce00 : List Cond := u_ws RJx29ce0 TJx29ce0 0
theorem nmJx29ce0 : ∀ a, a < 0 → ∀ b, b < 0 → a ≠ b → (TJx29ce0 a).2.1 ≠ (TJx29ce0 b).2.1 := by decide +kernel
theorem tyJx29ce0_ok : ∀ k, k < 0 → parseFieldDescriptor (TJx29ce0 k).2.2.1 = some (tyJx29ce0 k) := by decide +kernel
abbrev cJx29ce0_ordinal_8abf5 : ByteArray := prog_11_method_2_code
def yJx29ce0_ordinal_8abf5 : MethodName := ⟨RJx29ce0, "ordinal", "()I"⟩
def RJ9 : String := "java/lang/Math"
def TJ9 : u_T := fun k => match k with
  | _ => ("", "", "", false)
def tyJ9 : Nat → FieldType := fun k => match k with
  | _ => .int
abbrev wsJ90 : List Cond := u_ws RJ9 TJ9 0
theorem nmJ9 : ∀ a, a < 0 → ∀ b, b < 0 → a ≠ b → (TJ9 a).2.1 ≠ (TJ9 b).2.1 := by decide +kernel
theorem tyJ9_ok : ∀ k, k < 0 → parseFieldDescriptor (TJ9 k).2.2.1 = some (tyJ9 k) := by decide +kernel
abbrev cJ9_floorDiv_7cf53 : ByteArray := prog_12_method_47_code
def yJ9_floorDiv_7cf53 : MethodName := ⟨RJ9, "floorDiv", "(II)I"⟩
abbrev cJ9_min_7cf53 : ByteArray := prog_12_method_69_code
def yJ9_min_7cf53 : MethodName := ⟨RJ9, "min", "(II)I"⟩
def RJ0 : String := "java/lang/String"
def TJ0 : u_T := fun k => match k with
  | _ => ("", "", "", false)
def tyJ0 : Nat → FieldType := fun k => match k with
  | _ => .int
abbrev wsJ00 : List Cond := u_ws RJ0 TJ0 0
theorem nmJ0 : ∀ a, a < 0 → ∀ b, b < 0 → a ≠ b → (TJ0 a).2.1 ≠ (TJ0 b).2.1 := by decide +kernel
theorem tyJ0_ok : ∀ k, k < 0 → parseFieldDescriptor (TJ0 k).2.2.1 = some (tyJ0 k) := by decide +kernel
abbrev cJ0_length_8abf5 : ByteArray := prog_13_method_54_code
def yJ0_length_8abf5 : MethodName := ⟨RJ0, "length", "()I"⟩
abbrev cJ0_charAt_5068e : ByteArray := prog_13_method_56_code
def yJ0_charAt_5068e : MethodName := ⟨RJ0, "charAt", "(I)C"⟩
abbrev cJ0_coder_7d493 : ByteArray := prog_13_method_152_code
def yJ0_coder_7d493 : MethodName := ⟨RJ0, "coder", "()B"⟩
abbrev cJ0_isLatin1_aae02 : ByteArray := prog_13_method_154_code
def yJ0_isLatin1_aae02 : MethodName := ⟨RJ0, "isLatin1", "()Z"⟩
abbrev cJ0_checkIndex_df160 : ByteArray := prog_13_method_155_code
def yJ0_checkIndex_df160 : MethodName := ⟨RJ0, "checkIndex", "(II)V"⟩
def RJ1 : String := "java/lang/StringLatin1"
def TJ1 : u_T := fun k => match k with
  | _ => ("", "", "", false)
def tyJ1 : Nat → FieldType := fun k => match k with
  | _ => .int
abbrev wsJ10 : List Cond := u_ws RJ1 TJ1 0
theorem nmJ1 : ∀ a, a < 0 → ∀ b, b < 0 → a ≠ b → (TJ1 a).2.1 ≠ (TJ1 b).2.1 := by decide +kernel
theorem tyJ1_ok : ∀ k, k < 0 → parseFieldDescriptor (TJ1 k).2.2.1 = some (tyJ1 k) := by decide +kernel
abbrev cJ1_charAt_3b067 : ByteArray := prog_14_method_2_code
def yJ1_charAt_3b067 : MethodName := ⟨RJ1, "charAt", "([BI)C"⟩
def RJ2 : String := "java/lang/StringUTF16"
def TJ2 : u_T := fun k => match k with
  | _ => ("", "", "", false)
def tyJ2 : Nat → FieldType := fun k => match k with
  | _ => .int
abbrev wsJ20 : List Cond := u_ws RJ2 TJ2 0
theorem nmJ2 : ∀ a, a < 0 → ∀ b, b < 0 → a ≠ b → (TJ2 a).2.1 ≠ (TJ2 b).2.1 := by decide +kernel
theorem tyJ2_ok : ∀ k, k < 0 → parseFieldDescriptor (TJ2 k).2.2.1 = some (tyJ2 k) := by decide +kernel
abbrev cJ2_getChar_3b067 : ByteArray := prog_15_method_5_code
def yJ2_getChar_3b067 : MethodName := ⟨RJ2, "getChar", "([BI)C"⟩
abbrev cJ2_length_9d52b : ByteArray := prog_15_method_6_code
def yJ2_length_9d52b : MethodName := ⟨RJ2, "length", "([B)I"⟩
abbrev cJ2_charAt_3b067 : ByteArray := prog_15_method_83_code
def yJ2_charAt_3b067 : MethodName := ⟨RJ2, "charAt", "([BI)C"⟩
abbrev cJ2_checkIndex_2214a : ByteArray := prog_15_method_91_code
def yJ2_checkIndex_2214a : MethodName := ⟨RJ2, "checkIndex", "(I[B)V"⟩
def RJ10 : String := "java/lang/System"
def TJ10 : u_T := fun k => match k with
  | _ => ("", "", "", false)
def tyJ10 : Nat → FieldType := fun k => match k with
  | _ => .int
abbrev wsJ100 : List Cond := u_ws RJ10 TJ10 0
theorem nmJ10 : ∀ a, a < 0 → ∀ b, b < 0 → a ≠ b → (TJ10 a).2.1 ≠ (TJ10 b).2.1 := by decide +kernel
theorem tyJ10_ok : ∀ k, k < 0 → parseFieldDescriptor (TJ10 k).2.2.1 = some (tyJ10 k) := by decide +kernel
def RJ3 : String := "jdk/internal/util/Preconditions"
def TJ3 : u_T := fun k => match k with
  | _ => ("", "", "", false)
def tyJ3 : Nat → FieldType := fun k => match k with
  | _ => .int
abbrev wsJ30 : List Cond := u_ws RJ3 TJ3 0
theorem nmJ3 : ∀ a, a < 0 → ∀ b, b < 0 → a ≠ b → (TJ3 a).2.1 ≠ (TJ3 b).2.1 := by decide +kernel
theorem tyJ3_ok : ∀ k, k < 0 → parseFieldDescriptor (TJ3 k).2.2.1 = some (tyJ3 k) := by decide +kernel
abbrev cJ3_checkIndex_8e157 : ByteArray := prog_17_method_11_code
def yJ3_checkIndex_8e157 : MethodName := ⟨RJ3, "checkIndex", "(IILjava/util/function/BiFunction;)I"⟩
def RL : String := "SkewPlanLaw"
abbrev cL_law : ByteArray := code
def yL_law : MethodName := ⟨RL, "law", "([I)Z"⟩
abbrev vwCl : List vw_C := [(RX1, TX1, 4), (RX2, TX2, 10), (RX3, TX3, 7), (RX4, TX4, 5), (RX5, TX5, 5), (RX7, TX7, 9), (RX8, TX8, 35)]
def g_all : List Cond := lw_tbl.filter goodWord
theorem g_w {w : Cond} (i : Nat) (h : tables_1[i]? = some w) (hg : goodWord w = true) : w ∈ g_all := List.mem_filter.mpr ⟨List.mem_append_right _ (List.mem_of_getElem? h), hg⟩
theorem g_s {w : Cond} (i : Nat) (h : (k2_sels lw_privs)[i]? = some w) (hg : goodWord w = true) : w ∈ g_all := List.mem_filter.mpr ⟨List.mem_append_left _ (List.mem_of_getElem? h), hg⟩
theorem g_in {ws : List Cond} (h : ws.all (fun w => decide (w ∈ tables_1) && goodWord w) = true) : ∀ w ∈ ws, w ∈ g_all := fun w hw => by
  have h1 := List.all_eq_true.mp h w hw
  simp only [Bool.and_eq_true, decide_eq_true_eq] at h1
  exact List.mem_filter.mpr ⟨List.mem_append_right _ h1.1, h1.2⟩
end
section
/-! the words, each by its place -/
theorem kw_0 : Cond.initialized RL ∈ g_all := g_w 0 (by decide +kernel) (by decide +kernel)
theorem kw_1 : Cond.initialized RX7 ∈ g_all := g_w 1 (by decide +kernel) (by decide +kernel)
theorem kw_2 : Cond.initialized RX4 ∈ g_all := g_w 2 (by decide +kernel) (by decide +kernel)
theorem kw_3 : Cond.initialized RX2 ∈ g_all := g_w 3 (by decide +kernel) (by decide +kernel)
theorem kw_4 : Cond.initialized RX1 ∈ g_all := g_w 4 (by decide +kernel) (by decide +kernel)
theorem kw_5 : Cond.initialized RX3 ∈ g_all := g_w 5 (by decide +kernel) (by decide +kernel)
theorem kw_6 : Cond.initialized RX5 ∈ g_all := g_w 6 (by decide +kernel) (by decide +kernel)
theorem kw_7 : Cond.initialized RX8 ∈ g_all := g_w 7 (by decide +kernel) (by decide +kernel)
theorem kw_8 : Cond.initialized RJ10 ∈ g_all := g_w 8 (by decide +kernel) (by decide +kernel)
theorem kw_9 : Cond.initialized RJ0 ∈ g_all := g_w 9 (by decide +kernel) (by decide +kernel)
theorem kw_10 : Cond.initialized RJ1 ∈ g_all := g_w 10 (by decide +kernel) (by decide +kernel)
theorem kw_11 : Cond.initialized RJ3 ∈ g_all := g_w 11 (by decide +kernel) (by decide +kernel)
theorem kw_12 : Cond.initialized RJ2 ∈ g_all := g_w 12 (by decide +kernel) (by decide +kernel)
theorem kw_13 : Cond.initialized RJx29ce0 ∈ g_all := g_w 13 (by decide +kernel) (by decide +kernel)
theorem kw_14 : Cond.initialized RX6 ∈ g_all := g_w 14 (by decide +kernel) (by decide +kernel)
theorem kw_15 : Cond.initialized RX0 ∈ g_all := g_w 15 (by decide +kernel) (by decide +kernel)
theorem kw_16 : Cond.initialized RJ9 ∈ g_all := g_w 16 (by decide +kernel) (by decide +kernel)
theorem kw_17 : Cond.classLink RL 7 RX7 ∈ g_all := g_w 17 (by decide +kernel) (by decide +kernel)
theorem kw_18 : Cond.instantiable RX7 9 ∈ g_all := g_w 18 (by decide +kernel) (by decide +kernel)
theorem kw_19 : Cond.methodLink RL 9 yX7_init ∈ g_all := g_w 19 (by decide +kernel) (by decide +kernel)
theorem kw_20 : Cond.instanceMethod yX7_init ∈ g_all := g_w 20 (by decide +kernel) (by decide +kernel)
theorem kw_21 : Cond.code yX7_init cX7_init 2 none ∈ g_all := g_w 21 (by decide +kernel) (by decide +kernel)
theorem kw_22 : Cond.methodLink RX7 1 ⟨"java/lang/Object", "<init>", "()V"⟩ ∈ g_all := g_w 22 (by decide +kernel) (by decide +kernel)
theorem kw_23 : Cond.instanceMethod ⟨"java/lang/Object", "<init>", "()V"⟩ ∈ g_all := g_w 23 (by decide +kernel) (by decide +kernel)
theorem kw_24 : Cond.code ⟨"java/lang/Object", "<init>", "()V"⟩ object_method_1_code 1 none ∈ g_all := g_w 24 (by decide +kernel) (by decide +kernel)
theorem kw_25 : Cond.classLink RX7 7 RX4 ∈ g_all := g_w 25 (by decide +kernel) (by decide +kernel)
theorem kw_26 : Cond.instantiable RX4 5 ∈ g_all := g_w 26 (by decide +kernel) (by decide +kernel)
theorem kw_28 : Cond.instanceMethod yX4_init ∈ g_all := g_w 28 (by decide +kernel) (by decide +kernel)
theorem kw_29 : Cond.code yX4_init cX4_init 1 none ∈ g_all := g_w 29 (by decide +kernel) (by decide +kernel)
theorem kw_30 : Cond.methodLink RX4 3 ⟨"java/lang/Object", "<init>", "()V"⟩ ∈ g_all := g_w 30 (by decide +kernel) (by decide +kernel)
theorem kw_31 : Cond.fieldLink RX4 9 "SkewPlan$Text" "letters" "[C" ∈ g_all := g_w 31 (by decide +kernel) (by decide +kernel)
theorem kw_32 : Cond.fieldLink RX4 15 "SkewPlan$Text" "length" "I" ∈ g_all := g_w 32 (by decide +kernel) (by decide +kernel)
theorem kw_33 : Cond.fieldLink RX4 19 "SkewPlan$Text" "clauses" "I" ∈ g_all := g_w 33 (by decide +kernel) (by decide +kernel)
theorem kw_34 : Cond.fieldLink RX4 38 "SkewPlan$Text" "tokenStart" "I" ∈ g_all := g_w 34 (by decide +kernel) (by decide +kernel)
theorem kw_35 : Cond.fieldLink RX4 28 "SkewPlan$Text" "tokenEnd" "I" ∈ g_all := g_w 35 (by decide +kernel) (by decide +kernel)
theorem kw_47 : Cond.arrayClass FieldType.char ∈ g_all := g_w 47 (by decide +kernel) (by decide +kernel)
theorem kw_48 : Cond.classLink RX7 16 RX2 ∈ g_all := g_w 48 (by decide +kernel) (by decide +kernel)
theorem kw_49 : Cond.instantiable RX2 10 ∈ g_all := g_w 49 (by decide +kernel) (by decide +kernel)
theorem kw_50 : Cond.methodLink RX7 18 yX2_init ∈ g_all := g_w 50 (by decide +kernel) (by decide +kernel)
theorem kw_51 : Cond.instanceMethod yX2_init ∈ g_all := g_w 51 (by decide +kernel) (by decide +kernel)
theorem kw_52 : Cond.code yX2_init cX2_init 1 none ∈ g_all := g_w 52 (by decide +kernel) (by decide +kernel)
theorem kw_53 : Cond.methodLink RX2 3 ⟨"java/lang/Object", "<init>", "()V"⟩ ∈ g_all := g_w 53 (by decide +kernel) (by decide +kernel)
theorem kw_54 : Cond.methodLink RX2 24 yX2_begin ∈ g_all := g_w 54 (by decide +kernel) (by decide +kernel)
theorem kw_56 : Cond.instanceMethod yX2_begin ∈ g_all := g_w 56 (by decide +kernel) (by decide +kernel)
theorem kw_57 : Cond.code yX2_begin cX2_begin 2 none ∈ g_all := g_w 57 (by decide +kernel) (by decide +kernel)
theorem kw_58 : Cond.fieldLink RX2 28 "SkewPlan$Net" "registers" "I" ∈ g_all := g_w 58 (by decide +kernel) (by decide +kernel)
theorem kw_62 : Cond.fieldLink RX2 32 "SkewPlan$Net" "setup" "I" ∈ g_all := g_w 62 (by decide +kernel) (by decide +kernel)
theorem kw_65 : Cond.fieldLink RX2 35 "SkewPlan$Net" "hold" "I" ∈ g_all := g_w 65 (by decide +kernel) (by decide +kernel)
theorem kw_67 : Cond.fieldLink RX2 38 "SkewPlan$Net" "step" "I" ∈ g_all := g_w 67 (by decide +kernel) (by decide +kernel)
theorem kw_70 : Cond.fieldLink RX2 41 "SkewPlan$Net" "period" "I" ∈ g_all := g_w 70 (by decide +kernel) (by decide +kernel)
theorem kw_74 : Cond.fieldLink RX2 44 "SkewPlan$Net" "paths" "I" ∈ g_all := g_w 74 (by decide +kernel) (by decide +kernel)
theorem kw_77 : Cond.fieldLink RX2 9 "SkewPlan$Net" "from" "[I" ∈ g_all := g_w 77 (by decide +kernel) (by decide +kernel)
theorem kw_80 : Cond.fieldLink RX2 15 "SkewPlan$Net" "to" "[I" ∈ g_all := g_w 80 (by decide +kernel) (by decide +kernel)
theorem kw_83 : Cond.fieldLink RX2 18 "SkewPlan$Net" "longs" "[I" ∈ g_all := g_w 83 (by decide +kernel) (by decide +kernel)
theorem kw_86 : Cond.fieldLink RX2 21 "SkewPlan$Net" "shorts" "[I" ∈ g_all := g_w 86 (by decide +kernel) (by decide +kernel)
theorem kw_109 : Cond.arrayClass FieldType.int ∈ g_all := g_w 109 (by decide +kernel) (by decide +kernel)
theorem kw_111 : Cond.classLink RX7 37 RX1 ∈ g_all := g_w 111 (by decide +kernel) (by decide +kernel)
theorem kw_112 : Cond.instantiable RX1 4 ∈ g_all := g_w 112 (by decide +kernel) (by decide +kernel)
theorem kw_114 : Cond.instanceMethod yX1_init ∈ g_all := g_w 114 (by decide +kernel) (by decide +kernel)
theorem kw_115 : Cond.code yX1_init cX1_init 1 none ∈ g_all := g_w 115 (by decide +kernel) (by decide +kernel)
theorem kw_116 : Cond.methodLink RX1 3 ⟨"java/lang/Object", "<init>", "()V"⟩ ∈ g_all := g_w 116 (by decide +kernel) (by decide +kernel)
theorem kw_117 : Cond.fieldLink RX1 9 "SkewPlan$History" "paths" "[I" ∈ g_all := g_w 117 (by decide +kernel) (by decide +kernel)
theorem kw_118 : Cond.fieldLink RX1 15 "SkewPlan$History" "amounts" "[I" ∈ g_all := g_w 118 (by decide +kernel) (by decide +kernel)
theorem kw_119 : Cond.fieldLink RX1 22 "SkewPlan$History" "next" "I" ∈ g_all := g_w 119 (by decide +kernel) (by decide +kernel)
theorem kw_120 : Cond.fieldLink RX1 18 "SkewPlan$History" "size" "I" ∈ g_all := g_w 120 (by decide +kernel) (by decide +kernel)
theorem kw_130 : Cond.arrayClass FieldType.boolean ∈ g_all := g_w 130 (by decide +kernel) (by decide +kernel)
theorem kw_131 : Cond.classLink RX7 44 RX3 ∈ g_all := g_w 131 (by decide +kernel) (by decide +kernel)
theorem kw_132 : Cond.instantiable RX3 7 ∈ g_all := g_w 132 (by decide +kernel) (by decide +kernel)
theorem kw_134 : Cond.instanceMethod yX3_init ∈ g_all := g_w 134 (by decide +kernel) (by decide +kernel)
theorem kw_135 : Cond.code yX3_init cX3_init 1 none ∈ g_all := g_w 135 (by decide +kernel) (by decide +kernel)
theorem kw_136 : Cond.methodLink RX3 5 ⟨"java/lang/Object", "<init>", "()V"⟩ ∈ g_all := g_w 136 (by decide +kernel) (by decide +kernel)
theorem kw_137 : Cond.classLink RX3 11 "[[I" ∈ g_all := g_w 137 (by decide +kernel) (by decide +kernel)
theorem kw_139 : Cond.fieldLink RX3 13 "SkewPlan$Planner" "bounds" "[[I" ∈ g_all := g_w 139 (by decide +kernel) (by decide +kernel)
theorem kw_140 : Cond.fieldLink RX3 18 "SkewPlan$Planner" "shifts" "[I" ∈ g_all := g_w 140 (by decide +kernel) (by decide +kernel)
theorem kw_141 : Cond.fieldLink RX3 22 "SkewPlan$Planner" "ring" "[I" ∈ g_all := g_w 141 (by decide +kernel) (by decide +kernel)
theorem kw_142 : Cond.fieldLink RX3 72 "SkewPlan$Planner" "registers" "I" ∈ g_all := g_w 142 (by decide +kernel) (by decide +kernel)
theorem kw_143 : Cond.fieldLink RX3 25 "SkewPlan$Planner" "ringLength" "I" ∈ g_all := g_w 143 (by decide +kernel) (by decide +kernel)
theorem kw_144 : Cond.fieldLink RX3 29 "SkewPlan$Planner" "rateAbove" "I" ∈ g_all := g_w 144 (by decide +kernel) (by decide +kernel)
theorem kw_145 : Cond.fieldLink RX3 32 "SkewPlan$Planner" "rateBelow" "I" ∈ g_all := g_w 145 (by decide +kernel) (by decide +kernel)
theorem kw_161 : Cond.classLink RX7 51 RX5 ∈ g_all := g_w 161 (by decide +kernel) (by decide +kernel)
theorem kw_163 : Cond.instantiable RX5 5 ∈ g_all := g_w 163 (by decide +kernel) (by decide +kernel)
theorem kw_165 : Cond.instanceMethod yX5_init ∈ g_all := g_w 165 (by decide +kernel) (by decide +kernel)
theorem kw_166 : Cond.code yX5_init cX5_init 1 none ∈ g_all := g_w 166 (by decide +kernel) (by decide +kernel)
theorem kw_167 : Cond.methodLink RX5 3 ⟨"java/lang/Object", "<init>", "()V"⟩ ∈ g_all := g_w 167 (by decide +kernel) (by decide +kernel)
theorem kw_168 : Cond.fieldLink RX5 9 "SkewPlan$Trace" "values" "[D" ∈ g_all := g_w 168 (by decide +kernel) (by decide +kernel)
theorem kw_169 : Cond.fieldLink RX5 15 "SkewPlan$Trace" "isNoNumber" "[Z" ∈ g_all := g_w 169 (by decide +kernel) (by decide +kernel)
theorem kw_170 : Cond.fieldLink RX5 19 "SkewPlan$Trace" "isPresent" "Z" ∈ g_all := g_w 170 (by decide +kernel) (by decide +kernel)
theorem kw_171 : Cond.fieldLink RX5 27 "SkewPlan$Trace" "sort" "I" ∈ g_all := g_w 171 (by decide +kernel) (by decide +kernel)
theorem kw_172 : Cond.fieldLink RX5 23 "SkewPlan$Trace" "places" "I" ∈ g_all := g_w 172 (by decide +kernel) (by decide +kernel)
theorem kw_184 : Cond.arrayClass FieldType.double ∈ g_all := g_w 184 (by decide +kernel) (by decide +kernel)
theorem kw_185 : Cond.fieldLink RX7 10 "SkewPlan" "text" "LSkewPlan$Text;" ∈ g_all := g_w 185 (by decide +kernel) (by decide +kernel)
theorem kw_186 : Cond.fieldLink RX7 19 "SkewPlan" "told" "LSkewPlan$Net;" ∈ g_all := g_w 186 (by decide +kernel) (by decide +kernel)
theorem kw_187 : Cond.fieldLink RX7 23 "SkewPlan" "now" "LSkewPlan$Net;" ∈ g_all := g_w 187 (by decide +kernel) (by decide +kernel)
theorem kw_188 : Cond.fieldLink RX7 26 "SkewPlan" "scratch" "LSkewPlan$Net;" ∈ g_all := g_w 188 (by decide +kernel) (by decide +kernel)
theorem kw_189 : Cond.fieldLink RX7 29 "SkewPlan" "kept" "[LSkewPlan$Net;" ∈ g_all := g_w 189 (by decide +kernel) (by decide +kernel)
theorem kw_190 : Cond.fieldLink RX7 33 "SkewPlan" "isKept" "[Z" ∈ g_all := g_w 190 (by decide +kernel) (by decide +kernel)
theorem kw_191 : Cond.fieldLink RX7 40 "SkewPlan" "history" "LSkewPlan$History;" ∈ g_all := g_w 191 (by decide +kernel) (by decide +kernel)
theorem kw_192 : Cond.fieldLink RX7 47 "SkewPlan" "planner" "LSkewPlan$Planner;" ∈ g_all := g_w 192 (by decide +kernel) (by decide +kernel)
theorem kw_193 : Cond.fieldLink RX7 53 "SkewPlan" "traces" "[LSkewPlan$Trace;" ∈ g_all := g_w 193 (by decide +kernel) (by decide +kernel)
theorem kw_213 : Cond.methodLink RL 13 yX7_write ∈ g_all := g_w 213 (by decide +kernel) (by decide +kernel)
theorem kw_214 : Cond.instanceMethod yX7_write ∈ g_all := g_w 214 (by decide +kernel) (by decide +kernel)
theorem kw_215 : Cond.selects RX7 yX7_write yX7_write ∈ g_all := g_w 215 (by decide +kernel) (by decide +kernel)
theorem kw_216 : Cond.code yX7_write cX7_write 2 (some FieldType.int) ∈ g_all := g_w 216 (by decide +kernel) (by decide +kernel)
theorem kw_217 : Cond.methodLink RX7 58 yX7_isWithin ∈ g_all := g_w 217 (by decide +kernel) (by decide +kernel)
theorem kw_218 : Cond.static yX7_isWithin ∈ g_all := g_w 218 (by decide +kernel) (by decide +kernel)
theorem kw_219 : Cond.code yX7_isWithin cX7_isWithin 3 (some FieldType.boolean) ∈ g_all := g_w 219 (by decide +kernel) (by decide +kernel)
theorem kw_220 : Cond.methodLink RX7 62 yX4_append ∈ g_all := g_w 220 (by decide +kernel) (by decide +kernel)
theorem kw_221 : Cond.instanceMethod yX4_append ∈ g_all := g_w 221 (by decide +kernel) (by decide +kernel)
theorem kw_222 : Cond.selects RX4 yX4_append yX4_append ∈ g_all := g_w 222 (by decide +kernel) (by decide +kernel)
theorem kw_223 : Cond.code yX4_append cX4_append 2 (some FieldType.boolean) ∈ g_all := g_w 223 (by decide +kernel) (by decide +kernel)
theorem kw_224 : Cond.methodLink RX7 66 yX4_letterCount ∈ g_all := g_w 224 (by decide +kernel) (by decide +kernel)
theorem kw_225 : Cond.instanceMethod yX4_letterCount ∈ g_all := g_w 225 (by decide +kernel) (by decide +kernel)
theorem kw_226 : Cond.selects RX4 yX4_letterCount yX4_letterCount ∈ g_all := g_w 226 (by decide +kernel) (by decide +kernel)
theorem kw_227 : Cond.code yX4_letterCount cX4_letterCount 1 (some FieldType.int) ∈ g_all := g_w 227 (by decide +kernel) (by decide +kernel)
theorem kw_228 : Cond.methodLink RL 18 yX7_erase ∈ g_all := g_w 228 (by decide +kernel) (by decide +kernel)
theorem kw_229 : Cond.instanceMethod yX7_erase ∈ g_all := g_w 229 (by decide +kernel) (by decide +kernel)
theorem kw_230 : Cond.selects RX7 yX7_erase yX7_erase ∈ g_all := g_w 230 (by decide +kernel) (by decide +kernel)
theorem kw_231 : Cond.code yX7_erase cX7_erase 2 (some FieldType.int) ∈ g_all := g_w 231 (by decide +kernel) (by decide +kernel)
theorem kw_232 : Cond.methodLink RX7 70 yX4_clear ∈ g_all := g_w 232 (by decide +kernel) (by decide +kernel)
theorem kw_233 : Cond.instanceMethod yX4_clear ∈ g_all := g_w 233 (by decide +kernel) (by decide +kernel)
theorem kw_234 : Cond.selects RX4 yX4_clear yX4_clear ∈ g_all := g_w 234 (by decide +kernel) (by decide +kernel)
theorem kw_235 : Cond.code yX4_clear cX4_clear 1 none ∈ g_all := g_w 235 (by decide +kernel) (by decide +kernel)
theorem kw_236 : Cond.methodLink RL 23 yX7_fault ∈ g_all := g_w 236 (by decide +kernel) (by decide +kernel)
theorem kw_237 : Cond.instanceMethod yX7_fault ∈ g_all := g_w 237 (by decide +kernel) (by decide +kernel)
theorem kw_238 : Cond.selects RX7 yX7_fault yX7_fault ∈ g_all := g_w 238 (by decide +kernel) (by decide +kernel)
theorem kw_239 : Cond.code yX7_fault cX7_fault 1 (some FieldType.int) ∈ g_all := g_w 239 (by decide +kernel) (by decide +kernel)
theorem kw_240 : Cond.methodLink RX7 73 yX4_read ∈ g_all := g_w 240 (by decide +kernel) (by decide +kernel)
theorem kw_241 : Cond.instanceMethod yX4_read ∈ g_all := g_w 241 (by decide +kernel) (by decide +kernel)
theorem kw_242 : Cond.selects RX4 yX4_read yX4_read ∈ g_all := g_w 242 (by decide +kernel) (by decide +kernel)
theorem kw_243 : Cond.code yX4_read cX4_read 4 (some FieldType.int) ∈ g_all := g_w 243 (by decide +kernel) (by decide +kernel)
theorem kw_244 : Cond.methodLink RX4 22 yX2_copyFrom ∈ g_all := g_w 244 (by decide +kernel) (by decide +kernel)
theorem kw_245 : Cond.instanceMethod yX2_copyFrom ∈ g_all := g_w 245 (by decide +kernel) (by decide +kernel)
theorem kw_246 : Cond.selects RX2 yX2_copyFrom yX2_copyFrom ∈ g_all := g_w 246 (by decide +kernel) (by decide +kernel)
theorem kw_247 : Cond.code yX2_copyFrom cX2_copyFrom 2 none ∈ g_all := g_w 247 (by decide +kernel) (by decide +kernel)
theorem kw_248 : Cond.methodLink RX2 47 ⟨"java/lang/System", "arraycopy", "(Ljava/lang/Object;ILjava/lang/Object;II)V"⟩ ∈ g_all := g_w 248 (by decide +kernel) (by decide +kernel)
theorem kw_249 : Cond.static ⟨"java/lang/System", "arraycopy", "(Ljava/lang/Object;ILjava/lang/Object;II)V"⟩ ∈ g_all := g_w 249 (by decide +kernel) (by decide +kernel)
theorem kw_250 : Cond.native ⟨"java/lang/System", "arraycopy", "(Ljava/lang/Object;ILjava/lang/Object;II)V"⟩ ∈ g_all := g_w 250 (by decide +kernel) (by decide +kernel)
theorem kw_251 : Cond.methodLink RX4 31 yX4_advance ∈ g_all := g_w 251 (by decide +kernel) (by decide +kernel)
theorem kw_253 : Cond.instanceMethod yX4_advance ∈ g_all := g_w 253 (by decide +kernel) (by decide +kernel)
theorem kw_254 : Cond.code yX4_advance cX4_advance 2 none ∈ g_all := g_w 254 (by decide +kernel) (by decide +kernel)
theorem kw_255 : Cond.methodLink RX4 41 yX4_isAtEnd ∈ g_all := g_w 255 (by decide +kernel) (by decide +kernel)
theorem kw_257 : Cond.instanceMethod yX4_isAtEnd ∈ g_all := g_w 257 (by decide +kernel) (by decide +kernel)
theorem kw_258 : Cond.code yX4_isAtEnd cX4_isAtEnd 1 (some FieldType.boolean) ∈ g_all := g_w 258 (by decide +kernel) (by decide +kernel)
theorem kw_259 : Cond.methodLink RX4 45 yX4_isSmall ∈ g_all := g_w 259 (by decide +kernel) (by decide +kernel)
theorem kw_260 : Cond.static yX4_isSmall ∈ g_all := g_w 260 (by decide +kernel) (by decide +kernel)
theorem kw_261 : Cond.code yX4_isSmall cX4_isSmall 1 (some FieldType.boolean) ∈ g_all := g_w 261 (by decide +kernel) (by decide +kernel)
theorem kw_262 : Cond.methodLink RX4 49 yX4_isDigit ∈ g_all := g_w 262 (by decide +kernel) (by decide +kernel)
theorem kw_263 : Cond.static yX4_isDigit ∈ g_all := g_w 263 (by decide +kernel) (by decide +kernel)
theorem kw_264 : Cond.code yX4_isDigit cX4_isDigit 1 (some FieldType.boolean) ∈ g_all := g_w 264 (by decide +kernel) (by decide +kernel)
theorem kw_265 : Cond.methodLink RX4 34 yX4_readClause ∈ g_all := g_w 265 (by decide +kernel) (by decide +kernel)
theorem kw_267 : Cond.instanceMethod yX4_readClause ∈ g_all := g_w 267 (by decide +kernel) (by decide +kernel)
theorem kw_268 : Cond.code yX4_readClause cX4_readClause 5 (some FieldType.boolean) ∈ g_all := g_w 268 (by decide +kernel) (by decide +kernel)
theorem kw_269 : Cond.methodLink RX4 52 yX4_wordHere ∈ g_all := g_w 269 (by decide +kernel) (by decide +kernel)
theorem kw_271 : Cond.instanceMethod yX4_wordHere ∈ g_all := g_w 271 (by decide +kernel) (by decide +kernel)
theorem kw_272 : Cond.code yX4_wordHere cX4_wordHere 2 (some FieldType.int) ∈ g_all := g_w 272 (by decide +kernel) (by decide +kernel)
theorem kw_275 : Cond.methodLink RX4 97 yX4_isSpelled ∈ g_all := g_w 275 (by decide +kernel) (by decide +kernel)
theorem kw_277 : Cond.instanceMethod yX4_isSpelled ∈ g_all := g_w 277 (by decide +kernel) (by decide +kernel)
theorem kw_278 : Cond.code yX4_isSpelled cX4_isSpelled 3 (some FieldType.boolean) ∈ g_all := g_w 278 (by decide +kernel) (by decide +kernel)
theorem kw_279 : Cond.methodLink RX4 101 yJ0_length_8abf5 ∈ g_all := g_w 279 (by decide +kernel) (by decide +kernel)
theorem kw_280 : Cond.instanceMethod yJ0_length_8abf5 ∈ g_all := g_w 280 (by decide +kernel) (by decide +kernel)
theorem kw_281 : Cond.selects RJ0 yJ0_length_8abf5 yJ0_length_8abf5 ∈ g_all := g_w 281 (by decide +kernel) (by decide +kernel)
theorem kw_282 : Cond.code yJ0_length_8abf5 cJ0_length_8abf5 1 (some FieldType.int) ∈ g_all := g_w 282 (by decide +kernel) (by decide +kernel)
theorem kw_283 : Cond.methodLink RJ0 335 yJ0_coder_7d493 ∈ g_all := g_w 283 (by decide +kernel) (by decide +kernel)
theorem kw_284 : Cond.instanceMethod yJ0_coder_7d493 ∈ g_all := g_w 284 (by decide +kernel) (by decide +kernel)
theorem kw_285 : Cond.selects RJ0 yJ0_coder_7d493 yJ0_coder_7d493 ∈ g_all := g_w 285 (by decide +kernel) (by decide +kernel)
theorem kw_286 : Cond.code yJ0_coder_7d493 cJ0_coder_7d493 1 (some FieldType.byte) ∈ g_all := g_w 286 (by decide +kernel) (by decide +kernel)
theorem kw_287 : Cond.fieldLink RJ0 38 "java/lang/String" "COMPACT_STRINGS" "Z" ∈ g_all := g_w 287 (by decide +kernel) (by decide +kernel)
theorem kw_289 : Cond.methodLink RX4 105 yJ0_charAt_5068e ∈ g_all := g_w 289 (by decide +kernel) (by decide +kernel)
theorem kw_290 : Cond.instanceMethod yJ0_charAt_5068e ∈ g_all := g_w 290 (by decide +kernel) (by decide +kernel)
theorem kw_291 : Cond.selects RJ0 yJ0_charAt_5068e yJ0_charAt_5068e ∈ g_all := g_w 291 (by decide +kernel) (by decide +kernel)
theorem kw_292 : Cond.code yJ0_charAt_5068e cJ0_charAt_5068e 2 (some FieldType.char) ∈ g_all := g_w 292 (by decide +kernel) (by decide +kernel)
theorem kw_293 : Cond.methodLink RJ0 492 yJ0_isLatin1_aae02 ∈ g_all := g_w 293 (by decide +kernel) (by decide +kernel)
theorem kw_294 : Cond.instanceMethod yJ0_isLatin1_aae02 ∈ g_all := g_w 294 (by decide +kernel) (by decide +kernel)
theorem kw_295 : Cond.selects RJ0 yJ0_isLatin1_aae02 yJ0_isLatin1_aae02 ∈ g_all := g_w 295 (by decide +kernel) (by decide +kernel)
theorem kw_296 : Cond.code yJ0_isLatin1_aae02 cJ0_isLatin1_aae02 1 (some FieldType.boolean) ∈ g_all := g_w 296 (by decide +kernel) (by decide +kernel)
theorem kw_297 : Cond.methodLink RJ0 495 yJ1_charAt_3b067 ∈ g_all := g_w 297 (by decide +kernel) (by decide +kernel)
theorem kw_298 : Cond.static yJ1_charAt_3b067 ∈ g_all := g_w 298 (by decide +kernel) (by decide +kernel)
theorem kw_299 : Cond.code yJ1_charAt_3b067 cJ1_charAt_3b067 2 (some FieldType.char) ∈ g_all := g_w 299 (by decide +kernel) (by decide +kernel)
theorem kw_300 : Cond.methodLink RJ1 9 yJ0_checkIndex_df160 ∈ g_all := g_w 300 (by decide +kernel) (by decide +kernel)
theorem kw_301 : Cond.static yJ0_checkIndex_df160 ∈ g_all := g_w 301 (by decide +kernel) (by decide +kernel)
theorem kw_302 : Cond.code yJ0_checkIndex_df160 cJ0_checkIndex_df160 2 none ∈ g_all := g_w 302 (by decide +kernel) (by decide +kernel)
theorem kw_303 : Cond.fieldLink RJ0 1053 "jdk/internal/util/Preconditions" "SIOOBE_FORMATTER" "Ljava/util/function/BiFunction;" ∈ g_all := g_w 303 (by decide +kernel) (by decide +kernel)
theorem kw_305 : Cond.methodLink RJ0 1059 yJ3_checkIndex_8e157 ∈ g_all := g_w 305 (by decide +kernel) (by decide +kernel)
theorem kw_306 : Cond.static yJ3_checkIndex_8e157 ∈ g_all := g_w 306 (by decide +kernel) (by decide +kernel)
theorem kw_307 : Cond.code yJ3_checkIndex_8e157 cJ3_checkIndex_8e157 3 (some FieldType.int) ∈ g_all := g_w 307 (by decide +kernel) (by decide +kernel)
theorem kw_308 : Cond.methodLink RJ0 498 yJ2_charAt_3b067 ∈ g_all := g_w 308 (by decide +kernel) (by decide +kernel)
theorem kw_309 : Cond.static yJ2_charAt_3b067 ∈ g_all := g_w 309 (by decide +kernel) (by decide +kernel)
theorem kw_310 : Cond.code yJ2_charAt_3b067 cJ2_charAt_3b067 2 (some FieldType.char) ∈ g_all := g_w 310 (by decide +kernel) (by decide +kernel)
theorem kw_311 : Cond.methodLink RJ2 67 yJ2_checkIndex_2214a ∈ g_all := g_w 311 (by decide +kernel) (by decide +kernel)
theorem kw_312 : Cond.static yJ2_checkIndex_2214a ∈ g_all := g_w 312 (by decide +kernel) (by decide +kernel)
theorem kw_313 : Cond.code yJ2_checkIndex_2214a cJ2_checkIndex_2214a 2 none ∈ g_all := g_w 313 (by decide +kernel) (by decide +kernel)
theorem kw_314 : Cond.methodLink RJ2 48 yJ2_length_9d52b ∈ g_all := g_w 314 (by decide +kernel) (by decide +kernel)
theorem kw_315 : Cond.static yJ2_length_9d52b ∈ g_all := g_w 315 (by decide +kernel) (by decide +kernel)
theorem kw_316 : Cond.code yJ2_length_9d52b cJ2_length_9d52b 1 (some FieldType.int) ∈ g_all := g_w 316 (by decide +kernel) (by decide +kernel)
theorem kw_317 : Cond.methodLink RJ2 414 yJ0_checkIndex_df160 ∈ g_all := g_w 317 (by decide +kernel) (by decide +kernel)
theorem kw_318 : Cond.methodLink RJ2 71 yJ2_getChar_3b067 ∈ g_all := g_w 318 (by decide +kernel) (by decide +kernel)
theorem kw_319 : Cond.static yJ2_getChar_3b067 ∈ g_all := g_w 319 (by decide +kernel) (by decide +kernel)
theorem kw_320 : Cond.code yJ2_getChar_3b067 cJ2_getChar_3b067 2 (some FieldType.char) ∈ g_all := g_w 320 (by decide +kernel) (by decide +kernel)
theorem kw_321 : Cond.fieldLink RJ2 44 "java/lang/StringUTF16" "$assertionsDisabled" "Z" ∈ g_all := g_w 321 (by decide +kernel) (by decide +kernel)
theorem kw_323 : Cond.fieldLink RJ2 59 "java/lang/StringUTF16" "HI_BYTE_SHIFT" "I" ∈ g_all := g_w 323 (by decide +kernel) (by decide +kernel)
theorem kw_325 : Cond.fieldLink RJ2 63 "java/lang/StringUTF16" "LO_BYTE_SHIFT" "I" ∈ g_all := g_w 325 (by decide +kernel) (by decide +kernel)
theorem kw_327 : Cond.fieldLink RX4 60 "SkewPlan$Word" "PATH" "LSkewPlan$Word;" ∈ g_all := g_w 327 (by decide +kernel) (by decide +kernel)
theorem kw_329 : Cond.methodLink RX4 66 yX2_hasAllPaths ∈ g_all := g_w 329 (by decide +kernel) (by decide +kernel)
theorem kw_330 : Cond.instanceMethod yX2_hasAllPaths ∈ g_all := g_w 330 (by decide +kernel) (by decide +kernel)
theorem kw_331 : Cond.selects RX2 yX2_hasAllPaths yX2_hasAllPaths ∈ g_all := g_w 331 (by decide +kernel) (by decide +kernel)
theorem kw_332 : Cond.code yX2_hasAllPaths cX2_hasAllPaths 1 (some FieldType.boolean) ∈ g_all := g_w 332 (by decide +kernel) (by decide +kernel)
theorem kw_333 : Cond.methodLink RX4 69 yX4_readPath ∈ g_all := g_w 333 (by decide +kernel) (by decide +kernel)
theorem kw_335 : Cond.instanceMethod yX4_readPath ∈ g_all := g_w 335 (by decide +kernel) (by decide +kernel)
theorem kw_336 : Cond.code yX4_readPath cX4_readPath 6 (some FieldType.boolean) ∈ g_all := g_w 336 (by decide +kernel) (by decide +kernel)
theorem kw_337 : Cond.methodLink RX4 78 yX4_readNumber ∈ g_all := g_w 337 (by decide +kernel) (by decide +kernel)
theorem kw_339 : Cond.instanceMethod yX4_readNumber ∈ g_all := g_w 339 (by decide +kernel) (by decide +kernel)
theorem kw_340 : Cond.code yX4_readNumber cX4_readNumber 5 (some FieldType.int) ∈ g_all := g_w 340 (by decide +kernel) (by decide +kernel)
theorem kw_342 : Cond.methodLink RX4 89 yX2_addPath ∈ g_all := g_w 342 (by decide +kernel) (by decide +kernel)
theorem kw_343 : Cond.instanceMethod yX2_addPath ∈ g_all := g_w 343 (by decide +kernel) (by decide +kernel)
theorem kw_344 : Cond.selects RX2 yX2_addPath yX2_addPath ∈ g_all := g_w 344 (by decide +kernel) (by decide +kernel)
theorem kw_345 : Cond.code yX2_addPath cX2_addPath 5 none ∈ g_all := g_w 345 (by decide +kernel) (by decide +kernel)
theorem kw_346 : Cond.methodLink RX2 64 yX2_hasAllPaths ∈ g_all := g_w 346 (by decide +kernel) (by decide +kernel)
theorem kw_347 : Cond.methodLink RX4 82 yX2_tell ∈ g_all := g_w 347 (by decide +kernel) (by decide +kernel)
theorem kw_348 : Cond.instanceMethod yX2_tell ∈ g_all := g_w 348 (by decide +kernel) (by decide +kernel)
theorem kw_349 : Cond.selects RX2 yX2_tell yX2_tell ∈ g_all := g_w 349 (by decide +kernel) (by decide +kernel)
theorem kw_350 : Cond.code yX2_tell cX2_tell 3 none ∈ g_all := g_w 350 (by decide +kernel) (by decide +kernel)
theorem kw_351 : Cond.fieldLink RX2 53 "SkewPlan$1" "$SwitchMap$SkewPlan$Word" "[I" ∈ g_all := g_w 351 (by decide +kernel) (by decide +kernel)
theorem kw_353 : Cond.methodLink RX2 58 ⟨"SkewPlan$Word", "ordinal", "()I"⟩ ∈ g_all := g_w 353 (by decide +kernel) (by decide +kernel)
theorem kw_354 : Cond.sameMethod "SkewPlan$Word" "java/lang/Enum" "ordinal" "()I" ∈ g_all := g_w 354 (by decide +kernel) (by decide +kernel)
theorem kw_356 : Cond.selects RX6 ⟨"SkewPlan$Word", "ordinal", "()I"⟩ yJx29ce0_ordinal_8abf5 ∈ g_all := g_w 356 (by decide +kernel) (by decide +kernel)
theorem kw_357 : Cond.instanceMethod yJx29ce0_ordinal_8abf5 ∈ g_all := g_w 357 (by decide +kernel) (by decide +kernel)
theorem kw_358 : Cond.code yJx29ce0_ordinal_8abf5 cJx29ce0_ordinal_8abf5 1 (some FieldType.int) ∈ g_all := g_w 358 (by decide +kernel) (by decide +kernel)
theorem kw_359 : Cond.methodLink RL 27 yX7_net ∈ g_all := g_w 359 (by decide +kernel) (by decide +kernel)
theorem kw_360 : Cond.instanceMethod yX7_net ∈ g_all := g_w 360 (by decide +kernel) (by decide +kernel)
theorem kw_361 : Cond.selects RX7 yX7_net yX7_net ∈ g_all := g_w 361 (by decide +kernel) (by decide +kernel)
theorem kw_362 : Cond.code yX7_net cX7_net 2 (some FieldType.int) ∈ g_all := g_w 362 (by decide +kernel) (by decide +kernel)
theorem kw_363 : Cond.methodLink RX7 77 yX2_copyFrom ∈ g_all := g_w 363 (by decide +kernel) (by decide +kernel)
theorem kw_364 : Cond.methodLink RX7 81 yX1_clear ∈ g_all := g_w 364 (by decide +kernel) (by decide +kernel)
theorem kw_365 : Cond.instanceMethod yX1_clear ∈ g_all := g_w 365 (by decide +kernel) (by decide +kernel)
theorem kw_366 : Cond.selects RX1 yX1_clear yX1_clear ∈ g_all := g_w 366 (by decide +kernel) (by decide +kernel)
theorem kw_367 : Cond.code yX1_clear cX1_clear 1 none ∈ g_all := g_w 367 (by decide +kernel) (by decide +kernel)
theorem kw_368 : Cond.methodLink RX7 82 yX5_lose ∈ g_all := g_w 368 (by decide +kernel) (by decide +kernel)
theorem kw_369 : Cond.instanceMethod yX5_lose ∈ g_all := g_w 369 (by decide +kernel) (by decide +kernel)
theorem kw_370 : Cond.selects RX5 yX5_lose yX5_lose ∈ g_all := g_w 370 (by decide +kernel) (by decide +kernel)
theorem kw_371 : Cond.code yX5_lose cX5_lose 1 none ∈ g_all := g_w 371 (by decide +kernel) (by decide +kernel)
theorem kw_372 : Cond.methodLink RX7 85 yX4_clauseCount ∈ g_all := g_w 372 (by decide +kernel) (by decide +kernel)
theorem kw_373 : Cond.instanceMethod yX4_clauseCount ∈ g_all := g_w 373 (by decide +kernel) (by decide +kernel)
theorem kw_374 : Cond.selects RX4 yX4_clauseCount yX4_clauseCount ∈ g_all := g_w 374 (by decide +kernel) (by decide +kernel)
theorem kw_375 : Cond.code yX4_clauseCount cX4_clauseCount 1 (some FieldType.int) ∈ g_all := g_w 375 (by decide +kernel) (by decide +kernel)
theorem kw_376 : Cond.methodLink RL 31 yX7_path ∈ g_all := g_w 376 (by decide +kernel) (by decide +kernel)
theorem kw_377 : Cond.instanceMethod yX7_path ∈ g_all := g_w 377 (by decide +kernel) (by decide +kernel)
theorem kw_378 : Cond.selects RX7 yX7_path yX7_path ∈ g_all := g_w 378 (by decide +kernel) (by decide +kernel)
theorem kw_379 : Cond.code yX7_path cX7_path 3 (some FieldType.int) ∈ g_all := g_w 379 (by decide +kernel) (by decide +kernel)
theorem kw_380 : Cond.methodLink RX7 88 yX7_isPath ∈ g_all := g_w 380 (by decide +kernel) (by decide +kernel)
theorem kw_382 : Cond.instanceMethod yX7_isPath ∈ g_all := g_w 382 (by decide +kernel) (by decide +kernel)
theorem kw_383 : Cond.code yX7_isPath cX7_isPath 2 (some FieldType.boolean) ∈ g_all := g_w 383 (by decide +kernel) (by decide +kernel)
theorem kw_384 : Cond.methodLink RX7 105 yX2_lateBound ∈ g_all := g_w 384 (by decide +kernel) (by decide +kernel)
theorem kw_385 : Cond.instanceMethod yX2_lateBound ∈ g_all := g_w 385 (by decide +kernel) (by decide +kernel)
theorem kw_386 : Cond.selects RX2 yX2_lateBound yX2_lateBound ∈ g_all := g_w 386 (by decide +kernel) (by decide +kernel)
theorem kw_387 : Cond.code yX2_lateBound cX2_lateBound 2 (some FieldType.int) ∈ g_all := g_w 387 (by decide +kernel) (by decide +kernel)
theorem kw_388 : Cond.methodLink RX7 109 yX2_soonBound ∈ g_all := g_w 388 (by decide +kernel) (by decide +kernel)
theorem kw_389 : Cond.instanceMethod yX2_soonBound ∈ g_all := g_w 389 (by decide +kernel) (by decide +kernel)
theorem kw_390 : Cond.selects RX2 yX2_soonBound yX2_soonBound ∈ g_all := g_w 390 (by decide +kernel) (by decide +kernel)
theorem kw_391 : Cond.code yX2_soonBound cX2_soonBound 2 (some FieldType.int) ∈ g_all := g_w 391 (by decide +kernel) (by decide +kernel)
theorem kw_392 : Cond.methodLink RL 36 yX7_period ∈ g_all := g_w 392 (by decide +kernel) (by decide +kernel)
theorem kw_393 : Cond.instanceMethod yX7_period ∈ g_all := g_w 393 (by decide +kernel) (by decide +kernel)
theorem kw_394 : Cond.selects RX7 yX7_period yX7_period ∈ g_all := g_w 394 (by decide +kernel) (by decide +kernel)
theorem kw_395 : Cond.code yX7_period cX7_period 3 (some FieldType.int) ∈ g_all := g_w 395 (by decide +kernel) (by decide +kernel)
theorem kw_396 : Cond.methodLink RX7 116 yX1_push ∈ g_all := g_w 396 (by decide +kernel) (by decide +kernel)
theorem kw_397 : Cond.instanceMethod yX1_push ∈ g_all := g_w 397 (by decide +kernel) (by decide +kernel)
theorem kw_398 : Cond.selects RX1 yX1_push yX1_push ∈ g_all := g_w 398 (by decide +kernel) (by decide +kernel)
theorem kw_399 : Cond.code yX1_push cX1_push 3 none ∈ g_all := g_w 399 (by decide +kernel) (by decide +kernel)
theorem kw_400 : Cond.methodLink RX1 25 yJ9_min_7cf53 ∈ g_all := g_w 400 (by decide +kernel) (by decide +kernel)
theorem kw_401 : Cond.static yJ9_min_7cf53 ∈ g_all := g_w 401 (by decide +kernel) (by decide +kernel)
theorem kw_402 : Cond.code yJ9_min_7cf53 cJ9_min_7cf53 2 (some FieldType.int) ∈ g_all := g_w 402 (by decide +kernel) (by decide +kernel)
theorem kw_403 : Cond.methodLink RL 40 yX7_slower ∈ g_all := g_w 403 (by decide +kernel) (by decide +kernel)
theorem kw_404 : Cond.instanceMethod yX7_slower ∈ g_all := g_w 404 (by decide +kernel) (by decide +kernel)
theorem kw_405 : Cond.selects RX7 yX7_slower yX7_slower ∈ g_all := g_w 405 (by decide +kernel) (by decide +kernel)
theorem kw_406 : Cond.code yX7_slower cX7_slower 3 (some FieldType.int) ∈ g_all := g_w 406 (by decide +kernel) (by decide +kernel)
theorem kw_407 : Cond.methodLink RX7 120 yX2_canBeSlower ∈ g_all := g_w 407 (by decide +kernel) (by decide +kernel)
theorem kw_408 : Cond.instanceMethod yX2_canBeSlower ∈ g_all := g_w 408 (by decide +kernel) (by decide +kernel)
theorem kw_409 : Cond.selects RX2 yX2_canBeSlower yX2_canBeSlower ∈ g_all := g_w 409 (by decide +kernel) (by decide +kernel)
theorem kw_410 : Cond.code yX2_canBeSlower cX2_canBeSlower 3 (some FieldType.boolean) ∈ g_all := g_w 410 (by decide +kernel) (by decide +kernel)
theorem kw_411 : Cond.methodLink RX7 124 yX2_delay ∈ g_all := g_w 411 (by decide +kernel) (by decide +kernel)
theorem kw_412 : Cond.instanceMethod yX2_delay ∈ g_all := g_w 412 (by decide +kernel) (by decide +kernel)
theorem kw_413 : Cond.selects RX2 yX2_delay yX2_delay ∈ g_all := g_w 413 (by decide +kernel) (by decide +kernel)
theorem kw_414 : Cond.code yX2_delay cX2_delay 3 none ∈ g_all := g_w 414 (by decide +kernel) (by decide +kernel)
theorem kw_415 : Cond.methodLink RL 44 yX7_undo ∈ g_all := g_w 415 (by decide +kernel) (by decide +kernel)
theorem kw_416 : Cond.instanceMethod yX7_undo ∈ g_all := g_w 416 (by decide +kernel) (by decide +kernel)
theorem kw_417 : Cond.selects RX7 yX7_undo yX7_undo ∈ g_all := g_w 417 (by decide +kernel) (by decide +kernel)
theorem kw_418 : Cond.code yX7_undo cX7_undo 1 (some FieldType.int) ∈ g_all := g_w 418 (by decide +kernel) (by decide +kernel)
theorem kw_419 : Cond.methodLink RX7 127 yX1_size ∈ g_all := g_w 419 (by decide +kernel) (by decide +kernel)
theorem kw_420 : Cond.instanceMethod yX1_size ∈ g_all := g_w 420 (by decide +kernel) (by decide +kernel)
theorem kw_421 : Cond.selects RX1 yX1_size yX1_size ∈ g_all := g_w 421 (by decide +kernel) (by decide +kernel)
theorem kw_422 : Cond.code yX1_size cX1_size 1 (some FieldType.int) ∈ g_all := g_w 422 (by decide +kernel) (by decide +kernel)
theorem kw_423 : Cond.methodLink RX7 130 yX1_revertLatest ∈ g_all := g_w 423 (by decide +kernel) (by decide +kernel)
theorem kw_424 : Cond.instanceMethod yX1_revertLatest ∈ g_all := g_w 424 (by decide +kernel) (by decide +kernel)
theorem kw_425 : Cond.selects RX1 yX1_revertLatest yX1_revertLatest ∈ g_all := g_w 425 (by decide +kernel) (by decide +kernel)
theorem kw_426 : Cond.code yX1_revertLatest cX1_revertLatest 2 none ∈ g_all := g_w 426 (by decide +kernel) (by decide +kernel)
theorem kw_427 : Cond.methodLink RX1 36 yX2_delay ∈ g_all := g_w 427 (by decide +kernel) (by decide +kernel)
theorem kw_428 : Cond.methodLink RL 48 yX7_keep ∈ g_all := g_w 428 (by decide +kernel) (by decide +kernel)
theorem kw_429 : Cond.instanceMethod yX7_keep ∈ g_all := g_w 429 (by decide +kernel) (by decide +kernel)
theorem kw_430 : Cond.selects RX7 yX7_keep yX7_keep ∈ g_all := g_w 430 (by decide +kernel) (by decide +kernel)
theorem kw_431 : Cond.code yX7_keep cX7_keep 2 (some FieldType.int) ∈ g_all := g_w 431 (by decide +kernel) (by decide +kernel)
theorem kw_432 : Cond.methodLink RX7 133 yX7_isKeptPlace ∈ g_all := g_w 432 (by decide +kernel) (by decide +kernel)
theorem kw_433 : Cond.static yX7_isKeptPlace ∈ g_all := g_w 433 (by decide +kernel) (by decide +kernel)
theorem kw_434 : Cond.code yX7_isKeptPlace cX7_isKeptPlace 1 (some FieldType.boolean) ∈ g_all := g_w 434 (by decide +kernel) (by decide +kernel)
theorem kw_435 : Cond.methodLink RL 52 yX7_back ∈ g_all := g_w 435 (by decide +kernel) (by decide +kernel)
theorem kw_436 : Cond.instanceMethod yX7_back ∈ g_all := g_w 436 (by decide +kernel) (by decide +kernel)
theorem kw_437 : Cond.selects RX7 yX7_back yX7_back ∈ g_all := g_w 437 (by decide +kernel) (by decide +kernel)
theorem kw_438 : Cond.code yX7_back cX7_back 2 (some FieldType.int) ∈ g_all := g_w 438 (by decide +kernel) (by decide +kernel)
theorem kw_439 : Cond.methodLink RL 56 yX7_feasible ∈ g_all := g_w 439 (by decide +kernel) (by decide +kernel)
theorem kw_440 : Cond.instanceMethod yX7_feasible ∈ g_all := g_w 440 (by decide +kernel) (by decide +kernel)
theorem kw_441 : Cond.selects RX7 yX7_feasible yX7_feasible ∈ g_all := g_w 441 (by decide +kernel) (by decide +kernel)
theorem kw_442 : Cond.code yX7_feasible cX7_feasible 1 (some FieldType.int) ∈ g_all := g_w 442 (by decide +kernel) (by decide +kernel)
theorem kw_443 : Cond.methodLink RX7 136 yX3_settlesNow ∈ g_all := g_w 443 (by decide +kernel) (by decide +kernel)
theorem kw_444 : Cond.instanceMethod yX3_settlesNow ∈ g_all := g_w 444 (by decide +kernel) (by decide +kernel)
theorem kw_445 : Cond.selects RX3 yX3_settlesNow yX3_settlesNow ∈ g_all := g_w 445 (by decide +kernel) (by decide +kernel)
theorem kw_446 : Cond.code yX3_settlesNow cX3_settlesNow 2 (some FieldType.boolean) ∈ g_all := g_w 446 (by decide +kernel) (by decide +kernel)
theorem kw_447 : Cond.methodLink RX3 35 yX3_settlesWithMargin ∈ g_all := g_w 447 (by decide +kernel) (by decide +kernel)
theorem kw_449 : Cond.instanceMethod yX3_settlesWithMargin ∈ g_all := g_w 449 (by decide +kernel) (by decide +kernel)
theorem kw_450 : Cond.code yX3_settlesWithMargin cX3_settlesWithMargin 3 (some FieldType.boolean) ∈ g_all := g_w 450 (by decide +kernel) (by decide +kernel)
theorem kw_451 : Cond.methodLink RX3 47 yX3_layBounds ∈ g_all := g_w 451 (by decide +kernel) (by decide +kernel)
theorem kw_453 : Cond.instanceMethod yX3_layBounds ∈ g_all := g_w 453 (by decide +kernel) (by decide +kernel)
theorem kw_454 : Cond.code yX3_layBounds cX3_layBounds 11 none ∈ g_all := g_w 454 (by decide +kernel) (by decide +kernel)
theorem kw_455 : Cond.constant RX3 73 (2147483647 : Int32) ∈ g_all := g_w 455 (by decide +kernel) (by decide +kernel)
theorem kw_456 : Cond.methodLink RX3 89 yX2_soonBound ∈ g_all := g_w 456 (by decide +kernel) (by decide +kernel)
theorem kw_457 : Cond.methodLink RX3 93 yX3_tighten ∈ g_all := g_w 457 (by decide +kernel) (by decide +kernel)
theorem kw_459 : Cond.instanceMethod yX3_tighten ∈ g_all := g_w 459 (by decide +kernel) (by decide +kernel)
theorem kw_460 : Cond.code yX3_tighten cX3_tighten 5 none ∈ g_all := g_w 460 (by decide +kernel) (by decide +kernel)
theorem kw_461 : Cond.methodLink RX3 66 yJ9_floorDiv_7cf53 ∈ g_all := g_w 461 (by decide +kernel) (by decide +kernel)
theorem kw_462 : Cond.static yJ9_floorDiv_7cf53 ∈ g_all := g_w 462 (by decide +kernel) (by decide +kernel)
theorem kw_463 : Cond.code yJ9_floorDiv_7cf53 cJ9_floorDiv_7cf53 3 (some FieldType.int) ∈ g_all := g_w 463 (by decide +kernel) (by decide +kernel)
theorem kw_464 : Cond.methodLink RX3 97 yJ9_min_7cf53 ∈ g_all := g_w 464 (by decide +kernel) (by decide +kernel)
theorem kw_465 : Cond.methodLink RX3 51 yX3_settle ∈ g_all := g_w 465 (by decide +kernel) (by decide +kernel)
theorem kw_467 : Cond.instanceMethod yX3_settle ∈ g_all := g_w 467 (by decide +kernel) (by decide +kernel)
theorem kw_468 : Cond.code yX3_settle cX3_settle 2 (some FieldType.boolean) ∈ g_all := g_w 468 (by decide +kernel) (by decide +kernel)
theorem kw_469 : Cond.methodLink RX3 100 yX3_lowerOnce ∈ g_all := g_w 469 (by decide +kernel) (by decide +kernel)
theorem kw_471 : Cond.instanceMethod yX3_lowerOnce ∈ g_all := g_w 471 (by decide +kernel) (by decide +kernel)
theorem kw_472 : Cond.code yX3_lowerOnce cX3_lowerOnce 5 (some FieldType.boolean) ∈ g_all := g_w 472 (by decide +kernel) (by decide +kernel)
theorem kw_473 : Cond.methodLink RL 60 yX7_shift ∈ g_all := g_w 473 (by decide +kernel) (by decide +kernel)
theorem kw_474 : Cond.instanceMethod yX7_shift ∈ g_all := g_w 474 (by decide +kernel) (by decide +kernel)
theorem kw_475 : Cond.selects RX7 yX7_shift yX7_shift ∈ g_all := g_w 475 (by decide +kernel) (by decide +kernel)
theorem kw_476 : Cond.code yX7_shift cX7_shift 2 (some FieldType.int) ∈ g_all := g_w 476 (by decide +kernel) (by decide +kernel)
theorem kw_477 : Cond.methodLink RX7 143 yX3_shiftOf ∈ g_all := g_w 477 (by decide +kernel) (by decide +kernel)
theorem kw_478 : Cond.instanceMethod yX3_shiftOf ∈ g_all := g_w 478 (by decide +kernel) (by decide +kernel)
theorem kw_479 : Cond.selects RX3 yX3_shiftOf yX3_shiftOf ∈ g_all := g_w 479 (by decide +kernel) (by decide +kernel)
theorem kw_480 : Cond.code yX3_shiftOf cX3_shiftOf 2 (some FieldType.int) ∈ g_all := g_w 480 (by decide +kernel) (by decide +kernel)
theorem kw_481 : Cond.methodLink RL 64 yX7_least ∈ g_all := g_w 481 (by decide +kernel) (by decide +kernel)
theorem kw_482 : Cond.instanceMethod yX7_least ∈ g_all := g_w 482 (by decide +kernel) (by decide +kernel)
theorem kw_483 : Cond.selects RX7 yX7_least yX7_least ∈ g_all := g_w 483 (by decide +kernel) (by decide +kernel)
theorem kw_484 : Cond.code yX7_least cX7_least 1 (some FieldType.int) ∈ g_all := g_w 484 (by decide +kernel) (by decide +kernel)
theorem kw_485 : Cond.methodLink RX7 149 yX3_leastPeriod ∈ g_all := g_w 485 (by decide +kernel) (by decide +kernel)
theorem kw_486 : Cond.instanceMethod yX3_leastPeriod ∈ g_all := g_w 486 (by decide +kernel) (by decide +kernel)
theorem kw_487 : Cond.selects RX3 yX3_leastPeriod yX3_leastPeriod ∈ g_all := g_w 487 (by decide +kernel) (by decide +kernel)
theorem kw_488 : Cond.code yX3_leastPeriod cX3_leastPeriod 2 (some FieldType.int) ∈ g_all := g_w 488 (by decide +kernel) (by decide +kernel)
theorem kw_489 : Cond.methodLink RX3 55 yX3_leastPeriodAbove ∈ g_all := g_w 489 (by decide +kernel) (by decide +kernel)
theorem kw_491 : Cond.instanceMethod yX3_leastPeriodAbove ∈ g_all := g_w 491 (by decide +kernel) (by decide +kernel)
theorem kw_492 : Cond.code yX3_leastPeriodAbove cX3_leastPeriodAbove 8 (some FieldType.int) ∈ g_all := g_w 492 (by decide +kernel) (by decide +kernel)
theorem kw_493 : Cond.methodLink RX3 59 yX3_settlesAtPeriod ∈ g_all := g_w 493 (by decide +kernel) (by decide +kernel)
theorem kw_495 : Cond.instanceMethod yX3_settlesAtPeriod ∈ g_all := g_w 495 (by decide +kernel) (by decide +kernel)
theorem kw_496 : Cond.code yX3_settlesAtPeriod cX3_settlesAtPeriod 5 (some FieldType.boolean) ∈ g_all := g_w 496 (by decide +kernel) (by decide +kernel)
theorem kw_497 : Cond.methodLink RL 68 yX7_rate ∈ g_all := g_w 497 (by decide +kernel) (by decide +kernel)
theorem kw_498 : Cond.instanceMethod yX7_rate ∈ g_all := g_w 498 (by decide +kernel) (by decide +kernel)
theorem kw_499 : Cond.selects RX7 yX7_rate yX7_rate ∈ g_all := g_w 499 (by decide +kernel) (by decide +kernel)
theorem kw_500 : Cond.code yX7_rate cX7_rate 2 (some FieldType.int) ∈ g_all := g_w 500 (by decide +kernel) (by decide +kernel)
theorem kw_501 : Cond.methodLink RX7 153 yX3_findRate ∈ g_all := g_w 501 (by decide +kernel) (by decide +kernel)
theorem kw_502 : Cond.instanceMethod yX3_findRate ∈ g_all := g_w 502 (by decide +kernel) (by decide +kernel)
theorem kw_503 : Cond.selects RX3 yX3_findRate yX3_findRate ∈ g_all := g_w 503 (by decide +kernel) (by decide +kernel)
theorem kw_504 : Cond.code yX3_findRate cX3_findRate 4 (some FieldType.boolean) ∈ g_all := g_w 504 (by decide +kernel) (by decide +kernel)
theorem kw_505 : Cond.methodLink RX7 156 yX3_rateAbove ∈ g_all := g_w 505 (by decide +kernel) (by decide +kernel)
theorem kw_506 : Cond.instanceMethod yX3_rateAbove ∈ g_all := g_w 506 (by decide +kernel) (by decide +kernel)
theorem kw_507 : Cond.selects RX3 yX3_rateAbove yX3_rateAbove ∈ g_all := g_w 507 (by decide +kernel) (by decide +kernel)
theorem kw_508 : Cond.code yX3_rateAbove cX3_rateAbove 1 (some FieldType.int) ∈ g_all := g_w 508 (by decide +kernel) (by decide +kernel)
theorem kw_509 : Cond.methodLink RX7 159 yX3_rateBelow ∈ g_all := g_w 509 (by decide +kernel) (by decide +kernel)
theorem kw_510 : Cond.instanceMethod yX3_rateBelow ∈ g_all := g_w 510 (by decide +kernel) (by decide +kernel)
theorem kw_511 : Cond.selects RX3 yX3_rateBelow yX3_rateBelow ∈ g_all := g_w 511 (by decide +kernel) (by decide +kernel)
theorem kw_512 : Cond.code yX3_rateBelow cX3_rateBelow 1 (some FieldType.int) ∈ g_all := g_w 512 (by decide +kernel) (by decide +kernel)
theorem kw_513 : Cond.methodLink RL 72 yX7_margin ∈ g_all := g_w 513 (by decide +kernel) (by decide +kernel)
theorem kw_514 : Cond.instanceMethod yX7_margin ∈ g_all := g_w 514 (by decide +kernel) (by decide +kernel)
theorem kw_515 : Cond.selects RX7 yX7_margin yX7_margin ∈ g_all := g_w 515 (by decide +kernel) (by decide +kernel)
theorem kw_516 : Cond.code yX7_margin cX7_margin 1 (some FieldType.int) ∈ g_all := g_w 516 (by decide +kernel) (by decide +kernel)
theorem kw_517 : Cond.methodLink RX7 162 yX3_greatestMargin ∈ g_all := g_w 517 (by decide +kernel) (by decide +kernel)
theorem kw_518 : Cond.instanceMethod yX3_greatestMargin ∈ g_all := g_w 518 (by decide +kernel) (by decide +kernel)
theorem kw_519 : Cond.selects RX3 yX3_greatestMargin yX3_greatestMargin ∈ g_all := g_w 519 (by decide +kernel) (by decide +kernel)
theorem kw_520 : Cond.code yX3_greatestMargin cX3_greatestMargin 6 (some FieldType.int) ∈ g_all := g_w 520 (by decide +kernel) (by decide +kernel)
theorem kw_521 : Cond.methodLink RL 76 yX7_spare ∈ g_all := g_w 521 (by decide +kernel) (by decide +kernel)
theorem kw_522 : Cond.instanceMethod yX7_spare ∈ g_all := g_w 522 (by decide +kernel) (by decide +kernel)
theorem kw_523 : Cond.selects RX7 yX7_spare yX7_spare ∈ g_all := g_w 523 (by decide +kernel) (by decide +kernel)
theorem kw_524 : Cond.code yX7_spare cX7_spare 5 (some FieldType.int) ∈ g_all := g_w 524 (by decide +kernel) (by decide +kernel)
theorem kw_525 : Cond.methodLink RL 80 yX7_cycle ∈ g_all := g_w 525 (by decide +kernel) (by decide +kernel)
theorem kw_526 : Cond.instanceMethod yX7_cycle ∈ g_all := g_w 526 (by decide +kernel) (by decide +kernel)
theorem kw_527 : Cond.selects RX7 yX7_cycle yX7_cycle ∈ g_all := g_w 527 (by decide +kernel) (by decide +kernel)
theorem kw_528 : Cond.code yX7_cycle cX7_cycle 2 (some FieldType.int) ∈ g_all := g_w 528 (by decide +kernel) (by decide +kernel)
theorem kw_529 : Cond.methodLink RX7 165 yX3_findRing ∈ g_all := g_w 529 (by decide +kernel) (by decide +kernel)
theorem kw_530 : Cond.instanceMethod yX3_findRing ∈ g_all := g_w 530 (by decide +kernel) (by decide +kernel)
theorem kw_531 : Cond.selects RX3 yX3_findRing yX3_findRing ∈ g_all := g_w 531 (by decide +kernel) (by decide +kernel)
theorem kw_532 : Cond.code yX3_findRing cX3_findRing 2 (some FieldType.boolean) ∈ g_all := g_w 532 (by decide +kernel) (by decide +kernel)
theorem kw_533 : Cond.methodLink RX3 103 yX3_closesFrom ∈ g_all := g_w 533 (by decide +kernel) (by decide +kernel)
theorem kw_535 : Cond.instanceMethod yX3_closesFrom ∈ g_all := g_w 535 (by decide +kernel) (by decide +kernel)
theorem kw_536 : Cond.code yX3_closesFrom cX3_closesFrom 8 (some FieldType.boolean) ∈ g_all := g_w 536 (by decide +kernel) (by decide +kernel)
theorem kw_537 : Cond.methodLink RX3 107 yX3_isInRing ∈ g_all := g_w 537 (by decide +kernel) (by decide +kernel)
theorem kw_539 : Cond.instanceMethod yX3_isInRing ∈ g_all := g_w 539 (by decide +kernel) (by decide +kernel)
theorem kw_540 : Cond.code yX3_isInRing cX3_isInRing 4 (some FieldType.boolean) ∈ g_all := g_w 540 (by decide +kernel) (by decide +kernel)
theorem kw_541 : Cond.methodLink RX7 169 yX3_ringLength ∈ g_all := g_w 541 (by decide +kernel) (by decide +kernel)
theorem kw_542 : Cond.instanceMethod yX3_ringLength ∈ g_all := g_w 542 (by decide +kernel) (by decide +kernel)
theorem kw_543 : Cond.selects RX3 yX3_ringLength yX3_ringLength ∈ g_all := g_w 543 (by decide +kernel) (by decide +kernel)
theorem kw_544 : Cond.code yX3_ringLength cX3_ringLength 1 (some FieldType.int) ∈ g_all := g_w 544 (by decide +kernel) (by decide +kernel)
theorem kw_545 : Cond.methodLink RX7 172 yX3_ringRegister ∈ g_all := g_w 545 (by decide +kernel) (by decide +kernel)
theorem kw_546 : Cond.instanceMethod yX3_ringRegister ∈ g_all := g_w 546 (by decide +kernel) (by decide +kernel)
theorem kw_547 : Cond.selects RX3 yX3_ringRegister yX3_ringRegister ∈ g_all := g_w 547 (by decide +kernel) (by decide +kernel)
theorem kw_548 : Cond.code yX3_ringRegister cX3_ringRegister 2 (some FieldType.int) ∈ g_all := g_w 548 (by decide +kernel) (by decide +kernel)
theorem kw_549 : Cond.methodLink RL 84 yX7_buffer ∈ g_all := g_w 549 (by decide +kernel) (by decide +kernel)
theorem kw_550 : Cond.instanceMethod yX7_buffer ∈ g_all := g_w 550 (by decide +kernel) (by decide +kernel)
theorem kw_551 : Cond.selects RX7 yX7_buffer yX7_buffer ∈ g_all := g_w 551 (by decide +kernel) (by decide +kernel)
theorem kw_552 : Cond.code yX7_buffer cX7_buffer 6 (some FieldType.int) ∈ g_all := g_w 552 (by decide +kernel) (by decide +kernel)
theorem kw_553 : Cond.methodLink RX7 175 yX7_orAboveAll ∈ g_all := g_w 553 (by decide +kernel) (by decide +kernel)
theorem kw_554 : Cond.static yX7_orAboveAll ∈ g_all := g_w 554 (by decide +kernel) (by decide +kernel)
theorem kw_555 : Cond.code yX7_orAboveAll cX7_orAboveAll 1 (some FieldType.int) ∈ g_all := g_w 555 (by decide +kernel) (by decide +kernel)
theorem kw_556 : Cond.methodLink RL 88 yX7_trace ∈ g_all := g_w 556 (by decide +kernel) (by decide +kernel)
theorem kw_557 : Cond.instanceMethod yX7_trace ∈ g_all := g_w 557 (by decide +kernel) (by decide +kernel)
theorem kw_558 : Cond.selects RX7 yX7_trace yX7_trace ∈ g_all := g_w 558 (by decide +kernel) (by decide +kernel)
theorem kw_559 : Cond.code yX7_trace cX7_trace 4 (some FieldType.int) ∈ g_all := g_w 559 (by decide +kernel) (by decide +kernel)
theorem kw_560 : Cond.methodLink RX7 181 yX7_isTrace ∈ g_all := g_w 560 (by decide +kernel) (by decide +kernel)
theorem kw_561 : Cond.static yX7_isTrace ∈ g_all := g_w 561 (by decide +kernel) (by decide +kernel)
theorem kw_562 : Cond.code yX7_isTrace cX7_isTrace 1 (some FieldType.boolean) ∈ g_all := g_w 562 (by decide +kernel) (by decide +kernel)
theorem kw_563 : Cond.methodLink RX7 184 yX7_isSort ∈ g_all := g_w 563 (by decide +kernel) (by decide +kernel)
theorem kw_564 : Cond.static yX7_isSort ∈ g_all := g_w 564 (by decide +kernel) (by decide +kernel)
theorem kw_565 : Cond.code yX7_isSort cX7_isSort 1 (some FieldType.boolean) ∈ g_all := g_w 565 (by decide +kernel) (by decide +kernel)
theorem kw_566 : Cond.methodLink RX7 187 yX5_renew ∈ g_all := g_w 566 (by decide +kernel) (by decide +kernel)
theorem kw_567 : Cond.instanceMethod yX5_renew ∈ g_all := g_w 567 (by decide +kernel) (by decide +kernel)
theorem kw_568 : Cond.selects RX5 yX5_renew yX5_renew ∈ g_all := g_w 568 (by decide +kernel) (by decide +kernel)
theorem kw_569 : Cond.code yX5_renew cX5_renew 4 none ∈ g_all := g_w 569 (by decide +kernel) (by decide +kernel)
theorem kw_570 : Cond.methodLink RX5 30 yX5_putNumber ∈ g_all := g_w 570 (by decide +kernel) (by decide +kernel)
theorem kw_572 : Cond.instanceMethod yX5_putNumber ∈ g_all := g_w 572 (by decide +kernel) (by decide +kernel)
theorem kw_573 : Cond.code yX5_putNumber cX5_putNumber 4 none ∈ g_all := g_w 573 (by decide +kernel) (by decide +kernel)
theorem kw_574 : Cond.methodLink RL 93 yX7_set ∈ g_all := g_w 574 (by decide +kernel) (by decide +kernel)
theorem kw_575 : Cond.instanceMethod yX7_set ∈ g_all := g_w 575 (by decide +kernel) (by decide +kernel)
theorem kw_576 : Cond.selects RX7 yX7_set yX7_set ∈ g_all := g_w 576 (by decide +kernel) (by decide +kernel)
theorem kw_577 : Cond.code yX7_set cX7_set 8 (some FieldType.int) ∈ g_all := g_w 577 (by decide +kernel) (by decide +kernel)
theorem kw_578 : Cond.methodLink RX7 190 yX7_isQuotientPart ∈ g_all := g_w 578 (by decide +kernel) (by decide +kernel)
theorem kw_579 : Cond.static yX7_isQuotientPart ∈ g_all := g_w 579 (by decide +kernel) (by decide +kernel)
theorem kw_580 : Cond.code yX7_isQuotientPart cX7_isQuotientPart 1 (some FieldType.boolean) ∈ g_all := g_w 580 (by decide +kernel) (by decide +kernel)
theorem kw_581 : Cond.methodLink RX7 193 yX5_finding ∈ g_all := g_w 581 (by decide +kernel) (by decide +kernel)
theorem kw_582 : Cond.instanceMethod yX5_finding ∈ g_all := g_w 582 (by decide +kernel) (by decide +kernel)
theorem kw_583 : Cond.selects RX5 yX5_finding yX5_finding ∈ g_all := g_w 583 (by decide +kernel) (by decide +kernel)
theorem kw_584 : Cond.code yX5_finding cX5_finding 4 (some FieldType.int) ∈ g_all := g_w 584 (by decide +kernel) (by decide +kernel)
theorem kw_586 : Cond.methodLink RX7 197 yX5_putQuotient ∈ g_all := g_w 586 (by decide +kernel) (by decide +kernel)
theorem kw_587 : Cond.instanceMethod yX5_putQuotient ∈ g_all := g_w 587 (by decide +kernel) (by decide +kernel)
theorem kw_588 : Cond.selects RX5 yX5_putQuotient yX5_putQuotient ∈ g_all := g_w 588 (by decide +kernel) (by decide +kernel)
theorem kw_589 : Cond.code yX5_putQuotient cX5_putQuotient 4 none ∈ g_all := g_w 589 (by decide +kernel) (by decide +kernel)
theorem kw_590 : Cond.methodLink RX5 38 yX5_putNoNumber ∈ g_all := g_w 590 (by decide +kernel) (by decide +kernel)
theorem kw_592 : Cond.instanceMethod yX5_putNoNumber ∈ g_all := g_w 592 (by decide +kernel) (by decide +kernel)
theorem kw_593 : Cond.code yX5_putNoNumber cX5_putNoNumber 2 none ∈ g_all := g_w 593 (by decide +kernel) (by decide +kernel)
theorem kw_594 : Cond.methodLink RX7 201 yX5_thousandAt ∈ g_all := g_w 594 (by decide +kernel) (by decide +kernel)
theorem kw_595 : Cond.instanceMethod yX5_thousandAt ∈ g_all := g_w 595 (by decide +kernel) (by decide +kernel)
theorem kw_596 : Cond.selects RX5 yX5_thousandAt yX5_thousandAt ∈ g_all := g_w 596 (by decide +kernel) (by decide +kernel)
theorem kw_597 : Cond.code yX5_thousandAt cX5_thousandAt 2 (some FieldType.int) ∈ g_all := g_w 597 (by decide +kernel) (by decide +kernel)
theorem kw_598 : Cond.constant RX5 56 (2000000 : Int32) ∈ g_all := g_w 598 (by decide +kernel) (by decide +kernel)
theorem kw_599 : Cond.constantFloat RX5 57 (1148846080 : UInt32) ∈ g_all := g_w 599 (by decide +kernel) (by decide +kernel)
theorem kw_600 : Cond.methodLink RX5 58 yX5_cutThousand ∈ g_all := g_w 600 (by decide +kernel) (by decide +kernel)
theorem kw_601 : Cond.static yX5_cutThousand ∈ g_all := g_w 601 (by decide +kernel) (by decide +kernel)
theorem kw_602 : Cond.code yX5_cutThousand cX5_cutThousand 2 (some FieldType.int) ∈ g_all := g_w 602 (by decide +kernel) (by decide +kernel)
theorem kw_603 : Cond.constantDouble RX5 52 (4696837146684686336 : UInt64) ∈ g_all := g_w 603 (by decide +kernel) (by decide +kernel)
theorem kw_604 : Cond.constant RX5 64 (3000000 : Int32) ∈ g_all := g_w 604 (by decide +kernel) (by decide +kernel)
theorem kw_605 : Cond.constantDouble RX5 54 (13920209183539462144 : UInt64) ∈ g_all := g_w 605 (by decide +kernel) (by decide +kernel)
theorem kw_606 : Cond.constant RX5 65 (1000000 : Int32) ∈ g_all := g_w 606 (by decide +kernel) (by decide +kernel)
theorem kw_607 : Cond.constantDouble RX5 62 (4652007308841189376 : UInt64) ∈ g_all := g_w 607 (by decide +kernel) (by decide +kernel)
theorem kw_608 : Cond.methodLink RL 98 yX7_get ∈ g_all := g_w 608 (by decide +kernel) (by decide +kernel)
theorem kw_609 : Cond.instanceMethod yX7_get ∈ g_all := g_w 609 (by decide +kernel) (by decide +kernel)
theorem kw_610 : Cond.selects RX7 yX7_get yX7_get ∈ g_all := g_w 610 (by decide +kernel) (by decide +kernel)
theorem kw_611 : Cond.code yX7_get cX7_get 5 (some FieldType.int) ∈ g_all := g_w 611 (by decide +kernel) (by decide +kernel)
theorem kw_612 : Cond.methodLink RX7 204 yX7_traceRefusal ∈ g_all := g_w 612 (by decide +kernel) (by decide +kernel)
theorem kw_614 : Cond.instanceMethod yX7_traceRefusal ∈ g_all := g_w 614 (by decide +kernel) (by decide +kernel)
theorem kw_615 : Cond.code yX7_traceRefusal cX7_traceRefusal 5 (some FieldType.int) ∈ g_all := g_w 615 (by decide +kernel) (by decide +kernel)
theorem kw_616 : Cond.methodLink RL 102 yX7_rest ∈ g_all := g_w 616 (by decide +kernel) (by decide +kernel)
theorem kw_617 : Cond.instanceMethod yX7_rest ∈ g_all := g_w 617 (by decide +kernel) (by decide +kernel)
theorem kw_618 : Cond.selects RX7 yX7_rest yX7_rest ∈ g_all := g_w 618 (by decide +kernel) (by decide +kernel)
theorem kw_619 : Cond.code yX7_rest cX7_rest 6 (some FieldType.int) ∈ g_all := g_w 619 (by decide +kernel) (by decide +kernel)
theorem kw_620 : Cond.methodLink RX7 208 yX5_putRemainder ∈ g_all := g_w 620 (by decide +kernel) (by decide +kernel)
theorem kw_621 : Cond.instanceMethod yX5_putRemainder ∈ g_all := g_w 621 (by decide +kernel) (by decide +kernel)
theorem kw_622 : Cond.selects RX5 yX5_putRemainder yX5_putRemainder ∈ g_all := g_w 622 (by decide +kernel) (by decide +kernel)
theorem kw_623 : Cond.code yX5_putRemainder cX5_putRemainder 3 none ∈ g_all := g_w 623 (by decide +kernel) (by decide +kernel)
theorem kw_624 : Cond.methodLink RX5 42 yX5_isEndless ∈ g_all := g_w 624 (by decide +kernel) (by decide +kernel)
theorem kw_625 : Cond.static yX5_isEndless ∈ g_all := g_w 625 (by decide +kernel) (by decide +kernel)
theorem kw_626 : Cond.code yX5_isEndless cX5_isEndless 2 (some FieldType.boolean) ∈ g_all := g_w 626 (by decide +kernel) (by decide +kernel)
theorem kw_627 : Cond.methodLink RX5 46 yX5_remainder ∈ g_all := g_w 627 (by decide +kernel) (by decide +kernel)
theorem kw_628 : Cond.static yX5_remainder ∈ g_all := g_w 628 (by decide +kernel) (by decide +kernel)
theorem kw_629 : Cond.code yX5_remainder cX5_remainder 10 (some FieldType.double) ∈ g_all := g_w 629 (by decide +kernel) (by decide +kernel)
theorem kw_630 : Cond.constantDouble RX5 50 (4611686018427387904 : UInt64) ∈ g_all := g_w 630 (by decide +kernel) (by decide +kernel)
theorem kw_631 : Cond.methodLink RL 107 yX7_compare ∈ g_all := g_w 631 (by decide +kernel) (by decide +kernel)
theorem kw_632 : Cond.instanceMethod yX7_compare ∈ g_all := g_w 632 (by decide +kernel) (by decide +kernel)
theorem kw_633 : Cond.selects RX7 yX7_compare yX7_compare ∈ g_all := g_w 633 (by decide +kernel) (by decide +kernel)
theorem kw_634 : Cond.code yX7_compare cX7_compare 6 (some FieldType.int) ∈ g_all := g_w 634 (by decide +kernel) (by decide +kernel)
theorem kw_635 : Cond.methodLink RX7 211 yX5_order ∈ g_all := g_w 635 (by decide +kernel) (by decide +kernel)
theorem kw_636 : Cond.instanceMethod yX5_order ∈ g_all := g_w 636 (by decide +kernel) (by decide +kernel)
theorem kw_637 : Cond.selects RX5 yX5_order yX5_order ∈ g_all := g_w 637 (by decide +kernel) (by decide +kernel)
theorem kw_638 : Cond.code yX5_order cX5_order 3 (some FieldType.int) ∈ g_all := g_w 638 (by decide +kernel) (by decide +kernel)
theorem kw_639 : Cond.methodLink RL 111 yX7_sum ∈ g_all := g_w 639 (by decide +kernel) (by decide +kernel)
theorem kw_640 : Cond.instanceMethod yX7_sum ∈ g_all := g_w 640 (by decide +kernel) (by decide +kernel)
theorem kw_641 : Cond.selects RX7 yX7_sum yX7_sum ∈ g_all := g_w 641 (by decide +kernel) (by decide +kernel)
theorem kw_642 : Cond.code yX7_sum cX7_sum 4 (some FieldType.int) ∈ g_all := g_w 642 (by decide +kernel) (by decide +kernel)
theorem kw_643 : Cond.methodLink RX7 215 yX5_isMissing ∈ g_all := g_w 643 (by decide +kernel) (by decide +kernel)
theorem kw_644 : Cond.instanceMethod yX5_isMissing ∈ g_all := g_w 644 (by decide +kernel) (by decide +kernel)
theorem kw_645 : Cond.selects RX5 yX5_isMissing yX5_isMissing ∈ g_all := g_w 645 (by decide +kernel) (by decide +kernel)
theorem kw_646 : Cond.code yX5_isMissing cX5_isMissing 1 (some FieldType.boolean) ∈ g_all := g_w 646 (by decide +kernel) (by decide +kernel)
theorem kw_647 : Cond.methodLink RX7 218 yX5_thousandOfAll ∈ g_all := g_w 647 (by decide +kernel) (by decide +kernel)
theorem kw_648 : Cond.instanceMethod yX5_thousandOfAll ∈ g_all := g_w 648 (by decide +kernel) (by decide +kernel)
theorem kw_649 : Cond.selects RX5 yX5_thousandOfAll yX5_thousandOfAll ∈ g_all := g_w 649 (by decide +kernel) (by decide +kernel)
theorem kw_650 : Cond.code yX5_thousandOfAll cX5_thousandOfAll 7 (some FieldType.int) ∈ g_all := g_w 650 (by decide +kernel) (by decide +kernel)
theorem kw_651 : Cond.methodLink RX7 221 yX5_noNumberCount ∈ g_all := g_w 651 (by decide +kernel) (by decide +kernel)
theorem kw_652 : Cond.instanceMethod yX5_noNumberCount ∈ g_all := g_w 652 (by decide +kernel) (by decide +kernel)
theorem kw_653 : Cond.selects RX5 yX5_noNumberCount yX5_noNumberCount ∈ g_all := g_w 653 (by decide +kernel) (by decide +kernel)
theorem kw_654 : Cond.code yX5_noNumberCount cX5_noNumberCount 3 (some FieldType.int) ∈ g_all := g_w 654 (by decide +kernel) (by decide +kernel)
theorem kw_655 : Cond.methodLink RL 115 yX7_drop ∈ g_all := g_w 655 (by decide +kernel) (by decide +kernel)
theorem kw_656 : Cond.instanceMethod yX7_drop ∈ g_all := g_w 656 (by decide +kernel) (by decide +kernel)
theorem kw_657 : Cond.selects RX7 yX7_drop yX7_drop ∈ g_all := g_w 657 (by decide +kernel) (by decide +kernel)
theorem kw_658 : Cond.code yX7_drop cX7_drop 4 (some FieldType.int) ∈ g_all := g_w 658 (by decide +kernel) (by decide +kernel)
theorem kw_659 : Cond.methodLink RX7 224 yX5_placeCount ∈ g_all := g_w 659 (by decide +kernel) (by decide +kernel)
theorem kw_660 : Cond.instanceMethod yX5_placeCount ∈ g_all := g_w 660 (by decide +kernel) (by decide +kernel)
theorem kw_661 : Cond.selects RX5 yX5_placeCount yX5_placeCount ∈ g_all := g_w 661 (by decide +kernel) (by decide +kernel)
theorem kw_662 : Cond.code yX5_placeCount cX5_placeCount 1 (some FieldType.int) ∈ g_all := g_w 662 (by decide +kernel) (by decide +kernel)
theorem kw_663 : Cond.methodLink RL 119 yX7_count ∈ g_all := g_w 663 (by decide +kernel) (by decide +kernel)
theorem kw_664 : Cond.instanceMethod yX7_count ∈ g_all := g_w 664 (by decide +kernel) (by decide +kernel)
theorem kw_665 : Cond.selects RX7 yX7_count yX7_count ∈ g_all := g_w 665 (by decide +kernel) (by decide +kernel)
theorem kw_666 : Cond.code yX7_count cX7_count 2 (some FieldType.int) ∈ g_all := g_w 666 (by decide +kernel) (by decide +kernel)
theorem kw_667 : Cond.methodLink RX7 233 yX7_placesOfAllTraces ∈ g_all := g_w 667 (by decide +kernel) (by decide +kernel)
theorem kw_669 : Cond.instanceMethod yX7_placesOfAllTraces ∈ g_all := g_w 669 (by decide +kernel) (by decide +kernel)
theorem kw_670 : Cond.code yX7_placesOfAllTraces cX7_placesOfAllTraces 3 (some FieldType.int) ∈ g_all := g_w 670 (by decide +kernel) (by decide +kernel)
theorem kw_671 : Cond.methodLink RX7 236 yX2_tooSoonCount ∈ g_all := g_w 671 (by decide +kernel) (by decide +kernel)
theorem kw_672 : Cond.instanceMethod yX2_tooSoonCount ∈ g_all := g_w 672 (by decide +kernel) (by decide +kernel)
theorem kw_673 : Cond.selects RX2 yX2_tooSoonCount yX2_tooSoonCount ∈ g_all := g_w 673 (by decide +kernel) (by decide +kernel)
theorem kw_674 : Cond.code yX2_tooSoonCount cX2_tooSoonCount 3 (some FieldType.int) ∈ g_all := g_w 674 (by decide +kernel) (by decide +kernel)
theorem kw_675 : Cond.methodLink RX2 68 yX2_soonBound ∈ g_all := g_w 675 (by decide +kernel) (by decide +kernel)
theorem kw_676 : Cond.classLink RL 10 RX8 ∈ g_all := g_w 676 (by decide +kernel) (by decide +kernel)
theorem kw_677 : Cond.instantiable RX8 35 ∈ g_all := g_w 677 (by decide +kernel) (by decide +kernel)
theorem kw_678 : Cond.methodLink RL 12 yX8_init ∈ g_all := g_w 678 (by decide +kernel) (by decide +kernel)
theorem kw_679 : Cond.instanceMethod yX8_init ∈ g_all := g_w 679 (by decide +kernel) (by decide +kernel)
theorem kw_680 : Cond.code yX8_init cX8_init 1 none ∈ g_all := g_w 680 (by decide +kernel) (by decide +kernel)
theorem kw_681 : Cond.methodLink RX8 1 ⟨"java/lang/Object", "<init>", "()V"⟩ ∈ g_all := g_w 681 (by decide +kernel) (by decide +kernel)
theorem kw_682 : Cond.methodLink RX8 76 yX8_anew ∈ g_all := g_w 682 (by decide +kernel) (by decide +kernel)
theorem kw_684 : Cond.instanceMethod yX8_anew ∈ g_all := g_w 684 (by decide +kernel) (by decide +kernel)
theorem kw_685 : Cond.code yX8_anew cX8_anew 2 none ∈ g_all := g_w 685 (by decide +kernel) (by decide +kernel)
theorem kw_686 : Cond.methodLink RX8 80 yX8_copyRow ∈ g_all := g_w 686 (by decide +kernel) (by decide +kernel)
theorem kw_688 : Cond.instanceMethod yX8_copyRow ∈ g_all := g_w 688 (by decide +kernel) (by decide +kernel)
theorem kw_689 : Cond.code yX8_copyRow cX8_copyRow 4 none ∈ g_all := g_w 689 (by decide +kernel) (by decide +kernel)
theorem kw_690 : Cond.fieldLink RX8 7 "SkewPlanModel" "row" "[I" ∈ g_all := g_w 690 (by decide +kernel) (by decide +kernel)
theorem kw_691 : Cond.fieldLink RX8 84 "SkewPlanModel" "registers" "I" ∈ g_all := g_w 691 (by decide +kernel) (by decide +kernel)
theorem kw_692 : Cond.fieldLink RX8 88 "SkewPlanModel" "paths" "I" ∈ g_all := g_w 692 (by decide +kernel) (by decide +kernel)
theorem kw_693 : Cond.fieldLink RX8 13 "SkewPlanModel" "from" "[I" ∈ g_all := g_w 693 (by decide +kernel) (by decide +kernel)
theorem kw_694 : Cond.fieldLink RX8 16 "SkewPlanModel" "to" "[I" ∈ g_all := g_w 694 (by decide +kernel) (by decide +kernel)
theorem kw_695 : Cond.fieldLink RX8 91 "SkewPlanModel" "setup" "I" ∈ g_all := g_w 695 (by decide +kernel) (by decide +kernel)
theorem kw_696 : Cond.fieldLink RX8 94 "SkewPlanModel" "hold" "I" ∈ g_all := g_w 696 (by decide +kernel) (by decide +kernel)
theorem kw_697 : Cond.fieldLink RX8 97 "SkewPlanModel" "step" "I" ∈ g_all := g_w 697 (by decide +kernel) (by decide +kernel)
theorem kw_698 : Cond.fieldLink RX8 172 "SkewPlanModel" "undos" "I" ∈ g_all := g_w 698 (by decide +kernel) (by decide +kernel)
theorem kw_699 : Cond.fieldLink RX8 19 "SkewPlanModel" "isKept" "[Z" ∈ g_all := g_w 699 (by decide +kernel) (by decide +kernel)
theorem kw_700 : Cond.fieldLink RX8 23 "SkewPlanModel" "text" "[I" ∈ g_all := g_w 700 (by decide +kernel) (by decide +kernel)
theorem kw_701 : Cond.fieldLink RX8 106 "SkewPlanModel" "length" "I" ∈ g_all := g_w 701 (by decide +kernel) (by decide +kernel)
theorem kw_702 : Cond.fieldLink RX8 26 "SkewPlanModel" "sorts" "[I" ∈ g_all := g_w 702 (by decide +kernel) (by decide +kernel)
theorem kw_703 : Cond.fieldLink RX8 29 "SkewPlanModel" "sizes" "[I" ∈ g_all := g_w 703 (by decide +kernel) (by decide +kernel)
theorem kw_704 : Cond.fieldLink RX8 32 "SkewPlanModel" "floats" "[F" ∈ g_all := g_w 704 (by decide +kernel) (by decide +kernel)
theorem kw_705 : Cond.fieldLink RX8 36 "SkewPlanModel" "doubles" "[D" ∈ g_all := g_w 705 (by decide +kernel) (by decide +kernel)
theorem kw_706 : Cond.fieldLink RX8 120 "SkewPlanModel" "first" "I" ∈ g_all := g_w 706 (by decide +kernel) (by decide +kernel)
theorem kw_707 : Cond.fieldLink RX8 117 "SkewPlanModel" "behind" "I" ∈ g_all := g_w 707 (by decide +kernel) (by decide +kernel)
theorem kw_708 : Cond.fieldLink RX8 141 "SkewPlanModel" "readRegisters" "I" ∈ g_all := g_w 708 (by decide +kernel) (by decide +kernel)
theorem kw_709 : Cond.fieldLink RX8 148 "SkewPlanModel" "readPaths" "I" ∈ g_all := g_w 709 (by decide +kernel) (by decide +kernel)
theorem kw_710 : Cond.fieldLink RX8 161 "SkewPlanModel" "clauses" "I" ∈ g_all := g_w 710 (by decide +kernel) (by decide +kernel)
theorem kw_711 : Cond.fieldLink RX8 154 "SkewPlanModel" "doing" "Z" ∈ g_all := g_w 711 (by decide +kernel) (by decide +kernel)
theorem kw_712 : Cond.fieldLink RX8 40 "SkewPlanModel" "numbers" "[I" ∈ g_all := g_w 712 (by decide +kernel) (by decide +kernel)
theorem kw_713 : Cond.fieldLink RX8 43 "SkewPlanModel" "netWord" "[I" ∈ g_all := g_w 713 (by decide +kernel) (by decide +kernel)
theorem kw_714 : Cond.fieldLink RX8 46 "SkewPlanModel" "pathWord" "[I" ∈ g_all := g_w 714 (by decide +kernel) (by decide +kernel)
theorem kw_715 : Cond.fieldLink RX8 49 "SkewPlanModel" "setupWord" "[I" ∈ g_all := g_w 715 (by decide +kernel) (by decide +kernel)
theorem kw_716 : Cond.fieldLink RX8 52 "SkewPlanModel" "holdWord" "[I" ∈ g_all := g_w 716 (by decide +kernel) (by decide +kernel)
theorem kw_717 : Cond.fieldLink RX8 55 "SkewPlanModel" "stepWord" "[I" ∈ g_all := g_w 717 (by decide +kernel) (by decide +kernel)
theorem kw_718 : Cond.fieldLink RX8 58 "SkewPlanModel" "periodWord" "[I" ∈ g_all := g_w 718 (by decide +kernel) (by decide +kernel)
theorem kw_719 : Cond.fieldLink RX8 61 "SkewPlanModel" "lates" "[I" ∈ g_all := g_w 719 (by decide +kernel) (by decide +kernel)
theorem kw_720 : Cond.fieldLink RX8 64 "SkewPlanModel" "soons" "[I" ∈ g_all := g_w 720 (by decide +kernel) (by decide +kernel)
theorem kw_721 : Cond.fieldLink RX8 67 "SkewPlanModel" "shifts" "[I" ∈ g_all := g_w 721 (by decide +kernel) (by decide +kernel)
theorem kw_722 : Cond.fieldLink RX8 70 "SkewPlanModel" "bounds" "[I" ∈ g_all := g_w 722 (by decide +kernel) (by decide +kernel)
theorem kw_723 : Cond.fieldLink RX8 73 "SkewPlanModel" "ring" "[I" ∈ g_all := g_w 723 (by decide +kernel) (by decide +kernel)
theorem kw_724 : Cond.fieldLink RX8 219 "SkewPlanModel" "ringMany" "I" ∈ g_all := g_w 724 (by decide +kernel) (by decide +kernel)
theorem kw_796 : Cond.arrayClass FieldType.float ∈ g_all := g_w 796 (by decide +kernel) (by decide +kernel)
theorem kw_797 : Cond.methodLink RL 17 yX8_write ∈ g_all := g_w 797 (by decide +kernel) (by decide +kernel)
theorem kw_798 : Cond.instanceMethod yX8_write ∈ g_all := g_w 798 (by decide +kernel) (by decide +kernel)
theorem kw_799 : Cond.selects RX8 yX8_write yX8_write ∈ g_all := g_w 799 (by decide +kernel) (by decide +kernel)
theorem kw_800 : Cond.code yX8_write cX8_write 2 (some FieldType.int) ∈ g_all := g_w 800 (by decide +kernel) (by decide +kernel)
theorem kw_801 : Cond.constantLong RX8 100 (255 : Int64) ∈ g_all := g_w 801 (by decide +kernel) (by decide +kernel)
theorem kw_802 : Cond.methodLink RX8 102 yX8_in ∈ g_all := g_w 802 (by decide +kernel) (by decide +kernel)
theorem kw_803 : Cond.static yX8_in ∈ g_all := g_w 803 (by decide +kernel) (by decide +kernel)
theorem kw_804 : Cond.code yX8_in cX8_in 6 (some FieldType.boolean) ∈ g_all := g_w 804 (by decide +kernel) (by decide +kernel)
theorem kw_805 : Cond.methodLink RL 22 yX8_erase ∈ g_all := g_w 805 (by decide +kernel) (by decide +kernel)
theorem kw_806 : Cond.instanceMethod yX8_erase ∈ g_all := g_w 806 (by decide +kernel) (by decide +kernel)
theorem kw_807 : Cond.selects RX8 yX8_erase yX8_erase ∈ g_all := g_w 807 (by decide +kernel) (by decide +kernel)
theorem kw_808 : Cond.code yX8_erase cX8_erase 2 (some FieldType.int) ∈ g_all := g_w 808 (by decide +kernel) (by decide +kernel)
theorem kw_809 : Cond.methodLink RL 26 yX8_fault ∈ g_all := g_w 809 (by decide +kernel) (by decide +kernel)
theorem kw_810 : Cond.instanceMethod yX8_fault ∈ g_all := g_w 810 (by decide +kernel) (by decide +kernel)
theorem kw_811 : Cond.selects RX8 yX8_fault yX8_fault ∈ g_all := g_w 811 (by decide +kernel) (by decide +kernel)
theorem kw_812 : Cond.code yX8_fault cX8_fault 1 (some FieldType.int) ∈ g_all := g_w 812 (by decide +kernel) (by decide +kernel)
theorem kw_813 : Cond.methodLink RX8 168 yX8_reads ∈ g_all := g_w 813 (by decide +kernel) (by decide +kernel)
theorem kw_815 : Cond.instanceMethod yX8_reads ∈ g_all := g_w 815 (by decide +kernel) (by decide +kernel)
theorem kw_816 : Cond.code yX8_reads cX8_reads 3 (some FieldType.boolean) ∈ g_all := g_w 816 (by decide +kernel) (by decide +kernel)
theorem kw_817 : Cond.methodLink RX8 130 yX8_nextToken ∈ g_all := g_w 817 (by decide +kernel) (by decide +kernel)
theorem kw_819 : Cond.instanceMethod yX8_nextToken ∈ g_all := g_w 819 (by decide +kernel) (by decide +kernel)
theorem kw_820 : Cond.code yX8_nextToken cX8_nextToken 1 none ∈ g_all := g_w 820 (by decide +kernel) (by decide +kernel)
theorem kw_821 : Cond.methodLink RX8 123 yX8_isLetter ∈ g_all := g_w 821 (by decide +kernel) (by decide +kernel)
theorem kw_822 : Cond.static yX8_isLetter ∈ g_all := g_w 822 (by decide +kernel) (by decide +kernel)
theorem kw_823 : Cond.code yX8_isLetter cX8_isLetter 1 (some FieldType.boolean) ∈ g_all := g_w 823 (by decide +kernel) (by decide +kernel)
theorem kw_824 : Cond.constantLong RX8 109 (97 : Int64) ∈ g_all := g_w 824 (by decide +kernel) (by decide +kernel)
theorem kw_825 : Cond.constantLong RX8 111 (122 : Int64) ∈ g_all := g_w 825 (by decide +kernel) (by decide +kernel)
theorem kw_826 : Cond.methodLink RX8 127 yX8_isDigit ∈ g_all := g_w 826 (by decide +kernel) (by decide +kernel)
theorem kw_827 : Cond.static yX8_isDigit ∈ g_all := g_w 827 (by decide +kernel) (by decide +kernel)
theorem kw_828 : Cond.code yX8_isDigit cX8_isDigit 1 (some FieldType.boolean) ∈ g_all := g_w 828 (by decide +kernel) (by decide +kernel)
theorem kw_829 : Cond.constantLong RX8 113 (48 : Int64) ∈ g_all := g_w 829 (by decide +kernel) (by decide +kernel)
theorem kw_830 : Cond.constantLong RX8 115 (57 : Int64) ∈ g_all := g_w 830 (by decide +kernel) (by decide +kernel)
theorem kw_831 : Cond.methodLink RX8 164 yX8_readsClause ∈ g_all := g_w 831 (by decide +kernel) (by decide +kernel)
theorem kw_833 : Cond.instanceMethod yX8_readsClause ∈ g_all := g_w 833 (by decide +kernel) (by decide +kernel)
theorem kw_834 : Cond.code yX8_readsClause cX8_readsClause 2 (some FieldType.boolean) ∈ g_all := g_w 834 (by decide +kernel) (by decide +kernel)
theorem kw_835 : Cond.methodLink RX8 144 yX8_wordHere ∈ g_all := g_w 835 (by decide +kernel) (by decide +kernel)
theorem kw_837 : Cond.instanceMethod yX8_wordHere ∈ g_all := g_w 837 (by decide +kernel) (by decide +kernel)
theorem kw_838 : Cond.code yX8_wordHere cX8_wordHere 1 (some FieldType.int) ∈ g_all := g_w 838 (by decide +kernel) (by decide +kernel)
theorem kw_839 : Cond.methodLink RX8 133 yX8_isWord ∈ g_all := g_w 839 (by decide +kernel) (by decide +kernel)
theorem kw_841 : Cond.instanceMethod yX8_isWord ∈ g_all := g_w 841 (by decide +kernel) (by decide +kernel)
theorem kw_842 : Cond.code yX8_isWord cX8_isWord 4 (some FieldType.boolean) ∈ g_all := g_w 842 (by decide +kernel) (by decide +kernel)
theorem kw_843 : Cond.methodLink RX8 151 yX8_readsNumbers ∈ g_all := g_w 843 (by decide +kernel) (by decide +kernel)
theorem kw_845 : Cond.instanceMethod yX8_readsNumbers ∈ g_all := g_w 845 (by decide +kernel) (by decide +kernel)
theorem kw_846 : Cond.code yX8_readsNumbers cX8_readsNumbers 2 (some FieldType.boolean) ∈ g_all := g_w 846 (by decide +kernel) (by decide +kernel)
theorem kw_847 : Cond.methodLink RX8 137 yX8_number ∈ g_all := g_w 847 (by decide +kernel) (by decide +kernel)
theorem kw_849 : Cond.instanceMethod yX8_number ∈ g_all := g_w 849 (by decide +kernel) (by decide +kernel)
theorem kw_850 : Cond.code yX8_number cX8_number 6 (some FieldType.boolean) ∈ g_all := g_w 850 (by decide +kernel) (by decide +kernel)
theorem kw_851 : Cond.methodLink RX8 158 yX8_does ∈ g_all := g_w 851 (by decide +kernel) (by decide +kernel)
theorem kw_853 : Cond.instanceMethod yX8_does ∈ g_all := g_w 853 (by decide +kernel) (by decide +kernel)
theorem kw_854 : Cond.code yX8_does cX8_does 2 none ∈ g_all := g_w 854 (by decide +kernel) (by decide +kernel)
theorem kw_855 : Cond.methodLink RL 30 yX8_net ∈ g_all := g_w 855 (by decide +kernel) (by decide +kernel)
theorem kw_856 : Cond.instanceMethod yX8_net ∈ g_all := g_w 856 (by decide +kernel) (by decide +kernel)
theorem kw_857 : Cond.selects RX8 yX8_net yX8_net ∈ g_all := g_w 857 (by decide +kernel) (by decide +kernel)
theorem kw_858 : Cond.code yX8_net cX8_net 2 (some FieldType.int) ∈ g_all := g_w 858 (by decide +kernel) (by decide +kernel)
theorem kw_859 : Cond.methodLink RL 35 yX8_path ∈ g_all := g_w 859 (by decide +kernel) (by decide +kernel)
theorem kw_860 : Cond.instanceMethod yX8_path ∈ g_all := g_w 860 (by decide +kernel) (by decide +kernel)
theorem kw_861 : Cond.selects RX8 yX8_path yX8_path ∈ g_all := g_w 861 (by decide +kernel) (by decide +kernel)
theorem kw_862 : Cond.code yX8_path cX8_path 3 (some FieldType.int) ∈ g_all := g_w 862 (by decide +kernel) (by decide +kernel)
theorem kw_863 : Cond.methodLink RX8 175 yX8_isPath ∈ g_all := g_w 863 (by decide +kernel) (by decide +kernel)
theorem kw_865 : Cond.instanceMethod yX8_isPath ∈ g_all := g_w 865 (by decide +kernel) (by decide +kernel)
theorem kw_866 : Cond.code yX8_isPath cX8_isPath 2 (some FieldType.boolean) ∈ g_all := g_w 866 (by decide +kernel) (by decide +kernel)
theorem kw_867 : Cond.methodLink RX8 178 yX8_lateOf ∈ g_all := g_w 867 (by decide +kernel) (by decide +kernel)
theorem kw_869 : Cond.instanceMethod yX8_lateOf ∈ g_all := g_w 869 (by decide +kernel) (by decide +kernel)
theorem kw_870 : Cond.code yX8_lateOf cX8_lateOf 3 (some FieldType.int) ∈ g_all := g_w 870 (by decide +kernel) (by decide +kernel)
theorem kw_871 : Cond.methodLink RX8 182 yX8_soonOf ∈ g_all := g_w 871 (by decide +kernel) (by decide +kernel)
theorem kw_873 : Cond.instanceMethod yX8_soonOf ∈ g_all := g_w 873 (by decide +kernel) (by decide +kernel)
theorem kw_874 : Cond.code yX8_soonOf cX8_soonOf 2 (some FieldType.int) ∈ g_all := g_w 874 (by decide +kernel) (by decide +kernel)
theorem kw_875 : Cond.methodLink RL 39 yX8_period ∈ g_all := g_w 875 (by decide +kernel) (by decide +kernel)
theorem kw_876 : Cond.instanceMethod yX8_period ∈ g_all := g_w 876 (by decide +kernel) (by decide +kernel)
theorem kw_877 : Cond.selects RX8 yX8_period yX8_period ∈ g_all := g_w 877 (by decide +kernel) (by decide +kernel)
theorem kw_878 : Cond.code yX8_period cX8_period 3 (some FieldType.int) ∈ g_all := g_w 878 (by decide +kernel) (by decide +kernel)
theorem kw_879 : Cond.constantLong RX8 186 (999 : Int64) ∈ g_all := g_w 879 (by decide +kernel) (by decide +kernel)
theorem kw_880 : Cond.methodLink RX8 188 yX8_keepPast ∈ g_all := g_w 880 (by decide +kernel) (by decide +kernel)
theorem kw_882 : Cond.instanceMethod yX8_keepPast ∈ g_all := g_w 882 (by decide +kernel) (by decide +kernel)
theorem kw_883 : Cond.code yX8_keepPast cX8_keepPast 2 none ∈ g_all := g_w 883 (by decide +kernel) (by decide +kernel)
theorem kw_884 : Cond.methodLink RL 43 yX8_slower ∈ g_all := g_w 884 (by decide +kernel) (by decide +kernel)
theorem kw_885 : Cond.instanceMethod yX8_slower ∈ g_all := g_w 885 (by decide +kernel) (by decide +kernel)
theorem kw_886 : Cond.selects RX8 yX8_slower yX8_slower ∈ g_all := g_w 886 (by decide +kernel) (by decide +kernel)
theorem kw_887 : Cond.code yX8_slower cX8_slower 3 (some FieldType.int) ∈ g_all := g_w 887 (by decide +kernel) (by decide +kernel)
theorem kw_888 : Cond.constantLong RX8 191 (20 : Int64) ∈ g_all := g_w 888 (by decide +kernel) (by decide +kernel)
theorem kw_889 : Cond.methodLink RL 47 yX8_undo ∈ g_all := g_w 889 (by decide +kernel) (by decide +kernel)
theorem kw_890 : Cond.instanceMethod yX8_undo ∈ g_all := g_w 890 (by decide +kernel) (by decide +kernel)
theorem kw_891 : Cond.selects RX8 yX8_undo yX8_undo ∈ g_all := g_w 891 (by decide +kernel) (by decide +kernel)
theorem kw_892 : Cond.code yX8_undo cX8_undo 1 (some FieldType.int) ∈ g_all := g_w 892 (by decide +kernel) (by decide +kernel)
theorem kw_893 : Cond.methodLink RL 51 yX8_keep ∈ g_all := g_w 893 (by decide +kernel) (by decide +kernel)
theorem kw_894 : Cond.instanceMethod yX8_keep ∈ g_all := g_w 894 (by decide +kernel) (by decide +kernel)
theorem kw_895 : Cond.selects RX8 yX8_keep yX8_keep ∈ g_all := g_w 895 (by decide +kernel) (by decide +kernel)
theorem kw_896 : Cond.code yX8_keep cX8_keep 2 (some FieldType.int) ∈ g_all := g_w 896 (by decide +kernel) (by decide +kernel)
theorem kw_897 : Cond.methodLink RL 55 yX8_back ∈ g_all := g_w 897 (by decide +kernel) (by decide +kernel)
theorem kw_898 : Cond.instanceMethod yX8_back ∈ g_all := g_w 898 (by decide +kernel) (by decide +kernel)
theorem kw_899 : Cond.selects RX8 yX8_back yX8_back ∈ g_all := g_w 899 (by decide +kernel) (by decide +kernel)
theorem kw_900 : Cond.code yX8_back cX8_back 2 (some FieldType.int) ∈ g_all := g_w 900 (by decide +kernel) (by decide +kernel)
theorem kw_901 : Cond.methodLink RL 59 yX8_feasible ∈ g_all := g_w 901 (by decide +kernel) (by decide +kernel)
theorem kw_902 : Cond.instanceMethod yX8_feasible ∈ g_all := g_w 902 (by decide +kernel) (by decide +kernel)
theorem kw_903 : Cond.selects RX8 yX8_feasible yX8_feasible ∈ g_all := g_w 903 (by decide +kernel) (by decide +kernel)
theorem kw_904 : Cond.code yX8_feasible cX8_feasible 1 (some FieldType.int) ∈ g_all := g_w 904 (by decide +kernel) (by decide +kernel)
theorem kw_905 : Cond.methodLink RX8 205 yX8_isFeasible ∈ g_all := g_w 905 (by decide +kernel) (by decide +kernel)
theorem kw_907 : Cond.instanceMethod yX8_isFeasible ∈ g_all := g_w 907 (by decide +kernel) (by decide +kernel)
theorem kw_908 : Cond.code yX8_isFeasible cX8_isFeasible 3 (some FieldType.boolean) ∈ g_all := g_w 908 (by decide +kernel) (by decide +kernel)
theorem kw_909 : Cond.methodLink RX8 199 yX8_layBounds ∈ g_all := g_w 909 (by decide +kernel) (by decide +kernel)
theorem kw_911 : Cond.instanceMethod yX8_layBounds ∈ g_all := g_w 911 (by decide +kernel) (by decide +kernel)
theorem kw_912 : Cond.code yX8_layBounds cX8_layBounds 4 none ∈ g_all := g_w 912 (by decide +kernel) (by decide +kernel)
theorem kw_913 : Cond.methodLink RX8 193 yX8_floor ∈ g_all := g_w 913 (by decide +kernel) (by decide +kernel)
theorem kw_914 : Cond.static yX8_floor ∈ g_all := g_w 914 (by decide +kernel) (by decide +kernel)
theorem kw_915 : Cond.code yX8_floor cX8_floor 2 (some FieldType.int) ∈ g_all := g_w 915 (by decide +kernel) (by decide +kernel)
theorem kw_916 : Cond.methodLink RX8 202 yX8_areThere ∈ g_all := g_w 916 (by decide +kernel) (by decide +kernel)
theorem kw_918 : Cond.instanceMethod yX8_areThere ∈ g_all := g_w 918 (by decide +kernel) (by decide +kernel)
theorem kw_919 : Cond.code yX8_areThere cX8_areThere 4 (some FieldType.boolean) ∈ g_all := g_w 919 (by decide +kernel) (by decide +kernel)
theorem kw_920 : Cond.methodLink RX8 196 yX8_makesLess ∈ g_all := g_w 920 (by decide +kernel) (by decide +kernel)
theorem kw_922 : Cond.instanceMethod yX8_makesLess ∈ g_all := g_w 922 (by decide +kernel) (by decide +kernel)
theorem kw_923 : Cond.code yX8_makesLess cX8_makesLess 5 (some FieldType.boolean) ∈ g_all := g_w 923 (by decide +kernel) (by decide +kernel)
theorem kw_924 : Cond.methodLink RL 63 yX8_shift ∈ g_all := g_w 924 (by decide +kernel) (by decide +kernel)
theorem kw_925 : Cond.instanceMethod yX8_shift ∈ g_all := g_w 925 (by decide +kernel) (by decide +kernel)
theorem kw_926 : Cond.selects RX8 yX8_shift yX8_shift ∈ g_all := g_w 926 (by decide +kernel) (by decide +kernel)
theorem kw_927 : Cond.code yX8_shift cX8_shift 2 (some FieldType.int) ∈ g_all := g_w 927 (by decide +kernel) (by decide +kernel)
theorem kw_928 : Cond.methodLink RX8 209 yX8_isRegister ∈ g_all := g_w 928 (by decide +kernel) (by decide +kernel)
theorem kw_930 : Cond.instanceMethod yX8_isRegister ∈ g_all := g_w 930 (by decide +kernel) (by decide +kernel)
theorem kw_931 : Cond.code yX8_isRegister cX8_isRegister 2 (some FieldType.boolean) ∈ g_all := g_w 931 (by decide +kernel) (by decide +kernel)
theorem kw_932 : Cond.methodLink RL 67 yX8_least ∈ g_all := g_w 932 (by decide +kernel) (by decide +kernel)
theorem kw_933 : Cond.instanceMethod yX8_least ∈ g_all := g_w 933 (by decide +kernel) (by decide +kernel)
theorem kw_934 : Cond.selects RX8 yX8_least yX8_least ∈ g_all := g_w 934 (by decide +kernel) (by decide +kernel)
theorem kw_935 : Cond.code yX8_least cX8_least 1 (some FieldType.int) ∈ g_all := g_w 935 (by decide +kernel) (by decide +kernel)
theorem kw_936 : Cond.methodLink RX8 212 yX8_leastOf ∈ g_all := g_w 936 (by decide +kernel) (by decide +kernel)
theorem kw_938 : Cond.instanceMethod yX8_leastOf ∈ g_all := g_w 938 (by decide +kernel) (by decide +kernel)
theorem kw_939 : Cond.code yX8_leastOf cX8_leastOf 5 (some FieldType.int) ∈ g_all := g_w 939 (by decide +kernel) (by decide +kernel)
theorem kw_940 : Cond.methodLink RL 71 yX8_rate ∈ g_all := g_w 940 (by decide +kernel) (by decide +kernel)
theorem kw_941 : Cond.instanceMethod yX8_rate ∈ g_all := g_w 941 (by decide +kernel) (by decide +kernel)
theorem kw_942 : Cond.selects RX8 yX8_rate yX8_rate ∈ g_all := g_w 942 (by decide +kernel) (by decide +kernel)
theorem kw_943 : Cond.code yX8_rate cX8_rate 9 (some FieldType.int) ∈ g_all := g_w 943 (by decide +kernel) (by decide +kernel)
theorem kw_944 : Cond.methodLink RX8 215 yX8_isFeasibleBy ∈ g_all := g_w 944 (by decide +kernel) (by decide +kernel)
theorem kw_946 : Cond.instanceMethod yX8_isFeasibleBy ∈ g_all := g_w 946 (by decide +kernel) (by decide +kernel)
theorem kw_947 : Cond.code yX8_isFeasibleBy cX8_isFeasibleBy 4 (some FieldType.boolean) ∈ g_all := g_w 947 (by decide +kernel) (by decide +kernel)
theorem kw_948 : Cond.methodLink RL 75 yX8_margin ∈ g_all := g_w 948 (by decide +kernel) (by decide +kernel)
theorem kw_949 : Cond.instanceMethod yX8_margin ∈ g_all := g_w 949 (by decide +kernel) (by decide +kernel)
theorem kw_950 : Cond.selects RX8 yX8_margin yX8_margin ∈ g_all := g_w 950 (by decide +kernel) (by decide +kernel)
theorem kw_951 : Cond.code yX8_margin cX8_margin 5 (some FieldType.int) ∈ g_all := g_w 951 (by decide +kernel) (by decide +kernel)
theorem kw_952 : Cond.methodLink RL 79 yX8_spare ∈ g_all := g_w 952 (by decide +kernel) (by decide +kernel)
theorem kw_953 : Cond.instanceMethod yX8_spare ∈ g_all := g_w 953 (by decide +kernel) (by decide +kernel)
theorem kw_954 : Cond.selects RX8 yX8_spare yX8_spare ∈ g_all := g_w 954 (by decide +kernel) (by decide +kernel)
theorem kw_955 : Cond.code yX8_spare cX8_spare 4 (some FieldType.int) ∈ g_all := g_w 955 (by decide +kernel) (by decide +kernel)
theorem kw_956 : Cond.methodLink RL 83 yX8_cycle ∈ g_all := g_w 956 (by decide +kernel) (by decide +kernel)
theorem kw_957 : Cond.instanceMethod yX8_cycle ∈ g_all := g_w 957 (by decide +kernel) (by decide +kernel)
theorem kw_958 : Cond.selects RX8 yX8_cycle yX8_cycle ∈ g_all := g_w 958 (by decide +kernel) (by decide +kernel)
theorem kw_959 : Cond.code yX8_cycle cX8_cycle 2 (some FieldType.int) ∈ g_all := g_w 959 (by decide +kernel) (by decide +kernel)
theorem kw_960 : Cond.methodLink RX8 228 yX8_layLeast ∈ g_all := g_w 960 (by decide +kernel) (by decide +kernel)
theorem kw_962 : Cond.instanceMethod yX8_layLeast ∈ g_all := g_w 962 (by decide +kernel) (by decide +kernel)
theorem kw_963 : Cond.code yX8_layLeast cX8_layLeast 4 none ∈ g_all := g_w 963 (by decide +kernel) (by decide +kernel)
theorem kw_964 : Cond.constant RX8 218 (99999 : Int32) ∈ g_all := g_w 964 (by decide +kernel) (by decide +kernel)
theorem kw_965 : Cond.methodLink RX8 231 yX8_isBelow ∈ g_all := g_w 965 (by decide +kernel) (by decide +kernel)
theorem kw_967 : Cond.instanceMethod yX8_isBelow ∈ g_all := g_w 967 (by decide +kernel) (by decide +kernel)
theorem kw_968 : Cond.code yX8_isBelow cX8_isBelow 3 (some FieldType.boolean) ∈ g_all := g_w 968 (by decide +kernel) (by decide +kernel)
theorem kw_969 : Cond.methodLink RX8 234 yX8_goOn ∈ g_all := g_w 969 (by decide +kernel) (by decide +kernel)
theorem kw_971 : Cond.instanceMethod yX8_goOn ∈ g_all := g_w 971 (by decide +kernel) (by decide +kernel)
theorem kw_972 : Cond.code yX8_goOn cX8_goOn 2 none ∈ g_all := g_w 972 (by decide +kernel) (by decide +kernel)
theorem kw_973 : Cond.methodLink RX8 225 yX8_nextFrom ∈ g_all := g_w 973 (by decide +kernel) (by decide +kernel)
theorem kw_975 : Cond.instanceMethod yX8_nextFrom ∈ g_all := g_w 975 (by decide +kernel) (by decide +kernel)
theorem kw_976 : Cond.code yX8_nextFrom cX8_nextFrom 3 (some FieldType.int) ∈ g_all := g_w 976 (by decide +kernel) (by decide +kernel)
theorem kw_977 : Cond.methodLink RX8 222 yX8_isInRing ∈ g_all := g_w 977 (by decide +kernel) (by decide +kernel)
theorem kw_979 : Cond.instanceMethod yX8_isInRing ∈ g_all := g_w 979 (by decide +kernel) (by decide +kernel)
theorem kw_980 : Cond.code yX8_isInRing cX8_isInRing 4 (some FieldType.boolean) ∈ g_all := g_w 980 (by decide +kernel) (by decide +kernel)
theorem kw_981 : Cond.methodLink RL 87 yX8_buffer ∈ g_all := g_w 981 (by decide +kernel) (by decide +kernel)
theorem kw_982 : Cond.instanceMethod yX8_buffer ∈ g_all := g_w 982 (by decide +kernel) (by decide +kernel)
theorem kw_983 : Cond.selects RX8 yX8_buffer yX8_buffer ∈ g_all := g_w 983 (by decide +kernel) (by decide +kernel)
theorem kw_984 : Cond.code yX8_buffer cX8_buffer 8 (some FieldType.int) ∈ g_all := g_w 984 (by decide +kernel) (by decide +kernel)
theorem kw_985 : Cond.methodLink RL 92 yX8_trace ∈ g_all := g_w 985 (by decide +kernel) (by decide +kernel)
theorem kw_986 : Cond.instanceMethod yX8_trace ∈ g_all := g_w 986 (by decide +kernel) (by decide +kernel)
theorem kw_987 : Cond.selects RX8 yX8_trace yX8_trace ∈ g_all := g_w 987 (by decide +kernel) (by decide +kernel)
theorem kw_988 : Cond.code yX8_trace cX8_trace 5 (some FieldType.int) ∈ g_all := g_w 988 (by decide +kernel) (by decide +kernel)
theorem kw_989 : Cond.methodLink RX8 239 yX8_isTrace ∈ g_all := g_w 989 (by decide +kernel) (by decide +kernel)
theorem kw_990 : Cond.static yX8_isTrace ∈ g_all := g_w 990 (by decide +kernel) (by decide +kernel)
theorem kw_991 : Cond.code yX8_isTrace cX8_isTrace 1 (some FieldType.boolean) ∈ g_all := g_w 991 (by decide +kernel) (by decide +kernel)
theorem kw_992 : Cond.constantLong RX8 237 (2 : Int64) ∈ g_all := g_w 992 (by decide +kernel) (by decide +kernel)
theorem kw_993 : Cond.methodLink RL 97 yX8_set ∈ g_all := g_w 993 (by decide +kernel) (by decide +kernel)
theorem kw_994 : Cond.instanceMethod yX8_set ∈ g_all := g_w 994 (by decide +kernel) (by decide +kernel)
theorem kw_995 : Cond.selects RX8 yX8_set yX8_set ∈ g_all := g_w 995 (by decide +kernel) (by decide +kernel)
theorem kw_996 : Cond.code yX8_set cX8_set 7 (some FieldType.int) ∈ g_all := g_w 996 (by decide +kernel) (by decide +kernel)
theorem kw_997 : Cond.constantLong RX8 256 (-9999 : Int64) ∈ g_all := g_w 997 (by decide +kernel) (by decide +kernel)
theorem kw_998 : Cond.constantLong RX8 258 (9999 : Int64) ∈ g_all := g_w 998 (by decide +kernel) (by decide +kernel)
theorem kw_999 : Cond.methodLink RX8 260 yX8_noPlace ∈ g_all := g_w 999 (by decide +kernel) (by decide +kernel)
theorem kw_1001 : Cond.instanceMethod yX8_noPlace ∈ g_all := g_w 1001 (by decide +kernel) (by decide +kernel)
theorem kw_1002 : Cond.code yX8_noPlace cX8_noPlace 5 (some FieldType.int) ∈ g_all := g_w 1002 (by decide +kernel) (by decide +kernel)
theorem kw_1003 : Cond.methodLink RX8 264 yX8_thousand ∈ g_all := g_w 1003 (by decide +kernel) (by decide +kernel)
theorem kw_1005 : Cond.instanceMethod yX8_thousand ∈ g_all := g_w 1005 (by decide +kernel) (by decide +kernel)
theorem kw_1006 : Cond.code yX8_thousand cX8_thousand 3 (some FieldType.int) ∈ g_all := g_w 1006 (by decide +kernel) (by decide +kernel)
theorem kw_1007 : Cond.constantFloat RX8 249 (1148846080 : UInt32) ∈ g_all := g_w 1007 (by decide +kernel) (by decide +kernel)
theorem kw_1008 : Cond.methodLink RX8 250 yX8_cut ∈ g_all := g_w 1008 (by decide +kernel) (by decide +kernel)
theorem kw_1009 : Cond.static yX8_cut ∈ g_all := g_w 1009 (by decide +kernel) (by decide +kernel)
theorem kw_1010 : Cond.code yX8_cut cX8_cut 2 (some FieldType.int) ∈ g_all := g_w 1010 (by decide +kernel) (by decide +kernel)
theorem kw_1011 : Cond.constant RX8 242 (2000000 : Int32) ∈ g_all := g_w 1011 (by decide +kernel) (by decide +kernel)
theorem kw_1012 : Cond.constantDouble RX8 243 (4696837146684686336 : UInt64) ∈ g_all := g_w 1012 (by decide +kernel) (by decide +kernel)
theorem kw_1013 : Cond.constant RX8 245 (3000000 : Int32) ∈ g_all := g_w 1013 (by decide +kernel) (by decide +kernel)
theorem kw_1014 : Cond.constantDouble RX8 246 (13920209183539462144 : UInt64) ∈ g_all := g_w 1014 (by decide +kernel) (by decide +kernel)
theorem kw_1015 : Cond.constant RX8 248 (1000000 : Int32) ∈ g_all := g_w 1015 (by decide +kernel) (by decide +kernel)
theorem kw_1016 : Cond.constantDouble RX8 254 (4652007308841189376 : UInt64) ∈ g_all := g_w 1016 (by decide +kernel) (by decide +kernel)
theorem kw_1017 : Cond.methodLink RL 101 yX8_get ∈ g_all := g_w 1017 (by decide +kernel) (by decide +kernel)
theorem kw_1018 : Cond.instanceMethod yX8_get ∈ g_all := g_w 1018 (by decide +kernel) (by decide +kernel)
theorem kw_1019 : Cond.selects RX8 yX8_get yX8_get ∈ g_all := g_w 1019 (by decide +kernel) (by decide +kernel)
theorem kw_1020 : Cond.code yX8_get cX8_get 5 (some FieldType.int) ∈ g_all := g_w 1020 (by decide +kernel) (by decide +kernel)
theorem kw_1021 : Cond.methodLink RL 106 yX8_rest ∈ g_all := g_w 1021 (by decide +kernel) (by decide +kernel)
theorem kw_1022 : Cond.instanceMethod yX8_rest ∈ g_all := g_w 1022 (by decide +kernel) (by decide +kernel)
theorem kw_1023 : Cond.selects RX8 yX8_rest yX8_rest ∈ g_all := g_w 1023 (by decide +kernel) (by decide +kernel)
theorem kw_1024 : Cond.code yX8_rest cX8_rest 6 (some FieldType.int) ∈ g_all := g_w 1024 (by decide +kernel) (by decide +kernel)
theorem kw_1025 : Cond.methodLink RL 110 yX8_compare ∈ g_all := g_w 1025 (by decide +kernel) (by decide +kernel)
theorem kw_1026 : Cond.instanceMethod yX8_compare ∈ g_all := g_w 1026 (by decide +kernel) (by decide +kernel)
theorem kw_1027 : Cond.selects RX8 yX8_compare yX8_compare ∈ g_all := g_w 1027 (by decide +kernel) (by decide +kernel)
theorem kw_1028 : Cond.code yX8_compare cX8_compare 10 (some FieldType.int) ∈ g_all := g_w 1028 (by decide +kernel) (by decide +kernel)
theorem kw_1029 : Cond.methodLink RX8 267 yX8_valueOf ∈ g_all := g_w 1029 (by decide +kernel) (by decide +kernel)
theorem kw_1031 : Cond.instanceMethod yX8_valueOf ∈ g_all := g_w 1031 (by decide +kernel) (by decide +kernel)
theorem kw_1032 : Cond.code yX8_valueOf cX8_valueOf 3 (some FieldType.double) ∈ g_all := g_w 1032 (by decide +kernel) (by decide +kernel)
theorem kw_1033 : Cond.methodLink RL 114 yX8_sum ∈ g_all := g_w 1033 (by decide +kernel) (by decide +kernel)
theorem kw_1034 : Cond.instanceMethod yX8_sum ∈ g_all := g_w 1034 (by decide +kernel) (by decide +kernel)
theorem kw_1035 : Cond.selects RX8 yX8_sum yX8_sum ∈ g_all := g_w 1035 (by decide +kernel) (by decide +kernel)
theorem kw_1036 : Cond.code yX8_sum cX8_sum 9 (some FieldType.int) ∈ g_all := g_w 1036 (by decide +kernel) (by decide +kernel)
theorem kw_1037 : Cond.methodLink RL 118 yX8_drop ∈ g_all := g_w 1037 (by decide +kernel) (by decide +kernel)
theorem kw_1038 : Cond.instanceMethod yX8_drop ∈ g_all := g_w 1038 (by decide +kernel) (by decide +kernel)
theorem kw_1039 : Cond.selects RX8 yX8_drop yX8_drop ∈ g_all := g_w 1039 (by decide +kernel) (by decide +kernel)
theorem kw_1040 : Cond.code yX8_drop cX8_drop 3 (some FieldType.int) ∈ g_all := g_w 1040 (by decide +kernel) (by decide +kernel)
theorem kw_1041 : Cond.methodLink RL 122 yX8_count ∈ g_all := g_w 1041 (by decide +kernel) (by decide +kernel)
theorem kw_1042 : Cond.instanceMethod yX8_count ∈ g_all := g_w 1042 (by decide +kernel) (by decide +kernel)
theorem kw_1043 : Cond.selects RX8 yX8_count yX8_count ∈ g_all := g_w 1043 (by decide +kernel) (by decide +kernel)
theorem kw_1044 : Cond.code yX8_count cX8_count 2 (some FieldType.int) ∈ g_all := g_w 1044 (by decide +kernel) (by decide +kernel)
theorem kw_1045 : Cond.methodLink RX8 271 yX8_allPlaces ∈ g_all := g_w 1045 (by decide +kernel) (by decide +kernel)
theorem kw_1047 : Cond.instanceMethod yX8_allPlaces ∈ g_all := g_w 1047 (by decide +kernel) (by decide +kernel)
theorem kw_1048 : Cond.code yX8_allPlaces cX8_allPlaces 3 (some FieldType.int) ∈ g_all := g_w 1048 (by decide +kernel) (by decide +kernel)
theorem kw_1049 : Cond.methodLink RX8 274 yX8_tooSoon ∈ g_all := g_w 1049 (by decide +kernel) (by decide +kernel)
theorem kw_1051 : Cond.instanceMethod yX8_tooSoon ∈ g_all := g_w 1051 (by decide +kernel) (by decide +kernel)
theorem kw_1052 : Cond.code yX8_tooSoon cX8_tooSoon 3 (some FieldType.int) ∈ g_all := g_w 1052 (by decide +kernel) (by decide +kernel)
theorem kw_1054 : Cond.fieldLink RJ0 9 "java/lang/String" "value" "[B" ∈ g_all := g_w 1054 (by decide +kernel) (by decide +kernel)
theorem kw_1055 : Cond.fieldLink RJ0 15 "java/lang/String" "coder" "B" ∈ g_all := g_w 1055 (by decide +kernel) (by decide +kernel)
theorem kw_1058 : Cond.fieldLink RJx29ce0 7 "java/lang/Enum" "ordinal" "I" ∈ g_all := g_w 1058 (by decide +kernel) (by decide +kernel)
theorem kw_1065 : Cond.arrayClass FieldType.byte ∈ g_all := g_w 1065 (by decide +kernel) (by decide +kernel)
theorem ks_0 : Cond.selects RX2 yX2_begin yX2_begin ∈ g_all := g_s 0 (by decide +kernel) (by decide +kernel)
theorem ks_1 : Cond.selects RX4 yX4_advance yX4_advance ∈ g_all := g_s 1 (by decide +kernel) (by decide +kernel)
theorem ks_2 : Cond.selects RX4 yX4_isAtEnd yX4_isAtEnd ∈ g_all := g_s 2 (by decide +kernel) (by decide +kernel)
theorem ks_3 : Cond.selects RX4 yX4_readClause yX4_readClause ∈ g_all := g_s 3 (by decide +kernel) (by decide +kernel)
theorem ks_4 : Cond.selects RX4 yX4_wordHere yX4_wordHere ∈ g_all := g_s 4 (by decide +kernel) (by decide +kernel)
theorem ks_5 : Cond.selects RX4 yX4_isSpelled yX4_isSpelled ∈ g_all := g_s 5 (by decide +kernel) (by decide +kernel)
theorem ks_6 : Cond.selects RX4 yX4_readPath yX4_readPath ∈ g_all := g_s 6 (by decide +kernel) (by decide +kernel)
theorem ks_7 : Cond.selects RX4 yX4_readNumber yX4_readNumber ∈ g_all := g_s 7 (by decide +kernel) (by decide +kernel)
theorem ks_8 : Cond.selects RX7 yX7_isPath yX7_isPath ∈ g_all := g_s 8 (by decide +kernel) (by decide +kernel)
theorem ks_9 : Cond.selects RX3 yX3_settlesWithMargin yX3_settlesWithMargin ∈ g_all := g_s 9 (by decide +kernel) (by decide +kernel)
theorem ks_10 : Cond.selects RX3 yX3_layBounds yX3_layBounds ∈ g_all := g_s 10 (by decide +kernel) (by decide +kernel)
theorem ks_11 : Cond.selects RX3 yX3_tighten yX3_tighten ∈ g_all := g_s 11 (by decide +kernel) (by decide +kernel)
theorem ks_12 : Cond.selects RX3 yX3_settle yX3_settle ∈ g_all := g_s 12 (by decide +kernel) (by decide +kernel)
theorem ks_13 : Cond.selects RX3 yX3_lowerOnce yX3_lowerOnce ∈ g_all := g_s 13 (by decide +kernel) (by decide +kernel)
theorem ks_14 : Cond.selects RX3 yX3_leastPeriodAbove yX3_leastPeriodAbove ∈ g_all := g_s 14 (by decide +kernel) (by decide +kernel)
theorem ks_15 : Cond.selects RX3 yX3_settlesAtPeriod yX3_settlesAtPeriod ∈ g_all := g_s 15 (by decide +kernel) (by decide +kernel)
theorem ks_16 : Cond.selects RX3 yX3_closesFrom yX3_closesFrom ∈ g_all := g_s 16 (by decide +kernel) (by decide +kernel)
theorem ks_17 : Cond.selects RX3 yX3_isInRing yX3_isInRing ∈ g_all := g_s 17 (by decide +kernel) (by decide +kernel)
theorem ks_18 : Cond.selects RX5 yX5_putNumber yX5_putNumber ∈ g_all := g_s 18 (by decide +kernel) (by decide +kernel)
theorem ks_19 : Cond.selects RX5 yX5_putNoNumber yX5_putNoNumber ∈ g_all := g_s 19 (by decide +kernel) (by decide +kernel)
theorem ks_20 : Cond.selects RX7 yX7_traceRefusal yX7_traceRefusal ∈ g_all := g_s 20 (by decide +kernel) (by decide +kernel)
theorem ks_21 : Cond.selects RX7 yX7_placesOfAllTraces yX7_placesOfAllTraces ∈ g_all := g_s 21 (by decide +kernel) (by decide +kernel)
theorem ks_22 : Cond.selects RX8 yX8_anew yX8_anew ∈ g_all := g_s 22 (by decide +kernel) (by decide +kernel)
theorem ks_23 : Cond.selects RX8 yX8_copyRow yX8_copyRow ∈ g_all := g_s 23 (by decide +kernel) (by decide +kernel)
theorem ks_24 : Cond.selects RX8 yX8_reads yX8_reads ∈ g_all := g_s 24 (by decide +kernel) (by decide +kernel)
theorem ks_25 : Cond.selects RX8 yX8_nextToken yX8_nextToken ∈ g_all := g_s 25 (by decide +kernel) (by decide +kernel)
theorem ks_26 : Cond.selects RX8 yX8_readsClause yX8_readsClause ∈ g_all := g_s 26 (by decide +kernel) (by decide +kernel)
theorem ks_27 : Cond.selects RX8 yX8_wordHere yX8_wordHere ∈ g_all := g_s 27 (by decide +kernel) (by decide +kernel)
theorem ks_28 : Cond.selects RX8 yX8_isWord yX8_isWord ∈ g_all := g_s 28 (by decide +kernel) (by decide +kernel)
theorem ks_29 : Cond.selects RX8 yX8_readsNumbers yX8_readsNumbers ∈ g_all := g_s 29 (by decide +kernel) (by decide +kernel)
theorem ks_30 : Cond.selects RX8 yX8_number yX8_number ∈ g_all := g_s 30 (by decide +kernel) (by decide +kernel)
theorem ks_31 : Cond.selects RX8 yX8_does yX8_does ∈ g_all := g_s 31 (by decide +kernel) (by decide +kernel)
theorem ks_32 : Cond.selects RX8 yX8_isPath yX8_isPath ∈ g_all := g_s 32 (by decide +kernel) (by decide +kernel)
theorem ks_33 : Cond.selects RX8 yX8_lateOf yX8_lateOf ∈ g_all := g_s 33 (by decide +kernel) (by decide +kernel)
theorem ks_34 : Cond.selects RX8 yX8_soonOf yX8_soonOf ∈ g_all := g_s 34 (by decide +kernel) (by decide +kernel)
theorem ks_35 : Cond.selects RX8 yX8_keepPast yX8_keepPast ∈ g_all := g_s 35 (by decide +kernel) (by decide +kernel)
theorem ks_36 : Cond.selects RX8 yX8_isFeasible yX8_isFeasible ∈ g_all := g_s 36 (by decide +kernel) (by decide +kernel)
theorem ks_37 : Cond.selects RX8 yX8_layBounds yX8_layBounds ∈ g_all := g_s 37 (by decide +kernel) (by decide +kernel)
theorem ks_38 : Cond.selects RX8 yX8_areThere yX8_areThere ∈ g_all := g_s 38 (by decide +kernel) (by decide +kernel)
theorem ks_39 : Cond.selects RX8 yX8_makesLess yX8_makesLess ∈ g_all := g_s 39 (by decide +kernel) (by decide +kernel)
theorem ks_40 : Cond.selects RX8 yX8_isRegister yX8_isRegister ∈ g_all := g_s 40 (by decide +kernel) (by decide +kernel)
theorem ks_41 : Cond.selects RX8 yX8_leastOf yX8_leastOf ∈ g_all := g_s 41 (by decide +kernel) (by decide +kernel)
theorem ks_42 : Cond.selects RX8 yX8_isFeasibleBy yX8_isFeasibleBy ∈ g_all := g_s 42 (by decide +kernel) (by decide +kernel)
theorem ks_43 : Cond.selects RX8 yX8_layLeast yX8_layLeast ∈ g_all := g_s 43 (by decide +kernel) (by decide +kernel)
theorem ks_44 : Cond.selects RX8 yX8_isBelow yX8_isBelow ∈ g_all := g_s 44 (by decide +kernel) (by decide +kernel)
theorem ks_45 : Cond.selects RX8 yX8_goOn yX8_goOn ∈ g_all := g_s 45 (by decide +kernel) (by decide +kernel)
theorem ks_46 : Cond.selects RX8 yX8_nextFrom yX8_nextFrom ∈ g_all := g_s 46 (by decide +kernel) (by decide +kernel)
theorem ks_47 : Cond.selects RX8 yX8_isInRing yX8_isInRing ∈ g_all := g_s 47 (by decide +kernel) (by decide +kernel)
theorem ks_48 : Cond.selects RX8 yX8_noPlace yX8_noPlace ∈ g_all := g_s 48 (by decide +kernel) (by decide +kernel)
theorem ks_49 : Cond.selects RX8 yX8_thousand yX8_thousand ∈ g_all := g_s 49 (by decide +kernel) (by decide +kernel)
theorem ks_50 : Cond.selects RX8 yX8_valueOf yX8_valueOf ∈ g_all := g_s 50 (by decide +kernel) (by decide +kernel)
theorem ks_51 : Cond.selects RX8 yX8_allPlaces yX8_allPlaces ∈ g_all := g_s 51 (by decide +kernel) (by decide +kernel)
theorem ks_52 : Cond.selects RX8 yX8_tooSoon yX8_tooSoon ∈ g_all := g_s 52 (by decide +kernel) (by decide +kernel)
theorem ga_X1 : ∀ w ∈ wsX10, w ∈ g_all := g_in (by decide +kernel)
theorem ga_X2 : ∀ w ∈ wsX20, w ∈ g_all := g_in (by decide +kernel)
theorem ga_X3 : ∀ w ∈ wsX30, w ∈ g_all := g_in (by decide +kernel)
theorem ga_X4 : ∀ w ∈ wsX40, w ∈ g_all := g_in (by decide +kernel)
theorem ga_X5 : ∀ w ∈ wsX50, w ∈ g_all := g_in (by decide +kernel)
theorem ga_X7 : ∀ w ∈ wsX70, w ∈ g_all := g_in (by decide +kernel)
theorem ga_X8 : ∀ w ∈ wsX80, w ∈ g_all := g_in (by decide +kernel)
end
section
/-! the judgement of a walk: ints are Int behind iI, worlds are lists of cells, draws are let be -/
def sU {α : Type} (f : Nat → α) (k : Nat) (v : α) : Nat → α := fun j => if j = k then v else f j
theorem sU_s {α : Type} (f : Nat → α) (k : Nat) (v : α) : sU f k v k = v := if_pos rfl
theorem sU_n {α : Type} (f : Nat → α) {k j : Nat} (v : α) (h : j ≠ k) : sU f k v j = f j := if_neg h
theorem sU_id {α : Type} (f : Nat → α) (k : Nat) : sU f k (f k) = f := funext fun j => by
  by_cases h : j = k
  · rw [h, sU_s]
  · rw [sU_n _ _ h]
theorem sU_sU {α : Type} (f : Nat → α) (k : Nat) (v u : α) : sU (sU f k v) k u = sU f k u := funext fun j => by
  by_cases h : j = k
  · rw [h, sU_s, sU_s]
  · rw [sU_n _ _ h, sU_n _ _ h, sU_n _ _ h]
def iI (z : Int) : Int32 := Int32.ofInt z
def iA (f : Nat → Int) : Nat → Int32 := fun k => iI (f k)
def inR (z : Int) : Prop := -2147483648 ≤ z ∧ z < 2147483648
theorem iI_toInt {z : Int} (h : inR z) : (iI z).toInt = z := Int32.toInt_ofInt_of_le (by have := h.1; omega) (by have := h.2; omega)
theorem iI_of (x : Int32) : x = iI x.toInt := (Int32.ofInt_toInt x).symm
theorem inR_of (x : Int32) : inR x.toInt := ⟨Int32.le_toInt x, Int32.toInt_lt x⟩
theorem iI_add (a b : Int) : iI a + iI b = iI (a + b) := (Int32.ofInt_add a b).symm
theorem iI_sub (a b : Int) : iI a - iI b = iI (a - b) := (Int32.ofInt_sub a b).symm
theorem iI_mul (a b : Int) : iI a * iI b = iI (a * b) := (Int32.ofInt_mul a b).symm
theorem iI_neg (a : Int) : -iI a = iI (-a) := (Int32.ofInt_neg a).symm
theorem iI_lt {a b : Int} (ha : inR a) (hb : inR b) : iI a < iI b ↔ a < b := by rw [Int32.lt_iff_toInt_lt, iI_toInt ha, iI_toInt hb]
theorem iI_le {a b : Int} (ha : inR a) (hb : inR b) : iI a ≤ iI b ↔ a ≤ b := by rw [Int32.le_iff_toInt_le, iI_toInt ha, iI_toInt hb]
theorem iI_eq {a b : Int} (ha : inR a) (hb : inR b) : iI a = iI b ↔ a = b := ⟨fun h => by rw [← iI_toInt ha, ← iI_toInt hb, h], fun h => by rw [h]⟩
theorem iI_0 : iI 0 = 0 := rfl
theorem iI_clamp {z : Int} (h : inR z) : (iI z).toNatClampNeg = z.toNat := by
  show (iI z).toInt.toNat = z.toNat
  rw [iI_toInt h]
theorem iI_in {z : Int} {n : Nat} (h0 : 0 ≤ z) (h : z < n) (hr : z < 2147483648) : vp_in (iI z) n := by
  rw [vp_in_iff, iI_toInt ⟨by omega, hr⟩]
  exact ⟨h0, h⟩
theorem iI_div {a b : Int} (ha : inR a) (hb : inR b) (h0 : b ≠ 0) (h1 : inR (a.tdiv b)) : iI a / iI b = iI (a.tdiv b) := by
  apply Int32.toInt_inj.mp
  rw [Int32.toInt_div, iI_toInt ha, iI_toInt hb, iI_toInt h1]
  exact Int.bmod_eq_of_le (by have := h1.1; omega) (by have := h1.2; omega)
theorem iA_upd (f : Nat → Int) (z v : Int) (hz : inR z) : upd (iA f) (iI z).toNatClampNeg (iI v) = iA (sU f z.toNat v) := by
  rw [iI_clamp hz]
  funext j
  unfold upd iA sU
  by_cases h : j = z.toNat
  · rw [if_pos h, if_pos h]
  · rw [if_neg h, if_neg h]
theorem iA_get (f : Nat → Int) {z : Int} (hz : inR z) : iA f (iI z).toNatClampNeg = iI (f z.toNat) := by rw [iI_clamp hz]; rfl
def lL (z : Int) : Int64 := Int64.ofInt z
theorem iI_l {z : Int} (h : inR z) : (iI z).toInt64 = lL z := by
  apply Int64.toInt_inj.mp
  rw [Int32.toInt_toInt64, iI_toInt h]
  exact (Int64.toInt_ofInt_of_le (by have := h.1; omega) (by have := h.2; omega)).symm
theorem lL_toInt {z : Int} (h : inR z) : (lL z).toInt = z := Int64.toInt_ofInt_of_le (by have := h.1; omega) (by have := h.2; omega)
theorem lL_cmp {a b : Int} (ha : inR a) (hb : inR b) : lg_cmp (lL a) (lL b) = iI (if a < b then -1 else if a = b then 0 else 1) := by
  have h1 : lL a < lL b ↔ a < b := by rw [Int64.lt_iff_toInt_lt, lL_toInt ha, lL_toInt hb]
  have h2 : lL a = lL b ↔ a = b := ⟨fun h => by rw [← lL_toInt ha, ← lL_toInt hb, h], fun h => by rw [h]⟩
  have h3 : lL b < lL a ↔ b < a := by rw [Int64.lt_iff_toInt_lt, lL_toInt ha, lL_toInt hb]
  unfold lg_cmp
  simp only [h2, h3]
  by_cases q : a < b
  · rw [if_neg (by omega), if_neg (by omega), if_pos q]
    rfl
  · by_cases q2 : a = b
    · rw [if_neg (by omega), if_pos q2, if_neg q, if_pos q2]
      rfl
    · rw [if_pos (by omega), if_neg q, if_neg q2]
      rfl
def g_nest : List Cond := [.methodLinkNest "SkewPlan" 9 ⟨"SkewPlan$Text", "<init>", "()V"⟩ "SkewPlan", .fieldLinkNest "SkewPlan$Text" 86 "SkewPlan$Net" "registers" "I" "SkewPlan", .fieldLinkNest "SkewPlan$Planner" 63 "SkewPlan$Net" "registers" "I" "SkewPlan", .fieldLinkNest "SkewPlan" 140 "SkewPlan$Net" "registers" "I" "SkewPlan", .fieldLinkNest "SkewPlan$Planner" 86 "SkewPlan$Net" "setup" "I" "SkewPlan", .fieldLinkNest "SkewPlan" 227 "SkewPlan$Net" "setup" "I" "SkewPlan", .fieldLinkNest "SkewPlan" 230 "SkewPlan$Net" "hold" "I" "SkewPlan", .fieldLinkNest "SkewPlan$Planner" 44 "SkewPlan$Net" "step" "I" "SkewPlan", .fieldLinkNest "SkewPlan" 146 "SkewPlan$Net" "step" "I" "SkewPlan", .fieldLinkNest "SkewPlan$History" 31 "SkewPlan$Net" "period" "I" "SkewPlan", .fieldLinkNest "SkewPlan" 112 "SkewPlan$Net" "period" "I" "SkewPlan", .fieldLinkNest "SkewPlan$Planner" 39 "SkewPlan$Net" "period" "I" "SkewPlan", .fieldLinkNest "SkewPlan$Planner" 74 "SkewPlan$Net" "paths" "I" "SkewPlan", .fieldLinkNest "SkewPlan" 178 "SkewPlan$Net" "paths" "I" "SkewPlan", .fieldLinkNest "SkewPlan" 92 "SkewPlan$Net" "from" "[I" "SkewPlan", .fieldLinkNest "SkewPlan$Planner" 77 "SkewPlan$Net" "from" "[I" "SkewPlan", .fieldLinkNest "SkewPlan" 96 "SkewPlan$Net" "to" "[I" "SkewPlan", .fieldLinkNest "SkewPlan$Planner" 80 "SkewPlan$Net" "to" "[I" "SkewPlan", .fieldLinkNest "SkewPlan" 99 "SkewPlan$Net" "longs" "[I" "SkewPlan", .fieldLinkNest "SkewPlan$Planner" 83 "SkewPlan$Net" "longs" "[I" "SkewPlan", .fieldLinkNest "SkewPlan" 102 "SkewPlan$Net" "shorts" "[I" "SkewPlan", .methodLinkNest "SkewPlan" 39 ⟨"SkewPlan$History", "<init>", "()V"⟩ "SkewPlan", .methodLinkNest "SkewPlan" 46 ⟨"SkewPlan$Planner", "<init>", "()V"⟩ "SkewPlan", .methodLinkNest "SkewPlan" 57 ⟨"SkewPlan$Trace", "<init>", "()V"⟩ "SkewPlan", .fieldLinkNest "SkewPlan$Text" 56 "SkewPlan" "WORDS" "[LSkewPlan$Word;" "SkewPlan", .methodLinkNest "SkewPlan$Text" 109 ⟨"SkewPlan", "isWithin", "(III)Z"⟩ "SkewPlan", .methodLinkNest "SkewPlan$Trace" 34 ⟨"SkewPlan", "isWithin", "(III)Z"⟩ "SkewPlan", .fieldLinkNest "SkewPlan$Text" 93 "SkewPlan$Word" "spelling" "Ljava/lang/String;" "SkewPlan", .fieldLinkNest "SkewPlan$Text" 72 "SkewPlan$Word" "low" "I" "SkewPlan", .fieldLinkNest "SkewPlan$Text" 75 "SkewPlan$Word" "high" "I" "SkewPlan"]
def g_isN : Cond → Bool
  | .fieldLinkNest _ _ _ _ _ _ => true
  | .methodLinkNest _ _ _ _ => true
  | _ => false
theorem g_nest_is : g_nest.all g_isN = true := by decide +kernel
theorem g_nest_t {w : Cond} (h : w ∈ g_nest) : w.onTables = true := by
  have := List.all_eq_true.mp g_nest_is w h
  cases w <;> first | rfl | (simp [g_isN] at this)
theorem g_nest_w {s U : State} (hW : s.WarmedH U.vm) (h : ∀ w ∈ g_nest, va_Nw w s) : ∀ w ∈ g_nest, va_Nw w U := by
  intro w hw
  have h1 := List.all_eq_true.mp g_nest_is w hw
  have h2 := h w hw
  cases w <;> first | exact va_Nw.warmF hW h2 | exact va_Nw.warmM hW h2 | (simp [g_isN] at h1)
def g_Stab (E : (Nat → Prop) → State → Heap → Prop) : Prop := (∀ (A : Nat → Prop) (u U : State) (H : Heap), u.vm.Alike U.vm → E A u H → E A U H) ∧ (∀ (A : Nat → Prop) (U : State) (H H1 : Heap), (∀ a : Nat, a < H.size → ¬ A a → H1[a]? = H[a]?) → E A U H → E A U H1) ∧ (∀ (A B : Nat → Prop) (U : State) (H : Heap), (∀ q, B q → A q) → E A U H → E B U H)
theorem iI_char {x : Int} (h0 : 0 ≤ x) (h1 : x < 65536) : ((iI x).toUInt32 % 65536).toInt32 = iI x := by
  have e : iI x = nI x.toNat := by
    apply Int32.toInt_inj.mp
    rw [iI_toInt ⟨by omega, by omega⟩, nI_toInt (by omega)]
    omega
  rw [e, pk_char, pk_tn (by omega), Nat.mod_eq_of_lt (by omega)]
section GK
variable {p : Program} {l : Launch} {e : Env} {R : Room} {s : State} {m : MethodId} {args : Array Value} {below : List Frame} {meth : Method} {c : Code} {Q : State → Prop}
variable {cc : ByteArray} {nL : Nat} {own : String} {D : va_G} {tys : List (ClassId × FieldType)} {A : Nat → Prop} {ce sl pc : Nat} {w : va_W} {lv : List (Nat × Value)} {st : List Value} {E : (Nat → Prop) → State → Heap → Prop}
def g_Cx (p : Program) (s : State) (m : MethodId) (args : Array Value) (c : Code) (cc : ByteArray) (nL : Nat) (own : String) (D : va_G) (tys : List (ClassId × FieldType)) (A : Nat → Prop) (E : (Nat → Prop) → State → Heap → Prop) : Prop := p.tables.exec = Jvm.exec ∧ c.code = cc ∧ c.maxLocals = nL ∧ s.vm.findClass own = some m.cls ∧ (∀ w ∈ g_all, w.before args s = true) ∧ va_K D vwCl tys s ∧ (∀ q : Nat, s.heap.size ≤ q → A q) ∧ (∀ w ∈ g_nest, va_Nw w s) ∧ g_Stab E ∧ E A s s.heap
theorem g_nestD {s : State} (h : ∀ w ∈ g_nest, va_Nw w s) (d : Drawn) {args : Array Value} {w : Cond} (hw : w ∈ g_nest) : w.before args (s.setDrawn d) = true := va_Nw.use (g_nest_t hw) (va_Nw.same (g_nest_t hw) (u := s) (U := s.setDrawn d) rfl (h w hw))
def g_G (p : Program) (l : Launch) (e : Env) (R : Room) (s : State) (m : MethodId) (args : Array Value) (below : List Frame) (meth : Method) (c : Code) (nL : Nat) (D : va_G) (A : Nat → Prop) (Q : State → Prop) (ce sl : Nat) (w : va_W) (lv : List (Nat × Value)) (pc : Nat) (st : List Value) : Prop :=
  ∀ (d0 : Drawn) (H : Heap) (locs : List Loc) (ls : Array Slot), s.drawn.sameBut d0 lw_cs → va_P D vwCl w H → va_D A w → va_S A s.heap H locs → lv_has ls nL lv → W p l e R (s.setDrawn d0) m args below meth c H locs ce sl Q (F0 m pc ls st)
theorem g_iconst (C : g_Cx p s m args c cc nL own D tys A E) {n : Int}  (hdg : decode cc pc = .ok (.iconst n, 1)) {n' : Nat} (hn : pc + 1 = n')  (k : g_G p l e R s m args below meth c nL D A Q ce sl w lv n' (.int (iI n) :: st)) : g_G p l e R s m args below meth c nL D A Q ce sl w lv pc st := by
  subst hn
  intro d0 H locs ls hd hP hD hS hl
  have k := k d0 H locs ls hd hP hD hS hl
  exact lv_iconst C.1 C.2.1 hdg rfl k
theorem g_bipush (C : g_Cx p s m args c cc nL own D tys A E) {n : Int} (hv : (Int8.ofInt n).toInt32 = iI n) (hdg : decode cc pc = .ok (.bipush n, 2)) {n' : Nat} (hn : pc + 2 = n')  (k : g_G p l e R s m args below meth c nL D A Q ce sl w lv n' (.int (iI n) :: st)) : g_G p l e R s m args below meth c nL D A Q ce sl w lv pc st := by
  subst hn
  intro d0 H locs ls hd hP hD hS hl
  have k := k d0 H locs ls hd hP hD hS hl
  exact lv_bipush C.1 C.2.1 hdg hv k
theorem g_sipush (C : g_Cx p s m args c cc nL own D tys A E) {n : Int} (hv : (Int16.ofInt n).toInt32 = iI n) (hdg : decode cc pc = .ok (.sipush n, 3)) {n' : Nat} (hn : pc + 3 = n')  (k : g_G p l e R s m args below meth c nL D A Q ce sl w lv n' (.int (iI n) :: st)) : g_G p l e R s m args below meth c nL D A Q ce sl w lv pc st := by
  subst hn
  intro d0 H locs ls hd hP hD hS hl
  have k := k d0 H locs ls hd hP hD hS hl
  exact lv_sipush C.1 C.2.1 hdg hv k
theorem g_ldc (C : g_Cx p s m args c cc nL own D tys A E) {index : Nat} {v : Int32} (z : Int) (hz : v = iI z) (hc : Cond.constant own index v ∈ g_all) (hdg : decode cc pc = .ok (.ldc index, 2)) {n' : Nat} (hn : pc + 2 = n')  (k : g_G p l e R s m args below meth c nL D A Q ce sl w lv n' (.int (iI z) :: st)) : g_G p l e R s m args below meth c nL D A Q ce sl w lv pc st := by
  subst hn
  intro d0 H locs ls hd hP hD hS hl
  have k := k d0 H locs ls hd hP hD hS hl
  subst hz
  exact lv_ldc C.1 C.2.1 C.2.2.2.1 (dr_words C.2.2.2.2.1 _ _ hc) hdg k
theorem g_ldc2l (C : g_Cx p s m args c cc nL own D tys A E) {index : Nat} {v : Int64} (z : Int) (hz : v = lL z) (hc : Cond.constantLong own index v ∈ g_all) (hdg : decode cc pc = .ok (.ldc2_w index, 3)) {n' : Nat} (hn : pc + 3 = n')  (k : g_G p l e R s m args below meth c nL D A Q ce sl w lv n' (.long (lL z) :: st)) : g_G p l e R s m args below meth c nL D A Q ce sl w lv pc st := by
  subst hn
  intro d0 H locs ls hd hP hD hS hl
  have k := k d0 H locs ls hd hP hD hS hl
  subst hz
  exact lv_ldc2 C.1 C.2.1 C.2.2.2.1 (dr_words C.2.2.2.2.1 _ _ hc) hdg k
theorem g_ldc2d (C : g_Cx p s m args c cc nL own D tys A E) {index : Nat} {v : UInt64} (hc : Cond.constantDouble own index v ∈ g_all) (hdg : decode cc pc = .ok (.ldc2_w index, 3)) {n' : Nat} (hn : pc + 3 = n')  (k : g_G p l e R s m args below meth c nL D A Q ce sl w lv n' (.double v :: st)) : g_G p l e R s m args below meth c nL D A Q ce sl w lv pc st := by
  subst hn
  intro d0 H locs ls hd hP hD hS hl
  have k := k d0 H locs ls hd hP hD hS hl
  exact lv_ldc2d C.1 C.2.1 C.2.2.2.1 (dr_words C.2.2.2.2.1 _ _ hc) hdg k
theorem g_lconst (C : g_Cx p s m args c cc nL own D tys A E) {n : Fin 2} (z : Int) (hz : Int64.ofNat (n : Nat) = lL z) (hdg : decode cc pc = .ok (.lconst n, 1)) {n' : Nat} (hn : pc + 1 = n')  (k : g_G p l e R s m args below meth c nL D A Q ce sl w lv n' (.long (lL z) :: st)) : g_G p l e R s m args below meth c nL D A Q ce sl w lv pc st := by
  subst hn
  intro d0 H locs ls hd hP hD hS hl
  have k := k d0 H locs ls hd hP hD hS hl
  exact lv_lconst C.1 C.2.1 hdg hz k
theorem g_iload_n (C : g_Cx p s m args c cc nL own D tys A E) {k0 : Fin 4} {i : Nat} {x : Int32} (j : Nat) (hj : lv[j]? = some (i, .int x)) (hdg : decode cc pc = .ok (.iload_n k0, 1)) {n' : Nat} (hn : pc + 1 = n') (hi : (k0 : Nat) = i) (k : g_G p l e R s m args below meth c nL D A Q ce sl w lv n' (.int x :: st)) : g_G p l e R s m args below meth c nL D A Q ce sl w lv pc st := by
  subst hn
  intro d0 H locs ls hd hP hD hS hl
  have k := k d0 H locs ls hd hP hD hS hl
  exact lv_iload_n C.1 C.2.1 hdg hi (lv_at hl j hj) k
theorem g_iload (C : g_Cx p s m args c cc nL own D tys A E) {i : Nat} {x : Int32} (j : Nat) (hj : lv[j]? = some (i, .int x)) (hdg : decode cc pc = .ok (.iload i, 2)) {n' : Nat} (hn : pc + 2 = n')  (k : g_G p l e R s m args below meth c nL D A Q ce sl w lv n' (.int x :: st)) : g_G p l e R s m args below meth c nL D A Q ce sl w lv pc st := by
  subst hn
  intro d0 H locs ls hd hP hD hS hl
  have k := k d0 H locs ls hd hP hD hS hl
  exact lv_iload C.1 C.2.1 hdg (lv_at hl j hj) k
theorem g_aload_n (C : g_Cx p s m args c cc nL own D tys A E) {k0 : Fin 4} {i : Nat} {x : Nat} (j : Nat) (hj : lv[j]? = some (i, .ref x)) (hdg : decode cc pc = .ok (.aload_n k0, 1)) {n' : Nat} (hn : pc + 1 = n') (hi : (k0 : Nat) = i) (k : g_G p l e R s m args below meth c nL D A Q ce sl w lv n' (.ref x :: st)) : g_G p l e R s m args below meth c nL D A Q ce sl w lv pc st := by
  subst hn
  intro d0 H locs ls hd hP hD hS hl
  have k := k d0 H locs ls hd hP hD hS hl
  exact lv_aload_n C.1 C.2.1 hdg hi (lv_at hl j hj) k
theorem g_aload (C : g_Cx p s m args c cc nL own D tys A E) {i : Nat} {x : Nat} (j : Nat) (hj : lv[j]? = some (i, .ref x)) (hdg : decode cc pc = .ok (.aload i, 2)) {n' : Nat} (hn : pc + 2 = n')  (k : g_G p l e R s m args below meth c nL D A Q ce sl w lv n' (.ref x :: st)) : g_G p l e R s m args below meth c nL D A Q ce sl w lv pc st := by
  subst hn
  intro d0 H locs ls hd hP hD hS hl
  have k := k d0 H locs ls hd hP hD hS hl
  exact lv_aload C.1 C.2.1 hdg (lv_at hl j hj) k
theorem g_dload_n (C : g_Cx p s m args c cc nL own D tys A E) {k0 : Fin 4} {i : Nat} {x : UInt64} (j : Nat) (hj : lv[j]? = some (i, .double x)) (hdg : decode cc pc = .ok (.dload_n k0, 1)) {n' : Nat} (hn : pc + 1 = n') (hi : (k0 : Nat) = i) (k : g_G p l e R s m args below meth c nL D A Q ce sl w lv n' (.double x :: st)) : g_G p l e R s m args below meth c nL D A Q ce sl w lv pc st := by
  subst hn
  intro d0 H locs ls hd hP hD hS hl
  have k := k d0 H locs ls hd hP hD hS hl
  exact lv_dload_n C.1 C.2.1 hdg hi (lv_at hl j hj) k
theorem g_dload (C : g_Cx p s m args c cc nL own D tys A E) {i : Nat} {x : UInt64} (j : Nat) (hj : lv[j]? = some (i, .double x)) (hdg : decode cc pc = .ok (.dload i, 2)) {n' : Nat} (hn : pc + 2 = n')  (k : g_G p l e R s m args below meth c nL D A Q ce sl w lv n' (.double x :: st)) : g_G p l e R s m args below meth c nL D A Q ce sl w lv pc st := by
  subst hn
  intro d0 H locs ls hd hP hD hS hl
  have k := k d0 H locs ls hd hP hD hS hl
  exact lv_dload C.1 C.2.1 hdg (lv_at hl j hj) k
theorem g_lload_n (C : g_Cx p s m args c cc nL own D tys A E) {k0 : Fin 4} {i : Nat} {x : Int64} (j : Nat) (hj : lv[j]? = some (i, .long x)) (hdg : decode cc pc = .ok (.lload_n k0, 1)) {n' : Nat} (hn : pc + 1 = n') (hi : (k0 : Nat) = i) (k : g_G p l e R s m args below meth c nL D A Q ce sl w lv n' (.long x :: st)) : g_G p l e R s m args below meth c nL D A Q ce sl w lv pc st := by
  subst hn
  intro d0 H locs ls hd hP hD hS hl
  have k := k d0 H locs ls hd hP hD hS hl
  exact lv_lload_n C.1 C.2.1 hdg hi (lv_at hl j hj) k
theorem g_lload (C : g_Cx p s m args c cc nL own D tys A E) {i : Nat} {x : Int64} (j : Nat) (hj : lv[j]? = some (i, .long x)) (hdg : decode cc pc = .ok (.lload i, 2)) {n' : Nat} (hn : pc + 2 = n')  (k : g_G p l e R s m args below meth c nL D A Q ce sl w lv n' (.long x :: st)) : g_G p l e R s m args below meth c nL D A Q ce sl w lv pc st := by
  subst hn
  intro d0 H locs ls hd hP hD hS hl
  have k := k d0 H locs ls hd hP hD hS hl
  exact lv_lload C.1 C.2.1 hdg (lv_at hl j hj) k
theorem g_istore_n (C : g_Cx p s m args c cc nL own D tys A E) {k0 : Fin 4} {i : Nat} {x : Int32} (lv' : List (Nat × Value)) (hdg : decode cc pc = .ok (.istore_n k0, 1)) {n' : Nat} (hn : pc + 1 = n') (hi : (k0 : Nat) = i) (hb : i < nL) (hl' : (i, Value.int x) :: lv.filter (fun q => !(q.1 == i) && !(q.1 + 1 == i && q.2.category == 2)) = lv') (k : g_G p l e R s m args below meth c nL D A Q ce sl w lv' n' st) : g_G p l e R s m args below meth c nL D A Q ce sl w lv pc (.int x :: st) := by
  subst hn
  intro d0 H locs ls hd hP hD hS hl
  exact lv_istore_n C.1 C.2.1 hdg hi hl hb hl' (fun ls' h => k d0 H locs ls' hd hP hD hS h)
theorem g_istore (C : g_Cx p s m args c cc nL own D tys A E) {i : Nat} {x : Int32} (lv' : List (Nat × Value)) (hdg : decode cc pc = .ok (.istore i, 2)) {n' : Nat} (hn : pc + 2 = n') (hb : i < nL) (hl' : (i, Value.int x) :: lv.filter (fun q => !(q.1 == i) && !(q.1 + 1 == i && q.2.category == 2)) = lv') (k : g_G p l e R s m args below meth c nL D A Q ce sl w lv' n' st) : g_G p l e R s m args below meth c nL D A Q ce sl w lv pc (.int x :: st) := by
  subst hn
  intro d0 H locs ls hd hP hD hS hl
  exact lv_istore C.1 C.2.1 hdg hl hb hl' (fun ls' h => k d0 H locs ls' hd hP hD hS h)
theorem g_astore_n (C : g_Cx p s m args c cc nL own D tys A E) {k0 : Fin 4} {i : Nat} {x : Nat} (lv' : List (Nat × Value)) (hdg : decode cc pc = .ok (.astore_n k0, 1)) {n' : Nat} (hn : pc + 1 = n') (hi : (k0 : Nat) = i) (hb : i < nL) (hl' : (i, Value.ref x) :: lv.filter (fun q => !(q.1 == i) && !(q.1 + 1 == i && q.2.category == 2)) = lv') (k : g_G p l e R s m args below meth c nL D A Q ce sl w lv' n' st) : g_G p l e R s m args below meth c nL D A Q ce sl w lv pc (.ref x :: st) := by
  subst hn
  intro d0 H locs ls hd hP hD hS hl
  exact lv_astore_n C.1 C.2.1 hdg hi hl hb hl' (fun ls' h => k d0 H locs ls' hd hP hD hS h)
theorem g_astore (C : g_Cx p s m args c cc nL own D tys A E) {i : Nat} {x : Nat} (lv' : List (Nat × Value)) (hdg : decode cc pc = .ok (.astore i, 2)) {n' : Nat} (hn : pc + 2 = n') (hb : i < nL) (hl' : (i, Value.ref x) :: lv.filter (fun q => !(q.1 == i) && !(q.1 + 1 == i && q.2.category == 2)) = lv') (k : g_G p l e R s m args below meth c nL D A Q ce sl w lv' n' st) : g_G p l e R s m args below meth c nL D A Q ce sl w lv pc (.ref x :: st) := by
  subst hn
  intro d0 H locs ls hd hP hD hS hl
  exact lv_astore C.1 C.2.1 hdg hl hb hl' (fun ls' h => k d0 H locs ls' hd hP hD hS h)
theorem g_dstore_n (C : g_Cx p s m args c cc nL own D tys A E) {k0 : Fin 4} {i : Nat} {x : UInt64} (lv' : List (Nat × Value)) (hdg : decode cc pc = .ok (.dstore_n k0, 1)) {n' : Nat} (hn : pc + 1 = n') (hi : (k0 : Nat) = i) (hb : i + 1 < nL) (hl' : (i, Value.double x) :: lv.filter (fun q => !(q.1 == i) && (!(q.1 == i + 1) && !(q.1 + 1 == i && q.2.category == 2))) = lv') (k : g_G p l e R s m args below meth c nL D A Q ce sl w lv' n' st) : g_G p l e R s m args below meth c nL D A Q ce sl w lv pc (.double x :: st) := by
  subst hn
  intro d0 H locs ls hd hP hD hS hl
  exact lv_dstore_n C.1 C.2.1 hdg hi hl hb hl' (fun ls' h => k d0 H locs ls' hd hP hD hS h)
theorem g_dstore (C : g_Cx p s m args c cc nL own D tys A E) {i : Nat} {x : UInt64} (lv' : List (Nat × Value)) (hdg : decode cc pc = .ok (.dstore i, 2)) {n' : Nat} (hn : pc + 2 = n') (hb : i + 1 < nL) (hl' : (i, Value.double x) :: lv.filter (fun q => !(q.1 == i) && (!(q.1 == i + 1) && !(q.1 + 1 == i && q.2.category == 2))) = lv') (k : g_G p l e R s m args below meth c nL D A Q ce sl w lv' n' st) : g_G p l e R s m args below meth c nL D A Q ce sl w lv pc (.double x :: st) := by
  subst hn
  intro d0 H locs ls hd hP hD hS hl
  exact lv_dstore C.1 C.2.1 hdg hl hb hl' (fun ls' h => k d0 H locs ls' hd hP hD hS h)
theorem g_iinc (C : g_Cx p s m args c cc nL own D tys A E) {i : Nat} {n x : Int} (j : Nat) (lv' : List (Nat × Value)) (hj : lv[j]? = some (i, .int (iI x))) (hdg : decode cc pc = .ok (.iinc i n, 3)) {n' : Nat} (hn : pc + 3 = n') (hb : i < nL) (hl' : (i, Value.int (iI (x + n))) :: lv.filter (fun q => !(q.1 == i) && !(q.1 + 1 == i && q.2.category == 2)) = lv') (k : g_G p l e R s m args below meth c nL D A Q ce sl w lv' n' st) : g_G p l e R s m args below meth c nL D A Q ce sl w lv pc st := by
  subst hn
  intro d0 H locs ls hd hP hD hS hl
  exact lv_iinc C.1 C.2.1 hdg hl hj (iI_add x n) hb hl' (fun ls' h => k d0 H locs ls' hd hP hD hS h)
theorem g_dup (C : g_Cx p s m args c cc nL own D tys A E) {va : Value} (hva : va.category = 1) (hdg : decode cc pc = .ok (.dup, 1)) {n' : Nat} (hn : pc + 1 = n')  (k : g_G p l e R s m args below meth c nL D A Q ce sl w lv n' (va :: va :: st)) : g_G p l e R s m args below meth c nL D A Q ce sl w lv pc (va :: st) := by
  subst hn
  intro d0 H locs ls hd hP hD hS hl
  have k := k d0 H locs ls hd hP hD hS hl
  exact lv_dup C.1 C.2.1 hdg hva k
theorem g_pop (C : g_Cx p s m args c cc nL own D tys A E) {va : Value} (hva : va.category = 1) (hdg : decode cc pc = .ok (.pop, 1)) {n' : Nat} (hn : pc + 1 = n')  (k : g_G p l e R s m args below meth c nL D A Q ce sl w lv n' st) : g_G p l e R s m args below meth c nL D A Q ce sl w lv pc (va :: st) := by
  subst hn
  intro d0 H locs ls hd hP hD hS hl
  have k := k d0 H locs ls hd hP hD hS hl
  exact lv_pop C.1 C.2.1 hdg hva k
theorem g_dup2 (C : g_Cx p s m args c cc nL own D tys A E) {va vb : Value} (hva : va.category = 1) (hvb : vb.category = 1) (hdg : decode cc pc = .ok (.dup2, 1)) {n' : Nat} (hn : pc + 1 = n')  (k : g_G p l e R s m args below meth c nL D A Q ce sl w lv n' (va :: vb :: va :: vb :: st)) : g_G p l e R s m args below meth c nL D A Q ce sl w lv pc (va :: vb :: st) := by
  subst hn
  intro d0 H locs ls hd hP hD hS hl
  have k := k d0 H locs ls hd hP hD hS hl
  exact lv_dup2_11 C.1 C.2.1 hdg hva hvb k
theorem g_iadd (C : g_Cx p s m args c cc nL own D tys A E) {x y : Int}  (hdg : decode cc pc = .ok (.iadd, 1)) {n' : Nat} (hn : pc + 1 = n')  (k : g_G p l e R s m args below meth c nL D A Q ce sl w lv n' (.int (iI (x + y)) :: st)) : g_G p l e R s m args below meth c nL D A Q ce sl w lv pc (.int (iI y) :: .int (iI x) :: st) := by
  subst hn
  intro d0 H locs ls hd hP hD hS hl
  have k := k d0 H locs ls hd hP hD hS hl
  refine lv_iadd C.1 C.2.1 hdg ?_
  rw [iI_add]
  exact k
theorem g_isub (C : g_Cx p s m args c cc nL own D tys A E) {x y : Int}  (hdg : decode cc pc = .ok (.isub, 1)) {n' : Nat} (hn : pc + 1 = n')  (k : g_G p l e R s m args below meth c nL D A Q ce sl w lv n' (.int (iI (x - y)) :: st)) : g_G p l e R s m args below meth c nL D A Q ce sl w lv pc (.int (iI y) :: .int (iI x) :: st) := by
  subst hn
  intro d0 H locs ls hd hP hD hS hl
  have k := k d0 H locs ls hd hP hD hS hl
  refine lv_isub C.1 C.2.1 hdg ?_
  rw [iI_sub]
  exact k
theorem g_imul (C : g_Cx p s m args c cc nL own D tys A E) {x y : Int}  (hdg : decode cc pc = .ok (.imul, 1)) {n' : Nat} (hn : pc + 1 = n')  (k : g_G p l e R s m args below meth c nL D A Q ce sl w lv n' (.int (iI (x * y)) :: st)) : g_G p l e R s m args below meth c nL D A Q ce sl w lv pc (.int (iI y) :: .int (iI x) :: st) := by
  subst hn
  intro d0 H locs ls hd hP hD hS hl
  have k := k d0 H locs ls hd hP hD hS hl
  refine lv_imul C.1 C.2.1 hdg ?_
  rw [iI_mul]
  exact k
theorem g_ineg (C : g_Cx p s m args c cc nL own D tys A E) {x : Int}  (hdg : decode cc pc = .ok (.ineg, 1)) {n' : Nat} (hn : pc + 1 = n')  (k : g_G p l e R s m args below meth c nL D A Q ce sl w lv n' (.int (iI (-x)) :: st)) : g_G p l e R s m args below meth c nL D A Q ce sl w lv pc (.int (iI x) :: st) := by
  subst hn
  intro d0 H locs ls hd hP hD hS hl
  have k := k d0 H locs ls hd hP hD hS hl
  refine lv_ineg C.1 C.2.1 hdg ?_
  rw [iI_neg]
  exact k
theorem g_idiv (C : g_Cx p s m args c cc nL own D tys A E) {x y : Int} (hx : inR x) (hy : inR y) (h0 : y ≠ 0) (h1 : inR (x.tdiv y)) (hdg : decode cc pc = .ok (.idiv, 1)) {n' : Nat} (hn : pc + 1 = n')  (k : g_G p l e R s m args below meth c nL D A Q ce sl w lv n' (.int (iI (x.tdiv y)) :: st)) : g_G p l e R s m args below meth c nL D A Q ce sl w lv pc (.int (iI y) :: .int (iI x) :: st) := by
  subst hn
  intro d0 H locs ls hd hP hD hS hl
  have k := k d0 H locs ls hd hP hD hS hl
  refine lv_idiv C.1 C.2.1 hdg (fun q => h0 ((iI_eq hy (b := 0) (by unfold inR; omega)).mp q)) ?_
  rw [iI_div hx hy h0 h1]
  exact k
theorem g_irem (C : g_Cx p s m args c cc nL own D tys A E) {x y : Int} (hx : inR x) (hy : inR y) (h0 : y ≠ 0) (h1 : inR (x.tdiv y)) (hdg : decode cc pc = .ok (.irem, 1)) {n' : Nat} (hn : pc + 1 = n')  (k : g_G p l e R s m args below meth c nL D A Q ce sl w lv n' (.int (iI (x.tmod y)) :: st)) : g_G p l e R s m args below meth c nL D A Q ce sl w lv pc (.int (iI y) :: .int (iI x) :: st) := by
  subst hn
  intro d0 H locs ls hd hP hD hS hl
  have k := k d0 H locs ls hd hP hD hS hl
  refine lv_irem C.1 C.2.1 hdg (fun q => h0 ((iI_eq hy (b := 0) (by unfold inR; omega)).mp q)) ?_
  rw [iI_div hx hy h0 h1, iI_mul, iI_sub, show x - x.tdiv y * y = x.tmod y by rw [Int.tmod_def, Int.mul_comm]]
  exact k
theorem g_iand (C : g_Cx p s m args c cc nL own D tys A E) {x y : Int32} (v : Int) (hv : x &&& y = iI v) (hdg : decode cc pc = .ok (.iand, 1)) {n' : Nat} (hn : pc + 1 = n')  (k : g_G p l e R s m args below meth c nL D A Q ce sl w lv n' (.int (iI v) :: st)) : g_G p l e R s m args below meth c nL D A Q ce sl w lv pc (.int y :: .int x :: st) := by
  subst hn
  intro d0 H locs ls hd hP hD hS hl
  have k := k d0 H locs ls hd hP hD hS hl
  refine lv_iand C.1 C.2.1 hdg ?_
  rw [hv]
  exact k
theorem g_ior (C : g_Cx p s m args c cc nL own D tys A E) {x y : Int32} (v : Int) (hv : x ||| y = iI v) (hdg : decode cc pc = .ok (.ior, 1)) {n' : Nat} (hn : pc + 1 = n')  (k : g_G p l e R s m args below meth c nL D A Q ce sl w lv n' (.int (iI v) :: st)) : g_G p l e R s m args below meth c nL D A Q ce sl w lv pc (.int y :: .int x :: st) := by
  subst hn
  intro d0 H locs ls hd hP hD hS hl
  have k := k d0 H locs ls hd hP hD hS hl
  refine lv_ior C.1 C.2.1 hdg ?_
  rw [hv]
  exact k
theorem g_ixor (C : g_Cx p s m args c cc nL own D tys A E) {x y : Int32} (v : Int) (hv : x ^^^ y = iI v) (hdg : decode cc pc = .ok (.ixor, 1)) {n' : Nat} (hn : pc + 1 = n')  (k : g_G p l e R s m args below meth c nL D A Q ce sl w lv n' (.int (iI v) :: st)) : g_G p l e R s m args below meth c nL D A Q ce sl w lv pc (.int y :: .int x :: st) := by
  subst hn
  intro d0 H locs ls hd hP hD hS hl
  have k := k d0 H locs ls hd hP hD hS hl
  refine lv_ixor C.1 C.2.1 hdg ?_
  rw [hv]
  exact k
theorem g_ishl (C : g_Cx p s m args c cc nL own D tys A E) {x y : Int32} (v : Int) (hv : x <<< (y &&& 31) = iI v) (hdg : decode cc pc = .ok (.ishl, 1)) {n' : Nat} (hn : pc + 1 = n')  (k : g_G p l e R s m args below meth c nL D A Q ce sl w lv n' (.int (iI v) :: st)) : g_G p l e R s m args below meth c nL D A Q ce sl w lv pc (.int y :: .int x :: st) := by
  subst hn
  intro d0 H locs ls hd hP hD hS hl
  have k := k d0 H locs ls hd hP hD hS hl
  refine lv_ishl C.1 C.2.1 hdg ?_
  rw [hv]
  exact k
theorem g_ishr (C : g_Cx p s m args c cc nL own D tys A E) {x y : Int32} (v : Int) (hv : x >>> (y &&& 31) = iI v) (hdg : decode cc pc = .ok (.ishr, 1)) {n' : Nat} (hn : pc + 1 = n')  (k : g_G p l e R s m args below meth c nL D A Q ce sl w lv n' (.int (iI v) :: st)) : g_G p l e R s m args below meth c nL D A Q ce sl w lv pc (.int y :: .int x :: st) := by
  subst hn
  intro d0 H locs ls hd hP hD hS hl
  have k := k d0 H locs ls hd hP hD hS hl
  refine lv_ishr C.1 C.2.1 hdg ?_
  rw [hv]
  exact k
theorem g_i2l (C : g_Cx p s m args c cc nL own D tys A E) {x : Int} (hx : inR x) (hdg : decode cc pc = .ok (.i2l, 1)) {n' : Nat} (hn : pc + 1 = n')  (k : g_G p l e R s m args below meth c nL D A Q ce sl w lv n' (.long (lL x) :: st)) : g_G p l e R s m args below meth c nL D A Q ce sl w lv pc (.int (iI x) :: st) := by
  subst hn
  intro d0 H locs ls hd hP hD hS hl
  have k := k d0 H locs ls hd hP hD hS hl
  exact lv_i2l C.1 C.2.1 hdg (iI_l hx) k
theorem g_lcmp (C : g_Cx p s m args c cc nL own D tys A E) {x y : Int} (hx : inR x) (hy : inR y) (hdg : decode cc pc = .ok (.lcmp, 1)) {n' : Nat} (hn : pc + 1 = n')  (k : g_G p l e R s m args below meth c nL D A Q ce sl w lv n' (.int (iI (if x < y then -1 else if x = y then 0 else 1)) :: st)) : g_G p l e R s m args below meth c nL D A Q ce sl w lv pc (.long (lL y) :: .long (lL x) :: st) := by
  subst hn
  intro d0 H locs ls hd hP hD hS hl
  have k := k d0 H locs ls hd hP hD hS hl
  refine W.lcmp C.1 C.2.1 hdg ?_
  rw [lL_cmp hx hy]
  exact k
theorem g_i2c (C : g_Cx p s m args c cc nL own D tys A E) {x : Int} (h0 : 0 ≤ x) (h1 : x < 65536) (hdg : decode cc pc = .ok (.i2c, 1)) {n' : Nat} (hn : pc + 1 = n')  (k : g_G p l e R s m args below meth c nL D A Q ce sl w lv n' (.int (iI x) :: st)) : g_G p l e R s m args below meth c nL D A Q ce sl w lv pc (.int (iI x) :: st) := by
  subst hn
  intro d0 H locs ls hd hP hD hS hl
  have k := k d0 H locs ls hd hP hD hS hl
  exact lv_i2c C.1 C.2.1 hdg (iI_char h0 h1) k
theorem g_i2f (C : g_Cx p s m args c cc nL own D tys A E) {x : Int32}  (hdg : decode cc pc = .ok (.i2f, 1)) {n' : Nat} (hn : pc + 1 = n')  (k : g_G p l e R s m args below meth c nL D A Q ce sl w lv n' (.float (FP.i2f x) :: st)) : g_G p l e R s m args below meth c nL D A Q ce sl w lv pc (.int x :: st) := by
  subst hn
  intro d0 H locs ls hd hP hD hS hl
  have k := k d0 H locs ls hd hP hD hS hl
  exact lv_i2f C.1 C.2.1 hdg k
theorem g_i2d (C : g_Cx p s m args c cc nL own D tys A E) {x : Int32}  (hdg : decode cc pc = .ok (.i2d, 1)) {n' : Nat} (hn : pc + 1 = n')  (k : g_G p l e R s m args below meth c nL D A Q ce sl w lv n' (.double (FP.i2d x) :: st)) : g_G p l e R s m args below meth c nL D A Q ce sl w lv pc (.int x :: st) := by
  subst hn
  intro d0 H locs ls hd hP hD hS hl
  have k := k d0 H locs ls hd hP hD hS hl
  exact lv_i2d C.1 C.2.1 hdg k
theorem g_d2i (C : g_Cx p s m args c cc nL own D tys A E) {x : UInt64} (v : Int) (hv : FP.d2i x = iI v) (hdg : decode cc pc = .ok (.d2i, 1)) {n' : Nat} (hn : pc + 1 = n')  (k : g_G p l e R s m args below meth c nL D A Q ce sl w lv n' (.int (iI v) :: st)) : g_G p l e R s m args below meth c nL D A Q ce sl w lv pc (.double x :: st) := by
  subst hn
  intro d0 H locs ls hd hP hD hS hl
  have k := k d0 H locs ls hd hP hD hS hl
  refine lv_d2i C.1 C.2.1 hdg ?_
  rw [hv]
  exact k
theorem g_dneg (C : g_Cx p s m args c cc nL own D tys A E) {x : UInt64}  (hdg : decode cc pc = .ok (.dneg, 1)) {n' : Nat} (hn : pc + 1 = n')  (k : g_G p l e R s m args below meth c nL D A Q ce sl w lv n' (.double (FP.dneg x) :: st)) : g_G p l e R s m args below meth c nL D A Q ce sl w lv pc (.double x :: st) := by
  subst hn
  intro d0 H locs ls hd hP hD hS hl
  have k := k d0 H locs ls hd hP hD hS hl
  exact lv_dneg C.1 C.2.1 hdg k
theorem g_dcmp (C : g_Cx p s m args c cc nL own D tys A E) {x y : UInt64} {op : CmpOp} (v : Int) (hv : Op.cmpValue (FP.dcmp x y) op = iI v) (hdg : decode cc pc = .ok (.dcmp op, 1)) {n' : Nat} (hn : pc + 1 = n')  (k : g_G p l e R s m args below meth c nL D A Q ce sl w lv n' (.int (iI v) :: st)) : g_G p l e R s m args below meth c nL D A Q ce sl w lv pc (.double y :: .double x :: st) := by
  subst hn
  intro d0 H locs ls hd hP hD hS hl
  have k := k d0 H locs ls hd hP hD hS hl
  refine lv_dcmp C.1 C.2.1 hdg ?_
  rw [hv]
  exact k
theorem g_dconst0 (C : g_Cx p s m args c cc nL own D tys A E)   (hdg : decode cc pc = .ok (.dconst 0, 1)) {n' : Nat} (hn : pc + 1 = n')  (k : g_G p l e R s m args below meth c nL D A Q ce sl w lv n' (.double 0 :: st)) : g_G p l e R s m args below meth c nL D A Q ce sl w lv pc st := by
  subst hn
  intro d0 H locs ls hd hP hD hS hl
  have k := k d0 H locs ls hd hP hD hS hl
  exact lv_dconst0 C.1 C.2.1 hdg k
theorem g_fconst0 (C : g_Cx p s m args c cc nL own D tys A E)   (hdg : decode cc pc = .ok (.fconst 0, 1)) {n' : Nat} (hn : pc + 1 = n')  (k : g_G p l e R s m args below meth c nL D A Q ce sl w lv n' (.float 0 :: st)) : g_G p l e R s m args below meth c nL D A Q ce sl w lv pc st := by
  subst hn
  intro d0 H locs ls hd hP hD hS hl
  have k := k d0 H locs ls hd hP hD hS hl
  exact lv_fconst0 C.1 C.2.1 hdg k
theorem g_dadd (C : g_Cx p s m args c cc nL own D tys A E) {x y : UInt64} (hdg : decode cc pc = .ok (.dadd, 1)) {n' : Nat} (hn : pc + 1 = n') (k : ∀ r : UInt64, alike64 r (FP.dadd x y) = true → g_G p l e R s m args below meth c nL D A Q ce sl w lv n' (.double r :: st)) : g_G p l e R s m args below meth c nL D A Q ce sl w lv pc (.double y :: .double x :: st) := by
  subst hn
  intro d0 H locs ls hd hP hD hS hl
  exact lv_dadd_any hd lw_bits C.1 C.2.1 hdg (fun r d1 h1 h2 => k r h1 d1 H locs ls h2 hP hD hS hl)
theorem g_dsub (C : g_Cx p s m args c cc nL own D tys A E) {x y : UInt64} (hdg : decode cc pc = .ok (.dsub, 1)) {n' : Nat} (hn : pc + 1 = n') (k : ∀ r : UInt64, alike64 r (FP.dsub x y) = true → g_G p l e R s m args below meth c nL D A Q ce sl w lv n' (.double r :: st)) : g_G p l e R s m args below meth c nL D A Q ce sl w lv pc (.double y :: .double x :: st) := by
  subst hn
  intro d0 H locs ls hd hP hD hS hl
  exact lv_dsub_any hd lw_bits C.1 C.2.1 hdg (fun r d1 h1 h2 => k r h1 d1 H locs ls h2 hP hD hS hl)
theorem g_dmul (C : g_Cx p s m args c cc nL own D tys A E) {x y : UInt64} (hdg : decode cc pc = .ok (.dmul, 1)) {n' : Nat} (hn : pc + 1 = n') (k : ∀ r : UInt64, alike64 r (FP.dmul x y) = true → g_G p l e R s m args below meth c nL D A Q ce sl w lv n' (.double r :: st)) : g_G p l e R s m args below meth c nL D A Q ce sl w lv pc (.double y :: .double x :: st) := by
  subst hn
  intro d0 H locs ls hd hP hD hS hl
  exact lv_dmul_any hd lw_bits C.1 C.2.1 hdg (fun r d1 h1 h2 => k r h1 d1 H locs ls h2 hP hD hS hl)
theorem g_ddiv (C : g_Cx p s m args c cc nL own D tys A E) {x y : UInt64} (hdg : decode cc pc = .ok (.ddiv, 1)) {n' : Nat} (hn : pc + 1 = n') (k : ∀ r : UInt64, alike64 r (FP.ddiv x y) = true → g_G p l e R s m args below meth c nL D A Q ce sl w lv n' (.double r :: st)) : g_G p l e R s m args below meth c nL D A Q ce sl w lv pc (.double y :: .double x :: st) := by
  subst hn
  intro d0 H locs ls hd hP hD hS hl
  exact lv_ddiv_any hd lw_bits C.1 C.2.1 hdg (fun r d1 h1 h2 => k r h1 d1 H locs ls h2 hP hD hS hl)
theorem g_drem (C : g_Cx p s m args c cc nL own D tys A E) {x y : UInt64} (hdg : decode cc pc = .ok (.drem, 1)) {n' : Nat} (hn : pc + 1 = n') (k : ∀ r : UInt64, alike64 r (FP.drem x y) = true → g_G p l e R s m args below meth c nL D A Q ce sl w lv n' (.double r :: st)) : g_G p l e R s m args below meth c nL D A Q ce sl w lv pc (.double y :: .double x :: st) := by
  subst hn
  intro d0 H locs ls hd hP hD hS hl
  exact lv_drem_any hd lw_bits C.1 C.2.1 hdg (fun r d1 h1 h2 => k r h1 d1 H locs ls h2 hP hD hS hl)
theorem g_fmul (C : g_Cx p s m args c cc nL own D tys A E) {x y : UInt32} (hdg : decode cc pc = .ok (.fmul, 1)) {n' : Nat} (hn : pc + 1 = n') (k : ∀ r : UInt32, alike32 r (FP.fmul x y) = true → g_G p l e R s m args below meth c nL D A Q ce sl w lv n' (.float r :: st)) : g_G p l e R s m args below meth c nL D A Q ce sl w lv pc (.float y :: .float x :: st) := by
  subst hn
  intro d0 H locs ls hd hP hD hS hl
  exact lv_fmul_any hd lw_bits C.1 C.2.1 hdg (fun r d1 h1 h2 => k r h1 d1 H locs ls h2 hP hD hS hl)
theorem g_fdiv (C : g_Cx p s m args c cc nL own D tys A E) {x y : UInt32} (hdg : decode cc pc = .ok (.fdiv, 1)) {n' : Nat} (hn : pc + 1 = n') (k : ∀ r : UInt32, alike32 r (FP.fdiv x y) = true → g_G p l e R s m args below meth c nL D A Q ce sl w lv n' (.float r :: st)) : g_G p l e R s m args below meth c nL D A Q ce sl w lv pc (.float y :: .float x :: st) := by
  subst hn
  intro d0 H locs ls hd hP hD hS hl
  exact lv_fdiv_any hd lw_bits C.1 C.2.1 hdg (fun r d1 h1 h2 => k r h1 d1 H locs ls h2 hP hD hS hl)
theorem g_frem (C : g_Cx p s m args c cc nL own D tys A E) {x y : UInt32} (hdg : decode cc pc = .ok (.frem, 1)) {n' : Nat} (hn : pc + 1 = n') (k : ∀ r : UInt32, alike32 r (FP.frem x y) = true → g_G p l e R s m args below meth c nL D A Q ce sl w lv n' (.float r :: st)) : g_G p l e R s m args below meth c nL D A Q ce sl w lv pc (.float y :: .float x :: st) := by
  subst hn
  intro d0 H locs ls hd hP hD hS hl
  exact lv_frem_any hd lw_bits C.1 C.2.1 hdg (fun r d1 h1 h2 => k r h1 d1 H locs ls h2 hP hD hS hl)
theorem g_f2d (C : g_Cx p s m args c cc nL own D tys A E) {x : UInt32} (hdg : decode cc pc = .ok (.f2d, 1)) {n' : Nat} (hn : pc + 1 = n') (k : ∀ r : UInt64, alike64 r (FP.f2d x) = true → g_G p l e R s m args below meth c nL D A Q ce sl w lv n' (.double r :: st)) : g_G p l e R s m args below meth c nL D A Q ce sl w lv pc (.float x :: st) := by
  subst hn
  intro d0 H locs ls hd hP hD hS hl
  exact lv_f2d_any hd lw_bits C.1 C.2.1 hdg (fun r d1 h1 h2 => k r h1 d1 H locs ls h2 hP hD hS hl)
theorem g_d2f (C : g_Cx p s m args c cc nL own D tys A E) {x : UInt64} (hdg : decode cc pc = .ok (.d2f, 1)) {n' : Nat} (hn : pc + 1 = n') (k : ∀ r : UInt32, alike32 r (FP.d2f x) = true → g_G p l e R s m args below meth c nL D A Q ce sl w lv n' (.float r :: st)) : g_G p l e R s m args below meth c nL D A Q ce sl w lv pc (.double x :: st) := by
  subst hn
  intro d0 H locs ls hd hP hD hS hl
  exact lv_d2f_any hd lw_bits C.1 C.2.1 hdg (fun r d1 h1 h2 => k r h1 d1 H locs ls h2 hP hD hS hl)
theorem g_goto (C : g_Cx p s m args c cc nL own D tys A E) {off : Int} (tgt : Nat) (hdg : decode cc pc = .ok (.goto off, 3)) (ht : (pc : Int) + off = (tgt : Int)) (k : g_G p l e R s m args below meth c nL D A Q ce sl w lv tgt st) : g_G p l e R s m args below meth c nL D A Q ce sl w lv pc st := fun d0 H locs ls hd hP hD hS hl => lv_goto C.1 C.2.1 hdg ht (k d0 H locs ls hd hP hD hS hl)
theorem g_if_lt (C : g_Cx p s m args c cc nL own D tys A E) {x : Int} {off : Int} (tgt : Nat) (hdg : decode cc pc = .ok (.ifCond .lt off, 3)) (ht : (pc : Int) + off = (tgt : Int)) {n' : Nat} (hn : pc + 3 = n') (hx : inR x) (kt : x < 0 → g_G p l e R s m args below meth c nL D A Q ce sl w lv tgt st) (kf : ¬ x < 0 → g_G p l e R s m args below meth c nL D A Q ce sl w lv n' st) : g_G p l e R s m args below meth c nL D A Q ce sl w lv pc (.int (iI x) :: st) := by
  subst hn
  intro d0 H locs ls hd hP hD hS hl
  exact lv_if_lt C.1 C.2.1 hdg ht (fun q => kt ((iI_lt hx (b := 0) (by unfold inR; omega)).mp q) d0 H locs ls hd hP hD hS hl) (fun q => kf (fun z => q ((iI_lt hx (b := 0) (by unfold inR; omega)).mpr z)) d0 H locs ls hd hP hD hS hl)
theorem g_if_ge (C : g_Cx p s m args c cc nL own D tys A E) {x : Int} {off : Int} (tgt : Nat) (hdg : decode cc pc = .ok (.ifCond .ge off, 3)) (ht : (pc : Int) + off = (tgt : Int)) {n' : Nat} (hn : pc + 3 = n') (hx : inR x) (kt : 0 ≤ x → g_G p l e R s m args below meth c nL D A Q ce sl w lv tgt st) (kf : ¬ 0 ≤ x → g_G p l e R s m args below meth c nL D A Q ce sl w lv n' st) : g_G p l e R s m args below meth c nL D A Q ce sl w lv pc (.int (iI x) :: st) := by
  subst hn
  intro d0 H locs ls hd hP hD hS hl
  exact lv_if_ge C.1 C.2.1 hdg ht (fun q => kt ((iI_le (a := 0) (by unfold inR; omega) hx).mp q) d0 H locs ls hd hP hD hS hl) (fun q => kf (fun z => q ((iI_le (a := 0) (by unfold inR; omega) hx).mpr z)) d0 H locs ls hd hP hD hS hl)
theorem g_if_gt (C : g_Cx p s m args c cc nL own D tys A E) {x : Int} {off : Int} (tgt : Nat) (hdg : decode cc pc = .ok (.ifCond .gt off, 3)) (ht : (pc : Int) + off = (tgt : Int)) {n' : Nat} (hn : pc + 3 = n') (hx : inR x) (kt : 0 < x → g_G p l e R s m args below meth c nL D A Q ce sl w lv tgt st) (kf : ¬ 0 < x → g_G p l e R s m args below meth c nL D A Q ce sl w lv n' st) : g_G p l e R s m args below meth c nL D A Q ce sl w lv pc (.int (iI x) :: st) := by
  subst hn
  intro d0 H locs ls hd hP hD hS hl
  exact lv_if_gt C.1 C.2.1 hdg ht (fun q => kt ((iI_lt (a := 0) (by unfold inR; omega) hx).mp q) d0 H locs ls hd hP hD hS hl) (fun q => kf (fun z => q ((iI_lt (a := 0) (by unfold inR; omega) hx).mpr z)) d0 H locs ls hd hP hD hS hl)
theorem g_if_le (C : g_Cx p s m args c cc nL own D tys A E) {x : Int} {off : Int} (tgt : Nat) (hdg : decode cc pc = .ok (.ifCond .le off, 3)) (ht : (pc : Int) + off = (tgt : Int)) {n' : Nat} (hn : pc + 3 = n') (hx : inR x) (kt : x ≤ 0 → g_G p l e R s m args below meth c nL D A Q ce sl w lv tgt st) (kf : ¬ x ≤ 0 → g_G p l e R s m args below meth c nL D A Q ce sl w lv n' st) : g_G p l e R s m args below meth c nL D A Q ce sl w lv pc (.int (iI x) :: st) := by
  subst hn
  intro d0 H locs ls hd hP hD hS hl
  exact lv_if_le C.1 C.2.1 hdg ht (fun q => kt ((iI_le hx (b := 0) (by unfold inR; omega)).mp q) d0 H locs ls hd hP hD hS hl) (fun q => kf (fun z => q ((iI_le hx (b := 0) (by unfold inR; omega)).mpr z)) d0 H locs ls hd hP hD hS hl)
theorem g_if_eq (C : g_Cx p s m args c cc nL own D tys A E) {x : Int} {off : Int} (tgt : Nat) (hdg : decode cc pc = .ok (.ifCond .eq off, 3)) (ht : (pc : Int) + off = (tgt : Int)) {n' : Nat} (hn : pc + 3 = n') (hx : inR x) (kt : x = 0 → g_G p l e R s m args below meth c nL D A Q ce sl w lv tgt st) (kf : ¬ x = 0 → g_G p l e R s m args below meth c nL D A Q ce sl w lv n' st) : g_G p l e R s m args below meth c nL D A Q ce sl w lv pc (.int (iI x) :: st) := by
  subst hn
  intro d0 H locs ls hd hP hD hS hl
  exact lv_if_eq C.1 C.2.1 hdg ht (fun q => kt ((iI_eq hx (b := 0) (by unfold inR; omega)).mp q) d0 H locs ls hd hP hD hS hl) (fun q => kf (fun z => q ((iI_eq hx (b := 0) (by unfold inR; omega)).mpr z)) d0 H locs ls hd hP hD hS hl)
theorem g_if_ne (C : g_Cx p s m args c cc nL own D tys A E) {x : Int} {off : Int} (tgt : Nat) (hdg : decode cc pc = .ok (.ifCond .ne off, 3)) (ht : (pc : Int) + off = (tgt : Int)) {n' : Nat} (hn : pc + 3 = n') (hx : inR x) (kt : x ≠ 0 → g_G p l e R s m args below meth c nL D A Q ce sl w lv tgt st) (kf : ¬ x ≠ 0 → g_G p l e R s m args below meth c nL D A Q ce sl w lv n' st) : g_G p l e R s m args below meth c nL D A Q ce sl w lv pc (.int (iI x) :: st) := by
  subst hn
  intro d0 H locs ls hd hP hD hS hl
  exact lv_if_ne C.1 C.2.1 hdg ht (fun q => kt ((not_congr (iI_eq hx (b := 0) (by unfold inR; omega))).mp q) d0 H locs ls hd hP hD hS hl) (fun q => kf (fun z => z ((iI_eq hx (b := 0) (by unfold inR; omega)).mp q)) d0 H locs ls hd hP hD hS hl)
theorem g_icmp_lt (C : g_Cx p s m args c cc nL own D tys A E) {x y : Int} {off : Int} (tgt : Nat) (hdg : decode cc pc = .ok (.if_icmp .lt off, 3)) (ht : (pc : Int) + off = (tgt : Int)) {n' : Nat} (hn : pc + 3 = n') (hx : inR x) (hy : inR y) (kt : x < y → g_G p l e R s m args below meth c nL D A Q ce sl w lv tgt st) (kf : ¬ x < y → g_G p l e R s m args below meth c nL D A Q ce sl w lv n' st) : g_G p l e R s m args below meth c nL D A Q ce sl w lv pc (.int (iI y) :: .int (iI x) :: st) := by
  subst hn
  intro d0 H locs ls hd hP hD hS hl
  exact lv_icmp_lt C.1 C.2.1 hdg ht (fun q => kt ((iI_lt hx hy).mp q) d0 H locs ls hd hP hD hS hl) (fun q => kf (fun z => q ((iI_lt hx hy).mpr z)) d0 H locs ls hd hP hD hS hl)
theorem g_icmp_ge (C : g_Cx p s m args c cc nL own D tys A E) {x y : Int} {off : Int} (tgt : Nat) (hdg : decode cc pc = .ok (.if_icmp .ge off, 3)) (ht : (pc : Int) + off = (tgt : Int)) {n' : Nat} (hn : pc + 3 = n') (hx : inR x) (hy : inR y) (kt : y ≤ x → g_G p l e R s m args below meth c nL D A Q ce sl w lv tgt st) (kf : ¬ y ≤ x → g_G p l e R s m args below meth c nL D A Q ce sl w lv n' st) : g_G p l e R s m args below meth c nL D A Q ce sl w lv pc (.int (iI y) :: .int (iI x) :: st) := by
  subst hn
  intro d0 H locs ls hd hP hD hS hl
  exact lv_icmp_ge C.1 C.2.1 hdg ht (fun q => kt ((iI_le hy hx).mp q) d0 H locs ls hd hP hD hS hl) (fun q => kf (fun z => q ((iI_le hy hx).mpr z)) d0 H locs ls hd hP hD hS hl)
theorem g_icmp_gt (C : g_Cx p s m args c cc nL own D tys A E) {x y : Int} {off : Int} (tgt : Nat) (hdg : decode cc pc = .ok (.if_icmp .gt off, 3)) (ht : (pc : Int) + off = (tgt : Int)) {n' : Nat} (hn : pc + 3 = n') (hx : inR x) (hy : inR y) (kt : y < x → g_G p l e R s m args below meth c nL D A Q ce sl w lv tgt st) (kf : ¬ y < x → g_G p l e R s m args below meth c nL D A Q ce sl w lv n' st) : g_G p l e R s m args below meth c nL D A Q ce sl w lv pc (.int (iI y) :: .int (iI x) :: st) := by
  subst hn
  intro d0 H locs ls hd hP hD hS hl
  exact lv_icmp_gt C.1 C.2.1 hdg ht (fun q => kt ((iI_lt hy hx).mp q) d0 H locs ls hd hP hD hS hl) (fun q => kf (fun z => q ((iI_lt hy hx).mpr z)) d0 H locs ls hd hP hD hS hl)
theorem g_icmp_le (C : g_Cx p s m args c cc nL own D tys A E) {x y : Int} {off : Int} (tgt : Nat) (hdg : decode cc pc = .ok (.if_icmp .le off, 3)) (ht : (pc : Int) + off = (tgt : Int)) {n' : Nat} (hn : pc + 3 = n') (hx : inR x) (hy : inR y) (kt : x ≤ y → g_G p l e R s m args below meth c nL D A Q ce sl w lv tgt st) (kf : ¬ x ≤ y → g_G p l e R s m args below meth c nL D A Q ce sl w lv n' st) : g_G p l e R s m args below meth c nL D A Q ce sl w lv pc (.int (iI y) :: .int (iI x) :: st) := by
  subst hn
  intro d0 H locs ls hd hP hD hS hl
  exact lv_icmp_le C.1 C.2.1 hdg ht (fun q => kt ((iI_le hx hy).mp q) d0 H locs ls hd hP hD hS hl) (fun q => kf (fun z => q ((iI_le hx hy).mpr z)) d0 H locs ls hd hP hD hS hl)
theorem g_icmp_eq (C : g_Cx p s m args c cc nL own D tys A E) {x y : Int} {off : Int} (tgt : Nat) (hdg : decode cc pc = .ok (.if_icmp .eq off, 3)) (ht : (pc : Int) + off = (tgt : Int)) {n' : Nat} (hn : pc + 3 = n') (hx : inR x) (hy : inR y) (kt : x = y → g_G p l e R s m args below meth c nL D A Q ce sl w lv tgt st) (kf : ¬ x = y → g_G p l e R s m args below meth c nL D A Q ce sl w lv n' st) : g_G p l e R s m args below meth c nL D A Q ce sl w lv pc (.int (iI y) :: .int (iI x) :: st) := by
  subst hn
  intro d0 H locs ls hd hP hD hS hl
  exact lv_icmp_eq C.1 C.2.1 hdg ht (fun q => kt ((iI_eq hx hy).mp q) d0 H locs ls hd hP hD hS hl) (fun q => kf (fun z => q ((iI_eq hx hy).mpr z)) d0 H locs ls hd hP hD hS hl)
theorem g_icmp_ne (C : g_Cx p s m args c cc nL own D tys A E) {x y : Int} {off : Int} (tgt : Nat) (hdg : decode cc pc = .ok (.if_icmp .ne off, 3)) (ht : (pc : Int) + off = (tgt : Int)) {n' : Nat} (hn : pc + 3 = n') (hx : inR x) (hy : inR y) (kt : x ≠ y → g_G p l e R s m args below meth c nL D A Q ce sl w lv tgt st) (kf : ¬ x ≠ y → g_G p l e R s m args below meth c nL D A Q ce sl w lv n' st) : g_G p l e R s m args below meth c nL D A Q ce sl w lv pc (.int (iI y) :: .int (iI x) :: st) := by
  subst hn
  intro d0 H locs ls hd hP hD hS hl
  exact lv_icmp_ne C.1 C.2.1 hdg ht (fun q => kt ((not_congr (iI_eq hx hy)).mp q) d0 H locs ls hd hP hD hS hl) (fun q => kf (fun z => z ((iI_eq hx hy).mp q)) d0 H locs ls hd hP hD hS hl)
theorem g_tsIn (C : g_Cx p s m args c cc nL own D tys A E) {x : Int} {dflt lo hi : Int} {offs : Array Int} {len : Nat} {off : Int} (tgt : Nat) (hdg : decode cc pc = .ok (.tableswitch dflt lo hi offs, len)) (hx : inR x) (h1 : lo ≤ x) (h2 : x ≤ hi) (ho : offs[(x - lo).toNat]? = some off) (ht : (pc : Int) + off = (tgt : Int)) (k : g_G p l e R s m args below meth c nL D A Q ce sl w lv tgt st) : g_G p l e R s m args below meth c nL D A Q ce sl w lv pc (.int (iI x) :: st) := by
  intro d0 H locs ls hd hP hD hS hl
  exact lv_tableIn C.1 C.2.1 hdg (by rw [iI_toInt hx]; omega) (by rw [iI_toInt hx]; omega) (by rw [iI_toInt hx]; exact ho) ht (k d0 H locs ls hd hP hD hS hl)
theorem g_tsOut (C : g_Cx p s m args c cc nL own D tys A E) {x : Int} {dflt lo hi : Int} {offs : Array Int} {len : Nat} (tgt : Nat) (hdg : decode cc pc = .ok (.tableswitch dflt lo hi offs, len)) (hx : inR x) (h1 : x < lo ∨ hi < x) (ht : (pc : Int) + dflt = (tgt : Int)) (k : g_G p l e R s m args below meth c nL D A Q ce sl w lv tgt st) : g_G p l e R s m args below meth c nL D A Q ce sl w lv pc (.int (iI x) :: st) := by
  intro d0 H locs ls hd hP hD hS hl
  exact lv_tableOut C.1 C.2.1 hdg (by rw [iI_toInt hx]; exact h1) ht (k d0 H locs ls hd hP hD hS hl)
theorem g_get (C : g_Cx p s m args c cc nL own D tys A E) {ref Cn : String} {T : u_T} {N ci index : Nat} (hin : ∀ w ∈ u_ws Cn T N, w ∈ g_all) (q0 : Nat) {a : Nat} {fs : List Value} (he : w[q0]? = some (a, .inr (ci, fs))) (hc : vwCl[ci]? = some (Cn, T, N)) (k : Nat) (hk : k < N) (hlink : Cond.fieldLink own index ref (T k).2.1 (T k).2.2.1 ∈ g_all) (href : ref = (T k).1) {v : Value} (hv : fs[k]? = some v) (hdg : decode cc pc = .ok (.getfield index, 3)) {n' : Nat} (hn : pc + 3 = n') (kk : g_G p l e R s m args below meth c nL D A Q ce sl w lv n' (v :: st)) : g_G p l e R s m args below meth c nL D A Q ce sl w lv pc (.ref a :: st) := by
  subst hn
  intro d0 H locs ls hd hP hD hS hl
  exact va_get (s := s.setDrawn d0) C.1 C.2.1 (dr_words C.2.2.2.2.1 _) hin C.2.2.2.1 C.2.2.2.2.2.1 hP q0 he hc k hk (dr_words C.2.2.2.2.1 _ _ hlink) (fun x h => by rw [href]; exact h) hv hdg (kk d0 H locs ls hd hP hD hS hl)
theorem g_getN (C : g_Cx p s m args c cc nL own D tys A E) {ref Cn : String} {host : String} {T : u_T} {N ci index : Nat} (hin : ∀ w ∈ u_ws Cn T N, w ∈ g_all) (q0 : Nat) {a : Nat} {fs : List Value} (he : w[q0]? = some (a, .inr (ci, fs))) (hc : vwCl[ci]? = some (Cn, T, N)) (k : Nat) (hk : k < N) (hlink : Cond.fieldLinkNest own index ref (T k).2.1 (T k).2.2.1 host ∈ g_nest) (href : ref = (T k).1) {v : Value} (hv : fs[k]? = some v) (hdg : decode cc pc = .ok (.getfield index, 3)) {n' : Nat} (hn : pc + 3 = n') (kk : g_G p l e R s m args below meth c nL D A Q ce sl w lv n' (v :: st)) : g_G p l e R s m args below meth c nL D A Q ce sl w lv pc (.ref a :: st) := by
  subst hn
  intro d0 H locs ls hd hP hD hS hl
  exact va_getN (s := s.setDrawn d0) C.1 C.2.1 (dr_words C.2.2.2.2.1 _) hin C.2.2.2.1 C.2.2.2.2.2.1 hP q0 he hc k hk (g_nestD C.2.2.2.2.2.2.2.1 d0 hlink) (fun x h => by rw [href]; exact h) hv hdg (kk d0 H locs ls hd hP hD hS hl)
theorem g_put (C : g_Cx p s m args c cc nL own D tys A E) {ref Cn : String} {T : u_T} {N ci index : Nat} (hin : ∀ w ∈ u_ws Cn T N, w ∈ g_all) (q0 : Nat) {a : Nat} {fs : List Value} (he : w[q0]? = some (a, .inr (ci, fs))) (hc : vwCl[ci]? = some (Cn, T, N)) (k : Nat) (hk : k < N) (hlink : Cond.fieldLink own index ref (T k).2.1 (T k).2.2.1 ∈ g_all) (href : ref = (T k).1) (ty0 : Nat → FieldType) (hty : ∀ k, k < N → parseFieldDescriptor (T k).2.2.1 = some (ty0 k)) (hnm : ∀ a, a < N → ∀ b, b < N → a ≠ b → (T a).2.1 ≠ (T b).2.1) (hfin : (T k).2.2.2 = false) {ty : FieldType} {v : Value} (hd : parseFieldDescriptor (T k).2.2.1 = some ty) (hnr : narrow ty v = v) (hfit : fits ty v = true) (hl0 : k < fs.length) (w' : va_W) (hw : w.set q0 (a, .inr (ci, fs.set k v)) = w') (hdg : decode cc pc = .ok (.putfield index, 3)) {n' : Nat} (hn : pc + 3 = n') (kk : g_G p l e R s m args below meth c nL D A Q ce sl w' lv n' st) : g_G p l e R s m args below meth c nL D A Q ce sl w lv pc (v :: .ref a :: st) := by
  subst hn
  subst hw
  intro d0 H locs ls hdr hP hD hS hl
  exact va_put (s := s.setDrawn d0) C.1 C.2.1 (dr_words C.2.2.2.2.1 _) hin ty0 hty hnm C.2.2.2.1 C.2.2.2.2.2.1 hP hD hS q0 he hc k hk (dr_words C.2.2.2.2.1 _ _ hlink) (fun x h => by rw [href]; exact h) hfin hd hnr hfit hl0 hdg (fun H1 locs1 h1 h2 h3 => kk d0 H1 locs1 ls hdr h1 h2 h3 hl)
theorem g_putN (C : g_Cx p s m args c cc nL own D tys A E) {ref Cn : String} {host : String} {T : u_T} {N ci index : Nat} (hin : ∀ w ∈ u_ws Cn T N, w ∈ g_all) (q0 : Nat) {a : Nat} {fs : List Value} (he : w[q0]? = some (a, .inr (ci, fs))) (hc : vwCl[ci]? = some (Cn, T, N)) (k : Nat) (hk : k < N) (hlink : Cond.fieldLinkNest own index ref (T k).2.1 (T k).2.2.1 host ∈ g_nest) (href : ref = (T k).1) (ty0 : Nat → FieldType) (hty : ∀ k, k < N → parseFieldDescriptor (T k).2.2.1 = some (ty0 k)) (hnm : ∀ a, a < N → ∀ b, b < N → a ≠ b → (T a).2.1 ≠ (T b).2.1) (hfin : (T k).2.2.2 = false) {ty : FieldType} {v : Value} (hd : parseFieldDescriptor (T k).2.2.1 = some ty) (hnr : narrow ty v = v) (hfit : fits ty v = true) (hl0 : k < fs.length) (w' : va_W) (hw : w.set q0 (a, .inr (ci, fs.set k v)) = w') (hdg : decode cc pc = .ok (.putfield index, 3)) {n' : Nat} (hn : pc + 3 = n') (kk : g_G p l e R s m args below meth c nL D A Q ce sl w' lv n' st) : g_G p l e R s m args below meth c nL D A Q ce sl w lv pc (v :: .ref a :: st) := by
  subst hn
  subst hw
  intro d0 H locs ls hdr hP hD hS hl
  exact va_putN (s := s.setDrawn d0) C.1 C.2.1 (dr_words C.2.2.2.2.1 _) hin ty0 hty hnm C.2.2.2.1 C.2.2.2.2.2.1 hP hD hS q0 he hc k hk (g_nestD C.2.2.2.2.2.2.2.1 d0 hlink) (fun x h => by rw [href]; exact h) hfin hd hnr hfit hl0 hdg (fun H1 locs1 h1 h2 h3 => kk d0 H1 locs1 ls hdr h1 h2 h3 hl)
theorem g_putF (C : g_Cx p s m args c cc nL own D tys A E) {ref Cn : String} {T : u_T} {N ci index : Nat} (hin : ∀ w ∈ u_ws Cn T N, w ∈ g_all) (q0 : Nat) {a : Nat} {fs : List Value} (he : w[q0]? = some (a, .inr (ci, fs))) (hc : vwCl[ci]? = some (Cn, T, N)) (k : Nat) (hk : k < N) (hlink : Cond.fieldLink own index ref (T k).2.1 (T k).2.2.1 ∈ g_all) (href : ref = (T k).1) (ty0 : Nat → FieldType) (hty : ∀ k, k < N → parseFieldDescriptor (T k).2.2.1 = some (ty0 k)) (hnm : ∀ a, a < N → ∀ b, b < N → a ≠ b → (T a).2.1 ≠ (T b).2.1) (hfin : (T k).2.2.2 = true) (hin2 : meth.name = "<init>") (hdecl : (T k).1 = own) {ty : FieldType} {v : Value} (hd : parseFieldDescriptor (T k).2.2.1 = some ty) (hnr : narrow ty v = v) (hfit : fits ty v = true) (hl0 : k < fs.length) (w' : va_W) (hw : w.set q0 (a, .inr (ci, fs.set k v)) = w') (hdg : decode cc pc = .ok (.putfield index, 3)) {n' : Nat} (hn : pc + 3 = n') (kk : g_G p l e R s m args below meth c nL D A Q ce sl w' lv n' st) : g_G p l e R s m args below meth c nL D A Q ce sl w lv pc (v :: .ref a :: st) := by
  subst hn
  subst hw
  intro d0 H locs ls hdr hP hD hS hl
  exact va_putF (s := s.setDrawn d0) C.1 C.2.1 (dr_words C.2.2.2.2.1 _) hin ty0 hty hnm C.2.2.2.1 C.2.2.2.2.2.1 hP hD hS q0 he hc k hk (dr_words C.2.2.2.2.1 _ _ hlink) (fun x h => by rw [href]; exact h) hfin hin2 hdecl hd hnr hfit hl0 hdg (fun H1 locs1 h1 h2 h3 => kk d0 H1 locs1 ls hdr h1 h2 h3 hl)
theorem vp_nar_charI {x : Int} (h0 : 0 ≤ x) (h1 : x < 65536) : vp_nar .char (iI x) = iI x := by
  have e : iI x = nI x.toNat := by
    apply Int32.toInt_inj.mp
    rw [iI_toInt ⟨by omega, by omega⟩, nI_toInt (by omega)]
    omega
  rw [e]
  have h := (pk_charN (q := x.toNat) (by omega)).1
  show (match narrow .char (.int (nI x.toNat)) with | .int z => z | _ => 0) = _
  rw [h]
theorem vp_nar_boolI {x : Int} (h : x = 0 ∨ x = 1) : vp_nar .boolean (iI x) = iI x := by
  rcases h with rfl | rfl <;> decide
theorem g_iald (C : g_Cx p s m args c cc nL own D tys A E) (q0 t0 : Nat) {a : Nat} {cA : ClassId} {n : Nat} {f : Nat → Int} (he : w[q0]? = some (a, .inl (cA, n, .inl (iA f)))) (ht : tys[t0]? = some (cA, .int)) {i : Int} (h0 : 0 ≤ i) (h1 : i < n) (hs : (n : Int) < 2147483648) {ins : Instr} (hi : ins = .iaload) (hdg : decode cc pc = .ok (ins, 1)) {n' : Nat} (hn : pc + 1 = n') (k : g_G p l e R s m args below meth c nL D A Q ce sl w lv n' (.int (iI (f i.toNat)) :: st)) : g_G p l e R s m args below meth c nL D A Q ce sl w lv pc (.int (iI i) :: .ref a :: st) := by
  subst hn
  subst hi
  intro d0 H locs ls hd hP hD hS hl
  refine va_iald (s := s.setDrawn d0) C.1 C.2.1 C.2.2.2.2.2.1 hP q0 t0 he ht (iI_in h0 h1 (by omega)) hdg ?_
  rw [iA_get f ⟨by omega, by omega⟩]
  exact k d0 H locs ls hd hP hD hS hl
theorem g_iast (C : g_Cx p s m args c cc nL own D tys A E) (q0 t0 : Nat) {a : Nat} {cA : ClassId} {n : Nat} {f : Nat → Int} (he : w[q0]? = some (a, .inl (cA, n, .inl (iA f)))) (ht : tys[t0]? = some (cA, .int)) {i x : Int} (h0 : 0 ≤ i) (h1 : i < n) (hs : (n : Int) < 2147483648) {ins : Instr} (hi : ins = .iastore) (hdg : decode cc pc = .ok (ins, 1)) {n' : Nat} (hn : pc + 1 = n') (w' : va_W) (hw : w.set q0 (a, .inl (cA, n, .inl (iA (sU f i.toNat x)))) = w') (k : g_G p l e R s m args below meth c nL D A Q ce sl w' lv n' st) : g_G p l e R s m args below meth c nL D A Q ce sl w lv pc (.int (iI x) :: .int (iI i) :: .ref a :: st) := by
  subst hn
  subst hi
  subst hw
  intro d0 H locs ls hd hP hD hS hl
  refine va_iast (s := s.setDrawn d0) C.1 C.2.1 C.2.2.2.2.2.1 hP hD hS q0 t0 he ht (iI_in h0 h1 (by omega)) hdg (fun H1 locs1 h1 h2 h3 => ?_)
  rw [iA_upd f i x ⟨by omega, by omega⟩] at h1 h2
  exact k d0 H1 locs1 ls hd h1 h2 h3 hl
theorem g_cald (C : g_Cx p s m args c cc nL own D tys A E) (q0 t0 : Nat) {a : Nat} {cA : ClassId} {n : Nat} {f : Nat → Int} (he : w[q0]? = some (a, .inl (cA, n, .inl (iA f)))) (ht : tys[t0]? = some (cA, .char)) {i : Int} (h0 : 0 ≤ i) (h1 : i < n) (hs : (n : Int) < 2147483648) {ins : Instr} (hi : ins = .caload) (hdg : decode cc pc = .ok (ins, 1)) {n' : Nat} (hn : pc + 1 = n') (k : g_G p l e R s m args below meth c nL D A Q ce sl w lv n' (.int (iI (f i.toNat)) :: st)) : g_G p l e R s m args below meth c nL D A Q ce sl w lv pc (.int (iI i) :: .ref a :: st) := by
  subst hn
  subst hi
  intro d0 H locs ls hd hP hD hS hl
  refine va_cald (s := s.setDrawn d0) C.1 C.2.1 C.2.2.2.2.2.1 hP q0 t0 he ht (iI_in h0 h1 (by omega)) hdg ?_
  rw [iA_get f ⟨by omega, by omega⟩]
  exact k d0 H locs ls hd hP hD hS hl
theorem g_cast (C : g_Cx p s m args c cc nL own D tys A E) (q0 t0 : Nat) {a : Nat} {cA : ClassId} {n : Nat} {f : Nat → Int} (he : w[q0]? = some (a, .inl (cA, n, .inl (iA f)))) (ht : tys[t0]? = some (cA, .char)) {i x : Int} (h0 : 0 ≤ i) (h1 : i < n) (hs : (n : Int) < 2147483648) (hv0 : 0 ≤ x) (hv1 : x < 65536) {ins : Instr} (hi : ins = .castore) (hdg : decode cc pc = .ok (ins, 1)) {n' : Nat} (hn : pc + 1 = n') (w' : va_W) (hw : w.set q0 (a, .inl (cA, n, .inl (iA (sU f i.toNat x)))) = w') (k : g_G p l e R s m args below meth c nL D A Q ce sl w' lv n' st) : g_G p l e R s m args below meth c nL D A Q ce sl w lv pc (.int (iI x) :: .int (iI i) :: .ref a :: st) := by
  subst hn
  subst hi
  subst hw
  intro d0 H locs ls hd hP hD hS hl
  refine va_cast (s := s.setDrawn d0) C.1 C.2.1 C.2.2.2.2.2.1 hP hD hS q0 t0 he ht (iI_in h0 h1 (by omega)) hdg (fun H1 locs1 h1 h2 h3 => ?_)
  rw [vp_nar_charI hv0 hv1] at h1 h2
  rw [iA_upd f i x ⟨by omega, by omega⟩] at h1 h2
  exact k d0 H1 locs1 ls hd h1 h2 h3 hl
theorem g_zald (C : g_Cx p s m args c cc nL own D tys A E) (q0 t0 : Nat) {a : Nat} {cA : ClassId} {n : Nat} {f : Nat → Int} (he : w[q0]? = some (a, .inl (cA, n, .inl (iA f)))) (ht : tys[t0]? = some (cA, .boolean)) {i : Int} (h0 : 0 ≤ i) (h1 : i < n) (hs : (n : Int) < 2147483648) {ins : Instr} (hi : ins = .baload) (hdg : decode cc pc = .ok (ins, 1)) {n' : Nat} (hn : pc + 1 = n') (k : g_G p l e R s m args below meth c nL D A Q ce sl w lv n' (.int (iI (f i.toNat)) :: st)) : g_G p l e R s m args below meth c nL D A Q ce sl w lv pc (.int (iI i) :: .ref a :: st) := by
  subst hn
  subst hi
  intro d0 H locs ls hd hP hD hS hl
  refine va_zald (s := s.setDrawn d0) C.1 C.2.1 C.2.2.2.2.2.1 hP q0 t0 he ht (iI_in h0 h1 (by omega)) hdg ?_
  rw [iA_get f ⟨by omega, by omega⟩]
  exact k d0 H locs ls hd hP hD hS hl
theorem g_zast (C : g_Cx p s m args c cc nL own D tys A E) (q0 t0 : Nat) {a : Nat} {cA : ClassId} {n : Nat} {f : Nat → Int} (he : w[q0]? = some (a, .inl (cA, n, .inl (iA f)))) (ht : tys[t0]? = some (cA, .boolean)) {i x : Int} (h0 : 0 ≤ i) (h1 : i < n) (hs : (n : Int) < 2147483648) (hv0 : x = 0 ∨ x = 1) {ins : Instr} (hi : ins = .bastore) (hdg : decode cc pc = .ok (ins, 1)) {n' : Nat} (hn : pc + 1 = n') (w' : va_W) (hw : w.set q0 (a, .inl (cA, n, .inl (iA (sU f i.toNat x)))) = w') (k : g_G p l e R s m args below meth c nL D A Q ce sl w' lv n' st) : g_G p l e R s m args below meth c nL D A Q ce sl w lv pc (.int (iI x) :: .int (iI i) :: .ref a :: st) := by
  subst hn
  subst hi
  subst hw
  intro d0 H locs ls hd hP hD hS hl
  refine va_zast (s := s.setDrawn d0) C.1 C.2.1 C.2.2.2.2.2.1 hP hD hS q0 t0 he ht (iI_in h0 h1 (by omega)) hdg (fun H1 locs1 h1 h2 h3 => ?_)
  rw [vp_nar_boolI hv0] at h1 h2
  rw [iA_upd f i x ⟨by omega, by omega⟩] at h1 h2
  exact k d0 H1 locs1 ls hd h1 h2 h3 hl
theorem g_dald (C : g_Cx p s m args c cc nL own D tys A E) (q0 t0 : Nat) {a : Nat} {cA : ClassId} {n : Nat} {f : Nat → UInt64} (he : w[q0]? = some (a, .inl (cA, n, (.inr (.inr (.inr (.inl f))))))) (ht : tys[t0]? = some (cA, .double)) {i : Int} (h0 : 0 ≤ i) (h1 : i < n) (hs : (n : Int) < 2147483648) (hdg : decode cc pc = .ok (.daload, 1)) {n' : Nat} (hn : pc + 1 = n') (k : g_G p l e R s m args below meth c nL D A Q ce sl w lv n' (.double (f i.toNat) :: st)) : g_G p l e R s m args below meth c nL D A Q ce sl w lv pc (.int (iI i) :: .ref a :: st) := by
  subst hn
  intro d0 H locs ls hd hP hD hS hl
  refine va_dald (s := s.setDrawn d0) C.1 C.2.1 C.2.2.2.2.2.1 hP q0 t0 he ht (iI_in h0 h1 (by omega)) hdg ?_
  rw [iI_clamp ⟨by omega, by omega⟩]
  exact k d0 H locs ls hd hP hD hS hl
theorem g_dast (C : g_Cx p s m args c cc nL own D tys A E) (q0 t0 : Nat) {a : Nat} {cA : ClassId} {n : Nat} {f : Nat → UInt64} (he : w[q0]? = some (a, .inl (cA, n, (.inr (.inr (.inr (.inl f))))))) (ht : tys[t0]? = some (cA, .double)) {i : Int} {x : UInt64} (h0 : 0 ≤ i) (h1 : i < n) (hs : (n : Int) < 2147483648) (hdg : decode cc pc = .ok (.dastore, 1)) {n' : Nat} (hn : pc + 1 = n') (w' : va_W) (hw : w.set q0 (a, .inl (cA, n, (.inr (.inr (.inr (.inl (sU f i.toNat x))))))) = w') (k : g_G p l e R s m args below meth c nL D A Q ce sl w' lv n' st) : g_G p l e R s m args below meth c nL D A Q ce sl w lv pc (.double x :: .int (iI i) :: .ref a :: st) := by
  subst hn
  subst hw
  intro d0 H locs ls hd hP hD hS hl
  refine va_dast (s := s.setDrawn d0) C.1 C.2.1 C.2.2.2.2.2.1 hP hD hS q0 t0 he ht (iI_in h0 h1 (by omega)) hdg (fun H1 locs1 h1 h2 h3 => ?_)
  rw [iI_clamp ⟨by omega, by omega⟩] at h1 h2
  exact k d0 H1 locs1 ls hd h1 h2 h3 hl
theorem g_fald (C : g_Cx p s m args c cc nL own D tys A E) (q0 t0 : Nat) {a : Nat} {cA : ClassId} {n : Nat} {f : Nat → UInt32} (he : w[q0]? = some (a, .inl (cA, n, (.inr (.inr (.inl f)))))) (ht : tys[t0]? = some (cA, .float)) {i : Int} (h0 : 0 ≤ i) (h1 : i < n) (hs : (n : Int) < 2147483648) (hdg : decode cc pc = .ok (.faload, 1)) {n' : Nat} (hn : pc + 1 = n') (k : g_G p l e R s m args below meth c nL D A Q ce sl w lv n' (.float (f i.toNat) :: st)) : g_G p l e R s m args below meth c nL D A Q ce sl w lv pc (.int (iI i) :: .ref a :: st) := by
  subst hn
  intro d0 H locs ls hd hP hD hS hl
  refine va_fald (s := s.setDrawn d0) C.1 C.2.1 C.2.2.2.2.2.1 hP q0 t0 he ht (iI_in h0 h1 (by omega)) hdg ?_
  rw [iI_clamp ⟨by omega, by omega⟩]
  exact k d0 H locs ls hd hP hD hS hl
theorem g_fast (C : g_Cx p s m args c cc nL own D tys A E) (q0 t0 : Nat) {a : Nat} {cA : ClassId} {n : Nat} {f : Nat → UInt32} (he : w[q0]? = some (a, .inl (cA, n, (.inr (.inr (.inl f)))))) (ht : tys[t0]? = some (cA, .float)) {i : Int} {x : UInt32} (h0 : 0 ≤ i) (h1 : i < n) (hs : (n : Int) < 2147483648) (hdg : decode cc pc = .ok (.fastore, 1)) {n' : Nat} (hn : pc + 1 = n') (w' : va_W) (hw : w.set q0 (a, .inl (cA, n, (.inr (.inr (.inl (sU f i.toNat x)))))) = w') (k : g_G p l e R s m args below meth c nL D A Q ce sl w' lv n' st) : g_G p l e R s m args below meth c nL D A Q ce sl w lv pc (.float x :: .int (iI i) :: .ref a :: st) := by
  subst hn
  subst hw
  intro d0 H locs ls hd hP hD hS hl
  refine va_fast (s := s.setDrawn d0) C.1 C.2.1 C.2.2.2.2.2.1 hP hD hS q0 t0 he ht (iI_in h0 h1 (by omega)) hdg (fun H1 locs1 h1 h2 h3 => ?_)
  rw [iI_clamp ⟨by omega, by omega⟩] at h1 h2
  exact k d0 H1 locs1 ls hd h1 h2 h3 hl
theorem g_aald (C : g_Cx p s m args c cc nL own D tys A E) (q0 t0 : Nat) {a : Nat} {cA : ClassId} {Cn : String} {n : Nat} {f : Nat → Option Nat} (he : w[q0]? = some (a, .inl (cA, n, .inr (.inr (.inr (.inr f)))))) (ht : tys[t0]? = some (cA, .object Cn)) {i : Int} (h0 : 0 ≤ i) (h1 : i < n) (hs : (n : Int) < 2147483648) {v : Nat} (hv : f i.toNat = some v) (hdg : decode cc pc = .ok (.aaload, 1)) {n' : Nat} (hn : pc + 1 = n') (k : g_G p l e R s m args below meth c nL D A Q ce sl w lv n' (.ref v :: st)) : g_G p l e R s m args below meth c nL D A Q ce sl w lv pc (.int (iI i) :: .ref a :: st) := by
  subst hn
  intro d0 H locs ls hd hP hD hS hl
  refine va_aldq (s := s.setDrawn d0) C.1 C.2.1 C.2.2.2.2.2.1 hP q0 t0 he ht (iI_in h0 h1 (by omega)) hdg ?_
  rw [iI_clamp ⟨by omega, by omega⟩, hv]
  exact k d0 H locs ls hd hP hD hS hl
theorem g_alen (C : g_Cx p s m args c cc nL own D tys A E) (q0 t0 : Nat) {a : Nat} {cA : ClassId} {x : vp_A} (he : w[q0]? = some (a, .inl (cA, x))) {ty : FieldType} (ht : tys[t0]? = some (cA, ty)) {v : Int} (hv : Int32.ofNat x.1 = iI v) (hdg : decode cc pc = .ok (.arraylength, 1)) {n' : Nat} (hn : pc + 1 = n') (k : g_G p l e R s m args below meth c nL D A Q ce sl w lv n' (.int (iI v) :: st)) : g_G p l e R s m args below meth c nL D A Q ce sl w lv pc (.ref a :: st) := by
  subst hn
  intro d0 H locs ls hd hP hD hS hl
  exact va_alen (s := s.setDrawn d0) C.1 C.2.1 C.2.2.2.2.2.1 hP q0 t0 he ht hv hdg (k d0 H locs ls hd hP hD hS hl)
end GK
end
section
/-! contracts over worlds, the ends of methods, calls -/
theorem ga_pair {w : va_W} : (∀ (i j : Nat) (p q : Nat × va_E), w[i]? = some p → w[j]? = some q → p.1 = q.1 → i = j) ↔ w.Pairwise (fun p q => p.1 ≠ q.1) := by
  rw [List.pairwise_iff_getElem]
  constructor
  · intro h i j hi hj hij e
    have := h i j _ _ (List.getElem?_eq_getElem hi) (List.getElem?_eq_getElem hj) e
    omega
  · intro h i j p q hp hq e
    obtain ⟨hi, rfl⟩ := List.getElem?_eq_some_iff.mp hp
    obtain ⟨hj, rfl⟩ := List.getElem?_eq_some_iff.mp hq
    rcases Nat.lt_trichotomy i j with z | z | z
    · exact absurd e (h i j hi hj z)
    · exact z
    · exact absurd e.symm (h j i hj hi z)
theorem ga_P {D : va_G} {cl : List vw_C} {w w' : va_W} {H : Heap} (h : w.Perm w') (hP : va_P D cl w H) : va_P D cl w' H := by
  intro k q hk
  obtain ⟨i, hi⟩ := List.getElem?_of_mem (h.mem_iff.mpr (List.mem_of_getElem? hk))
  exact hP i q hi
theorem ga_D {A : Nat → Prop} {w w' : va_W} (h : w.Perm w') (hD : va_D A w) : va_D A w' := by
  refine ⟨ga_pair.mpr ((h.pairwise_iff (fun {x y} z => Ne.symm z)).mp (ga_pair.mp hD.1)), fun k q hk => ?_⟩
  obtain ⟨i, hi⟩ := List.getElem?_of_mem (h.mem_iff.mpr (List.mem_of_getElem? hk))
  exact hD.2 i q hi
theorem ga_Pl {D : va_G} {cl : List vw_C} {w1 w2 : va_W} {H : Heap} (h : va_P D cl (w1 ++ w2) H) : va_P D cl w1 H := fun k q hk => h k q (by rw [List.getElem?_append_left (List.getElem?_eq_some_iff.mp hk).1]; exact hk)
theorem ga_Dl {A : Nat → Prop} {w1 w2 : va_W} (h : va_D A (w1 ++ w2)) : va_D A w1 := by
  have g : ∀ (k : Nat) (q : Nat × va_E), w1[k]? = some q → (w1 ++ w2)[k]? = some q := fun k q hk => by rw [List.getElem?_append_left (List.getElem?_eq_some_iff.mp hk).1]; exact hk
  exact ⟨fun i j p q hp hq => h.1 i j p q (g i p hp) (g j q hq), fun k q hk => h.2 k q (g k q hk)⟩
theorem ga_r {w1 w2 : va_W} {k : Nat} {q : Nat × va_E} (hk : w2[k]? = some q) : (w1 ++ w2)[w1.length + k]? = some q := by rw [List.getElem?_append_right (by omega), show w1.length + k - w1.length = k by omega]; exact hk
theorem ga_Dr {A : Nat → Prop} {w1 w2 : va_W} (h : va_D A (w1 ++ w2)) : va_D A w2 := ⟨fun i j p q hp hq e => by have := h.1 _ _ p q (ga_r hp) (ga_r hq) e; omega, fun k q hk => h.2 _ q (ga_r hk)⟩
/-- behind a call: the callee's new world beside the rest, which is unchanged -/
theorem ga_join {A : Nat → Prop} {D : va_G} {cl : List vw_C} {wc wr w1 : va_W} {H H1 : Heap} (hP : va_P D cl (wc ++ wr) H) (hD : va_D A (wc ++ wr)) (hk : ∀ q : Nat, q < H.size → ¬ va_A wc H.size q → H1[q]? = H[q]?) (hF : ∀ q, va_A wc H.size q → A q) (hP1 : va_P D cl w1 H1) (hD1 : va_D (va_A wc H.size) w1) : va_P D cl (w1 ++ wr) H1 ∧ va_D A (w1 ++ wr) := by
  have apart : ∀ (k : Nat) (q : Nat × va_E), wr[k]? = some q → q.1 < H.size ∧ ¬ va_A wc H.size q.1 := by
    intro k q hq
    have hl := (hP _ q (ga_r hq)).lt
    refine ⟨hl, fun h => ?_⟩
    rcases h with ⟨k2, e, h⟩ | h
    · have hk2 := (List.getElem?_eq_some_iff.mp h).1
      have := hD.1 _ _ q (q.1, e) (ga_r hq) (show (wc ++ wr)[k2]? = some (q.1, e) by rw [List.getElem?_append_left hk2]; exact h) rfl
      omega
    · omega
  refine ⟨va_P.app hP1 (fun k q hq => ?_), va_D.app (hD1.weaken (fun k q _ h => hF q.1 h)) (ga_Dr hD) (fun i j x y hx hy hxy => ?_)⟩
  · obtain ⟨g1, g2⟩ := apart k q hq
    exact (hP _ q (ga_r hq)).kept (hk q.1 g1 g2)
  · exact (apart j y hy).2 (by rw [← hxy]; exact hD1.2 i x hx)
theorem ga_free {A : Nat → Prop} {wc wr : va_W} {H0 H : Heap} {locs : List Loc} (hD : va_D A (wc ++ wr)) (hS : va_S A H0 H locs) (hA : ∀ q, H0.size ≤ q → A q) : ∀ q, va_A wc H.size q → A q := by
  intro q h
  rcases h with ⟨k, e, h⟩ | h
  · exact hD.2 k (q, e) (by rw [List.getElem?_append_left (List.getElem?_eq_some_iff.mp h).1]; exact h)
  · exact hA q (Nat.le_trans hS.1 h)
def g_Q (post : Option Value → va_W → Prop) (D : va_G) (A : Nat → Prop) : Array Value → State → Outcome → State → Prop := fun _ st oc t => (∃ (r : Option Value) (w' : va_W), oc = .returned r ∧ post r w' ∧ va_P D vwCl w' t.heap ∧ va_D A w') ∧ va_F A st t
def g_det (r0 : Option Value) (w0 : va_W) : Option Value → va_W → Prop := fun r w => r = r0 ∧ w = w0
def g_Pre (D : va_G) (tys : List (ClassId × FieldType)) (E : (Nat → Prop) → State → Heap → Prop) (w : va_W) (sz : Nat) (U : State) : Prop := U.heap.size = sz ∧ va_P D vwCl w U.heap ∧ va_K D vwCl tys U ∧ va_D (fun _ => True) w ∧ (∀ w ∈ g_nest, va_Nw w U) ∧ E (va_A w sz) U U.heap
/-- the contract of method y on the world w with the values av: it ends, 'post' of its answer and of the world then, at most mc cells of ms slots are new, nothing else changed -/
def g_Ct (l : Launch) (y : MethodName) (cc : ByteArray) (maxL : Nat) (ret : Option FieldType) (rm : Room) (D : va_G) (tys : List (ClassId × FieldType)) (E : (Nat → Prop) → State → Heap → Prop) (av : List Value) (w : va_W) (mc ms : Nat) (post : Option Value → va_W → Prop) : Prop := ∀ sz : Nat, MetD lw_cs l y (Cond.code y cc maxL ret :: g_all) rm (va_Pc av (g_Pre D tys E w sz)) (g_Q post D (va_A w sz)) mc ms (va_A w sz)
theorem g_ofG {l : Launch} {y : MethodName} {own : String} {rm : Room} {D : va_G} {tys : List (ClassId × FieldType)} {E : (Nat → Prop) → State → Heap → Prop} (hE : g_Stab E) {av : List Value} {w : va_W} {mc ms : Nat} {post : Option Value → va_W → Prop} {cc : ByteArray} {maxL : Nat} {ret : Option FieldType} (hy : plainName y.cls = true) (ho : y.cls = own) (hlen : (lg_sl av).length ≤ maxL) (lv0 : List (Nat × Value)) (hlv : lv_args 0 av = lv0)
    (body : ∀ (p : Program) (e : Env) (s : State) (m : MethodId) (below : List Frame) (meth : Method) (c : Code) (A : Nat → Prop), g_Cx p s m av.toArray c cc maxL own D tys A E → meth.sig.returnType = ret → meth.locks = false → meth.name = y.name → g_G p l e rm s m av.toArray below meth c maxL D A (MQD lw_cs below (g_Q post D A) av.toArray s mc ms A) 0 0 w lv0 0 []) : g_Ct l y cc maxL ret rm D tys E av w mc ms post := by
  intro sz
  refine MetD.ofW (cc := cc) (maxL := maxL) (ret := ret) hy rfl ?_
  subst ho
  intro p e s m args below meth c s₁ B hml hv hd0
  obtain ⟨rfl, hsz, hP, hK, hD0, hN, hE0⟩ := hv
  have hown : s.vm.findClass y.cls = some m.cls := findClass_of_methodNamed B.named
  subst hsz
  have hD := hD0.self (sz := s.heap.size)
  rw [lg_entry_eq]
  have hl := lv_entry av hlen
  rw [hlv] at hl
  exact body p e s m below meth c (va_A w s.heap.size) ⟨B.exec, B.bytes, hml, hown, fun w h => atoms_spec (ws := Cond.code y cc maxL ret :: g_all) B.pre w (List.mem_cons_of_mem _ h), hK, fun q h => Or.inr h, hN, hE, hE0⟩ B.returns B.notSynchronized (name_of_methodNamed B.named B.method).1 s.drawn s.heap [] _ hd0 hP hD va_S.rf hl
/-- a method that can be called: its code and what the tables say of it -/
def g_cee (Cn : String) (y : MethodName) (cc : ByteArray) (maxL : Nat) (ret : Option FieldType) : Prop := Cond.code y cc maxL ret ∈ g_all ∧ Cond.instanceMethod y ∈ g_all ∧ Cond.selects Cn y y ∈ g_all ∧ Cond.initialized Cn ∈ g_all
def g_sta (y : MethodName) (cc : ByteArray) (maxL : Nat) (ret : Option FieldType) : Prop := Cond.code y cc maxL ret ∈ g_all ∧ Cond.static y ∈ g_all ∧ Cond.initialized y.cls ∈ g_all
theorem g_ok {w : Cond} (h : w ∈ g_all) : (w.onTables && w.keeps) = true ∨ ∃ ty, w = .arrayClass ty := good_of_word (List.mem_filter.mp h).2
theorem g_gN {w : Cond} (h : w ∈ g_all) : GoodIn g_all (w :: g_all) := fun x hx => (List.mem_cons.mp hx).elim (fun q => by subst q; exact ⟨h, g_ok h⟩) (fun q => ⟨q, g_ok q⟩)
theorem g_gV {own : String} {index : Nat} {Cn : String} {y : MethodName} {cc : ByteArray} {maxL : Nat} {ret : Option FieldType} (hl : Cond.methodLink own index y ∈ g_all) (h : g_cee Cn y cc maxL ret) : GoodIn g_all (wsV own index Cn y (Cond.code y cc maxL ret :: g_all)) := by
  intro x hx
  unfold wsV at hx
  rcases List.mem_append.mp hx with q | q
  · simp only [List.mem_cons, List.not_mem_nil, or_false] at q
    rcases q with rfl | rfl | rfl | rfl
    · exact ⟨hl, g_ok hl⟩
    · exact ⟨h.2.1, g_ok h.2.1⟩
    · exact ⟨h.2.2.1, g_ok h.2.2.1⟩
    · exact ⟨h.2.2.2, g_ok h.2.2.2⟩
  · exact g_gN h.1 x q
theorem g_gS {own : String} {index : Nat} {y : MethodName} {cc : ByteArray} {maxL : Nat} {ret : Option FieldType} (hl : Cond.methodLink own index y ∈ g_all) (h : g_sta y cc maxL ret) : GoodIn g_all (va_wsS own index y (Cond.code y cc maxL ret :: g_all)) := by
  intro x hx
  unfold va_wsS at hx
  rcases List.mem_append.mp hx with q | q
  · simp only [List.mem_cons, List.not_mem_nil, or_false] at q
    rcases q with rfl | rfl | rfl
    · exact ⟨hl, g_ok hl⟩
    · exact ⟨h.2.1, g_ok h.2.1⟩
    · exact ⟨h.2.2, g_ok h.2.2⟩
  · exact g_gN h.1 x q
section GC
variable {p : Program} {l : Launch} {e : Env} {R : Room} {s : State} {m : MethodId} {args : Array Value} {below : List Frame} {meth : Method} {c : Code} {Q : State → Prop}
variable {cc : ByteArray} {nL : Nat} {own : String} {D : va_G} {tys : List (ClassId × FieldType)} {A : Nat → Prop} {ce sl pc : Nat} {w : va_W} {lv : List (Nat × Value)} {st : List Value} {E : (Nat → Prop) → State → Heap → Prop}
theorem g_iret (C : g_Cx p s m args c cc nL own D tys A E) {post : Option Value → va_W → Prop} {ty : FieldType} {v : Int32} (hr : meth.sig.returnType = some ty) (hlk : meth.locks = false) (hnr : narrow ty (.int v) = .int v) (hpost : post (some (.int v)) w) (hdg : decode cc pc = .ok (.ireturn, 1)) : g_G p l e R s m args below meth c nL D A (MQD lw_cs below (g_Q post D A) args s ce sl A) ce sl w lv pc [.int v] :=
  fun d0 H locs ls hd hP hD hS hl => W.endD hd (W.zret C.1 C.2.1 hr hnr (fun t ht hW => ⟨⟨_, w, rfl, hpost, by rw [ht]; exact hP, hD⟩, va_S.F hS ht⟩) hS.2.2 hdg hlk)
theorem g_vret (C : g_Cx p s m args c cc nL own D tys A E) {post : Option Value → va_W → Prop} (hr : meth.sig.returnType = none) (hlk : meth.locks = false) (hpost : post none w) (hdg : decode cc pc = .ok (.return_, 1)) : g_G p l e R s m args below meth c nL D A (MQD lw_cs below (g_Q post D A) args s ce sl A) ce sl w lv pc [] :=
  fun d0 H locs ls hd hP hD hS hl => W.endD hd (W.vret C.1 C.2.1 hr (fun t ht hW => ⟨⟨_, w, rfl, hpost, by rw [ht]; exact hP, hD⟩, va_S.F hS ht⟩) hS.2.2 hdg hlk)
theorem g_dret (C : g_Cx p s m args c cc nL own D tys A E) {post : Option Value → va_W → Prop} {v : UInt64} (hr : meth.sig.returnType = some .double) (hlk : meth.locks = false) (hpost : post (some (.double v)) w) (hdg : decode cc pc = .ok (.dreturn, 1)) : g_G p l e R s m args below meth c nL D A (MQD lw_cs below (g_Q post D A) args s ce sl A) ce sl w lv pc [.double v] :=
  fun d0 H locs ls hd hP hD hS hl => W.endD hd (W.dret C.1 C.2.1 hr (fun t ht hW => ⟨⟨_, w, rfl, hpost, by rw [ht]; exact hP, hD⟩, va_S.F hS ht⟩) hS.2.2 hdg hlk)
theorem fit_z {v : Int} (h : v = 0 ∨ v = 1) : fits .boolean (.int (iI v)) = true := by
  rcases h with rfl | rfl <;> decide
theorem nar_z {v : Int} (h : v = 0 ∨ v = 1) : narrow .boolean (.int (iI v)) = .int (iI v) := by
  rcases h with rfl | rfl <;> decide
theorem g_perm {w' : va_W} (h : w.Perm w') (k : g_G p l e R s m args below meth c nL D A Q ce sl w' lv pc st) : g_G p l e R s m args below meth c nL D A Q ce sl w lv pc st := fun d0 H locs ls hd hP hD hS hl => k d0 H locs ls hd (ga_P h hP) (ga_D h hD) hS hl
theorem g_lv {lv' : List (Nat × Value)} (ks : List Nat) (h : lv_pick lv ks = lv') (k : g_G p l e R s m args below meth c nL D A Q ce sl w lv' pc st) : g_G p l e R s m args below meth c nL D A Q ce sl w lv pc st := fun d0 H locs ls hd hP hD hS hl => k d0 H locs ls hd hP hD hS (lv_sub hl ks h)
theorem g_wd {w' : va_W} (h : w = w') (k : g_G p l e R s m args below meth c nL D A Q ce sl w' lv pc st) : g_G p l e R s m args below meth c nL D A Q ce sl w lv pc st := h ▸ k
theorem g_st {st' : List Value} (h : st = st') (k : g_G p l e R s m args below meth c nL D A Q ce sl w lv pc st') : g_G p l e R s m args below meth c nL D A Q ce sl w lv pc st := h ▸ k
theorem ga_blind (hE : g_Stab E) {av : List Value} {wc : va_W} {sz : Nat} : FrameBlind (va_Pc av (g_Pre D tys E wc sz)) := fun a U g mk q => by
  obtain ⟨q0, q1, qP, qK, qD, qN, qE⟩ := q
  exact ⟨q0, q1, qP, va_K.moved (u := U) (U := U.calling g mk a) (Vm.Alike.refl U.vm) qK, qD, fun w hw => va_Nw.same (g_nest_t hw) (u := U) (U := U.calling g mk a) rfl (qN w hw), hE.1 _ U (U.calling g mk a) _ (Vm.Alike.refl U.vm) qE⟩
/-- out of a run: the world behind it -/
theorem g_run {wc wr : va_W} {rest st0 : List Value} {mc ms : Nat} {a : Array Value} {post : Option Value → va_W → Prop} (C : g_Cx p s m args c cc nL own D tys A E) (hp : w.Perm (wc ++ wr))
    (hr : ∀ (d0 : Drawn) (H : Heap) (locs : List Loc) (ls : Array Slot), s.drawn.sameBut d0 lw_cs → va_P D vwCl wc H → va_D (fun _ => True) wc → (∀ U : State, (s.setDrawn d0).WarmedH U.vm → E (va_A wc H.size) U H) → lv_has ls nL lv → va_RunD lw_cs p l e R (s.setDrawn d0) m args below meth c H locs ce sl mc ms (F0 m pc ls st0) rest (g_Q post D (va_A wc H.size) a) (va_A wc H.size))
    (k : ∀ (r : Option Value) (w1 : va_W), post r w1 → g_G p l e R s m args below meth c nL D A Q (ce + mc) (sl + ms) (w1 ++ wr) lv (pc + 3) (r.toList ++ rest)) : g_G p l e R s m args below meth c nL D A Q ce sl w lv pc st0 := by
  intro d0 H locs ls hd hP hD hS hl
  have hP2 := ga_P hp hP
  have hD2 := ga_D hp hD
  have hF := ga_free hD2 hS C.2.2.2.2.2.2.1
  intro T hT X
  obtain ⟨v, st₀, t, T', L, d', hd', h0, X', hL, e1, e2, ⟨⟨r, w1, hv, hpost, hP1, hD1⟩, hz, hk⟩, st⟩ := hr d0 H locs ls hd (ga_Pl hP2) ((ga_Dl hD2).weaken (fun _ _ _ _ => trivial)) (fun U hW => C.2.2.2.2.2.2.2.2.1.1 _ s U _ (show s.vm.Alike U.vm from hW.alike) (C.2.2.2.2.2.2.2.2.1.2.2 _ _ _ _ hF (C.2.2.2.2.2.2.2.2.1.2.1 _ _ _ _ hS.2.1 C.2.2.2.2.2.2.2.2.2))) hl T hT X
  cases hv
  rw [h0] at hz hk
  rw [← e1] at hz hk hP1
  obtain ⟨j1, j2⟩ := ga_join hP2 hD2 hk hF hP1 hD1
  have hS2 : va_S A s.heap T'.heap (locs ++ L) := ⟨Nat.le_trans hS.1 hz, fun q h1 h2 => by rw [hk q (Nat.lt_of_lt_of_le h1 hS.1) (fun z => h2 (hF q z))]; exact hS.2.1 q h1 h2, fun q hq => by
    rcases List.mem_append.mp hq with h | h
    · exact hS.2.2 q h
    · exact hF _ (hL q h)⟩
  obtain ⟨t2, a1, b1⟩ := k _ w1 hpost d' T'.heap (locs ++ L) ls (hd.trans hd') j1 j2 hS2 hl T' rfl X'
  exact ⟨t2, st t2 a1, b1⟩
theorem g_callV (C : g_Cx p s m args c cc nL own D tys A E) {wc wr : va_W} {y : MethodName} {rm : Room} {bytes : ByteArray} {maxL mc ms index : Nat} {ret : Option FieldType} {post : Option Value → va_W → Prop} {Cn : String} {b : Nat} {As : List Value} (hM : g_Ct l y bytes maxL ret rm D tys E (.ref b :: As) wc mc ms post) (n : Nat) (hlk : Cond.methodLink own index y ∈ g_all) (hcd : g_cee Cn y bytes maxL ret) (hd : y.cls = Cn ∧ y.cls ≠ "java/lang/invoke/MethodHandle" ∧ y.cls ≠ "java/lang/invoke/VarHandle" ∧ (parseMethodDescriptor y.desc).map (fun d => d.parameters.length) = some n) (hp : w.Perm (wc ++ wr)) (q0 : Nat) {ci : Nat} {q : vw_C} {fs : List Value} (hc : vwCl[ci]? = some q) (hcn : q.1 = Cn) (he : wc[q0]? = some (b, .inr (ci, fs))) (hn : As.length = n) (hR : rm.frames + 1 ≤ R.frames ∧ 8 + (maxL + 11) + rm.locals ≤ R.locals) (hm : rm.cells = mc ∧ rm.slots = ms) (hf : ce + mc ≤ R.cells ∧ sl + ms ≤ R.slots) (hrm : (st.map fun v => v.category).sum ≤ 8) (hdg : decode cc pc = .ok (.invokevirtual index, 3)) {n' : Nat} (hn' : pc + 3 = n') (k : ∀ (r : Option Value) (w1 : va_W), post r w1 → g_G p l e R s m args below meth c nL D A Q (ce + mc) (sl + ms) (w1 ++ wr) lv n' (r.toList ++ st)) : g_G p l e R s m args below meth c nL D A Q ce sl w lv pc (As.reverse ++ .ref b :: st) := by
  subst hn'
  refine g_run (a := (Value.ref b :: As).toArray) C hp (fun d0 H locs ls hdr hPc hDc hEc hl => ?_) k
  exact va_runV_D (Ts := g_all) ⟨C.1, C.2.1, C.2.2.1, C.2.2.2.1, dr_words C.2.2.2.2.1 _⟩ (hM H.size) (cwV n (ws' := g_all) (dr_words C.2.2.2.2.1 _) (g_gV hlk hcd) rfl hm.1 hm.2 hd hR) ⟨ga_blind C.2.2.2.2.2.2.2.2.1, by rw [← hcn]; exact va_recv C.2.2.2.2.2.1 hPc hc he, fun U hU hW => ⟨rfl, by rw [hU], by rw [hU]; exact hPc, va_K.moved hW.alike C.2.2.2.2.2.1, hDc, g_nest_w hW (fun w hw => va_Nw.same (g_nest_t hw) (u := s) (U := s.setDrawn d0) rfl (C.2.2.2.2.2.2.2.1 w hw)), by rw [hU]; exact hEc U hW⟩⟩ rfl hn hl.1 rfl (lv_room hrm) hdg hf
theorem g_callS (C : g_Cx p s m args c cc nL own D tys A E) {wc wr : va_W} {y : MethodName} {rm : Room} {bytes : ByteArray} {maxL mc ms index : Nat} {ret : Option FieldType} {post : Option Value → va_W → Prop} {As : List Value} (hM : g_Ct l y bytes maxL ret rm D tys E As wc mc ms post) (n : Nat) (hlk : Cond.methodLink own index y ∈ g_all) (hcd : g_sta y bytes maxL ret) (hd : y.cls ≠ "java/lang/invoke/MethodHandle" ∧ y.cls ≠ "java/lang/invoke/VarHandle" ∧ (parseMethodDescriptor y.desc).map (fun d => d.parameters.length) = some n) (hp : w.Perm (wc ++ wr)) (hn : As.length = n) (hR : rm.frames + 1 ≤ R.frames ∧ 8 + (maxL + 11) + rm.locals ≤ R.locals) (hm : rm.cells = mc ∧ rm.slots = ms) (hf : ce + mc ≤ R.cells ∧ sl + ms ≤ R.slots) (hrm : (st.map fun v => v.category).sum ≤ 8) (hdg : decode cc pc = .ok (.invokestatic index, 3)) {n' : Nat} (hn' : pc + 3 = n') (k : ∀ (r : Option Value) (w1 : va_W), post r w1 → g_G p l e R s m args below meth c nL D A Q (ce + mc) (sl + ms) (w1 ++ wr) lv n' (r.toList ++ st)) : g_G p l e R s m args below meth c nL D A Q ce sl w lv pc (As.reverse ++ st) := by
  subst hn'
  refine g_run (a := As.toArray) C hp (fun d0 H locs ls hdr hPc hDc hEc hl => ?_) k
  exact va_runS_D (Ts := g_all) ⟨C.1, C.2.1, C.2.2.1, C.2.2.2.1, dr_words C.2.2.2.2.1 _⟩ (hM H.size) (va_cwS n (ws' := g_all) (dr_words C.2.2.2.2.1 _) (g_gS hlk hcd) rfl hm.1 hm.2 hd hR) ⟨ga_blind C.2.2.2.2.2.2.2.2.1, fun U hU hW => ⟨rfl, by rw [hU], by rw [hU]; exact hPc, va_K.moved hW.alike C.2.2.2.2.2.1, hDc, g_nest_w hW (fun w hw => va_Nw.same (g_nest_t hw) (u := s) (U := s.setDrawn d0) rfl (C.2.2.2.2.2.2.2.1 w hw)), by rw [hU]; exact hEc U hW⟩⟩ rfl hn hl.1 rfl (lv_room hrm) hdg hf
theorem g_callSN (C : g_Cx p s m args c cc nL own D tys A E) {wc wr : va_W} {y : MethodName} {rm : Room} {bytes : ByteArray} {maxL mc ms index : Nat} {ret : Option FieldType} {post : Option Value → va_W → Prop} {host : String} {As : List Value} (hM : g_Ct l y bytes maxL ret rm D tys E As wc mc ms post) (n : Nat) (hcd : g_sta y bytes maxL ret) (hl0 : Cond.methodLinkNest own index y host ∈ g_nest) (hd : y.cls ≠ "java/lang/invoke/MethodHandle" ∧ y.cls ≠ "java/lang/invoke/VarHandle" ∧ (parseMethodDescriptor y.desc).map (fun d => d.parameters.length) = some n) (hp : w.Perm (wc ++ wr)) (hn : As.length = n) (hR : rm.frames + 1 ≤ R.frames ∧ 8 + (maxL + 11) + rm.locals ≤ R.locals) (hm : rm.cells = mc ∧ rm.slots = ms) (hf : ce + mc ≤ R.cells ∧ sl + ms ≤ R.slots) (hrm : (st.map fun v => v.category).sum ≤ 8) (hdg : decode cc pc = .ok (.invokestatic index, 3)) {n' : Nat} (hn' : pc + 3 = n') (k : ∀ (r : Option Value) (w1 : va_W), post r w1 → g_G p l e R s m args below meth c nL D A Q (ce + mc) (sl + ms) (w1 ++ wr) lv n' (r.toList ++ st)) : g_G p l e R s m args below meth c nL D A Q ce sl w lv pc (As.reverse ++ st) := by
  subst hn'
  refine g_run (a := As.toArray) C hp (fun d0 H locs ls hdr hPc hDc hEc hl => ?_) k
  exact va_runSN_D (Ts := g_all) ⟨C.1, C.2.1, C.2.2.1, C.2.2.2.1, dr_words C.2.2.2.2.1 _⟩ (hM H.size) ⟨va_cnB n (ws' := g_all) (dr_words C.2.2.2.2.1 _) (g_gN hcd.1) rfl hm.1 hm.2 (va_Nw.of (A := #[]) rfl (g_nestD C.2.2.2.2.2.2.2.1 d0 hl0)) (dr_words C.2.2.2.2.1 _ _ hcd.2.2) hd hR, dr_words C.2.2.2.2.1 _ _ hcd.2.1, trivial⟩ ⟨ga_blind C.2.2.2.2.2.2.2.2.1, fun U hU hW => ⟨rfl, by rw [hU], by rw [hU]; exact hPc, va_K.moved hW.alike C.2.2.2.2.2.1, hDc, g_nest_w hW (fun w hw => va_Nw.same (g_nest_t hw) (u := s) (U := s.setDrawn d0) rfl (C.2.2.2.2.2.2.2.1 w hw)), by rw [hU]; exact hEc U hW⟩⟩ rfl hn hl.1 rfl (lv_room hrm) hdg hf
theorem g_cVv (C : g_Cx p s m args c cc nL own D tys A E) {wc wr : va_W} {y : MethodName} {rm : Room} {bytes : ByteArray} {maxL mc ms index : Nat} {ret : Option FieldType} {v : Value} {wc' : va_W} {Cn : String} {b : Nat} {As : List Value} (hM : g_Ct l y bytes maxL ret rm D tys E (.ref b :: As) wc mc ms (g_det (some v) wc')) (n : Nat) (hlk : Cond.methodLink own index y ∈ g_all) (hcd : g_cee Cn y bytes maxL ret) (hd : y.cls = Cn ∧ y.cls ≠ "java/lang/invoke/MethodHandle" ∧ y.cls ≠ "java/lang/invoke/VarHandle" ∧ (parseMethodDescriptor y.desc).map (fun d => d.parameters.length) = some n) (hp : w.Perm (wc ++ wr)) (q0 : Nat) {ci : Nat} {q : vw_C} {fs : List Value} (hc : vwCl[ci]? = some q) (hcn : q.1 = Cn) (he : wc[q0]? = some (b, .inr (ci, fs))) (hn : As.length = n) (hR : rm.frames + 1 ≤ R.frames ∧ 8 + (maxL + 11) + rm.locals ≤ R.locals) (hm : rm.cells = mc ∧ rm.slots = ms) (hf : ce + mc ≤ R.cells ∧ sl + ms ≤ R.slots) (hrm : (st.map fun v => v.category).sum ≤ 8) (hdg : decode cc pc = .ok (.invokevirtual index, 3)) {n' : Nat} (hn' : pc + 3 = n') {st0 : List Value} (hst : st0 = As.reverse ++ .ref b :: st) (w2 : va_W) (hp2 : (wc' ++ wr).Perm w2) (k : g_G p l e R s m args below meth c nL D A Q (ce + mc) (sl + ms) w2 lv n' (v :: st)) : g_G p l e R s m args below meth c nL D A Q ce sl w lv pc st0 := by
  subst hst
  exact g_callV C hM n hlk hcd hd hp q0 hc hcn he hn hR hm hf hrm hdg hn' (fun r w1 h => by
    obtain ⟨rfl, rfl⟩ := h
    exact g_perm hp2 k)
theorem g_cVn (C : g_Cx p s m args c cc nL own D tys A E) {wc wr : va_W} {y : MethodName} {rm : Room} {bytes : ByteArray} {maxL mc ms index : Nat} {ret : Option FieldType} {wc' : va_W} {Cn : String} {b : Nat} {As : List Value} (hM : g_Ct l y bytes maxL ret rm D tys E (.ref b :: As) wc mc ms (g_det none wc')) (n : Nat) (hlk : Cond.methodLink own index y ∈ g_all) (hcd : g_cee Cn y bytes maxL ret) (hd : y.cls = Cn ∧ y.cls ≠ "java/lang/invoke/MethodHandle" ∧ y.cls ≠ "java/lang/invoke/VarHandle" ∧ (parseMethodDescriptor y.desc).map (fun d => d.parameters.length) = some n) (hp : w.Perm (wc ++ wr)) (q0 : Nat) {ci : Nat} {q : vw_C} {fs : List Value} (hc : vwCl[ci]? = some q) (hcn : q.1 = Cn) (he : wc[q0]? = some (b, .inr (ci, fs))) (hn : As.length = n) (hR : rm.frames + 1 ≤ R.frames ∧ 8 + (maxL + 11) + rm.locals ≤ R.locals) (hm : rm.cells = mc ∧ rm.slots = ms) (hf : ce + mc ≤ R.cells ∧ sl + ms ≤ R.slots) (hrm : (st.map fun v => v.category).sum ≤ 8) (hdg : decode cc pc = .ok (.invokevirtual index, 3)) {n' : Nat} (hn' : pc + 3 = n') {st0 : List Value} (hst : st0 = As.reverse ++ .ref b :: st) (w2 : va_W) (hp2 : (wc' ++ wr).Perm w2) (k : g_G p l e R s m args below meth c nL D A Q (ce + mc) (sl + ms) w2 lv n' st) : g_G p l e R s m args below meth c nL D A Q ce sl w lv pc st0 := by
  subst hst
  exact g_callV C hM n hlk hcd hd hp q0 hc hcn he hn hR hm hf hrm hdg hn' (fun r w1 h => by
    obtain ⟨rfl, rfl⟩ := h
    exact g_perm hp2 k)
theorem g_cSv (C : g_Cx p s m args c cc nL own D tys A E) {wc wr : va_W} {y : MethodName} {rm : Room} {bytes : ByteArray} {maxL mc ms index : Nat} {ret : Option FieldType} {v : Value} {wc' : va_W} {As : List Value} (hM : g_Ct l y bytes maxL ret rm D tys E As wc mc ms (g_det (some v) wc')) (n : Nat) (hlk : Cond.methodLink own index y ∈ g_all) (hcd : g_sta y bytes maxL ret) (hd : y.cls ≠ "java/lang/invoke/MethodHandle" ∧ y.cls ≠ "java/lang/invoke/VarHandle" ∧ (parseMethodDescriptor y.desc).map (fun d => d.parameters.length) = some n) (hp : w.Perm (wc ++ wr)) (hn : As.length = n) (hR : rm.frames + 1 ≤ R.frames ∧ 8 + (maxL + 11) + rm.locals ≤ R.locals) (hm : rm.cells = mc ∧ rm.slots = ms) (hf : ce + mc ≤ R.cells ∧ sl + ms ≤ R.slots) (hrm : (st.map fun v => v.category).sum ≤ 8) (hdg : decode cc pc = .ok (.invokestatic index, 3)) {n' : Nat} (hn' : pc + 3 = n') {st0 : List Value} (hst : st0 = As.reverse ++ st) (w2 : va_W) (hp2 : (wc' ++ wr).Perm w2) (k : g_G p l e R s m args below meth c nL D A Q (ce + mc) (sl + ms) w2 lv n' (v :: st)) : g_G p l e R s m args below meth c nL D A Q ce sl w lv pc st0 := by
  subst hst
  exact g_callS C hM n hlk hcd hd hp hn hR hm hf hrm hdg hn' (fun r w1 h => by
    obtain ⟨rfl, rfl⟩ := h
    exact g_perm hp2 k)
theorem g_cSn (C : g_Cx p s m args c cc nL own D tys A E) {wc wr : va_W} {y : MethodName} {rm : Room} {bytes : ByteArray} {maxL mc ms index : Nat} {ret : Option FieldType} {wc' : va_W} {As : List Value} (hM : g_Ct l y bytes maxL ret rm D tys E As wc mc ms (g_det none wc')) (n : Nat) (hlk : Cond.methodLink own index y ∈ g_all) (hcd : g_sta y bytes maxL ret) (hd : y.cls ≠ "java/lang/invoke/MethodHandle" ∧ y.cls ≠ "java/lang/invoke/VarHandle" ∧ (parseMethodDescriptor y.desc).map (fun d => d.parameters.length) = some n) (hp : w.Perm (wc ++ wr)) (hn : As.length = n) (hR : rm.frames + 1 ≤ R.frames ∧ 8 + (maxL + 11) + rm.locals ≤ R.locals) (hm : rm.cells = mc ∧ rm.slots = ms) (hf : ce + mc ≤ R.cells ∧ sl + ms ≤ R.slots) (hrm : (st.map fun v => v.category).sum ≤ 8) (hdg : decode cc pc = .ok (.invokestatic index, 3)) {n' : Nat} (hn' : pc + 3 = n') {st0 : List Value} (hst : st0 = As.reverse ++ st) (w2 : va_W) (hp2 : (wc' ++ wr).Perm w2) (k : g_G p l e R s m args below meth c nL D A Q (ce + mc) (sl + ms) w2 lv n' st) : g_G p l e R s m args below meth c nL D A Q ce sl w lv pc st0 := by
  subst hst
  exact g_callS C hM n hlk hcd hd hp hn hR hm hf hrm hdg hn' (fun r w1 h => by
    obtain ⟨rfl, rfl⟩ := h
    exact g_perm hp2 k)
theorem g_cNv (C : g_Cx p s m args c cc nL own D tys A E) {wc wr : va_W} {y : MethodName} {rm : Room} {bytes : ByteArray} {maxL mc ms index : Nat} {ret : Option FieldType} {v : Value} {wc' : va_W} {host : String} {As : List Value} (hM : g_Ct l y bytes maxL ret rm D tys E As wc mc ms (g_det (some v) wc')) (n : Nat) (hlk : Cond.methodLinkNest own index y host ∈ g_nest) (hcd : g_sta y bytes maxL ret) (hd : y.cls ≠ "java/lang/invoke/MethodHandle" ∧ y.cls ≠ "java/lang/invoke/VarHandle" ∧ (parseMethodDescriptor y.desc).map (fun d => d.parameters.length) = some n) (hp : w.Perm (wc ++ wr)) (hn : As.length = n) (hR : rm.frames + 1 ≤ R.frames ∧ 8 + (maxL + 11) + rm.locals ≤ R.locals) (hm : rm.cells = mc ∧ rm.slots = ms) (hf : ce + mc ≤ R.cells ∧ sl + ms ≤ R.slots) (hrm : (st.map fun v => v.category).sum ≤ 8) (hdg : decode cc pc = .ok (.invokestatic index, 3)) {n' : Nat} (hn' : pc + 3 = n') {st0 : List Value} (hst : st0 = As.reverse ++ st) (w2 : va_W) (hp2 : (wc' ++ wr).Perm w2) (k : g_G p l e R s m args below meth c nL D A Q (ce + mc) (sl + ms) w2 lv n' (v :: st)) : g_G p l e R s m args below meth c nL D A Q ce sl w lv pc st0 := by
  subst hst
  exact g_callSN C hM n hcd hlk hd hp hn hR hm hf hrm hdg hn' (fun r w1 h => by
    obtain ⟨rfl, rfl⟩ := h
    exact g_perm hp2 k)
theorem g_cNn (C : g_Cx p s m args c cc nL own D tys A E) {wc wr : va_W} {y : MethodName} {rm : Room} {bytes : ByteArray} {maxL mc ms index : Nat} {ret : Option FieldType} {wc' : va_W} {host : String} {As : List Value} (hM : g_Ct l y bytes maxL ret rm D tys E As wc mc ms (g_det none wc')) (n : Nat) (hlk : Cond.methodLinkNest own index y host ∈ g_nest) (hcd : g_sta y bytes maxL ret) (hd : y.cls ≠ "java/lang/invoke/MethodHandle" ∧ y.cls ≠ "java/lang/invoke/VarHandle" ∧ (parseMethodDescriptor y.desc).map (fun d => d.parameters.length) = some n) (hp : w.Perm (wc ++ wr)) (hn : As.length = n) (hR : rm.frames + 1 ≤ R.frames ∧ 8 + (maxL + 11) + rm.locals ≤ R.locals) (hm : rm.cells = mc ∧ rm.slots = ms) (hf : ce + mc ≤ R.cells ∧ sl + ms ≤ R.slots) (hrm : (st.map fun v => v.category).sum ≤ 8) (hdg : decode cc pc = .ok (.invokestatic index, 3)) {n' : Nat} (hn' : pc + 3 = n') {st0 : List Value} (hst : st0 = As.reverse ++ st) (w2 : va_W) (hp2 : (wc' ++ wr).Perm w2) (k : g_G p l e R s m args below meth c nL D A Q (ce + mc) (sl + ms) w2 lv n' st) : g_G p l e R s m args below meth c nL D A Q ce sl w lv pc st0 := by
  subst hst
  exact g_callSN C hM n hcd hlk hd hp hn hR hm hf hrm hdg hn' (fun r w1 h => by
    obtain ⟨rfl, rfl⟩ := h
    exact g_perm hp2 k)
end GC
theorem pm0 (w : va_W) : w.Perm (w ++ []) := by rw [List.append_nil]
theorem pm0' (w : va_W) : (w ++ []).Perm w := by rw [List.append_nil]
theorem pm_n (w : va_W) : w.Perm ([] ++ w) := List.Perm.refl _
end
section
/-! decode rows: X1 X2 X3 X4 X5 J -/
theorem dX1_init_0 : decode cX1_init 0 = .ok (.aload_n 0, 1) := by decide +kernel
theorem dX1_init_1 : decode cX1_init 1 = .ok (.invokespecial 3, 3) := by decide +kernel
theorem dX1_init_4 : decode cX1_init 4 = .ok (.aload_n 0, 1) := by decide +kernel
theorem dX1_init_5 : decode cX1_init 5 = .ok (.bipush 8, 2) := by decide +kernel
theorem dX1_init_7 : decode cX1_init 7 = .ok (.newarray .int, 2) := by decide +kernel
theorem dX1_init_9 : decode cX1_init 9 = .ok (.putfield 9, 3) := by decide +kernel
theorem dX1_init_12 : decode cX1_init 12 = .ok (.aload_n 0, 1) := by decide +kernel
theorem dX1_init_13 : decode cX1_init 13 = .ok (.bipush 8, 2) := by decide +kernel
theorem dX1_init_15 : decode cX1_init 15 = .ok (.newarray .int, 2) := by decide +kernel
theorem dX1_init_17 : decode cX1_init 17 = .ok (.putfield 15, 3) := by decide +kernel
theorem dX1_init_20 : decode cX1_init 20 = .ok (.return_, 1) := by decide +kernel
theorem dX1_size_0 : decode cX1_size 0 = .ok (.aload_n 0, 1) := by decide +kernel
theorem dX1_size_1 : decode cX1_size 1 = .ok (.getfield 18, 3) := by decide +kernel
theorem dX1_size_4 : decode cX1_size 4 = .ok (.ireturn, 1) := by decide +kernel
theorem dX1_clear_0 : decode cX1_clear 0 = .ok (.aload_n 0, 1) := by decide +kernel
theorem dX1_clear_1 : decode cX1_clear 1 = .ok (.iconst 0, 1) := by decide +kernel
theorem dX1_clear_2 : decode cX1_clear 2 = .ok (.putfield 18, 3) := by decide +kernel
theorem dX1_clear_5 : decode cX1_clear 5 = .ok (.return_, 1) := by decide +kernel
theorem dX1_push_0 : decode cX1_push 0 = .ok (.aload_n 0, 1) := by decide +kernel
theorem dX1_push_1 : decode cX1_push 1 = .ok (.getfield 9, 3) := by decide +kernel
theorem dX1_push_4 : decode cX1_push 4 = .ok (.aload_n 0, 1) := by decide +kernel
theorem dX1_push_5 : decode cX1_push 5 = .ok (.getfield 22, 3) := by decide +kernel
theorem dX1_push_8 : decode cX1_push 8 = .ok (.iload_n 1, 1) := by decide +kernel
theorem dX1_push_9 : decode cX1_push 9 = .ok (.iastore, 1) := by decide +kernel
theorem dX1_push_10 : decode cX1_push 10 = .ok (.aload_n 0, 1) := by decide +kernel
theorem dX1_push_11 : decode cX1_push 11 = .ok (.getfield 15, 3) := by decide +kernel
theorem dX1_push_14 : decode cX1_push 14 = .ok (.aload_n 0, 1) := by decide +kernel
theorem dX1_push_15 : decode cX1_push 15 = .ok (.getfield 22, 3) := by decide +kernel
theorem dX1_push_18 : decode cX1_push 18 = .ok (.iload_n 2, 1) := by decide +kernel
theorem dX1_push_19 : decode cX1_push 19 = .ok (.iastore, 1) := by decide +kernel
theorem dX1_push_20 : decode cX1_push 20 = .ok (.aload_n 0, 1) := by decide +kernel
theorem dX1_push_21 : decode cX1_push 21 = .ok (.aload_n 0, 1) := by decide +kernel
theorem dX1_push_22 : decode cX1_push 22 = .ok (.getfield 22, 3) := by decide +kernel
theorem dX1_push_25 : decode cX1_push 25 = .ok (.iconst 1, 1) := by decide +kernel
theorem dX1_push_26 : decode cX1_push 26 = .ok (.iadd, 1) := by decide +kernel
theorem dX1_push_27 : decode cX1_push 27 = .ok (.bipush 8, 2) := by decide +kernel
theorem dX1_push_29 : decode cX1_push 29 = .ok (.irem, 1) := by decide +kernel
theorem dX1_push_30 : decode cX1_push 30 = .ok (.putfield 22, 3) := by decide +kernel
theorem dX1_push_33 : decode cX1_push 33 = .ok (.aload_n 0, 1) := by decide +kernel
theorem dX1_push_34 : decode cX1_push 34 = .ok (.aload_n 0, 1) := by decide +kernel
theorem dX1_push_35 : decode cX1_push 35 = .ok (.getfield 18, 3) := by decide +kernel
theorem dX1_push_38 : decode cX1_push 38 = .ok (.iconst 1, 1) := by decide +kernel
theorem dX1_push_39 : decode cX1_push 39 = .ok (.iadd, 1) := by decide +kernel
theorem dX1_push_40 : decode cX1_push 40 = .ok (.bipush 8, 2) := by decide +kernel
theorem dX1_push_42 : decode cX1_push 42 = .ok (.invokestatic 25, 3) := by decide +kernel
theorem dX1_push_45 : decode cX1_push 45 = .ok (.putfield 18, 3) := by decide +kernel
theorem dX1_push_48 : decode cX1_push 48 = .ok (.return_, 1) := by decide +kernel
theorem dX1_revertLatest_0 : decode cX1_revertLatest 0 = .ok (.aload_n 0, 1) := by decide +kernel
theorem dX1_revertLatest_1 : decode cX1_revertLatest 1 = .ok (.getfield 18, 3) := by decide +kernel
theorem dX1_revertLatest_4 : decode cX1_revertLatest 4 = .ok (.ifCond .ne 4, 3) := by decide +kernel
theorem dX1_revertLatest_7 : decode cX1_revertLatest 7 = .ok (.return_, 1) := by decide +kernel
theorem dX1_revertLatest_8 : decode cX1_revertLatest 8 = .ok (.aload_n 0, 1) := by decide +kernel
theorem dX1_revertLatest_9 : decode cX1_revertLatest 9 = .ok (.dup, 1) := by decide +kernel
theorem dX1_revertLatest_10 : decode cX1_revertLatest 10 = .ok (.getfield 18, 3) := by decide +kernel
theorem dX1_revertLatest_13 : decode cX1_revertLatest 13 = .ok (.iconst 1, 1) := by decide +kernel
theorem dX1_revertLatest_14 : decode cX1_revertLatest 14 = .ok (.isub, 1) := by decide +kernel
theorem dX1_revertLatest_15 : decode cX1_revertLatest 15 = .ok (.putfield 18, 3) := by decide +kernel
theorem dX1_revertLatest_18 : decode cX1_revertLatest 18 = .ok (.aload_n 0, 1) := by decide +kernel
theorem dX1_revertLatest_19 : decode cX1_revertLatest 19 = .ok (.aload_n 0, 1) := by decide +kernel
theorem dX1_revertLatest_20 : decode cX1_revertLatest 20 = .ok (.getfield 22, 3) := by decide +kernel
theorem dX1_revertLatest_23 : decode cX1_revertLatest 23 = .ok (.bipush 8, 2) := by decide +kernel
theorem dX1_revertLatest_25 : decode cX1_revertLatest 25 = .ok (.iadd, 1) := by decide +kernel
theorem dX1_revertLatest_26 : decode cX1_revertLatest 26 = .ok (.iconst 1, 1) := by decide +kernel
theorem dX1_revertLatest_27 : decode cX1_revertLatest 27 = .ok (.isub, 1) := by decide +kernel
theorem dX1_revertLatest_28 : decode cX1_revertLatest 28 = .ok (.bipush 8, 2) := by decide +kernel
theorem dX1_revertLatest_30 : decode cX1_revertLatest 30 = .ok (.irem, 1) := by decide +kernel
theorem dX1_revertLatest_31 : decode cX1_revertLatest 31 = .ok (.putfield 22, 3) := by decide +kernel
theorem dX1_revertLatest_34 : decode cX1_revertLatest 34 = .ok (.aload_n 0, 1) := by decide +kernel
theorem dX1_revertLatest_35 : decode cX1_revertLatest 35 = .ok (.getfield 9, 3) := by decide +kernel
theorem dX1_revertLatest_38 : decode cX1_revertLatest 38 = .ok (.aload_n 0, 1) := by decide +kernel
theorem dX1_revertLatest_39 : decode cX1_revertLatest 39 = .ok (.getfield 22, 3) := by decide +kernel
theorem dX1_revertLatest_42 : decode cX1_revertLatest 42 = .ok (.iaload, 1) := by decide +kernel
theorem dX1_revertLatest_43 : decode cX1_revertLatest 43 = .ok (.iconst (-1), 1) := by decide +kernel
theorem dX1_revertLatest_44 : decode cX1_revertLatest 44 = .ok (.if_icmp .ne 19, 3) := by decide +kernel
theorem dX1_revertLatest_47 : decode cX1_revertLatest 47 = .ok (.aload_n 1, 1) := by decide +kernel
theorem dX1_revertLatest_48 : decode cX1_revertLatest 48 = .ok (.aload_n 0, 1) := by decide +kernel
theorem dX1_revertLatest_49 : decode cX1_revertLatest 49 = .ok (.getfield 15, 3) := by decide +kernel
theorem dX1_revertLatest_52 : decode cX1_revertLatest 52 = .ok (.aload_n 0, 1) := by decide +kernel
theorem dX1_revertLatest_53 : decode cX1_revertLatest 53 = .ok (.getfield 22, 3) := by decide +kernel
theorem dX1_revertLatest_56 : decode cX1_revertLatest 56 = .ok (.iaload, 1) := by decide +kernel
theorem dX1_revertLatest_57 : decode cX1_revertLatest 57 = .ok (.putfield 31, 3) := by decide +kernel
theorem dX1_revertLatest_60 : decode cX1_revertLatest 60 = .ok (.goto 26, 3) := by decide +kernel
theorem dX1_revertLatest_63 : decode cX1_revertLatest 63 = .ok (.aload_n 1, 1) := by decide +kernel
theorem dX1_revertLatest_64 : decode cX1_revertLatest 64 = .ok (.aload_n 0, 1) := by decide +kernel
theorem dX1_revertLatest_65 : decode cX1_revertLatest 65 = .ok (.getfield 9, 3) := by decide +kernel
theorem dX1_revertLatest_68 : decode cX1_revertLatest 68 = .ok (.aload_n 0, 1) := by decide +kernel
theorem dX1_revertLatest_69 : decode cX1_revertLatest 69 = .ok (.getfield 22, 3) := by decide +kernel
theorem dX1_revertLatest_72 : decode cX1_revertLatest 72 = .ok (.iaload, 1) := by decide +kernel
theorem dX1_revertLatest_73 : decode cX1_revertLatest 73 = .ok (.aload_n 0, 1) := by decide +kernel
theorem dX1_revertLatest_74 : decode cX1_revertLatest 74 = .ok (.getfield 15, 3) := by decide +kernel
theorem dX1_revertLatest_77 : decode cX1_revertLatest 77 = .ok (.aload_n 0, 1) := by decide +kernel
theorem dX1_revertLatest_78 : decode cX1_revertLatest 78 = .ok (.getfield 22, 3) := by decide +kernel
theorem dX1_revertLatest_81 : decode cX1_revertLatest 81 = .ok (.iaload, 1) := by decide +kernel
theorem dX1_revertLatest_82 : decode cX1_revertLatest 82 = .ok (.ineg, 1) := by decide +kernel
theorem dX1_revertLatest_83 : decode cX1_revertLatest 83 = .ok (.invokevirtual 36, 3) := by decide +kernel
theorem dX1_revertLatest_86 : decode cX1_revertLatest 86 = .ok (.return_, 1) := by decide +kernel
theorem dX2_init_0 : decode cX2_init 0 = .ok (.aload_n 0, 1) := by decide +kernel
theorem dX2_init_1 : decode cX2_init 1 = .ok (.invokespecial 3, 3) := by decide +kernel
theorem dX2_init_4 : decode cX2_init 4 = .ok (.aload_n 0, 1) := by decide +kernel
theorem dX2_init_5 : decode cX2_init 5 = .ok (.bipush 16, 2) := by decide +kernel
theorem dX2_init_7 : decode cX2_init 7 = .ok (.newarray .int, 2) := by decide +kernel
theorem dX2_init_9 : decode cX2_init 9 = .ok (.putfield 9, 3) := by decide +kernel
theorem dX2_init_12 : decode cX2_init 12 = .ok (.aload_n 0, 1) := by decide +kernel
theorem dX2_init_13 : decode cX2_init 13 = .ok (.bipush 16, 2) := by decide +kernel
theorem dX2_init_15 : decode cX2_init 15 = .ok (.newarray .int, 2) := by decide +kernel
theorem dX2_init_17 : decode cX2_init 17 = .ok (.putfield 15, 3) := by decide +kernel
theorem dX2_init_20 : decode cX2_init 20 = .ok (.aload_n 0, 1) := by decide +kernel
theorem dX2_init_21 : decode cX2_init 21 = .ok (.bipush 16, 2) := by decide +kernel
theorem dX2_init_23 : decode cX2_init 23 = .ok (.newarray .int, 2) := by decide +kernel
theorem dX2_init_25 : decode cX2_init 25 = .ok (.putfield 18, 3) := by decide +kernel
theorem dX2_init_28 : decode cX2_init 28 = .ok (.aload_n 0, 1) := by decide +kernel
theorem dX2_init_29 : decode cX2_init 29 = .ok (.bipush 16, 2) := by decide +kernel
theorem dX2_init_31 : decode cX2_init 31 = .ok (.newarray .int, 2) := by decide +kernel
theorem dX2_init_33 : decode cX2_init 33 = .ok (.putfield 21, 3) := by decide +kernel
theorem dX2_init_36 : decode cX2_init 36 = .ok (.aload_n 0, 1) := by decide +kernel
theorem dX2_init_37 : decode cX2_init 37 = .ok (.iconst 2, 1) := by decide +kernel
theorem dX2_init_38 : decode cX2_init 38 = .ok (.invokevirtual 24, 3) := by decide +kernel
theorem dX2_init_41 : decode cX2_init 41 = .ok (.return_, 1) := by decide +kernel
theorem dX2_begin_0 : decode cX2_begin 0 = .ok (.aload_n 0, 1) := by decide +kernel
theorem dX2_begin_1 : decode cX2_begin 1 = .ok (.iload_n 1, 1) := by decide +kernel
theorem dX2_begin_2 : decode cX2_begin 2 = .ok (.putfield 28, 3) := by decide +kernel
theorem dX2_begin_5 : decode cX2_begin 5 = .ok (.aload_n 0, 1) := by decide +kernel
theorem dX2_begin_6 : decode cX2_begin 6 = .ok (.iconst 0, 1) := by decide +kernel
theorem dX2_begin_7 : decode cX2_begin 7 = .ok (.putfield 32, 3) := by decide +kernel
theorem dX2_begin_10 : decode cX2_begin 10 = .ok (.aload_n 0, 1) := by decide +kernel
theorem dX2_begin_11 : decode cX2_begin 11 = .ok (.iconst 0, 1) := by decide +kernel
theorem dX2_begin_12 : decode cX2_begin 12 = .ok (.putfield 35, 3) := by decide +kernel
theorem dX2_begin_15 : decode cX2_begin 15 = .ok (.aload_n 0, 1) := by decide +kernel
theorem dX2_begin_16 : decode cX2_begin 16 = .ok (.iconst 1, 1) := by decide +kernel
theorem dX2_begin_17 : decode cX2_begin 17 = .ok (.putfield 38, 3) := by decide +kernel
theorem dX2_begin_20 : decode cX2_begin 20 = .ok (.aload_n 0, 1) := by decide +kernel
theorem dX2_begin_21 : decode cX2_begin 21 = .ok (.bipush 99, 2) := by decide +kernel
theorem dX2_begin_23 : decode cX2_begin 23 = .ok (.putfield 41, 3) := by decide +kernel
theorem dX2_begin_26 : decode cX2_begin 26 = .ok (.aload_n 0, 1) := by decide +kernel
theorem dX2_begin_27 : decode cX2_begin 27 = .ok (.iconst 0, 1) := by decide +kernel
theorem dX2_begin_28 : decode cX2_begin 28 = .ok (.putfield 44, 3) := by decide +kernel
theorem dX2_begin_31 : decode cX2_begin 31 = .ok (.return_, 1) := by decide +kernel
theorem dX2_copyFrom_0 : decode cX2_copyFrom 0 = .ok (.aload_n 0, 1) := by decide +kernel
theorem dX2_copyFrom_1 : decode cX2_copyFrom 1 = .ok (.aload_n 1, 1) := by decide +kernel
theorem dX2_copyFrom_2 : decode cX2_copyFrom 2 = .ok (.getfield 28, 3) := by decide +kernel
theorem dX2_copyFrom_5 : decode cX2_copyFrom 5 = .ok (.putfield 28, 3) := by decide +kernel
theorem dX2_copyFrom_8 : decode cX2_copyFrom 8 = .ok (.aload_n 0, 1) := by decide +kernel
theorem dX2_copyFrom_9 : decode cX2_copyFrom 9 = .ok (.aload_n 1, 1) := by decide +kernel
theorem dX2_copyFrom_10 : decode cX2_copyFrom 10 = .ok (.getfield 32, 3) := by decide +kernel
theorem dX2_copyFrom_13 : decode cX2_copyFrom 13 = .ok (.putfield 32, 3) := by decide +kernel
theorem dX2_copyFrom_16 : decode cX2_copyFrom 16 = .ok (.aload_n 0, 1) := by decide +kernel
theorem dX2_copyFrom_17 : decode cX2_copyFrom 17 = .ok (.aload_n 1, 1) := by decide +kernel
theorem dX2_copyFrom_18 : decode cX2_copyFrom 18 = .ok (.getfield 35, 3) := by decide +kernel
theorem dX2_copyFrom_21 : decode cX2_copyFrom 21 = .ok (.putfield 35, 3) := by decide +kernel
theorem dX2_copyFrom_24 : decode cX2_copyFrom 24 = .ok (.aload_n 0, 1) := by decide +kernel
theorem dX2_copyFrom_25 : decode cX2_copyFrom 25 = .ok (.aload_n 1, 1) := by decide +kernel
theorem dX2_copyFrom_26 : decode cX2_copyFrom 26 = .ok (.getfield 38, 3) := by decide +kernel
theorem dX2_copyFrom_29 : decode cX2_copyFrom 29 = .ok (.putfield 38, 3) := by decide +kernel
theorem dX2_copyFrom_32 : decode cX2_copyFrom 32 = .ok (.aload_n 0, 1) := by decide +kernel
theorem dX2_copyFrom_33 : decode cX2_copyFrom 33 = .ok (.aload_n 1, 1) := by decide +kernel
theorem dX2_copyFrom_34 : decode cX2_copyFrom 34 = .ok (.getfield 41, 3) := by decide +kernel
theorem dX2_copyFrom_37 : decode cX2_copyFrom 37 = .ok (.putfield 41, 3) := by decide +kernel
theorem dX2_copyFrom_40 : decode cX2_copyFrom 40 = .ok (.aload_n 0, 1) := by decide +kernel
theorem dX2_copyFrom_41 : decode cX2_copyFrom 41 = .ok (.aload_n 1, 1) := by decide +kernel
theorem dX2_copyFrom_42 : decode cX2_copyFrom 42 = .ok (.getfield 44, 3) := by decide +kernel
theorem dX2_copyFrom_45 : decode cX2_copyFrom 45 = .ok (.putfield 44, 3) := by decide +kernel
theorem dX2_copyFrom_48 : decode cX2_copyFrom 48 = .ok (.aload_n 1, 1) := by decide +kernel
theorem dX2_copyFrom_49 : decode cX2_copyFrom 49 = .ok (.getfield 9, 3) := by decide +kernel
theorem dX2_copyFrom_52 : decode cX2_copyFrom 52 = .ok (.iconst 0, 1) := by decide +kernel
theorem dX2_copyFrom_53 : decode cX2_copyFrom 53 = .ok (.aload_n 0, 1) := by decide +kernel
theorem dX2_copyFrom_54 : decode cX2_copyFrom 54 = .ok (.getfield 9, 3) := by decide +kernel
theorem dX2_copyFrom_57 : decode cX2_copyFrom 57 = .ok (.iconst 0, 1) := by decide +kernel
theorem dX2_copyFrom_58 : decode cX2_copyFrom 58 = .ok (.bipush 16, 2) := by decide +kernel
theorem dX2_copyFrom_60 : decode cX2_copyFrom 60 = .ok (.invokestatic 47, 3) := by decide +kernel
theorem dX2_copyFrom_63 : decode cX2_copyFrom 63 = .ok (.aload_n 1, 1) := by decide +kernel
theorem dX2_copyFrom_64 : decode cX2_copyFrom 64 = .ok (.getfield 15, 3) := by decide +kernel
theorem dX2_copyFrom_67 : decode cX2_copyFrom 67 = .ok (.iconst 0, 1) := by decide +kernel
theorem dX2_copyFrom_68 : decode cX2_copyFrom 68 = .ok (.aload_n 0, 1) := by decide +kernel
theorem dX2_copyFrom_69 : decode cX2_copyFrom 69 = .ok (.getfield 15, 3) := by decide +kernel
theorem dX2_copyFrom_72 : decode cX2_copyFrom 72 = .ok (.iconst 0, 1) := by decide +kernel
theorem dX2_copyFrom_73 : decode cX2_copyFrom 73 = .ok (.bipush 16, 2) := by decide +kernel
theorem dX2_copyFrom_75 : decode cX2_copyFrom 75 = .ok (.invokestatic 47, 3) := by decide +kernel
theorem dX2_copyFrom_78 : decode cX2_copyFrom 78 = .ok (.aload_n 1, 1) := by decide +kernel
theorem dX2_copyFrom_79 : decode cX2_copyFrom 79 = .ok (.getfield 18, 3) := by decide +kernel
theorem dX2_copyFrom_82 : decode cX2_copyFrom 82 = .ok (.iconst 0, 1) := by decide +kernel
theorem dX2_copyFrom_83 : decode cX2_copyFrom 83 = .ok (.aload_n 0, 1) := by decide +kernel
theorem dX2_copyFrom_84 : decode cX2_copyFrom 84 = .ok (.getfield 18, 3) := by decide +kernel
theorem dX2_copyFrom_87 : decode cX2_copyFrom 87 = .ok (.iconst 0, 1) := by decide +kernel
theorem dX2_copyFrom_88 : decode cX2_copyFrom 88 = .ok (.bipush 16, 2) := by decide +kernel
theorem dX2_copyFrom_90 : decode cX2_copyFrom 90 = .ok (.invokestatic 47, 3) := by decide +kernel
theorem dX2_copyFrom_93 : decode cX2_copyFrom 93 = .ok (.aload_n 1, 1) := by decide +kernel
theorem dX2_copyFrom_94 : decode cX2_copyFrom 94 = .ok (.getfield 21, 3) := by decide +kernel
theorem dX2_copyFrom_97 : decode cX2_copyFrom 97 = .ok (.iconst 0, 1) := by decide +kernel
theorem dX2_copyFrom_98 : decode cX2_copyFrom 98 = .ok (.aload_n 0, 1) := by decide +kernel
theorem dX2_copyFrom_99 : decode cX2_copyFrom 99 = .ok (.getfield 21, 3) := by decide +kernel
theorem dX2_copyFrom_102 : decode cX2_copyFrom 102 = .ok (.iconst 0, 1) := by decide +kernel
theorem dX2_copyFrom_103 : decode cX2_copyFrom 103 = .ok (.bipush 16, 2) := by decide +kernel
theorem dX2_copyFrom_105 : decode cX2_copyFrom 105 = .ok (.invokestatic 47, 3) := by decide +kernel
theorem dX2_copyFrom_108 : decode cX2_copyFrom 108 = .ok (.return_, 1) := by decide +kernel
theorem dX2_tell_0 : decode cX2_tell 0 = .ok (.getstatic 53, 3) := by decide +kernel
theorem dX2_tell_3 : decode cX2_tell 3 = .ok (.aload_n 1, 1) := by decide +kernel
theorem dX2_tell_4 : decode cX2_tell 4 = .ok (.invokevirtual 58, 3) := by decide +kernel
theorem dX2_tell_7 : decode cX2_tell 7 = .ok (.iaload, 1) := by decide +kernel
theorem dX2_tell_8 : decode cX2_tell 8 = .ok (.tableswitch 76 1 5 #[36, 44, 52, 60, 68], 36) := by decide +kernel
theorem dX2_tell_44 : decode cX2_tell 44 = .ok (.aload_n 0, 1) := by decide +kernel
theorem dX2_tell_45 : decode cX2_tell 45 = .ok (.iload_n 2, 1) := by decide +kernel
theorem dX2_tell_46 : decode cX2_tell 46 = .ok (.invokevirtual 24, 3) := by decide +kernel
theorem dX2_tell_49 : decode cX2_tell 49 = .ok (.goto 35, 3) := by decide +kernel
theorem dX2_tell_52 : decode cX2_tell 52 = .ok (.aload_n 0, 1) := by decide +kernel
theorem dX2_tell_53 : decode cX2_tell 53 = .ok (.iload_n 2, 1) := by decide +kernel
theorem dX2_tell_54 : decode cX2_tell 54 = .ok (.putfield 32, 3) := by decide +kernel
theorem dX2_tell_57 : decode cX2_tell 57 = .ok (.goto 27, 3) := by decide +kernel
theorem dX2_tell_60 : decode cX2_tell 60 = .ok (.aload_n 0, 1) := by decide +kernel
theorem dX2_tell_61 : decode cX2_tell 61 = .ok (.iload_n 2, 1) := by decide +kernel
theorem dX2_tell_62 : decode cX2_tell 62 = .ok (.putfield 35, 3) := by decide +kernel
theorem dX2_tell_65 : decode cX2_tell 65 = .ok (.goto 19, 3) := by decide +kernel
theorem dX2_tell_68 : decode cX2_tell 68 = .ok (.aload_n 0, 1) := by decide +kernel
theorem dX2_tell_69 : decode cX2_tell 69 = .ok (.iload_n 2, 1) := by decide +kernel
theorem dX2_tell_70 : decode cX2_tell 70 = .ok (.putfield 38, 3) := by decide +kernel
theorem dX2_tell_73 : decode cX2_tell 73 = .ok (.goto 11, 3) := by decide +kernel
theorem dX2_tell_76 : decode cX2_tell 76 = .ok (.aload_n 0, 1) := by decide +kernel
theorem dX2_tell_77 : decode cX2_tell 77 = .ok (.iload_n 2, 1) := by decide +kernel
theorem dX2_tell_78 : decode cX2_tell 78 = .ok (.putfield 41, 3) := by decide +kernel
theorem dX2_tell_81 : decode cX2_tell 81 = .ok (.goto 3, 3) := by decide +kernel
theorem dX2_tell_84 : decode cX2_tell 84 = .ok (.return_, 1) := by decide +kernel
theorem dX2_hasAllPaths_0 : decode cX2_hasAllPaths 0 = .ok (.aload_n 0, 1) := by decide +kernel
theorem dX2_hasAllPaths_1 : decode cX2_hasAllPaths 1 = .ok (.getfield 44, 3) := by decide +kernel
theorem dX2_hasAllPaths_4 : decode cX2_hasAllPaths 4 = .ok (.bipush 16, 2) := by decide +kernel
theorem dX2_hasAllPaths_6 : decode cX2_hasAllPaths 6 = .ok (.if_icmp .lt 7, 3) := by decide +kernel
theorem dX2_hasAllPaths_9 : decode cX2_hasAllPaths 9 = .ok (.iconst 1, 1) := by decide +kernel
theorem dX2_hasAllPaths_10 : decode cX2_hasAllPaths 10 = .ok (.goto 4, 3) := by decide +kernel
theorem dX2_hasAllPaths_13 : decode cX2_hasAllPaths 13 = .ok (.iconst 0, 1) := by decide +kernel
theorem dX2_hasAllPaths_14 : decode cX2_hasAllPaths 14 = .ok (.ireturn, 1) := by decide +kernel
theorem dX2_addPath_0 : decode cX2_addPath 0 = .ok (.aload_n 0, 1) := by decide +kernel
theorem dX2_addPath_1 : decode cX2_addPath 1 = .ok (.invokevirtual 64, 3) := by decide +kernel
theorem dX2_addPath_4 : decode cX2_addPath 4 = .ok (.ifCond .eq 4, 3) := by decide +kernel
theorem dX2_addPath_7 : decode cX2_addPath 7 = .ok (.return_, 1) := by decide +kernel
theorem dX2_addPath_8 : decode cX2_addPath 8 = .ok (.aload_n 0, 1) := by decide +kernel
theorem dX2_addPath_9 : decode cX2_addPath 9 = .ok (.getfield 9, 3) := by decide +kernel
theorem dX2_addPath_12 : decode cX2_addPath 12 = .ok (.aload_n 0, 1) := by decide +kernel
theorem dX2_addPath_13 : decode cX2_addPath 13 = .ok (.getfield 44, 3) := by decide +kernel
theorem dX2_addPath_16 : decode cX2_addPath 16 = .ok (.iload_n 1, 1) := by decide +kernel
theorem dX2_addPath_17 : decode cX2_addPath 17 = .ok (.iastore, 1) := by decide +kernel
theorem dX2_addPath_18 : decode cX2_addPath 18 = .ok (.aload_n 0, 1) := by decide +kernel
theorem dX2_addPath_19 : decode cX2_addPath 19 = .ok (.getfield 15, 3) := by decide +kernel
theorem dX2_addPath_22 : decode cX2_addPath 22 = .ok (.aload_n 0, 1) := by decide +kernel
theorem dX2_addPath_23 : decode cX2_addPath 23 = .ok (.getfield 44, 3) := by decide +kernel
theorem dX2_addPath_26 : decode cX2_addPath 26 = .ok (.iload_n 2, 1) := by decide +kernel
theorem dX2_addPath_27 : decode cX2_addPath 27 = .ok (.iastore, 1) := by decide +kernel
theorem dX2_addPath_28 : decode cX2_addPath 28 = .ok (.aload_n 0, 1) := by decide +kernel
theorem dX2_addPath_29 : decode cX2_addPath 29 = .ok (.getfield 18, 3) := by decide +kernel
theorem dX2_addPath_32 : decode cX2_addPath 32 = .ok (.aload_n 0, 1) := by decide +kernel
theorem dX2_addPath_33 : decode cX2_addPath 33 = .ok (.getfield 44, 3) := by decide +kernel
theorem dX2_addPath_36 : decode cX2_addPath 36 = .ok (.iload_n 3, 1) := by decide +kernel
theorem dX2_addPath_37 : decode cX2_addPath 37 = .ok (.iastore, 1) := by decide +kernel
theorem dX2_addPath_38 : decode cX2_addPath 38 = .ok (.aload_n 0, 1) := by decide +kernel
theorem dX2_addPath_39 : decode cX2_addPath 39 = .ok (.getfield 21, 3) := by decide +kernel
theorem dX2_addPath_42 : decode cX2_addPath 42 = .ok (.aload_n 0, 1) := by decide +kernel
theorem dX2_addPath_43 : decode cX2_addPath 43 = .ok (.getfield 44, 3) := by decide +kernel
theorem dX2_addPath_46 : decode cX2_addPath 46 = .ok (.iload 4, 2) := by decide +kernel
theorem dX2_addPath_48 : decode cX2_addPath 48 = .ok (.iastore, 1) := by decide +kernel
theorem dX2_addPath_49 : decode cX2_addPath 49 = .ok (.aload_n 0, 1) := by decide +kernel
theorem dX2_addPath_50 : decode cX2_addPath 50 = .ok (.dup, 1) := by decide +kernel
theorem dX2_addPath_51 : decode cX2_addPath 51 = .ok (.getfield 44, 3) := by decide +kernel
theorem dX2_addPath_54 : decode cX2_addPath 54 = .ok (.iconst 1, 1) := by decide +kernel
theorem dX2_addPath_55 : decode cX2_addPath 55 = .ok (.iadd, 1) := by decide +kernel
theorem dX2_addPath_56 : decode cX2_addPath 56 = .ok (.putfield 44, 3) := by decide +kernel
theorem dX2_addPath_59 : decode cX2_addPath 59 = .ok (.return_, 1) := by decide +kernel
theorem dX2_canBeSlower_0 : decode cX2_canBeSlower 0 = .ok (.aload_n 0, 1) := by decide +kernel
theorem dX2_canBeSlower_1 : decode cX2_canBeSlower 1 = .ok (.getfield 18, 3) := by decide +kernel
theorem dX2_canBeSlower_4 : decode cX2_canBeSlower 4 = .ok (.iload_n 1, 1) := by decide +kernel
theorem dX2_canBeSlower_5 : decode cX2_canBeSlower 5 = .ok (.iaload, 1) := by decide +kernel
theorem dX2_canBeSlower_6 : decode cX2_canBeSlower 6 = .ok (.iload_n 2, 1) := by decide +kernel
theorem dX2_canBeSlower_7 : decode cX2_canBeSlower 7 = .ok (.iadd, 1) := by decide +kernel
theorem dX2_canBeSlower_8 : decode cX2_canBeSlower 8 = .ok (.sipush 199, 3) := by decide +kernel
theorem dX2_canBeSlower_11 : decode cX2_canBeSlower 11 = .ok (.if_icmp .gt 7, 3) := by decide +kernel
theorem dX2_canBeSlower_14 : decode cX2_canBeSlower 14 = .ok (.iconst 1, 1) := by decide +kernel
theorem dX2_canBeSlower_15 : decode cX2_canBeSlower 15 = .ok (.goto 4, 3) := by decide +kernel
theorem dX2_canBeSlower_18 : decode cX2_canBeSlower 18 = .ok (.iconst 0, 1) := by decide +kernel
theorem dX2_canBeSlower_19 : decode cX2_canBeSlower 19 = .ok (.ireturn, 1) := by decide +kernel
theorem dX2_delay_0 : decode cX2_delay 0 = .ok (.aload_n 0, 1) := by decide +kernel
theorem dX2_delay_1 : decode cX2_delay 1 = .ok (.getfield 18, 3) := by decide +kernel
theorem dX2_delay_4 : decode cX2_delay 4 = .ok (.iload_n 1, 1) := by decide +kernel
theorem dX2_delay_5 : decode cX2_delay 5 = .ok (.dup2, 1) := by decide +kernel
theorem dX2_delay_6 : decode cX2_delay 6 = .ok (.iaload, 1) := by decide +kernel
theorem dX2_delay_7 : decode cX2_delay 7 = .ok (.iload_n 2, 1) := by decide +kernel
theorem dX2_delay_8 : decode cX2_delay 8 = .ok (.iadd, 1) := by decide +kernel
theorem dX2_delay_9 : decode cX2_delay 9 = .ok (.iastore, 1) := by decide +kernel
theorem dX2_delay_10 : decode cX2_delay 10 = .ok (.aload_n 0, 1) := by decide +kernel
theorem dX2_delay_11 : decode cX2_delay 11 = .ok (.getfield 21, 3) := by decide +kernel
theorem dX2_delay_14 : decode cX2_delay 14 = .ok (.iload_n 1, 1) := by decide +kernel
theorem dX2_delay_15 : decode cX2_delay 15 = .ok (.dup2, 1) := by decide +kernel
theorem dX2_delay_16 : decode cX2_delay 16 = .ok (.iaload, 1) := by decide +kernel
theorem dX2_delay_17 : decode cX2_delay 17 = .ok (.iload_n 2, 1) := by decide +kernel
theorem dX2_delay_18 : decode cX2_delay 18 = .ok (.iadd, 1) := by decide +kernel
theorem dX2_delay_19 : decode cX2_delay 19 = .ok (.iastore, 1) := by decide +kernel
theorem dX2_delay_20 : decode cX2_delay 20 = .ok (.return_, 1) := by decide +kernel
theorem dX2_lateBound_0 : decode cX2_lateBound 0 = .ok (.aload_n 0, 1) := by decide +kernel
theorem dX2_lateBound_1 : decode cX2_lateBound 1 = .ok (.getfield 41, 3) := by decide +kernel
theorem dX2_lateBound_4 : decode cX2_lateBound 4 = .ok (.aload_n 0, 1) := by decide +kernel
theorem dX2_lateBound_5 : decode cX2_lateBound 5 = .ok (.getfield 18, 3) := by decide +kernel
theorem dX2_lateBound_8 : decode cX2_lateBound 8 = .ok (.iload_n 1, 1) := by decide +kernel
theorem dX2_lateBound_9 : decode cX2_lateBound 9 = .ok (.iaload, 1) := by decide +kernel
theorem dX2_lateBound_10 : decode cX2_lateBound 10 = .ok (.isub, 1) := by decide +kernel
theorem dX2_lateBound_11 : decode cX2_lateBound 11 = .ok (.aload_n 0, 1) := by decide +kernel
theorem dX2_lateBound_12 : decode cX2_lateBound 12 = .ok (.getfield 32, 3) := by decide +kernel
theorem dX2_lateBound_15 : decode cX2_lateBound 15 = .ok (.isub, 1) := by decide +kernel
theorem dX2_lateBound_16 : decode cX2_lateBound 16 = .ok (.ireturn, 1) := by decide +kernel
theorem dX2_soonBound_0 : decode cX2_soonBound 0 = .ok (.aload_n 0, 1) := by decide +kernel
theorem dX2_soonBound_1 : decode cX2_soonBound 1 = .ok (.getfield 21, 3) := by decide +kernel
theorem dX2_soonBound_4 : decode cX2_soonBound 4 = .ok (.iload_n 1, 1) := by decide +kernel
theorem dX2_soonBound_5 : decode cX2_soonBound 5 = .ok (.iaload, 1) := by decide +kernel
theorem dX2_soonBound_6 : decode cX2_soonBound 6 = .ok (.aload_n 0, 1) := by decide +kernel
theorem dX2_soonBound_7 : decode cX2_soonBound 7 = .ok (.getfield 35, 3) := by decide +kernel
theorem dX2_soonBound_10 : decode cX2_soonBound 10 = .ok (.isub, 1) := by decide +kernel
theorem dX2_soonBound_11 : decode cX2_soonBound 11 = .ok (.ireturn, 1) := by decide +kernel
theorem dX2_tooSoonCount_0 : decode cX2_tooSoonCount 0 = .ok (.iconst 0, 1) := by decide +kernel
theorem dX2_tooSoonCount_1 : decode cX2_tooSoonCount 1 = .ok (.istore_n 1, 1) := by decide +kernel
theorem dX2_tooSoonCount_2 : decode cX2_tooSoonCount 2 = .ok (.iconst 0, 1) := by decide +kernel
theorem dX2_tooSoonCount_3 : decode cX2_tooSoonCount 3 = .ok (.istore_n 2, 1) := by decide +kernel
theorem dX2_tooSoonCount_4 : decode cX2_tooSoonCount 4 = .ok (.iload_n 2, 1) := by decide +kernel
theorem dX2_tooSoonCount_5 : decode cX2_tooSoonCount 5 = .ok (.aload_n 0, 1) := by decide +kernel
theorem dX2_tooSoonCount_6 : decode cX2_tooSoonCount 6 = .ok (.getfield 44, 3) := by decide +kernel
theorem dX2_tooSoonCount_9 : decode cX2_tooSoonCount 9 = .ok (.if_icmp .ge 20, 3) := by decide +kernel
theorem dX2_tooSoonCount_12 : decode cX2_tooSoonCount 12 = .ok (.aload_n 0, 1) := by decide +kernel
theorem dX2_tooSoonCount_13 : decode cX2_tooSoonCount 13 = .ok (.iload_n 2, 1) := by decide +kernel
theorem dX2_tooSoonCount_14 : decode cX2_tooSoonCount 14 = .ok (.invokevirtual 68, 3) := by decide +kernel
theorem dX2_tooSoonCount_17 : decode cX2_tooSoonCount 17 = .ok (.ifCond .ge 6, 3) := by decide +kernel
theorem dX2_tooSoonCount_20 : decode cX2_tooSoonCount 20 = .ok (.iinc 1 1, 3) := by decide +kernel
theorem dX2_tooSoonCount_23 : decode cX2_tooSoonCount 23 = .ok (.iinc 2 1, 3) := by decide +kernel
theorem dX2_tooSoonCount_26 : decode cX2_tooSoonCount 26 = .ok (.goto (-22), 3) := by decide +kernel
theorem dX2_tooSoonCount_29 : decode cX2_tooSoonCount 29 = .ok (.iload_n 1, 1) := by decide +kernel
theorem dX2_tooSoonCount_30 : decode cX2_tooSoonCount 30 = .ok (.ireturn, 1) := by decide +kernel
theorem dX3_init_0 : decode cX3_init 0 = .ok (.aload_n 0, 1) := by decide +kernel
theorem dX3_init_1 : decode cX3_init 1 = .ok (.invokespecial 5, 3) := by decide +kernel
theorem dX3_init_4 : decode cX3_init 4 = .ok (.aload_n 0, 1) := by decide +kernel
theorem dX3_init_5 : decode cX3_init 5 = .ok (.bipush 8, 2) := by decide +kernel
theorem dX3_init_7 : decode cX3_init 7 = .ok (.bipush 8, 2) := by decide +kernel
theorem dX3_init_9 : decode cX3_init 9 = .ok (.multianewarray 11 2, 4) := by decide +kernel
theorem dX3_init_13 : decode cX3_init 13 = .ok (.putfield 13, 3) := by decide +kernel
theorem dX3_init_16 : decode cX3_init 16 = .ok (.aload_n 0, 1) := by decide +kernel
theorem dX3_init_17 : decode cX3_init 17 = .ok (.bipush 8, 2) := by decide +kernel
theorem dX3_init_19 : decode cX3_init 19 = .ok (.newarray .int, 2) := by decide +kernel
theorem dX3_init_21 : decode cX3_init 21 = .ok (.putfield 18, 3) := by decide +kernel
theorem dX3_init_24 : decode cX3_init 24 = .ok (.aload_n 0, 1) := by decide +kernel
theorem dX3_init_25 : decode cX3_init 25 = .ok (.bipush 8, 2) := by decide +kernel
theorem dX3_init_27 : decode cX3_init 27 = .ok (.newarray .int, 2) := by decide +kernel
theorem dX3_init_29 : decode cX3_init 29 = .ok (.putfield 22, 3) := by decide +kernel
theorem dX3_init_32 : decode cX3_init 32 = .ok (.return_, 1) := by decide +kernel
theorem dX3_shiftOf_0 : decode cX3_shiftOf 0 = .ok (.aload_n 0, 1) := by decide +kernel
theorem dX3_shiftOf_1 : decode cX3_shiftOf 1 = .ok (.getfield 18, 3) := by decide +kernel
theorem dX3_shiftOf_4 : decode cX3_shiftOf 4 = .ok (.iload_n 1, 1) := by decide +kernel
theorem dX3_shiftOf_5 : decode cX3_shiftOf 5 = .ok (.iaload, 1) := by decide +kernel
theorem dX3_shiftOf_6 : decode cX3_shiftOf 6 = .ok (.ireturn, 1) := by decide +kernel
theorem dX3_ringLength_0 : decode cX3_ringLength 0 = .ok (.aload_n 0, 1) := by decide +kernel
theorem dX3_ringLength_1 : decode cX3_ringLength 1 = .ok (.getfield 25, 3) := by decide +kernel
theorem dX3_ringLength_4 : decode cX3_ringLength 4 = .ok (.ireturn, 1) := by decide +kernel
theorem dX3_ringRegister_0 : decode cX3_ringRegister 0 = .ok (.aload_n 0, 1) := by decide +kernel
theorem dX3_ringRegister_1 : decode cX3_ringRegister 1 = .ok (.getfield 22, 3) := by decide +kernel
theorem dX3_ringRegister_4 : decode cX3_ringRegister 4 = .ok (.iload_n 1, 1) := by decide +kernel
theorem dX3_ringRegister_5 : decode cX3_ringRegister 5 = .ok (.iaload, 1) := by decide +kernel
theorem dX3_ringRegister_6 : decode cX3_ringRegister 6 = .ok (.ireturn, 1) := by decide +kernel
theorem dX3_rateAbove_0 : decode cX3_rateAbove 0 = .ok (.aload_n 0, 1) := by decide +kernel
theorem dX3_rateAbove_1 : decode cX3_rateAbove 1 = .ok (.getfield 29, 3) := by decide +kernel
theorem dX3_rateAbove_4 : decode cX3_rateAbove 4 = .ok (.ireturn, 1) := by decide +kernel
theorem dX3_rateBelow_0 : decode cX3_rateBelow 0 = .ok (.aload_n 0, 1) := by decide +kernel
theorem dX3_rateBelow_1 : decode cX3_rateBelow 1 = .ok (.getfield 32, 3) := by decide +kernel
theorem dX3_rateBelow_4 : decode cX3_rateBelow 4 = .ok (.ireturn, 1) := by decide +kernel
theorem dX3_settlesNow_0 : decode cX3_settlesNow 0 = .ok (.aload_n 0, 1) := by decide +kernel
theorem dX3_settlesNow_1 : decode cX3_settlesNow 1 = .ok (.aload_n 1, 1) := by decide +kernel
theorem dX3_settlesNow_2 : decode cX3_settlesNow 2 = .ok (.iconst 0, 1) := by decide +kernel
theorem dX3_settlesNow_3 : decode cX3_settlesNow 3 = .ok (.invokevirtual 35, 3) := by decide +kernel
theorem dX3_settlesNow_6 : decode cX3_settlesNow 6 = .ok (.ireturn, 1) := by decide +kernel
theorem dX3_settlesWithMargin_0 : decode cX3_settlesWithMargin 0 = .ok (.aload_n 0, 1) := by decide +kernel
theorem dX3_settlesWithMargin_1 : decode cX3_settlesWithMargin 1 = .ok (.aload_n 1, 1) := by decide +kernel
theorem dX3_settlesWithMargin_2 : decode cX3_settlesWithMargin 2 = .ok (.aload_n 1, 1) := by decide +kernel
theorem dX3_settlesWithMargin_3 : decode cX3_settlesWithMargin 3 = .ok (.getfield 39, 3) := by decide +kernel
theorem dX3_settlesWithMargin_6 : decode cX3_settlesWithMargin 6 = .ok (.iconst 1, 1) := by decide +kernel
theorem dX3_settlesWithMargin_7 : decode cX3_settlesWithMargin 7 = .ok (.iload_n 2, 1) := by decide +kernel
theorem dX3_settlesWithMargin_8 : decode cX3_settlesWithMargin 8 = .ok (.aload_n 1, 1) := by decide +kernel
theorem dX3_settlesWithMargin_9 : decode cX3_settlesWithMargin 9 = .ok (.getfield 44, 3) := by decide +kernel
theorem dX3_settlesWithMargin_12 : decode cX3_settlesWithMargin 12 = .ok (.invokevirtual 47, 3) := by decide +kernel
theorem dX3_settlesWithMargin_15 : decode cX3_settlesWithMargin 15 = .ok (.aload_n 0, 1) := by decide +kernel
theorem dX3_settlesWithMargin_16 : decode cX3_settlesWithMargin 16 = .ok (.invokevirtual 51, 3) := by decide +kernel
theorem dX3_settlesWithMargin_19 : decode cX3_settlesWithMargin 19 = .ok (.ireturn, 1) := by decide +kernel
theorem dX3_settlesAtPeriod_0 : decode cX3_settlesAtPeriod 0 = .ok (.aload_n 0, 1) := by decide +kernel
theorem dX3_settlesAtPeriod_1 : decode cX3_settlesAtPeriod 1 = .ok (.aload_n 1, 1) := by decide +kernel
theorem dX3_settlesAtPeriod_2 : decode cX3_settlesAtPeriod 2 = .ok (.iload_n 2, 1) := by decide +kernel
theorem dX3_settlesAtPeriod_3 : decode cX3_settlesAtPeriod 3 = .ok (.iload_n 3, 1) := by decide +kernel
theorem dX3_settlesAtPeriod_4 : decode cX3_settlesAtPeriod 4 = .ok (.iconst 0, 1) := by decide +kernel
theorem dX3_settlesAtPeriod_5 : decode cX3_settlesAtPeriod 5 = .ok (.iload 4, 2) := by decide +kernel
theorem dX3_settlesAtPeriod_7 : decode cX3_settlesAtPeriod 7 = .ok (.invokevirtual 47, 3) := by decide +kernel
theorem dX3_settlesAtPeriod_10 : decode cX3_settlesAtPeriod 10 = .ok (.aload_n 0, 1) := by decide +kernel
theorem dX3_settlesAtPeriod_11 : decode cX3_settlesAtPeriod 11 = .ok (.invokevirtual 51, 3) := by decide +kernel
theorem dX3_settlesAtPeriod_14 : decode cX3_settlesAtPeriod 14 = .ok (.ireturn, 1) := by decide +kernel
theorem dX3_leastPeriod_0 : decode cX3_leastPeriod 0 = .ok (.aload_n 0, 1) := by decide +kernel
theorem dX3_leastPeriod_1 : decode cX3_leastPeriod 1 = .ok (.aload_n 1, 1) := by decide +kernel
theorem dX3_leastPeriod_2 : decode cX3_leastPeriod 2 = .ok (.iconst 1, 1) := by decide +kernel
theorem dX3_leastPeriod_3 : decode cX3_leastPeriod 3 = .ok (.aload_n 1, 1) := by decide +kernel
theorem dX3_leastPeriod_4 : decode cX3_leastPeriod 4 = .ok (.getfield 44, 3) := by decide +kernel
theorem dX3_leastPeriod_7 : decode cX3_leastPeriod 7 = .ok (.invokevirtual 55, 3) := by decide +kernel
theorem dX3_leastPeriod_10 : decode cX3_leastPeriod 10 = .ok (.ireturn, 1) := by decide +kernel
theorem dX3_leastPeriodAbove_0 : decode cX3_leastPeriodAbove 0 = .ok (.iconst 0, 1) := by decide +kernel
theorem dX3_leastPeriodAbove_1 : decode cX3_leastPeriodAbove 1 = .ok (.istore 4, 2) := by decide +kernel
theorem dX3_leastPeriodAbove_3 : decode cX3_leastPeriodAbove 3 = .ok (.sipush 999, 3) := by decide +kernel
theorem dX3_leastPeriodAbove_6 : decode cX3_leastPeriodAbove 6 = .ok (.iload_n 2, 1) := by decide +kernel
theorem dX3_leastPeriodAbove_7 : decode cX3_leastPeriodAbove 7 = .ok (.imul, 1) := by decide +kernel
theorem dX3_leastPeriodAbove_8 : decode cX3_leastPeriodAbove 8 = .ok (.istore 5, 2) := by decide +kernel
theorem dX3_leastPeriodAbove_10 : decode cX3_leastPeriodAbove 10 = .ok (.aload_n 0, 1) := by decide +kernel
theorem dX3_leastPeriodAbove_11 : decode cX3_leastPeriodAbove 11 = .ok (.aload_n 1, 1) := by decide +kernel
theorem dX3_leastPeriodAbove_12 : decode cX3_leastPeriodAbove 12 = .ok (.iload 5, 2) := by decide +kernel
theorem dX3_leastPeriodAbove_14 : decode cX3_leastPeriodAbove 14 = .ok (.iload_n 2, 1) := by decide +kernel
theorem dX3_leastPeriodAbove_15 : decode cX3_leastPeriodAbove 15 = .ok (.iload_n 3, 1) := by decide +kernel
theorem dX3_leastPeriodAbove_16 : decode cX3_leastPeriodAbove 16 = .ok (.invokevirtual 59, 3) := by decide +kernel
theorem dX3_leastPeriodAbove_19 : decode cX3_leastPeriodAbove 19 = .ok (.ifCond .ne 5, 3) := by decide +kernel
theorem dX3_leastPeriodAbove_22 : decode cX3_leastPeriodAbove 22 = .ok (.iconst (-1), 1) := by decide +kernel
theorem dX3_leastPeriodAbove_23 : decode cX3_leastPeriodAbove 23 = .ok (.ireturn, 1) := by decide +kernel
theorem dX3_leastPeriodAbove_24 : decode cX3_leastPeriodAbove 24 = .ok (.iconst 0, 1) := by decide +kernel
theorem dX3_leastPeriodAbove_25 : decode cX3_leastPeriodAbove 25 = .ok (.istore 6, 2) := by decide +kernel
theorem dX3_leastPeriodAbove_27 : decode cX3_leastPeriodAbove 27 = .ok (.iload 6, 2) := by decide +kernel
theorem dX3_leastPeriodAbove_29 : decode cX3_leastPeriodAbove 29 = .ok (.bipush 32, 2) := by decide +kernel
theorem dX3_leastPeriodAbove_31 : decode cX3_leastPeriodAbove 31 = .ok (.if_icmp .ge 50, 3) := by decide +kernel
theorem dX3_leastPeriodAbove_34 : decode cX3_leastPeriodAbove 34 = .ok (.iload 4, 2) := by decide +kernel
theorem dX3_leastPeriodAbove_36 : decode cX3_leastPeriodAbove 36 = .ok (.iload 5, 2) := by decide +kernel
theorem dX3_leastPeriodAbove_38 : decode cX3_leastPeriodAbove 38 = .ok (.if_icmp .ge 43, 3) := by decide +kernel
theorem dX3_leastPeriodAbove_41 : decode cX3_leastPeriodAbove 41 = .ok (.iload 4, 2) := by decide +kernel
theorem dX3_leastPeriodAbove_43 : decode cX3_leastPeriodAbove 43 = .ok (.iload 5, 2) := by decide +kernel
theorem dX3_leastPeriodAbove_45 : decode cX3_leastPeriodAbove 45 = .ok (.iadd, 1) := by decide +kernel
theorem dX3_leastPeriodAbove_46 : decode cX3_leastPeriodAbove 46 = .ok (.iconst 2, 1) := by decide +kernel
theorem dX3_leastPeriodAbove_47 : decode cX3_leastPeriodAbove 47 = .ok (.idiv, 1) := by decide +kernel
theorem dX3_leastPeriodAbove_48 : decode cX3_leastPeriodAbove 48 = .ok (.istore 7, 2) := by decide +kernel
theorem dX3_leastPeriodAbove_50 : decode cX3_leastPeriodAbove 50 = .ok (.aload_n 0, 1) := by decide +kernel
theorem dX3_leastPeriodAbove_51 : decode cX3_leastPeriodAbove 51 = .ok (.aload_n 1, 1) := by decide +kernel
theorem dX3_leastPeriodAbove_52 : decode cX3_leastPeriodAbove 52 = .ok (.iload 7, 2) := by decide +kernel
theorem dX3_leastPeriodAbove_54 : decode cX3_leastPeriodAbove 54 = .ok (.iload_n 2, 1) := by decide +kernel
theorem dX3_leastPeriodAbove_55 : decode cX3_leastPeriodAbove 55 = .ok (.iload_n 3, 1) := by decide +kernel
theorem dX3_leastPeriodAbove_56 : decode cX3_leastPeriodAbove 56 = .ok (.invokevirtual 59, 3) := by decide +kernel
theorem dX3_leastPeriodAbove_59 : decode cX3_leastPeriodAbove 59 = .ok (.ifCond .eq 10, 3) := by decide +kernel
theorem dX3_leastPeriodAbove_62 : decode cX3_leastPeriodAbove 62 = .ok (.iload 7, 2) := by decide +kernel
theorem dX3_leastPeriodAbove_64 : decode cX3_leastPeriodAbove 64 = .ok (.istore 5, 2) := by decide +kernel
theorem dX3_leastPeriodAbove_66 : decode cX3_leastPeriodAbove 66 = .ok (.goto 9, 3) := by decide +kernel
theorem dX3_leastPeriodAbove_69 : decode cX3_leastPeriodAbove 69 = .ok (.iload 7, 2) := by decide +kernel
theorem dX3_leastPeriodAbove_71 : decode cX3_leastPeriodAbove 71 = .ok (.iconst 1, 1) := by decide +kernel
theorem dX3_leastPeriodAbove_72 : decode cX3_leastPeriodAbove 72 = .ok (.iadd, 1) := by decide +kernel
theorem dX3_leastPeriodAbove_73 : decode cX3_leastPeriodAbove 73 = .ok (.istore 4, 2) := by decide +kernel
theorem dX3_leastPeriodAbove_75 : decode cX3_leastPeriodAbove 75 = .ok (.iinc 6 1, 3) := by decide +kernel
theorem dX3_leastPeriodAbove_78 : decode cX3_leastPeriodAbove 78 = .ok (.goto (-51), 3) := by decide +kernel
theorem dX3_leastPeriodAbove_81 : decode cX3_leastPeriodAbove 81 = .ok (.iload 4, 2) := by decide +kernel
theorem dX3_leastPeriodAbove_83 : decode cX3_leastPeriodAbove 83 = .ok (.ireturn, 1) := by decide +kernel
theorem dX3_findRate_0 : decode cX3_findRate 0 = .ok (.aload_n 0, 1) := by decide +kernel
theorem dX3_findRate_1 : decode cX3_findRate 1 = .ok (.aload_n 0, 1) := by decide +kernel
theorem dX3_findRate_2 : decode cX3_findRate 2 = .ok (.aload_n 1, 1) := by decide +kernel
theorem dX3_findRate_3 : decode cX3_findRate 3 = .ok (.iconst 1, 1) := by decide +kernel
theorem dX3_findRate_4 : decode cX3_findRate 4 = .ok (.iconst 1, 1) := by decide +kernel
theorem dX3_findRate_5 : decode cX3_findRate 5 = .ok (.invokevirtual 55, 3) := by decide +kernel
theorem dX3_findRate_8 : decode cX3_findRate 8 = .ok (.putfield 29, 3) := by decide +kernel
theorem dX3_findRate_11 : decode cX3_findRate 11 = .ok (.aload_n 0, 1) := by decide +kernel
theorem dX3_findRate_12 : decode cX3_findRate 12 = .ok (.iconst 1, 1) := by decide +kernel
theorem dX3_findRate_13 : decode cX3_findRate 13 = .ok (.putfield 32, 3) := by decide +kernel
theorem dX3_findRate_16 : decode cX3_findRate 16 = .ok (.aload_n 0, 1) := by decide +kernel
theorem dX3_findRate_17 : decode cX3_findRate 17 = .ok (.getfield 29, 3) := by decide +kernel
theorem dX3_findRate_20 : decode cX3_findRate 20 = .ok (.iconst (-1), 1) := by decide +kernel
theorem dX3_findRate_21 : decode cX3_findRate 21 = .ok (.if_icmp .ne 5, 3) := by decide +kernel
theorem dX3_findRate_24 : decode cX3_findRate 24 = .ok (.iconst 0, 1) := by decide +kernel
theorem dX3_findRate_25 : decode cX3_findRate 25 = .ok (.ireturn, 1) := by decide +kernel
theorem dX3_findRate_26 : decode cX3_findRate 26 = .ok (.iconst 2, 1) := by decide +kernel
theorem dX3_findRate_27 : decode cX3_findRate 27 = .ok (.istore_n 2, 1) := by decide +kernel
theorem dX3_findRate_28 : decode cX3_findRate 28 = .ok (.iload_n 2, 1) := by decide +kernel
theorem dX3_findRate_29 : decode cX3_findRate 29 = .ok (.aload_n 1, 1) := by decide +kernel
theorem dX3_findRate_30 : decode cX3_findRate 30 = .ok (.getfield 63, 3) := by decide +kernel
theorem dX3_findRate_33 : decode cX3_findRate 33 = .ok (.if_icmp .gt 42, 3) := by decide +kernel
theorem dX3_findRate_36 : decode cX3_findRate 36 = .ok (.aload_n 0, 1) := by decide +kernel
theorem dX3_findRate_37 : decode cX3_findRate 37 = .ok (.aload_n 1, 1) := by decide +kernel
theorem dX3_findRate_38 : decode cX3_findRate 38 = .ok (.iload_n 2, 1) := by decide +kernel
theorem dX3_findRate_39 : decode cX3_findRate 39 = .ok (.iconst 1, 1) := by decide +kernel
theorem dX3_findRate_40 : decode cX3_findRate 40 = .ok (.invokevirtual 55, 3) := by decide +kernel
theorem dX3_findRate_43 : decode cX3_findRate 43 = .ok (.istore_n 3, 1) := by decide +kernel
theorem dX3_findRate_44 : decode cX3_findRate 44 = .ok (.iload_n 3, 1) := by decide +kernel
theorem dX3_findRate_45 : decode cX3_findRate 45 = .ok (.aload_n 0, 1) := by decide +kernel
theorem dX3_findRate_46 : decode cX3_findRate 46 = .ok (.getfield 32, 3) := by decide +kernel
theorem dX3_findRate_49 : decode cX3_findRate 49 = .ok (.imul, 1) := by decide +kernel
theorem dX3_findRate_50 : decode cX3_findRate 50 = .ok (.aload_n 0, 1) := by decide +kernel
theorem dX3_findRate_51 : decode cX3_findRate 51 = .ok (.getfield 29, 3) := by decide +kernel
theorem dX3_findRate_54 : decode cX3_findRate 54 = .ok (.iload_n 2, 1) := by decide +kernel
theorem dX3_findRate_55 : decode cX3_findRate 55 = .ok (.imul, 1) := by decide +kernel
theorem dX3_findRate_56 : decode cX3_findRate 56 = .ok (.if_icmp .ge 13, 3) := by decide +kernel
theorem dX3_findRate_59 : decode cX3_findRate 59 = .ok (.aload_n 0, 1) := by decide +kernel
theorem dX3_findRate_60 : decode cX3_findRate 60 = .ok (.iload_n 3, 1) := by decide +kernel
theorem dX3_findRate_61 : decode cX3_findRate 61 = .ok (.putfield 29, 3) := by decide +kernel
theorem dX3_findRate_64 : decode cX3_findRate 64 = .ok (.aload_n 0, 1) := by decide +kernel
theorem dX3_findRate_65 : decode cX3_findRate 65 = .ok (.iload_n 2, 1) := by decide +kernel
theorem dX3_findRate_66 : decode cX3_findRate 66 = .ok (.putfield 32, 3) := by decide +kernel
theorem dX3_findRate_69 : decode cX3_findRate 69 = .ok (.iinc 2 1, 3) := by decide +kernel
theorem dX3_findRate_72 : decode cX3_findRate 72 = .ok (.goto (-44), 3) := by decide +kernel
theorem dX3_findRate_75 : decode cX3_findRate 75 = .ok (.iconst 1, 1) := by decide +kernel
theorem dX3_findRate_76 : decode cX3_findRate 76 = .ok (.ireturn, 1) := by decide +kernel
theorem dX3_greatestMargin_0 : decode cX3_greatestMargin 0 = .ok (.sipush (-1200), 3) := by decide +kernel
theorem dX3_greatestMargin_3 : decode cX3_greatestMargin 3 = .ok (.istore_n 2, 1) := by decide +kernel
theorem dX3_greatestMargin_4 : decode cX3_greatestMargin 4 = .ok (.sipush 1200, 3) := by decide +kernel
theorem dX3_greatestMargin_7 : decode cX3_greatestMargin 7 = .ok (.istore_n 3, 1) := by decide +kernel
theorem dX3_greatestMargin_8 : decode cX3_greatestMargin 8 = .ok (.iconst 0, 1) := by decide +kernel
theorem dX3_greatestMargin_9 : decode cX3_greatestMargin 9 = .ok (.istore 4, 2) := by decide +kernel
theorem dX3_greatestMargin_11 : decode cX3_greatestMargin 11 = .ok (.iload 4, 2) := by decide +kernel
theorem dX3_greatestMargin_13 : decode cX3_greatestMargin 13 = .ok (.bipush 32, 2) := by decide +kernel
theorem dX3_greatestMargin_15 : decode cX3_greatestMargin 15 = .ok (.if_icmp .ge 46, 3) := by decide +kernel
theorem dX3_greatestMargin_18 : decode cX3_greatestMargin 18 = .ok (.iload_n 2, 1) := by decide +kernel
theorem dX3_greatestMargin_19 : decode cX3_greatestMargin 19 = .ok (.iload_n 3, 1) := by decide +kernel
theorem dX3_greatestMargin_20 : decode cX3_greatestMargin 20 = .ok (.if_icmp .ge 41, 3) := by decide +kernel
theorem dX3_greatestMargin_23 : decode cX3_greatestMargin 23 = .ok (.iload_n 2, 1) := by decide +kernel
theorem dX3_greatestMargin_24 : decode cX3_greatestMargin 24 = .ok (.iload_n 3, 1) := by decide +kernel
theorem dX3_greatestMargin_25 : decode cX3_greatestMargin 25 = .ok (.iadd, 1) := by decide +kernel
theorem dX3_greatestMargin_26 : decode cX3_greatestMargin 26 = .ok (.iconst 1, 1) := by decide +kernel
theorem dX3_greatestMargin_27 : decode cX3_greatestMargin 27 = .ok (.iadd, 1) := by decide +kernel
theorem dX3_greatestMargin_28 : decode cX3_greatestMargin 28 = .ok (.iconst 2, 1) := by decide +kernel
theorem dX3_greatestMargin_29 : decode cX3_greatestMargin 29 = .ok (.invokestatic 66, 3) := by decide +kernel
theorem dX3_greatestMargin_32 : decode cX3_greatestMargin 32 = .ok (.istore 5, 2) := by decide +kernel
theorem dX3_greatestMargin_34 : decode cX3_greatestMargin 34 = .ok (.aload_n 0, 1) := by decide +kernel
theorem dX3_greatestMargin_35 : decode cX3_greatestMargin 35 = .ok (.aload_n 1, 1) := by decide +kernel
theorem dX3_greatestMargin_36 : decode cX3_greatestMargin 36 = .ok (.iload 5, 2) := by decide +kernel
theorem dX3_greatestMargin_38 : decode cX3_greatestMargin 38 = .ok (.invokevirtual 35, 3) := by decide +kernel
theorem dX3_greatestMargin_41 : decode cX3_greatestMargin 41 = .ok (.ifCond .eq 9, 3) := by decide +kernel
theorem dX3_greatestMargin_44 : decode cX3_greatestMargin 44 = .ok (.iload 5, 2) := by decide +kernel
theorem dX3_greatestMargin_46 : decode cX3_greatestMargin 46 = .ok (.istore_n 2, 1) := by decide +kernel
theorem dX3_greatestMargin_47 : decode cX3_greatestMargin 47 = .ok (.goto 8, 3) := by decide +kernel
theorem dX3_greatestMargin_50 : decode cX3_greatestMargin 50 = .ok (.iload 5, 2) := by decide +kernel
theorem dX3_greatestMargin_52 : decode cX3_greatestMargin 52 = .ok (.iconst 1, 1) := by decide +kernel
theorem dX3_greatestMargin_53 : decode cX3_greatestMargin 53 = .ok (.isub, 1) := by decide +kernel
theorem dX3_greatestMargin_54 : decode cX3_greatestMargin 54 = .ok (.istore_n 3, 1) := by decide +kernel
theorem dX3_greatestMargin_55 : decode cX3_greatestMargin 55 = .ok (.iinc 4 1, 3) := by decide +kernel
theorem dX3_greatestMargin_58 : decode cX3_greatestMargin 58 = .ok (.goto (-47), 3) := by decide +kernel
theorem dX3_greatestMargin_61 : decode cX3_greatestMargin 61 = .ok (.iload_n 2, 1) := by decide +kernel
theorem dX3_greatestMargin_62 : decode cX3_greatestMargin 62 = .ok (.ireturn, 1) := by decide +kernel
theorem dX3_layBounds_0 : decode cX3_layBounds 0 = .ok (.aload_n 0, 1) := by decide +kernel
theorem dX3_layBounds_1 : decode cX3_layBounds 1 = .ok (.aload_n 1, 1) := by decide +kernel
theorem dX3_layBounds_2 : decode cX3_layBounds 2 = .ok (.getfield 63, 3) := by decide +kernel
theorem dX3_layBounds_5 : decode cX3_layBounds 5 = .ok (.putfield 72, 3) := by decide +kernel
theorem dX3_layBounds_8 : decode cX3_layBounds 8 = .ok (.iconst 0, 1) := by decide +kernel
theorem dX3_layBounds_9 : decode cX3_layBounds 9 = .ok (.istore 6, 2) := by decide +kernel
theorem dX3_layBounds_11 : decode cX3_layBounds 11 = .ok (.iload 6, 2) := by decide +kernel
theorem dX3_layBounds_13 : decode cX3_layBounds 13 = .ok (.aload_n 0, 1) := by decide +kernel
theorem dX3_layBounds_14 : decode cX3_layBounds 14 = .ok (.getfield 72, 3) := by decide +kernel
theorem dX3_layBounds_17 : decode cX3_layBounds 17 = .ok (.if_icmp .ge 39, 3) := by decide +kernel
theorem dX3_layBounds_20 : decode cX3_layBounds 20 = .ok (.iconst 0, 1) := by decide +kernel
theorem dX3_layBounds_21 : decode cX3_layBounds 21 = .ok (.istore 7, 2) := by decide +kernel
theorem dX3_layBounds_23 : decode cX3_layBounds 23 = .ok (.iload 7, 2) := by decide +kernel
theorem dX3_layBounds_25 : decode cX3_layBounds 25 = .ok (.aload_n 0, 1) := by decide +kernel
theorem dX3_layBounds_26 : decode cX3_layBounds 26 = .ok (.getfield 72, 3) := by decide +kernel
theorem dX3_layBounds_29 : decode cX3_layBounds 29 = .ok (.if_icmp .ge 21, 3) := by decide +kernel
theorem dX3_layBounds_32 : decode cX3_layBounds 32 = .ok (.aload_n 0, 1) := by decide +kernel
theorem dX3_layBounds_33 : decode cX3_layBounds 33 = .ok (.getfield 13, 3) := by decide +kernel
theorem dX3_layBounds_36 : decode cX3_layBounds 36 = .ok (.iload 6, 2) := by decide +kernel
theorem dX3_layBounds_38 : decode cX3_layBounds 38 = .ok (.aaload, 1) := by decide +kernel
theorem dX3_layBounds_39 : decode cX3_layBounds 39 = .ok (.iload 7, 2) := by decide +kernel
theorem dX3_layBounds_41 : decode cX3_layBounds 41 = .ok (.ldc 73, 2) := by decide +kernel
theorem dX3_layBounds_43 : decode cX3_layBounds 43 = .ok (.iastore, 1) := by decide +kernel
theorem dX3_layBounds_44 : decode cX3_layBounds 44 = .ok (.iinc 7 1, 3) := by decide +kernel
theorem dX3_layBounds_47 : decode cX3_layBounds 47 = .ok (.goto (-24), 3) := by decide +kernel
theorem dX3_layBounds_50 : decode cX3_layBounds 50 = .ok (.iinc 6 1, 3) := by decide +kernel
theorem dX3_layBounds_53 : decode cX3_layBounds 53 = .ok (.goto (-42), 3) := by decide +kernel
theorem dX3_layBounds_56 : decode cX3_layBounds 56 = .ok (.iconst 0, 1) := by decide +kernel
theorem dX3_layBounds_57 : decode cX3_layBounds 57 = .ok (.istore 6, 2) := by decide +kernel
theorem dX3_layBounds_59 : decode cX3_layBounds 59 = .ok (.iload 6, 2) := by decide +kernel
theorem dX3_layBounds_61 : decode cX3_layBounds 61 = .ok (.aload_n 1, 1) := by decide +kernel
theorem dX3_layBounds_62 : decode cX3_layBounds 62 = .ok (.getfield 74, 3) := by decide +kernel
theorem dX3_layBounds_65 : decode cX3_layBounds 65 = .ok (.if_icmp .ge 85, 3) := by decide +kernel
theorem dX3_layBounds_68 : decode cX3_layBounds 68 = .ok (.aload_n 1, 1) := by decide +kernel
theorem dX3_layBounds_69 : decode cX3_layBounds 69 = .ok (.getfield 77, 3) := by decide +kernel
theorem dX3_layBounds_72 : decode cX3_layBounds 72 = .ok (.iload 6, 2) := by decide +kernel
theorem dX3_layBounds_74 : decode cX3_layBounds 74 = .ok (.iaload, 1) := by decide +kernel
theorem dX3_layBounds_75 : decode cX3_layBounds 75 = .ok (.istore 7, 2) := by decide +kernel
theorem dX3_layBounds_77 : decode cX3_layBounds 77 = .ok (.aload_n 1, 1) := by decide +kernel
theorem dX3_layBounds_78 : decode cX3_layBounds 78 = .ok (.getfield 80, 3) := by decide +kernel
theorem dX3_layBounds_81 : decode cX3_layBounds 81 = .ok (.iload 6, 2) := by decide +kernel
theorem dX3_layBounds_83 : decode cX3_layBounds 83 = .ok (.iaload, 1) := by decide +kernel
theorem dX3_layBounds_84 : decode cX3_layBounds 84 = .ok (.istore 8, 2) := by decide +kernel
theorem dX3_layBounds_86 : decode cX3_layBounds 86 = .ok (.iload_n 2, 1) := by decide +kernel
theorem dX3_layBounds_87 : decode cX3_layBounds 87 = .ok (.iload_n 3, 1) := by decide +kernel
theorem dX3_layBounds_88 : decode cX3_layBounds 88 = .ok (.aload_n 1, 1) := by decide +kernel
theorem dX3_layBounds_89 : decode cX3_layBounds 89 = .ok (.getfield 83, 3) := by decide +kernel
theorem dX3_layBounds_92 : decode cX3_layBounds 92 = .ok (.iload 6, 2) := by decide +kernel
theorem dX3_layBounds_94 : decode cX3_layBounds 94 = .ok (.iaload, 1) := by decide +kernel
theorem dX3_layBounds_95 : decode cX3_layBounds 95 = .ok (.aload_n 1, 1) := by decide +kernel
theorem dX3_layBounds_96 : decode cX3_layBounds 96 = .ok (.getfield 86, 3) := by decide +kernel
theorem dX3_layBounds_99 : decode cX3_layBounds 99 = .ok (.iadd, 1) := by decide +kernel
theorem dX3_layBounds_100 : decode cX3_layBounds 100 = .ok (.iload 4, 2) := by decide +kernel
theorem dX3_layBounds_102 : decode cX3_layBounds 102 = .ok (.iadd, 1) := by decide +kernel
theorem dX3_layBounds_103 : decode cX3_layBounds 103 = .ok (.imul, 1) := by decide +kernel
theorem dX3_layBounds_104 : decode cX3_layBounds 104 = .ok (.isub, 1) := by decide +kernel
theorem dX3_layBounds_105 : decode cX3_layBounds 105 = .ok (.istore 9, 2) := by decide +kernel
theorem dX3_layBounds_107 : decode cX3_layBounds 107 = .ok (.iload_n 3, 1) := by decide +kernel
theorem dX3_layBounds_108 : decode cX3_layBounds 108 = .ok (.aload_n 1, 1) := by decide +kernel
theorem dX3_layBounds_109 : decode cX3_layBounds 109 = .ok (.iload 6, 2) := by decide +kernel
theorem dX3_layBounds_111 : decode cX3_layBounds 111 = .ok (.invokevirtual 89, 3) := by decide +kernel
theorem dX3_layBounds_114 : decode cX3_layBounds 114 = .ok (.iload 4, 2) := by decide +kernel
theorem dX3_layBounds_116 : decode cX3_layBounds 116 = .ok (.isub, 1) := by decide +kernel
theorem dX3_layBounds_117 : decode cX3_layBounds 117 = .ok (.imul, 1) := by decide +kernel
theorem dX3_layBounds_118 : decode cX3_layBounds 118 = .ok (.istore 10, 2) := by decide +kernel
theorem dX3_layBounds_120 : decode cX3_layBounds 120 = .ok (.aload_n 0, 1) := by decide +kernel
theorem dX3_layBounds_121 : decode cX3_layBounds 121 = .ok (.iload 7, 2) := by decide +kernel
theorem dX3_layBounds_123 : decode cX3_layBounds 123 = .ok (.iload 8, 2) := by decide +kernel
theorem dX3_layBounds_125 : decode cX3_layBounds 125 = .ok (.iload 9, 2) := by decide +kernel
theorem dX3_layBounds_127 : decode cX3_layBounds 127 = .ok (.iload 5, 2) := by decide +kernel
theorem dX3_layBounds_129 : decode cX3_layBounds 129 = .ok (.invokevirtual 93, 3) := by decide +kernel
theorem dX3_layBounds_132 : decode cX3_layBounds 132 = .ok (.aload_n 0, 1) := by decide +kernel
theorem dX3_layBounds_133 : decode cX3_layBounds 133 = .ok (.iload 8, 2) := by decide +kernel
theorem dX3_layBounds_135 : decode cX3_layBounds 135 = .ok (.iload 7, 2) := by decide +kernel
theorem dX3_layBounds_137 : decode cX3_layBounds 137 = .ok (.iload 10, 2) := by decide +kernel
theorem dX3_layBounds_139 : decode cX3_layBounds 139 = .ok (.iload 5, 2) := by decide +kernel
theorem dX3_layBounds_141 : decode cX3_layBounds 141 = .ok (.invokevirtual 93, 3) := by decide +kernel
theorem dX3_layBounds_144 : decode cX3_layBounds 144 = .ok (.iinc 6 1, 3) := by decide +kernel
theorem dX3_layBounds_147 : decode cX3_layBounds 147 = .ok (.goto (-88), 3) := by decide +kernel
theorem dX3_layBounds_150 : decode cX3_layBounds 150 = .ok (.return_, 1) := by decide +kernel
theorem dX3_tighten_0 : decode cX3_tighten 0 = .ok (.iload 4, 2) := by decide +kernel
theorem dX3_tighten_2 : decode cX3_tighten 2 = .ok (.ifCond .le 28, 3) := by decide +kernel
theorem dX3_tighten_5 : decode cX3_tighten 5 = .ok (.aload_n 0, 1) := by decide +kernel
theorem dX3_tighten_6 : decode cX3_tighten 6 = .ok (.getfield 13, 3) := by decide +kernel
theorem dX3_tighten_9 : decode cX3_tighten 9 = .ok (.iload_n 1, 1) := by decide +kernel
theorem dX3_tighten_10 : decode cX3_tighten 10 = .ok (.aaload, 1) := by decide +kernel
theorem dX3_tighten_11 : decode cX3_tighten 11 = .ok (.iload_n 2, 1) := by decide +kernel
theorem dX3_tighten_12 : decode cX3_tighten 12 = .ok (.aload_n 0, 1) := by decide +kernel
theorem dX3_tighten_13 : decode cX3_tighten 13 = .ok (.getfield 13, 3) := by decide +kernel
theorem dX3_tighten_16 : decode cX3_tighten 16 = .ok (.iload_n 1, 1) := by decide +kernel
theorem dX3_tighten_17 : decode cX3_tighten 17 = .ok (.aaload, 1) := by decide +kernel
theorem dX3_tighten_18 : decode cX3_tighten 18 = .ok (.iload_n 2, 1) := by decide +kernel
theorem dX3_tighten_19 : decode cX3_tighten 19 = .ok (.iaload, 1) := by decide +kernel
theorem dX3_tighten_20 : decode cX3_tighten 20 = .ok (.iload_n 3, 1) := by decide +kernel
theorem dX3_tighten_21 : decode cX3_tighten 21 = .ok (.iload 4, 2) := by decide +kernel
theorem dX3_tighten_23 : decode cX3_tighten 23 = .ok (.invokestatic 66, 3) := by decide +kernel
theorem dX3_tighten_26 : decode cX3_tighten 26 = .ok (.invokestatic 97, 3) := by decide +kernel
theorem dX3_tighten_29 : decode cX3_tighten 29 = .ok (.iastore, 1) := by decide +kernel
theorem dX3_tighten_30 : decode cX3_tighten 30 = .ok (.return_, 1) := by decide +kernel
theorem dX3_settle_0 : decode cX3_settle 0 = .ok (.iconst 0, 1) := by decide +kernel
theorem dX3_settle_1 : decode cX3_settle 1 = .ok (.istore_n 1, 1) := by decide +kernel
theorem dX3_settle_2 : decode cX3_settle 2 = .ok (.iload_n 1, 1) := by decide +kernel
theorem dX3_settle_3 : decode cX3_settle 3 = .ok (.aload_n 0, 1) := by decide +kernel
theorem dX3_settle_4 : decode cX3_settle 4 = .ok (.getfield 72, 3) := by decide +kernel
theorem dX3_settle_7 : decode cX3_settle 7 = .ok (.if_icmp .ge 16, 3) := by decide +kernel
theorem dX3_settle_10 : decode cX3_settle 10 = .ok (.aload_n 0, 1) := by decide +kernel
theorem dX3_settle_11 : decode cX3_settle 11 = .ok (.getfield 18, 3) := by decide +kernel
theorem dX3_settle_14 : decode cX3_settle 14 = .ok (.iload_n 1, 1) := by decide +kernel
theorem dX3_settle_15 : decode cX3_settle 15 = .ok (.iconst 0, 1) := by decide +kernel
theorem dX3_settle_16 : decode cX3_settle 16 = .ok (.iastore, 1) := by decide +kernel
theorem dX3_settle_17 : decode cX3_settle 17 = .ok (.iinc 1 1, 3) := by decide +kernel
theorem dX3_settle_20 : decode cX3_settle 20 = .ok (.goto (-18), 3) := by decide +kernel
theorem dX3_settle_23 : decode cX3_settle 23 = .ok (.iconst 0, 1) := by decide +kernel
theorem dX3_settle_24 : decode cX3_settle 24 = .ok (.istore_n 1, 1) := by decide +kernel
theorem dX3_settle_25 : decode cX3_settle 25 = .ok (.iload_n 1, 1) := by decide +kernel
theorem dX3_settle_26 : decode cX3_settle 26 = .ok (.aload_n 0, 1) := by decide +kernel
theorem dX3_settle_27 : decode cX3_settle 27 = .ok (.getfield 72, 3) := by decide +kernel
theorem dX3_settle_30 : decode cX3_settle 30 = .ok (.if_icmp .ge 18, 3) := by decide +kernel
theorem dX3_settle_33 : decode cX3_settle 33 = .ok (.aload_n 0, 1) := by decide +kernel
theorem dX3_settle_34 : decode cX3_settle 34 = .ok (.invokevirtual 100, 3) := by decide +kernel
theorem dX3_settle_37 : decode cX3_settle 37 = .ok (.ifCond .ne 5, 3) := by decide +kernel
theorem dX3_settle_40 : decode cX3_settle 40 = .ok (.iconst 1, 1) := by decide +kernel
theorem dX3_settle_41 : decode cX3_settle 41 = .ok (.ireturn, 1) := by decide +kernel
theorem dX3_settle_42 : decode cX3_settle 42 = .ok (.iinc 1 1, 3) := by decide +kernel
theorem dX3_settle_45 : decode cX3_settle 45 = .ok (.goto (-20), 3) := by decide +kernel
theorem dX3_settle_48 : decode cX3_settle 48 = .ok (.iconst 0, 1) := by decide +kernel
theorem dX3_settle_49 : decode cX3_settle 49 = .ok (.ireturn, 1) := by decide +kernel
theorem dX3_lowerOnce_0 : decode cX3_lowerOnce 0 = .ok (.iconst 0, 1) := by decide +kernel
theorem dX3_lowerOnce_1 : decode cX3_lowerOnce 1 = .ok (.istore_n 1, 1) := by decide +kernel
theorem dX3_lowerOnce_2 : decode cX3_lowerOnce 2 = .ok (.iconst 0, 1) := by decide +kernel
theorem dX3_lowerOnce_3 : decode cX3_lowerOnce 3 = .ok (.istore_n 2, 1) := by decide +kernel
theorem dX3_lowerOnce_4 : decode cX3_lowerOnce 4 = .ok (.iload_n 2, 1) := by decide +kernel
theorem dX3_lowerOnce_5 : decode cX3_lowerOnce 5 = .ok (.aload_n 0, 1) := by decide +kernel
theorem dX3_lowerOnce_6 : decode cX3_lowerOnce 6 = .ok (.getfield 72, 3) := by decide +kernel
theorem dX3_lowerOnce_9 : decode cX3_lowerOnce 9 = .ok (.if_icmp .ge 77, 3) := by decide +kernel
theorem dX3_lowerOnce_12 : decode cX3_lowerOnce 12 = .ok (.iconst 0, 1) := by decide +kernel
theorem dX3_lowerOnce_13 : decode cX3_lowerOnce 13 = .ok (.istore_n 3, 1) := by decide +kernel
theorem dX3_lowerOnce_14 : decode cX3_lowerOnce 14 = .ok (.iload_n 3, 1) := by decide +kernel
theorem dX3_lowerOnce_15 : decode cX3_lowerOnce 15 = .ok (.aload_n 0, 1) := by decide +kernel
theorem dX3_lowerOnce_16 : decode cX3_lowerOnce 16 = .ok (.getfield 72, 3) := by decide +kernel
theorem dX3_lowerOnce_19 : decode cX3_lowerOnce 19 = .ok (.if_icmp .ge 61, 3) := by decide +kernel
theorem dX3_lowerOnce_22 : decode cX3_lowerOnce 22 = .ok (.aload_n 0, 1) := by decide +kernel
theorem dX3_lowerOnce_23 : decode cX3_lowerOnce 23 = .ok (.getfield 13, 3) := by decide +kernel
theorem dX3_lowerOnce_26 : decode cX3_lowerOnce 26 = .ok (.iload_n 2, 1) := by decide +kernel
theorem dX3_lowerOnce_27 : decode cX3_lowerOnce 27 = .ok (.aaload, 1) := by decide +kernel
theorem dX3_lowerOnce_28 : decode cX3_lowerOnce 28 = .ok (.iload_n 3, 1) := by decide +kernel
theorem dX3_lowerOnce_29 : decode cX3_lowerOnce 29 = .ok (.iaload, 1) := by decide +kernel
theorem dX3_lowerOnce_30 : decode cX3_lowerOnce 30 = .ok (.istore 4, 2) := by decide +kernel
theorem dX3_lowerOnce_32 : decode cX3_lowerOnce 32 = .ok (.iload 4, 2) := by decide +kernel
theorem dX3_lowerOnce_34 : decode cX3_lowerOnce 34 = .ok (.ldc 73, 2) := by decide +kernel
theorem dX3_lowerOnce_36 : decode cX3_lowerOnce 36 = .ok (.if_icmp .eq 38, 3) := by decide +kernel
theorem dX3_lowerOnce_39 : decode cX3_lowerOnce 39 = .ok (.aload_n 0, 1) := by decide +kernel
theorem dX3_lowerOnce_40 : decode cX3_lowerOnce 40 = .ok (.getfield 18, 3) := by decide +kernel
theorem dX3_lowerOnce_43 : decode cX3_lowerOnce 43 = .ok (.iload_n 3, 1) := by decide +kernel
theorem dX3_lowerOnce_44 : decode cX3_lowerOnce 44 = .ok (.iaload, 1) := by decide +kernel
theorem dX3_lowerOnce_45 : decode cX3_lowerOnce 45 = .ok (.iload 4, 2) := by decide +kernel
theorem dX3_lowerOnce_47 : decode cX3_lowerOnce 47 = .ok (.iadd, 1) := by decide +kernel
theorem dX3_lowerOnce_48 : decode cX3_lowerOnce 48 = .ok (.aload_n 0, 1) := by decide +kernel
theorem dX3_lowerOnce_49 : decode cX3_lowerOnce 49 = .ok (.getfield 18, 3) := by decide +kernel
theorem dX3_lowerOnce_52 : decode cX3_lowerOnce 52 = .ok (.iload_n 2, 1) := by decide +kernel
theorem dX3_lowerOnce_53 : decode cX3_lowerOnce 53 = .ok (.iaload, 1) := by decide +kernel
theorem dX3_lowerOnce_54 : decode cX3_lowerOnce 54 = .ok (.if_icmp .ge 20, 3) := by decide +kernel
theorem dX3_lowerOnce_57 : decode cX3_lowerOnce 57 = .ok (.aload_n 0, 1) := by decide +kernel
theorem dX3_lowerOnce_58 : decode cX3_lowerOnce 58 = .ok (.getfield 18, 3) := by decide +kernel
theorem dX3_lowerOnce_61 : decode cX3_lowerOnce 61 = .ok (.iload_n 2, 1) := by decide +kernel
theorem dX3_lowerOnce_62 : decode cX3_lowerOnce 62 = .ok (.aload_n 0, 1) := by decide +kernel
theorem dX3_lowerOnce_63 : decode cX3_lowerOnce 63 = .ok (.getfield 18, 3) := by decide +kernel
theorem dX3_lowerOnce_66 : decode cX3_lowerOnce 66 = .ok (.iload_n 3, 1) := by decide +kernel
theorem dX3_lowerOnce_67 : decode cX3_lowerOnce 67 = .ok (.iaload, 1) := by decide +kernel
theorem dX3_lowerOnce_68 : decode cX3_lowerOnce 68 = .ok (.iload 4, 2) := by decide +kernel
theorem dX3_lowerOnce_70 : decode cX3_lowerOnce 70 = .ok (.iadd, 1) := by decide +kernel
theorem dX3_lowerOnce_71 : decode cX3_lowerOnce 71 = .ok (.iastore, 1) := by decide +kernel
theorem dX3_lowerOnce_72 : decode cX3_lowerOnce 72 = .ok (.iconst 1, 1) := by decide +kernel
theorem dX3_lowerOnce_73 : decode cX3_lowerOnce 73 = .ok (.istore_n 1, 1) := by decide +kernel
theorem dX3_lowerOnce_74 : decode cX3_lowerOnce 74 = .ok (.iinc 3 1, 3) := by decide +kernel
theorem dX3_lowerOnce_77 : decode cX3_lowerOnce 77 = .ok (.goto (-63), 3) := by decide +kernel
theorem dX3_lowerOnce_80 : decode cX3_lowerOnce 80 = .ok (.iinc 2 1, 3) := by decide +kernel
theorem dX3_lowerOnce_83 : decode cX3_lowerOnce 83 = .ok (.goto (-79), 3) := by decide +kernel
theorem dX3_lowerOnce_86 : decode cX3_lowerOnce 86 = .ok (.iload_n 1, 1) := by decide +kernel
theorem dX3_lowerOnce_87 : decode cX3_lowerOnce 87 = .ok (.ireturn, 1) := by decide +kernel
theorem dX3_findRing_0 : decode cX3_findRing 0 = .ok (.aload_n 0, 1) := by decide +kernel
theorem dX3_findRing_1 : decode cX3_findRing 1 = .ok (.iconst 0, 1) := by decide +kernel
theorem dX3_findRing_2 : decode cX3_findRing 2 = .ok (.putfield 25, 3) := by decide +kernel
theorem dX3_findRing_5 : decode cX3_findRing 5 = .ok (.iconst 0, 1) := by decide +kernel
theorem dX3_findRing_6 : decode cX3_findRing 6 = .ok (.istore_n 1, 1) := by decide +kernel
theorem dX3_findRing_7 : decode cX3_findRing 7 = .ok (.iload_n 1, 1) := by decide +kernel
theorem dX3_findRing_8 : decode cX3_findRing 8 = .ok (.aload_n 0, 1) := by decide +kernel
theorem dX3_findRing_9 : decode cX3_findRing 9 = .ok (.getfield 72, 3) := by decide +kernel
theorem dX3_findRing_12 : decode cX3_findRing 12 = .ok (.if_icmp .ge 27, 3) := by decide +kernel
theorem dX3_findRing_15 : decode cX3_findRing 15 = .ok (.aload_n 0, 1) := by decide +kernel
theorem dX3_findRing_16 : decode cX3_findRing 16 = .ok (.getfield 22, 3) := by decide +kernel
theorem dX3_findRing_19 : decode cX3_findRing 19 = .ok (.iconst 0, 1) := by decide +kernel
theorem dX3_findRing_20 : decode cX3_findRing 20 = .ok (.iload_n 1, 1) := by decide +kernel
theorem dX3_findRing_21 : decode cX3_findRing 21 = .ok (.iastore, 1) := by decide +kernel
theorem dX3_findRing_22 : decode cX3_findRing 22 = .ok (.aload_n 0, 1) := by decide +kernel
theorem dX3_findRing_23 : decode cX3_findRing 23 = .ok (.iconst 1, 1) := by decide +kernel
theorem dX3_findRing_24 : decode cX3_findRing 24 = .ok (.iconst 0, 1) := by decide +kernel
theorem dX3_findRing_25 : decode cX3_findRing 25 = .ok (.invokevirtual 103, 3) := by decide +kernel
theorem dX3_findRing_28 : decode cX3_findRing 28 = .ok (.ifCond .eq 5, 3) := by decide +kernel
theorem dX3_findRing_31 : decode cX3_findRing 31 = .ok (.iconst 1, 1) := by decide +kernel
theorem dX3_findRing_32 : decode cX3_findRing 32 = .ok (.ireturn, 1) := by decide +kernel
theorem dX3_findRing_33 : decode cX3_findRing 33 = .ok (.iinc 1 1, 3) := by decide +kernel
theorem dX3_findRing_36 : decode cX3_findRing 36 = .ok (.goto (-29), 3) := by decide +kernel
theorem dX3_findRing_39 : decode cX3_findRing 39 = .ok (.iconst 0, 1) := by decide +kernel
theorem dX3_findRing_40 : decode cX3_findRing 40 = .ok (.ireturn, 1) := by decide +kernel
theorem dX3_closesFrom_0 : decode cX3_closesFrom 0 = .ok (.aload_n 0, 1) := by decide +kernel
theorem dX3_closesFrom_1 : decode cX3_closesFrom 1 = .ok (.getfield 22, 3) := by decide +kernel
theorem dX3_closesFrom_4 : decode cX3_closesFrom 4 = .ok (.iconst 0, 1) := by decide +kernel
theorem dX3_closesFrom_5 : decode cX3_closesFrom 5 = .ok (.iaload, 1) := by decide +kernel
theorem dX3_closesFrom_6 : decode cX3_closesFrom 6 = .ok (.istore_n 3, 1) := by decide +kernel
theorem dX3_closesFrom_7 : decode cX3_closesFrom 7 = .ok (.aload_n 0, 1) := by decide +kernel
theorem dX3_closesFrom_8 : decode cX3_closesFrom 8 = .ok (.getfield 22, 3) := by decide +kernel
theorem dX3_closesFrom_11 : decode cX3_closesFrom 11 = .ok (.iload_n 1, 1) := by decide +kernel
theorem dX3_closesFrom_12 : decode cX3_closesFrom 12 = .ok (.iconst 1, 1) := by decide +kernel
theorem dX3_closesFrom_13 : decode cX3_closesFrom 13 = .ok (.isub, 1) := by decide +kernel
theorem dX3_closesFrom_14 : decode cX3_closesFrom 14 = .ok (.iaload, 1) := by decide +kernel
theorem dX3_closesFrom_15 : decode cX3_closesFrom 15 = .ok (.istore 4, 2) := by decide +kernel
theorem dX3_closesFrom_17 : decode cX3_closesFrom 17 = .ok (.aload_n 0, 1) := by decide +kernel
theorem dX3_closesFrom_18 : decode cX3_closesFrom 18 = .ok (.getfield 13, 3) := by decide +kernel
theorem dX3_closesFrom_21 : decode cX3_closesFrom 21 = .ok (.iload 4, 2) := by decide +kernel
theorem dX3_closesFrom_23 : decode cX3_closesFrom 23 = .ok (.aaload, 1) := by decide +kernel
theorem dX3_closesFrom_24 : decode cX3_closesFrom 24 = .ok (.iload_n 3, 1) := by decide +kernel
theorem dX3_closesFrom_25 : decode cX3_closesFrom 25 = .ok (.iaload, 1) := by decide +kernel
theorem dX3_closesFrom_26 : decode cX3_closesFrom 26 = .ok (.istore 5, 2) := by decide +kernel
theorem dX3_closesFrom_28 : decode cX3_closesFrom 28 = .ok (.iload 5, 2) := by decide +kernel
theorem dX3_closesFrom_30 : decode cX3_closesFrom 30 = .ok (.ldc 73, 2) := by decide +kernel
theorem dX3_closesFrom_32 : decode cX3_closesFrom 32 = .ok (.if_icmp .eq 17, 3) := by decide +kernel
theorem dX3_closesFrom_35 : decode cX3_closesFrom 35 = .ok (.iload_n 2, 1) := by decide +kernel
theorem dX3_closesFrom_36 : decode cX3_closesFrom 36 = .ok (.iload 5, 2) := by decide +kernel
theorem dX3_closesFrom_38 : decode cX3_closesFrom 38 = .ok (.iadd, 1) := by decide +kernel
theorem dX3_closesFrom_39 : decode cX3_closesFrom 39 = .ok (.ifCond .ge 10, 3) := by decide +kernel
theorem dX3_closesFrom_42 : decode cX3_closesFrom 42 = .ok (.aload_n 0, 1) := by decide +kernel
theorem dX3_closesFrom_43 : decode cX3_closesFrom 43 = .ok (.iload_n 1, 1) := by decide +kernel
theorem dX3_closesFrom_44 : decode cX3_closesFrom 44 = .ok (.putfield 25, 3) := by decide +kernel
theorem dX3_closesFrom_47 : decode cX3_closesFrom 47 = .ok (.iconst 1, 1) := by decide +kernel
theorem dX3_closesFrom_48 : decode cX3_closesFrom 48 = .ok (.ireturn, 1) := by decide +kernel
theorem dX3_closesFrom_49 : decode cX3_closesFrom 49 = .ok (.iload_n 1, 1) := by decide +kernel
theorem dX3_closesFrom_50 : decode cX3_closesFrom 50 = .ok (.aload_n 0, 1) := by decide +kernel
theorem dX3_closesFrom_51 : decode cX3_closesFrom 51 = .ok (.getfield 72, 3) := by decide +kernel
theorem dX3_closesFrom_54 : decode cX3_closesFrom 54 = .ok (.if_icmp .lt 5, 3) := by decide +kernel
theorem dX3_closesFrom_57 : decode cX3_closesFrom 57 = .ok (.iconst 0, 1) := by decide +kernel
theorem dX3_closesFrom_58 : decode cX3_closesFrom 58 = .ok (.ireturn, 1) := by decide +kernel
theorem dX3_closesFrom_59 : decode cX3_closesFrom 59 = .ok (.iload_n 3, 1) := by decide +kernel
theorem dX3_closesFrom_60 : decode cX3_closesFrom 60 = .ok (.iconst 1, 1) := by decide +kernel
theorem dX3_closesFrom_61 : decode cX3_closesFrom 61 = .ok (.iadd, 1) := by decide +kernel
theorem dX3_closesFrom_62 : decode cX3_closesFrom 62 = .ok (.istore 6, 2) := by decide +kernel
theorem dX3_closesFrom_64 : decode cX3_closesFrom 64 = .ok (.iload 6, 2) := by decide +kernel
theorem dX3_closesFrom_66 : decode cX3_closesFrom 66 = .ok (.aload_n 0, 1) := by decide +kernel
theorem dX3_closesFrom_67 : decode cX3_closesFrom 67 = .ok (.getfield 72, 3) := by decide +kernel
theorem dX3_closesFrom_70 : decode cX3_closesFrom 70 = .ok (.if_icmp .ge 65, 3) := by decide +kernel
theorem dX3_closesFrom_73 : decode cX3_closesFrom 73 = .ok (.aload_n 0, 1) := by decide +kernel
theorem dX3_closesFrom_74 : decode cX3_closesFrom 74 = .ok (.getfield 13, 3) := by decide +kernel
theorem dX3_closesFrom_77 : decode cX3_closesFrom 77 = .ok (.iload 4, 2) := by decide +kernel
theorem dX3_closesFrom_79 : decode cX3_closesFrom 79 = .ok (.aaload, 1) := by decide +kernel
theorem dX3_closesFrom_80 : decode cX3_closesFrom 80 = .ok (.iload 6, 2) := by decide +kernel
theorem dX3_closesFrom_82 : decode cX3_closesFrom 82 = .ok (.iaload, 1) := by decide +kernel
theorem dX3_closesFrom_83 : decode cX3_closesFrom 83 = .ok (.istore 7, 2) := by decide +kernel
theorem dX3_closesFrom_85 : decode cX3_closesFrom 85 = .ok (.iload 7, 2) := by decide +kernel
theorem dX3_closesFrom_87 : decode cX3_closesFrom 87 = .ok (.ldc 73, 2) := by decide +kernel
theorem dX3_closesFrom_89 : decode cX3_closesFrom 89 = .ok (.if_icmp .eq 40, 3) := by decide +kernel
theorem dX3_closesFrom_92 : decode cX3_closesFrom 92 = .ok (.aload_n 0, 1) := by decide +kernel
theorem dX3_closesFrom_93 : decode cX3_closesFrom 93 = .ok (.iload 6, 2) := by decide +kernel
theorem dX3_closesFrom_95 : decode cX3_closesFrom 95 = .ok (.iload_n 1, 1) := by decide +kernel
theorem dX3_closesFrom_96 : decode cX3_closesFrom 96 = .ok (.invokevirtual 107, 3) := by decide +kernel
theorem dX3_closesFrom_99 : decode cX3_closesFrom 99 = .ok (.ifCond .eq 6, 3) := by decide +kernel
theorem dX3_closesFrom_102 : decode cX3_closesFrom 102 = .ok (.goto 27, 3) := by decide +kernel
theorem dX3_closesFrom_105 : decode cX3_closesFrom 105 = .ok (.aload_n 0, 1) := by decide +kernel
theorem dX3_closesFrom_106 : decode cX3_closesFrom 106 = .ok (.getfield 22, 3) := by decide +kernel
theorem dX3_closesFrom_109 : decode cX3_closesFrom 109 = .ok (.iload_n 1, 1) := by decide +kernel
theorem dX3_closesFrom_110 : decode cX3_closesFrom 110 = .ok (.iload 6, 2) := by decide +kernel
theorem dX3_closesFrom_112 : decode cX3_closesFrom 112 = .ok (.iastore, 1) := by decide +kernel
theorem dX3_closesFrom_113 : decode cX3_closesFrom 113 = .ok (.aload_n 0, 1) := by decide +kernel
theorem dX3_closesFrom_114 : decode cX3_closesFrom 114 = .ok (.iload_n 1, 1) := by decide +kernel
theorem dX3_closesFrom_115 : decode cX3_closesFrom 115 = .ok (.iconst 1, 1) := by decide +kernel
theorem dX3_closesFrom_116 : decode cX3_closesFrom 116 = .ok (.iadd, 1) := by decide +kernel
theorem dX3_closesFrom_117 : decode cX3_closesFrom 117 = .ok (.iload_n 2, 1) := by decide +kernel
theorem dX3_closesFrom_118 : decode cX3_closesFrom 118 = .ok (.iload 7, 2) := by decide +kernel
theorem dX3_closesFrom_120 : decode cX3_closesFrom 120 = .ok (.iadd, 1) := by decide +kernel
theorem dX3_closesFrom_121 : decode cX3_closesFrom 121 = .ok (.invokevirtual 103, 3) := by decide +kernel
theorem dX3_closesFrom_124 : decode cX3_closesFrom 124 = .ok (.ifCond .eq 5, 3) := by decide +kernel
theorem dX3_closesFrom_127 : decode cX3_closesFrom 127 = .ok (.iconst 1, 1) := by decide +kernel
theorem dX3_closesFrom_128 : decode cX3_closesFrom 128 = .ok (.ireturn, 1) := by decide +kernel
theorem dX3_closesFrom_129 : decode cX3_closesFrom 129 = .ok (.iinc 6 1, 3) := by decide +kernel
theorem dX3_closesFrom_132 : decode cX3_closesFrom 132 = .ok (.goto (-68), 3) := by decide +kernel
theorem dX3_closesFrom_135 : decode cX3_closesFrom 135 = .ok (.iconst 0, 1) := by decide +kernel
theorem dX3_closesFrom_136 : decode cX3_closesFrom 136 = .ok (.ireturn, 1) := by decide +kernel
theorem dX3_isInRing_0 : decode cX3_isInRing 0 = .ok (.iconst 0, 1) := by decide +kernel
theorem dX3_isInRing_1 : decode cX3_isInRing 1 = .ok (.istore_n 3, 1) := by decide +kernel
theorem dX3_isInRing_2 : decode cX3_isInRing 2 = .ok (.iload_n 3, 1) := by decide +kernel
theorem dX3_isInRing_3 : decode cX3_isInRing 3 = .ok (.iload_n 2, 1) := by decide +kernel
theorem dX3_isInRing_4 : decode cX3_isInRing 4 = .ok (.if_icmp .ge 21, 3) := by decide +kernel
theorem dX3_isInRing_7 : decode cX3_isInRing 7 = .ok (.aload_n 0, 1) := by decide +kernel
theorem dX3_isInRing_8 : decode cX3_isInRing 8 = .ok (.getfield 22, 3) := by decide +kernel
theorem dX3_isInRing_11 : decode cX3_isInRing 11 = .ok (.iload_n 3, 1) := by decide +kernel
theorem dX3_isInRing_12 : decode cX3_isInRing 12 = .ok (.iaload, 1) := by decide +kernel
theorem dX3_isInRing_13 : decode cX3_isInRing 13 = .ok (.iload_n 1, 1) := by decide +kernel
theorem dX3_isInRing_14 : decode cX3_isInRing 14 = .ok (.if_icmp .ne 5, 3) := by decide +kernel
theorem dX3_isInRing_17 : decode cX3_isInRing 17 = .ok (.iconst 1, 1) := by decide +kernel
theorem dX3_isInRing_18 : decode cX3_isInRing 18 = .ok (.ireturn, 1) := by decide +kernel
theorem dX3_isInRing_19 : decode cX3_isInRing 19 = .ok (.iinc 3 1, 3) := by decide +kernel
theorem dX3_isInRing_22 : decode cX3_isInRing 22 = .ok (.goto (-20), 3) := by decide +kernel
theorem dX3_isInRing_25 : decode cX3_isInRing 25 = .ok (.iconst 0, 1) := by decide +kernel
theorem dX3_isInRing_26 : decode cX3_isInRing 26 = .ok (.ireturn, 1) := by decide +kernel
theorem dX4_init_0 : decode cX4_init 0 = .ok (.aload_n 0, 1) := by decide +kernel
theorem dX4_init_1 : decode cX4_init 1 = .ok (.invokespecial 3, 3) := by decide +kernel
theorem dX4_init_4 : decode cX4_init 4 = .ok (.aload_n 0, 1) := by decide +kernel
theorem dX4_init_5 : decode cX4_init 5 = .ok (.sipush 200, 3) := by decide +kernel
theorem dX4_init_8 : decode cX4_init 8 = .ok (.newarray .char, 2) := by decide +kernel
theorem dX4_init_10 : decode cX4_init 10 = .ok (.putfield 9, 3) := by decide +kernel
theorem dX4_init_13 : decode cX4_init 13 = .ok (.return_, 1) := by decide +kernel
theorem dX4_letterCount_0 : decode cX4_letterCount 0 = .ok (.aload_n 0, 1) := by decide +kernel
theorem dX4_letterCount_1 : decode cX4_letterCount 1 = .ok (.getfield 15, 3) := by decide +kernel
theorem dX4_letterCount_4 : decode cX4_letterCount 4 = .ok (.ireturn, 1) := by decide +kernel
theorem dX4_clauseCount_0 : decode cX4_clauseCount 0 = .ok (.aload_n 0, 1) := by decide +kernel
theorem dX4_clauseCount_1 : decode cX4_clauseCount 1 = .ok (.getfield 19, 3) := by decide +kernel
theorem dX4_clauseCount_4 : decode cX4_clauseCount 4 = .ok (.ireturn, 1) := by decide +kernel
theorem dX4_clear_0 : decode cX4_clear 0 = .ok (.aload_n 0, 1) := by decide +kernel
theorem dX4_clear_1 : decode cX4_clear 1 = .ok (.iconst 0, 1) := by decide +kernel
theorem dX4_clear_2 : decode cX4_clear 2 = .ok (.putfield 15, 3) := by decide +kernel
theorem dX4_clear_5 : decode cX4_clear 5 = .ok (.return_, 1) := by decide +kernel
theorem dX4_append_0 : decode cX4_append 0 = .ok (.aload_n 0, 1) := by decide +kernel
theorem dX4_append_1 : decode cX4_append 1 = .ok (.getfield 15, 3) := by decide +kernel
theorem dX4_append_4 : decode cX4_append 4 = .ok (.sipush 200, 3) := by decide +kernel
theorem dX4_append_7 : decode cX4_append 7 = .ok (.if_icmp .lt 5, 3) := by decide +kernel
theorem dX4_append_10 : decode cX4_append 10 = .ok (.iconst 0, 1) := by decide +kernel
theorem dX4_append_11 : decode cX4_append 11 = .ok (.ireturn, 1) := by decide +kernel
theorem dX4_append_12 : decode cX4_append 12 = .ok (.aload_n 0, 1) := by decide +kernel
theorem dX4_append_13 : decode cX4_append 13 = .ok (.getfield 9, 3) := by decide +kernel
theorem dX4_append_16 : decode cX4_append 16 = .ok (.aload_n 0, 1) := by decide +kernel
theorem dX4_append_17 : decode cX4_append 17 = .ok (.getfield 15, 3) := by decide +kernel
theorem dX4_append_20 : decode cX4_append 20 = .ok (.iload_n 1, 1) := by decide +kernel
theorem dX4_append_21 : decode cX4_append 21 = .ok (.castore, 1) := by decide +kernel
theorem dX4_append_22 : decode cX4_append 22 = .ok (.aload_n 0, 1) := by decide +kernel
theorem dX4_append_23 : decode cX4_append 23 = .ok (.dup, 1) := by decide +kernel
theorem dX4_append_24 : decode cX4_append 24 = .ok (.getfield 15, 3) := by decide +kernel
theorem dX4_append_27 : decode cX4_append 27 = .ok (.iconst 1, 1) := by decide +kernel
theorem dX4_append_28 : decode cX4_append 28 = .ok (.iadd, 1) := by decide +kernel
theorem dX4_append_29 : decode cX4_append 29 = .ok (.putfield 15, 3) := by decide +kernel
theorem dX4_append_32 : decode cX4_append 32 = .ok (.iconst 1, 1) := by decide +kernel
theorem dX4_append_33 : decode cX4_append 33 = .ok (.ireturn, 1) := by decide +kernel
theorem dX4_read_0 : decode cX4_read 0 = .ok (.aload_n 2, 1) := by decide +kernel
theorem dX4_read_1 : decode cX4_read 1 = .ok (.aload_n 1, 1) := by decide +kernel
theorem dX4_read_2 : decode cX4_read 2 = .ok (.invokevirtual 22, 3) := by decide +kernel
theorem dX4_read_5 : decode cX4_read 5 = .ok (.aload_n 0, 1) := by decide +kernel
theorem dX4_read_6 : decode cX4_read 6 = .ok (.iconst 0, 1) := by decide +kernel
theorem dX4_read_7 : decode cX4_read 7 = .ok (.putfield 19, 3) := by decide +kernel
theorem dX4_read_10 : decode cX4_read 10 = .ok (.aload_n 0, 1) := by decide +kernel
theorem dX4_read_11 : decode cX4_read 11 = .ok (.iconst 0, 1) := by decide +kernel
theorem dX4_read_12 : decode cX4_read 12 = .ok (.putfield 28, 3) := by decide +kernel
theorem dX4_read_15 : decode cX4_read 15 = .ok (.aload_n 0, 1) := by decide +kernel
theorem dX4_read_16 : decode cX4_read 16 = .ok (.invokevirtual 31, 3) := by decide +kernel
theorem dX4_read_19 : decode cX4_read 19 = .ok (.iconst 1, 1) := by decide +kernel
theorem dX4_read_20 : decode cX4_read 20 = .ok (.istore_n 3, 1) := by decide +kernel
theorem dX4_read_21 : decode cX4_read 21 = .ok (.iload_n 3, 1) := by decide +kernel
theorem dX4_read_22 : decode cX4_read 22 = .ok (.bipush 24, 2) := by decide +kernel
theorem dX4_read_24 : decode cX4_read 24 = .ok (.if_icmp .gt 65, 3) := by decide +kernel
theorem dX4_read_27 : decode cX4_read 27 = .ok (.aload_n 0, 1) := by decide +kernel
theorem dX4_read_28 : decode cX4_read 28 = .ok (.aload_n 2, 1) := by decide +kernel
theorem dX4_read_29 : decode cX4_read 29 = .ok (.invokevirtual 34, 3) := by decide +kernel
theorem dX4_read_32 : decode cX4_read 32 = .ok (.ifCond .ne 8, 3) := by decide +kernel
theorem dX4_read_35 : decode cX4_read 35 = .ok (.aload_n 0, 1) := by decide +kernel
theorem dX4_read_36 : decode cX4_read 36 = .ok (.getfield 38, 3) := by decide +kernel
theorem dX4_read_39 : decode cX4_read 39 = .ok (.ireturn, 1) := by decide +kernel
theorem dX4_read_40 : decode cX4_read 40 = .ok (.aload_n 0, 1) := by decide +kernel
theorem dX4_read_41 : decode cX4_read 41 = .ok (.iload_n 3, 1) := by decide +kernel
theorem dX4_read_42 : decode cX4_read 42 = .ok (.putfield 19, 3) := by decide +kernel
theorem dX4_read_45 : decode cX4_read 45 = .ok (.aload_n 0, 1) := by decide +kernel
theorem dX4_read_46 : decode cX4_read 46 = .ok (.invokevirtual 41, 3) := by decide +kernel
theorem dX4_read_49 : decode cX4_read 49 = .ok (.ifCond .eq 5, 3) := by decide +kernel
theorem dX4_read_52 : decode cX4_read 52 = .ok (.iconst (-1), 1) := by decide +kernel
theorem dX4_read_53 : decode cX4_read 53 = .ok (.ireturn, 1) := by decide +kernel
theorem dX4_read_54 : decode cX4_read 54 = .ok (.aload_n 0, 1) := by decide +kernel
theorem dX4_read_55 : decode cX4_read 55 = .ok (.getfield 9, 3) := by decide +kernel
theorem dX4_read_58 : decode cX4_read 58 = .ok (.aload_n 0, 1) := by decide +kernel
theorem dX4_read_59 : decode cX4_read 59 = .ok (.getfield 38, 3) := by decide +kernel
theorem dX4_read_62 : decode cX4_read 62 = .ok (.caload, 1) := by decide +kernel
theorem dX4_read_63 : decode cX4_read 63 = .ok (.bipush 59, 2) := by decide +kernel
theorem dX4_read_65 : decode cX4_read 65 = .ok (.if_icmp .ne 9, 3) := by decide +kernel
theorem dX4_read_68 : decode cX4_read 68 = .ok (.iload_n 3, 1) := by decide +kernel
theorem dX4_read_69 : decode cX4_read 69 = .ok (.bipush 24, 2) := by decide +kernel
theorem dX4_read_71 : decode cX4_read 71 = .ok (.if_icmp .ne 8, 3) := by decide +kernel
theorem dX4_read_74 : decode cX4_read 74 = .ok (.aload_n 0, 1) := by decide +kernel
theorem dX4_read_75 : decode cX4_read 75 = .ok (.getfield 38, 3) := by decide +kernel
theorem dX4_read_78 : decode cX4_read 78 = .ok (.ireturn, 1) := by decide +kernel
theorem dX4_read_79 : decode cX4_read 79 = .ok (.aload_n 0, 1) := by decide +kernel
theorem dX4_read_80 : decode cX4_read 80 = .ok (.invokevirtual 31, 3) := by decide +kernel
theorem dX4_read_83 : decode cX4_read 83 = .ok (.iinc 3 1, 3) := by decide +kernel
theorem dX4_read_86 : decode cX4_read 86 = .ok (.goto (-65), 3) := by decide +kernel
theorem dX4_read_89 : decode cX4_read 89 = .ok (.aload_n 0, 1) := by decide +kernel
theorem dX4_read_90 : decode cX4_read 90 = .ok (.getfield 38, 3) := by decide +kernel
theorem dX4_read_93 : decode cX4_read 93 = .ok (.ireturn, 1) := by decide +kernel
theorem dX4_isAtEnd_0 : decode cX4_isAtEnd 0 = .ok (.aload_n 0, 1) := by decide +kernel
theorem dX4_isAtEnd_1 : decode cX4_isAtEnd 1 = .ok (.getfield 38, 3) := by decide +kernel
theorem dX4_isAtEnd_4 : decode cX4_isAtEnd 4 = .ok (.aload_n 0, 1) := by decide +kernel
theorem dX4_isAtEnd_5 : decode cX4_isAtEnd 5 = .ok (.getfield 15, 3) := by decide +kernel
theorem dX4_isAtEnd_8 : decode cX4_isAtEnd 8 = .ok (.if_icmp .lt 7, 3) := by decide +kernel
theorem dX4_isAtEnd_11 : decode cX4_isAtEnd 11 = .ok (.iconst 1, 1) := by decide +kernel
theorem dX4_isAtEnd_12 : decode cX4_isAtEnd 12 = .ok (.goto 4, 3) := by decide +kernel
theorem dX4_isAtEnd_15 : decode cX4_isAtEnd 15 = .ok (.iconst 0, 1) := by decide +kernel
theorem dX4_isAtEnd_16 : decode cX4_isAtEnd 16 = .ok (.ireturn, 1) := by decide +kernel
theorem dX4_advance_0 : decode cX4_advance 0 = .ok (.aload_n 0, 1) := by decide +kernel
theorem dX4_advance_1 : decode cX4_advance 1 = .ok (.aload_n 0, 1) := by decide +kernel
theorem dX4_advance_2 : decode cX4_advance 2 = .ok (.getfield 28, 3) := by decide +kernel
theorem dX4_advance_5 : decode cX4_advance 5 = .ok (.putfield 38, 3) := by decide +kernel
theorem dX4_advance_8 : decode cX4_advance 8 = .ok (.aload_n 0, 1) := by decide +kernel
theorem dX4_advance_9 : decode cX4_advance 9 = .ok (.getfield 38, 3) := by decide +kernel
theorem dX4_advance_12 : decode cX4_advance 12 = .ok (.aload_n 0, 1) := by decide +kernel
theorem dX4_advance_13 : decode cX4_advance 13 = .ok (.getfield 15, 3) := by decide +kernel
theorem dX4_advance_16 : decode cX4_advance 16 = .ok (.if_icmp .ge 30, 3) := by decide +kernel
theorem dX4_advance_19 : decode cX4_advance 19 = .ok (.aload_n 0, 1) := by decide +kernel
theorem dX4_advance_20 : decode cX4_advance 20 = .ok (.getfield 9, 3) := by decide +kernel
theorem dX4_advance_23 : decode cX4_advance 23 = .ok (.aload_n 0, 1) := by decide +kernel
theorem dX4_advance_24 : decode cX4_advance 24 = .ok (.getfield 38, 3) := by decide +kernel
theorem dX4_advance_27 : decode cX4_advance 27 = .ok (.caload, 1) := by decide +kernel
theorem dX4_advance_28 : decode cX4_advance 28 = .ok (.bipush 32, 2) := by decide +kernel
theorem dX4_advance_30 : decode cX4_advance 30 = .ok (.if_icmp .ne 16, 3) := by decide +kernel
theorem dX4_advance_33 : decode cX4_advance 33 = .ok (.aload_n 0, 1) := by decide +kernel
theorem dX4_advance_34 : decode cX4_advance 34 = .ok (.dup, 1) := by decide +kernel
theorem dX4_advance_35 : decode cX4_advance 35 = .ok (.getfield 38, 3) := by decide +kernel
theorem dX4_advance_38 : decode cX4_advance 38 = .ok (.iconst 1, 1) := by decide +kernel
theorem dX4_advance_39 : decode cX4_advance 39 = .ok (.iadd, 1) := by decide +kernel
theorem dX4_advance_40 : decode cX4_advance 40 = .ok (.putfield 38, 3) := by decide +kernel
theorem dX4_advance_43 : decode cX4_advance 43 = .ok (.goto (-35), 3) := by decide +kernel
theorem dX4_advance_46 : decode cX4_advance 46 = .ok (.aload_n 0, 1) := by decide +kernel
theorem dX4_advance_47 : decode cX4_advance 47 = .ok (.aload_n 0, 1) := by decide +kernel
theorem dX4_advance_48 : decode cX4_advance 48 = .ok (.getfield 38, 3) := by decide +kernel
theorem dX4_advance_51 : decode cX4_advance 51 = .ok (.putfield 28, 3) := by decide +kernel
theorem dX4_advance_54 : decode cX4_advance 54 = .ok (.aload_n 0, 1) := by decide +kernel
theorem dX4_advance_55 : decode cX4_advance 55 = .ok (.invokevirtual 41, 3) := by decide +kernel
theorem dX4_advance_58 : decode cX4_advance 58 = .ok (.ifCond .eq 4, 3) := by decide +kernel
theorem dX4_advance_61 : decode cX4_advance 61 = .ok (.return_, 1) := by decide +kernel
theorem dX4_advance_62 : decode cX4_advance 62 = .ok (.aload_n 0, 1) := by decide +kernel
theorem dX4_advance_63 : decode cX4_advance 63 = .ok (.getfield 9, 3) := by decide +kernel
theorem dX4_advance_66 : decode cX4_advance 66 = .ok (.aload_n 0, 1) := by decide +kernel
theorem dX4_advance_67 : decode cX4_advance 67 = .ok (.getfield 38, 3) := by decide +kernel
theorem dX4_advance_70 : decode cX4_advance 70 = .ok (.caload, 1) := by decide +kernel
theorem dX4_advance_71 : decode cX4_advance 71 = .ok (.istore_n 1, 1) := by decide +kernel
theorem dX4_advance_72 : decode cX4_advance 72 = .ok (.aload_n 0, 1) := by decide +kernel
theorem dX4_advance_73 : decode cX4_advance 73 = .ok (.dup, 1) := by decide +kernel
theorem dX4_advance_74 : decode cX4_advance 74 = .ok (.getfield 28, 3) := by decide +kernel
theorem dX4_advance_77 : decode cX4_advance 77 = .ok (.iconst 1, 1) := by decide +kernel
theorem dX4_advance_78 : decode cX4_advance 78 = .ok (.iadd, 1) := by decide +kernel
theorem dX4_advance_79 : decode cX4_advance 79 = .ok (.putfield 28, 3) := by decide +kernel
theorem dX4_advance_82 : decode cX4_advance 82 = .ok (.iload_n 1, 1) := by decide +kernel
theorem dX4_advance_83 : decode cX4_advance 83 = .ok (.invokestatic 45, 3) := by decide +kernel
theorem dX4_advance_86 : decode cX4_advance 86 = .ok (.ifCond .ne 11, 3) := by decide +kernel
theorem dX4_advance_89 : decode cX4_advance 89 = .ok (.iload_n 1, 1) := by decide +kernel
theorem dX4_advance_90 : decode cX4_advance 90 = .ok (.invokestatic 49, 3) := by decide +kernel
theorem dX4_advance_93 : decode cX4_advance 93 = .ok (.ifCond .ne 4, 3) := by decide +kernel
theorem dX4_advance_96 : decode cX4_advance 96 = .ok (.return_, 1) := by decide +kernel
theorem dX4_advance_97 : decode cX4_advance 97 = .ok (.aload_n 0, 1) := by decide +kernel
theorem dX4_advance_98 : decode cX4_advance 98 = .ok (.getfield 28, 3) := by decide +kernel
theorem dX4_advance_101 : decode cX4_advance 101 = .ok (.aload_n 0, 1) := by decide +kernel
theorem dX4_advance_102 : decode cX4_advance 102 = .ok (.getfield 15, 3) := by decide +kernel
theorem dX4_advance_105 : decode cX4_advance 105 = .ok (.if_icmp .ge 54, 3) := by decide +kernel
theorem dX4_advance_108 : decode cX4_advance 108 = .ok (.aload_n 0, 1) := by decide +kernel
theorem dX4_advance_109 : decode cX4_advance 109 = .ok (.getfield 9, 3) := by decide +kernel
theorem dX4_advance_112 : decode cX4_advance 112 = .ok (.aload_n 0, 1) := by decide +kernel
theorem dX4_advance_113 : decode cX4_advance 113 = .ok (.getfield 28, 3) := by decide +kernel
theorem dX4_advance_116 : decode cX4_advance 116 = .ok (.caload, 1) := by decide +kernel
theorem dX4_advance_117 : decode cX4_advance 117 = .ok (.invokestatic 45, 3) := by decide +kernel
theorem dX4_advance_120 : decode cX4_advance 120 = .ok (.iload_n 1, 1) := by decide +kernel
theorem dX4_advance_121 : decode cX4_advance 121 = .ok (.invokestatic 45, 3) := by decide +kernel
theorem dX4_advance_124 : decode cX4_advance 124 = .ok (.if_icmp .ne 35, 3) := by decide +kernel
theorem dX4_advance_127 : decode cX4_advance 127 = .ok (.aload_n 0, 1) := by decide +kernel
theorem dX4_advance_128 : decode cX4_advance 128 = .ok (.getfield 9, 3) := by decide +kernel
theorem dX4_advance_131 : decode cX4_advance 131 = .ok (.aload_n 0, 1) := by decide +kernel
theorem dX4_advance_132 : decode cX4_advance 132 = .ok (.getfield 28, 3) := by decide +kernel
theorem dX4_advance_135 : decode cX4_advance 135 = .ok (.caload, 1) := by decide +kernel
theorem dX4_advance_136 : decode cX4_advance 136 = .ok (.invokestatic 49, 3) := by decide +kernel
theorem dX4_advance_139 : decode cX4_advance 139 = .ok (.iload_n 1, 1) := by decide +kernel
theorem dX4_advance_140 : decode cX4_advance 140 = .ok (.invokestatic 49, 3) := by decide +kernel
theorem dX4_advance_143 : decode cX4_advance 143 = .ok (.if_icmp .ne 16, 3) := by decide +kernel
theorem dX4_advance_146 : decode cX4_advance 146 = .ok (.aload_n 0, 1) := by decide +kernel
theorem dX4_advance_147 : decode cX4_advance 147 = .ok (.dup, 1) := by decide +kernel
theorem dX4_advance_148 : decode cX4_advance 148 = .ok (.getfield 28, 3) := by decide +kernel
theorem dX4_advance_151 : decode cX4_advance 151 = .ok (.iconst 1, 1) := by decide +kernel
theorem dX4_advance_152 : decode cX4_advance 152 = .ok (.iadd, 1) := by decide +kernel
theorem dX4_advance_153 : decode cX4_advance 153 = .ok (.putfield 28, 3) := by decide +kernel
theorem dX4_advance_156 : decode cX4_advance 156 = .ok (.goto (-59), 3) := by decide +kernel
theorem dX4_advance_159 : decode cX4_advance 159 = .ok (.return_, 1) := by decide +kernel
theorem dX4_isSmall_0 : decode cX4_isSmall 0 = .ok (.iload_n 0, 1) := by decide +kernel
theorem dX4_isSmall_1 : decode cX4_isSmall 1 = .ok (.bipush 97, 2) := by decide +kernel
theorem dX4_isSmall_3 : decode cX4_isSmall 3 = .ok (.if_icmp .lt 13, 3) := by decide +kernel
theorem dX4_isSmall_6 : decode cX4_isSmall 6 = .ok (.iload_n 0, 1) := by decide +kernel
theorem dX4_isSmall_7 : decode cX4_isSmall 7 = .ok (.bipush 122, 2) := by decide +kernel
theorem dX4_isSmall_9 : decode cX4_isSmall 9 = .ok (.if_icmp .gt 7, 3) := by decide +kernel
theorem dX4_isSmall_12 : decode cX4_isSmall 12 = .ok (.iconst 1, 1) := by decide +kernel
theorem dX4_isSmall_13 : decode cX4_isSmall 13 = .ok (.goto 4, 3) := by decide +kernel
theorem dX4_isSmall_16 : decode cX4_isSmall 16 = .ok (.iconst 0, 1) := by decide +kernel
theorem dX4_isSmall_17 : decode cX4_isSmall 17 = .ok (.ireturn, 1) := by decide +kernel
theorem dX4_isDigit_0 : decode cX4_isDigit 0 = .ok (.iload_n 0, 1) := by decide +kernel
theorem dX4_isDigit_1 : decode cX4_isDigit 1 = .ok (.bipush 48, 2) := by decide +kernel
theorem dX4_isDigit_3 : decode cX4_isDigit 3 = .ok (.if_icmp .lt 13, 3) := by decide +kernel
theorem dX4_isDigit_6 : decode cX4_isDigit 6 = .ok (.iload_n 0, 1) := by decide +kernel
theorem dX4_isDigit_7 : decode cX4_isDigit 7 = .ok (.bipush 57, 2) := by decide +kernel
theorem dX4_isDigit_9 : decode cX4_isDigit 9 = .ok (.if_icmp .gt 7, 3) := by decide +kernel
theorem dX4_isDigit_12 : decode cX4_isDigit 12 = .ok (.iconst 1, 1) := by decide +kernel
theorem dX4_isDigit_13 : decode cX4_isDigit 13 = .ok (.goto 4, 3) := by decide +kernel
theorem dX4_isDigit_16 : decode cX4_isDigit 16 = .ok (.iconst 0, 1) := by decide +kernel
theorem dX4_isDigit_17 : decode cX4_isDigit 17 = .ok (.ireturn, 1) := by decide +kernel
theorem dX4_readClause_0 : decode cX4_readClause 0 = .ok (.aload_n 0, 1) := by decide +kernel
theorem dX4_readClause_1 : decode cX4_readClause 1 = .ok (.invokevirtual 52, 3) := by decide +kernel
theorem dX4_readClause_4 : decode cX4_readClause 4 = .ok (.istore_n 2, 1) := by decide +kernel
theorem dX4_readClause_5 : decode cX4_readClause 5 = .ok (.iload_n 2, 1) := by decide +kernel
theorem dX4_readClause_6 : decode cX4_readClause 6 = .ok (.iconst (-1), 1) := by decide +kernel
theorem dX4_readClause_7 : decode cX4_readClause 7 = .ok (.if_icmp .ne 5, 3) := by decide +kernel
theorem dX4_readClause_10 : decode cX4_readClause 10 = .ok (.iconst 0, 1) := by decide +kernel
theorem dX4_readClause_11 : decode cX4_readClause 11 = .ok (.ireturn, 1) := by decide +kernel
theorem dX4_readClause_12 : decode cX4_readClause 12 = .ok (.getstatic 56, 3) := by decide +kernel
theorem dX4_readClause_15 : decode cX4_readClause 15 = .ok (.iload_n 2, 1) := by decide +kernel
theorem dX4_readClause_16 : decode cX4_readClause 16 = .ok (.aaload, 1) := by decide +kernel
theorem dX4_readClause_17 : decode cX4_readClause 17 = .ok (.astore_n 3, 1) := by decide +kernel
theorem dX4_readClause_18 : decode cX4_readClause 18 = .ok (.aload_n 3, 1) := by decide +kernel
theorem dX4_readClause_19 : decode cX4_readClause 19 = .ok (.getstatic 60, 3) := by decide +kernel
theorem dX4_readClause_22 : decode cX4_readClause 22 = .ok (.if_acmp .ne 24, 3) := by decide +kernel
theorem dX4_readClause_25 : decode cX4_readClause 25 = .ok (.aload_n 1, 1) := by decide +kernel
theorem dX4_readClause_26 : decode cX4_readClause 26 = .ok (.invokevirtual 66, 3) := by decide +kernel
theorem dX4_readClause_29 : decode cX4_readClause 29 = .ok (.ifCond .ne 15, 3) := by decide +kernel
theorem dX4_readClause_32 : decode cX4_readClause 32 = .ok (.aload_n 0, 1) := by decide +kernel
theorem dX4_readClause_33 : decode cX4_readClause 33 = .ok (.aload_n 1, 1) := by decide +kernel
theorem dX4_readClause_34 : decode cX4_readClause 34 = .ok (.invokevirtual 69, 3) := by decide +kernel
theorem dX4_readClause_37 : decode cX4_readClause 37 = .ok (.ifCond .eq 7, 3) := by decide +kernel
theorem dX4_readClause_40 : decode cX4_readClause 40 = .ok (.iconst 1, 1) := by decide +kernel
theorem dX4_readClause_41 : decode cX4_readClause 41 = .ok (.goto 4, 3) := by decide +kernel
theorem dX4_readClause_44 : decode cX4_readClause 44 = .ok (.iconst 0, 1) := by decide +kernel
theorem dX4_readClause_45 : decode cX4_readClause 45 = .ok (.ireturn, 1) := by decide +kernel
theorem dX4_readClause_46 : decode cX4_readClause 46 = .ok (.aload_n 0, 1) := by decide +kernel
theorem dX4_readClause_47 : decode cX4_readClause 47 = .ok (.invokevirtual 31, 3) := by decide +kernel
theorem dX4_readClause_50 : decode cX4_readClause 50 = .ok (.aload_n 0, 1) := by decide +kernel
theorem dX4_readClause_51 : decode cX4_readClause 51 = .ok (.aload_n 3, 1) := by decide +kernel
theorem dX4_readClause_52 : decode cX4_readClause 52 = .ok (.getfield 72, 3) := by decide +kernel
theorem dX4_readClause_55 : decode cX4_readClause 55 = .ok (.aload_n 3, 1) := by decide +kernel
theorem dX4_readClause_56 : decode cX4_readClause 56 = .ok (.getfield 75, 3) := by decide +kernel
theorem dX4_readClause_59 : decode cX4_readClause 59 = .ok (.invokevirtual 78, 3) := by decide +kernel
theorem dX4_readClause_62 : decode cX4_readClause 62 = .ok (.istore 4, 2) := by decide +kernel
theorem dX4_readClause_64 : decode cX4_readClause 64 = .ok (.iload 4, 2) := by decide +kernel
theorem dX4_readClause_66 : decode cX4_readClause 66 = .ok (.iconst (-1), 1) := by decide +kernel
theorem dX4_readClause_67 : decode cX4_readClause 67 = .ok (.if_icmp .ne 5, 3) := by decide +kernel
theorem dX4_readClause_70 : decode cX4_readClause 70 = .ok (.iconst 0, 1) := by decide +kernel
theorem dX4_readClause_71 : decode cX4_readClause 71 = .ok (.ireturn, 1) := by decide +kernel
theorem dX4_readClause_72 : decode cX4_readClause 72 = .ok (.aload_n 1, 1) := by decide +kernel
theorem dX4_readClause_73 : decode cX4_readClause 73 = .ok (.aload_n 3, 1) := by decide +kernel
theorem dX4_readClause_74 : decode cX4_readClause 74 = .ok (.iload 4, 2) := by decide +kernel
theorem dX4_readClause_76 : decode cX4_readClause 76 = .ok (.invokevirtual 82, 3) := by decide +kernel
theorem dX4_readClause_79 : decode cX4_readClause 79 = .ok (.iconst 1, 1) := by decide +kernel
theorem dX4_readClause_80 : decode cX4_readClause 80 = .ok (.ireturn, 1) := by decide +kernel
theorem dX4_readPath_0 : decode cX4_readPath 0 = .ok (.aload_n 0, 1) := by decide +kernel
theorem dX4_readPath_1 : decode cX4_readPath 1 = .ok (.invokevirtual 31, 3) := by decide +kernel
theorem dX4_readPath_4 : decode cX4_readPath 4 = .ok (.aload_n 0, 1) := by decide +kernel
theorem dX4_readPath_5 : decode cX4_readPath 5 = .ok (.iconst 0, 1) := by decide +kernel
theorem dX4_readPath_6 : decode cX4_readPath 6 = .ok (.aload_n 1, 1) := by decide +kernel
theorem dX4_readPath_7 : decode cX4_readPath 7 = .ok (.getfield 86, 3) := by decide +kernel
theorem dX4_readPath_10 : decode cX4_readPath 10 = .ok (.iconst 1, 1) := by decide +kernel
theorem dX4_readPath_11 : decode cX4_readPath 11 = .ok (.isub, 1) := by decide +kernel
theorem dX4_readPath_12 : decode cX4_readPath 12 = .ok (.invokevirtual 78, 3) := by decide +kernel
theorem dX4_readPath_15 : decode cX4_readPath 15 = .ok (.istore_n 2, 1) := by decide +kernel
theorem dX4_readPath_16 : decode cX4_readPath 16 = .ok (.iload_n 2, 1) := by decide +kernel
theorem dX4_readPath_17 : decode cX4_readPath 17 = .ok (.iconst (-1), 1) := by decide +kernel
theorem dX4_readPath_18 : decode cX4_readPath 18 = .ok (.if_icmp .ne 5, 3) := by decide +kernel
theorem dX4_readPath_21 : decode cX4_readPath 21 = .ok (.iconst 0, 1) := by decide +kernel
theorem dX4_readPath_22 : decode cX4_readPath 22 = .ok (.ireturn, 1) := by decide +kernel
theorem dX4_readPath_23 : decode cX4_readPath 23 = .ok (.aload_n 0, 1) := by decide +kernel
theorem dX4_readPath_24 : decode cX4_readPath 24 = .ok (.iconst 0, 1) := by decide +kernel
theorem dX4_readPath_25 : decode cX4_readPath 25 = .ok (.aload_n 1, 1) := by decide +kernel
theorem dX4_readPath_26 : decode cX4_readPath 26 = .ok (.getfield 86, 3) := by decide +kernel
theorem dX4_readPath_29 : decode cX4_readPath 29 = .ok (.iconst 1, 1) := by decide +kernel
theorem dX4_readPath_30 : decode cX4_readPath 30 = .ok (.isub, 1) := by decide +kernel
theorem dX4_readPath_31 : decode cX4_readPath 31 = .ok (.invokevirtual 78, 3) := by decide +kernel
theorem dX4_readPath_34 : decode cX4_readPath 34 = .ok (.istore_n 3, 1) := by decide +kernel
theorem dX4_readPath_35 : decode cX4_readPath 35 = .ok (.iload_n 3, 1) := by decide +kernel
theorem dX4_readPath_36 : decode cX4_readPath 36 = .ok (.iconst (-1), 1) := by decide +kernel
theorem dX4_readPath_37 : decode cX4_readPath 37 = .ok (.if_icmp .ne 5, 3) := by decide +kernel
theorem dX4_readPath_40 : decode cX4_readPath 40 = .ok (.iconst 0, 1) := by decide +kernel
theorem dX4_readPath_41 : decode cX4_readPath 41 = .ok (.ireturn, 1) := by decide +kernel
theorem dX4_readPath_42 : decode cX4_readPath 42 = .ok (.aload_n 0, 1) := by decide +kernel
theorem dX4_readPath_43 : decode cX4_readPath 43 = .ok (.iconst 0, 1) := by decide +kernel
theorem dX4_readPath_44 : decode cX4_readPath 44 = .ok (.bipush 99, 2) := by decide +kernel
theorem dX4_readPath_46 : decode cX4_readPath 46 = .ok (.invokevirtual 78, 3) := by decide +kernel
theorem dX4_readPath_49 : decode cX4_readPath 49 = .ok (.istore 4, 2) := by decide +kernel
theorem dX4_readPath_51 : decode cX4_readPath 51 = .ok (.iload 4, 2) := by decide +kernel
theorem dX4_readPath_53 : decode cX4_readPath 53 = .ok (.iconst (-1), 1) := by decide +kernel
theorem dX4_readPath_54 : decode cX4_readPath 54 = .ok (.if_icmp .ne 5, 3) := by decide +kernel
theorem dX4_readPath_57 : decode cX4_readPath 57 = .ok (.iconst 0, 1) := by decide +kernel
theorem dX4_readPath_58 : decode cX4_readPath 58 = .ok (.ireturn, 1) := by decide +kernel
theorem dX4_readPath_59 : decode cX4_readPath 59 = .ok (.aload_n 0, 1) := by decide +kernel
theorem dX4_readPath_60 : decode cX4_readPath 60 = .ok (.iconst 0, 1) := by decide +kernel
theorem dX4_readPath_61 : decode cX4_readPath 61 = .ok (.iload 4, 2) := by decide +kernel
theorem dX4_readPath_63 : decode cX4_readPath 63 = .ok (.invokevirtual 78, 3) := by decide +kernel
theorem dX4_readPath_66 : decode cX4_readPath 66 = .ok (.istore 5, 2) := by decide +kernel
theorem dX4_readPath_68 : decode cX4_readPath 68 = .ok (.iload 5, 2) := by decide +kernel
theorem dX4_readPath_70 : decode cX4_readPath 70 = .ok (.iconst (-1), 1) := by decide +kernel
theorem dX4_readPath_71 : decode cX4_readPath 71 = .ok (.if_icmp .ne 5, 3) := by decide +kernel
theorem dX4_readPath_74 : decode cX4_readPath 74 = .ok (.iconst 0, 1) := by decide +kernel
theorem dX4_readPath_75 : decode cX4_readPath 75 = .ok (.ireturn, 1) := by decide +kernel
theorem dX4_readPath_76 : decode cX4_readPath 76 = .ok (.aload_n 1, 1) := by decide +kernel
theorem dX4_readPath_77 : decode cX4_readPath 77 = .ok (.iload_n 2, 1) := by decide +kernel
theorem dX4_readPath_78 : decode cX4_readPath 78 = .ok (.iload_n 3, 1) := by decide +kernel
theorem dX4_readPath_79 : decode cX4_readPath 79 = .ok (.iload 4, 2) := by decide +kernel
theorem dX4_readPath_81 : decode cX4_readPath 81 = .ok (.iload 5, 2) := by decide +kernel
theorem dX4_readPath_83 : decode cX4_readPath 83 = .ok (.invokevirtual 89, 3) := by decide +kernel
theorem dX4_readPath_86 : decode cX4_readPath 86 = .ok (.iconst 1, 1) := by decide +kernel
theorem dX4_readPath_87 : decode cX4_readPath 87 = .ok (.ireturn, 1) := by decide +kernel
theorem dX4_wordHere_0 : decode cX4_wordHere 0 = .ok (.iconst 0, 1) := by decide +kernel
theorem dX4_wordHere_1 : decode cX4_wordHere 1 = .ok (.istore_n 1, 1) := by decide +kernel
theorem dX4_wordHere_2 : decode cX4_wordHere 2 = .ok (.iload_n 1, 1) := by decide +kernel
theorem dX4_wordHere_3 : decode cX4_wordHere 3 = .ok (.getstatic 56, 3) := by decide +kernel
theorem dX4_wordHere_6 : decode cX4_wordHere 6 = .ok (.arraylength, 1) := by decide +kernel
theorem dX4_wordHere_7 : decode cX4_wordHere 7 = .ok (.if_icmp .ge 26, 3) := by decide +kernel
theorem dX4_wordHere_10 : decode cX4_wordHere 10 = .ok (.aload_n 0, 1) := by decide +kernel
theorem dX4_wordHere_11 : decode cX4_wordHere 11 = .ok (.getstatic 56, 3) := by decide +kernel
theorem dX4_wordHere_14 : decode cX4_wordHere 14 = .ok (.iload_n 1, 1) := by decide +kernel
theorem dX4_wordHere_15 : decode cX4_wordHere 15 = .ok (.aaload, 1) := by decide +kernel
theorem dX4_wordHere_16 : decode cX4_wordHere 16 = .ok (.getfield 93, 3) := by decide +kernel
theorem dX4_wordHere_19 : decode cX4_wordHere 19 = .ok (.invokevirtual 97, 3) := by decide +kernel
theorem dX4_wordHere_22 : decode cX4_wordHere 22 = .ok (.ifCond .eq 5, 3) := by decide +kernel
theorem dX4_wordHere_25 : decode cX4_wordHere 25 = .ok (.iload_n 1, 1) := by decide +kernel
theorem dX4_wordHere_26 : decode cX4_wordHere 26 = .ok (.ireturn, 1) := by decide +kernel
theorem dX4_wordHere_27 : decode cX4_wordHere 27 = .ok (.iinc 1 1, 3) := by decide +kernel
theorem dX4_wordHere_30 : decode cX4_wordHere 30 = .ok (.goto (-28), 3) := by decide +kernel
theorem dX4_wordHere_33 : decode cX4_wordHere 33 = .ok (.iconst (-1), 1) := by decide +kernel
theorem dX4_wordHere_34 : decode cX4_wordHere 34 = .ok (.ireturn, 1) := by decide +kernel
theorem dX4_isSpelled_0 : decode cX4_isSpelled 0 = .ok (.aload_n 0, 1) := by decide +kernel
theorem dX4_isSpelled_1 : decode cX4_isSpelled 1 = .ok (.getfield 28, 3) := by decide +kernel
theorem dX4_isSpelled_4 : decode cX4_isSpelled 4 = .ok (.aload_n 0, 1) := by decide +kernel
theorem dX4_isSpelled_5 : decode cX4_isSpelled 5 = .ok (.getfield 38, 3) := by decide +kernel
theorem dX4_isSpelled_8 : decode cX4_isSpelled 8 = .ok (.isub, 1) := by decide +kernel
theorem dX4_isSpelled_9 : decode cX4_isSpelled 9 = .ok (.aload_n 1, 1) := by decide +kernel
theorem dX4_isSpelled_10 : decode cX4_isSpelled 10 = .ok (.invokevirtual 101, 3) := by decide +kernel
theorem dX4_isSpelled_13 : decode cX4_isSpelled 13 = .ok (.if_icmp .eq 5, 3) := by decide +kernel
theorem dX4_isSpelled_16 : decode cX4_isSpelled 16 = .ok (.iconst 0, 1) := by decide +kernel
theorem dX4_isSpelled_17 : decode cX4_isSpelled 17 = .ok (.ireturn, 1) := by decide +kernel
theorem dX4_isSpelled_18 : decode cX4_isSpelled 18 = .ok (.iconst 0, 1) := by decide +kernel
theorem dX4_isSpelled_19 : decode cX4_isSpelled 19 = .ok (.istore_n 2, 1) := by decide +kernel
theorem dX4_isSpelled_20 : decode cX4_isSpelled 20 = .ok (.iload_n 2, 1) := by decide +kernel
theorem dX4_isSpelled_21 : decode cX4_isSpelled 21 = .ok (.aload_n 1, 1) := by decide +kernel
theorem dX4_isSpelled_22 : decode cX4_isSpelled 22 = .ok (.invokevirtual 101, 3) := by decide +kernel
theorem dX4_isSpelled_25 : decode cX4_isSpelled 25 = .ok (.if_icmp .ge 30, 3) := by decide +kernel
theorem dX4_isSpelled_28 : decode cX4_isSpelled 28 = .ok (.aload_n 0, 1) := by decide +kernel
theorem dX4_isSpelled_29 : decode cX4_isSpelled 29 = .ok (.getfield 9, 3) := by decide +kernel
theorem dX4_isSpelled_32 : decode cX4_isSpelled 32 = .ok (.aload_n 0, 1) := by decide +kernel
theorem dX4_isSpelled_33 : decode cX4_isSpelled 33 = .ok (.getfield 38, 3) := by decide +kernel
theorem dX4_isSpelled_36 : decode cX4_isSpelled 36 = .ok (.iload_n 2, 1) := by decide +kernel
theorem dX4_isSpelled_37 : decode cX4_isSpelled 37 = .ok (.iadd, 1) := by decide +kernel
theorem dX4_isSpelled_38 : decode cX4_isSpelled 38 = .ok (.caload, 1) := by decide +kernel
theorem dX4_isSpelled_39 : decode cX4_isSpelled 39 = .ok (.aload_n 1, 1) := by decide +kernel
theorem dX4_isSpelled_40 : decode cX4_isSpelled 40 = .ok (.iload_n 2, 1) := by decide +kernel
theorem dX4_isSpelled_41 : decode cX4_isSpelled 41 = .ok (.invokevirtual 105, 3) := by decide +kernel
theorem dX4_isSpelled_44 : decode cX4_isSpelled 44 = .ok (.if_icmp .eq 5, 3) := by decide +kernel
theorem dX4_isSpelled_47 : decode cX4_isSpelled 47 = .ok (.iconst 0, 1) := by decide +kernel
theorem dX4_isSpelled_48 : decode cX4_isSpelled 48 = .ok (.ireturn, 1) := by decide +kernel
theorem dX4_isSpelled_49 : decode cX4_isSpelled 49 = .ok (.iinc 2 1, 3) := by decide +kernel
theorem dX4_isSpelled_52 : decode cX4_isSpelled 52 = .ok (.goto (-32), 3) := by decide +kernel
theorem dX4_isSpelled_55 : decode cX4_isSpelled 55 = .ok (.iconst 1, 1) := by decide +kernel
theorem dX4_isSpelled_56 : decode cX4_isSpelled 56 = .ok (.ireturn, 1) := by decide +kernel
theorem dX4_readNumber_0 : decode cX4_readNumber 0 = .ok (.aload_n 0, 1) := by decide +kernel
theorem dX4_readNumber_1 : decode cX4_readNumber 1 = .ok (.invokevirtual 41, 3) := by decide +kernel
theorem dX4_readNumber_4 : decode cX4_readNumber 4 = .ok (.ifCond .ne 31, 3) := by decide +kernel
theorem dX4_readNumber_7 : decode cX4_readNumber 7 = .ok (.aload_n 0, 1) := by decide +kernel
theorem dX4_readNumber_8 : decode cX4_readNumber 8 = .ok (.getfield 9, 3) := by decide +kernel
theorem dX4_readNumber_11 : decode cX4_readNumber 11 = .ok (.aload_n 0, 1) := by decide +kernel
theorem dX4_readNumber_12 : decode cX4_readNumber 12 = .ok (.getfield 38, 3) := by decide +kernel
theorem dX4_readNumber_15 : decode cX4_readNumber 15 = .ok (.caload, 1) := by decide +kernel
theorem dX4_readNumber_16 : decode cX4_readNumber 16 = .ok (.invokestatic 49, 3) := by decide +kernel
theorem dX4_readNumber_19 : decode cX4_readNumber 19 = .ok (.ifCond .eq 16, 3) := by decide +kernel
theorem dX4_readNumber_22 : decode cX4_readNumber 22 = .ok (.aload_n 0, 1) := by decide +kernel
theorem dX4_readNumber_23 : decode cX4_readNumber 23 = .ok (.getfield 28, 3) := by decide +kernel
theorem dX4_readNumber_26 : decode cX4_readNumber 26 = .ok (.aload_n 0, 1) := by decide +kernel
theorem dX4_readNumber_27 : decode cX4_readNumber 27 = .ok (.getfield 38, 3) := by decide +kernel
theorem dX4_readNumber_30 : decode cX4_readNumber 30 = .ok (.isub, 1) := by decide +kernel
theorem dX4_readNumber_31 : decode cX4_readNumber 31 = .ok (.iconst 3, 1) := by decide +kernel
theorem dX4_readNumber_32 : decode cX4_readNumber 32 = .ok (.if_icmp .le 5, 3) := by decide +kernel
theorem dX4_readNumber_35 : decode cX4_readNumber 35 = .ok (.iconst (-1), 1) := by decide +kernel
theorem dX4_readNumber_36 : decode cX4_readNumber 36 = .ok (.ireturn, 1) := by decide +kernel
theorem dX4_readNumber_37 : decode cX4_readNumber 37 = .ok (.iconst 0, 1) := by decide +kernel
theorem dX4_readNumber_38 : decode cX4_readNumber 38 = .ok (.istore_n 3, 1) := by decide +kernel
theorem dX4_readNumber_39 : decode cX4_readNumber 39 = .ok (.aload_n 0, 1) := by decide +kernel
theorem dX4_readNumber_40 : decode cX4_readNumber 40 = .ok (.getfield 38, 3) := by decide +kernel
theorem dX4_readNumber_43 : decode cX4_readNumber 43 = .ok (.istore 4, 2) := by decide +kernel
theorem dX4_readNumber_45 : decode cX4_readNumber 45 = .ok (.iload 4, 2) := by decide +kernel
theorem dX4_readNumber_47 : decode cX4_readNumber 47 = .ok (.aload_n 0, 1) := by decide +kernel
theorem dX4_readNumber_48 : decode cX4_readNumber 48 = .ok (.getfield 28, 3) := by decide +kernel
theorem dX4_readNumber_51 : decode cX4_readNumber 51 = .ok (.if_icmp .ge 25, 3) := by decide +kernel
theorem dX4_readNumber_54 : decode cX4_readNumber 54 = .ok (.iload_n 3, 1) := by decide +kernel
theorem dX4_readNumber_55 : decode cX4_readNumber 55 = .ok (.bipush 10, 2) := by decide +kernel
theorem dX4_readNumber_57 : decode cX4_readNumber 57 = .ok (.imul, 1) := by decide +kernel
theorem dX4_readNumber_58 : decode cX4_readNumber 58 = .ok (.aload_n 0, 1) := by decide +kernel
theorem dX4_readNumber_59 : decode cX4_readNumber 59 = .ok (.getfield 9, 3) := by decide +kernel
theorem dX4_readNumber_62 : decode cX4_readNumber 62 = .ok (.iload 4, 2) := by decide +kernel
theorem dX4_readNumber_64 : decode cX4_readNumber 64 = .ok (.caload, 1) := by decide +kernel
theorem dX4_readNumber_65 : decode cX4_readNumber 65 = .ok (.bipush 48, 2) := by decide +kernel
theorem dX4_readNumber_67 : decode cX4_readNumber 67 = .ok (.isub, 1) := by decide +kernel
theorem dX4_readNumber_68 : decode cX4_readNumber 68 = .ok (.iadd, 1) := by decide +kernel
theorem dX4_readNumber_69 : decode cX4_readNumber 69 = .ok (.istore_n 3, 1) := by decide +kernel
theorem dX4_readNumber_70 : decode cX4_readNumber 70 = .ok (.iinc 4 1, 3) := by decide +kernel
theorem dX4_readNumber_73 : decode cX4_readNumber 73 = .ok (.goto (-28), 3) := by decide +kernel
theorem dX4_readNumber_76 : decode cX4_readNumber 76 = .ok (.iload_n 3, 1) := by decide +kernel
theorem dX4_readNumber_77 : decode cX4_readNumber 77 = .ok (.iload_n 1, 1) := by decide +kernel
theorem dX4_readNumber_78 : decode cX4_readNumber 78 = .ok (.iload_n 2, 1) := by decide +kernel
theorem dX4_readNumber_79 : decode cX4_readNumber 79 = .ok (.invokestatic 109, 3) := by decide +kernel
theorem dX4_readNumber_82 : decode cX4_readNumber 82 = .ok (.ifCond .ne 5, 3) := by decide +kernel
theorem dX4_readNumber_85 : decode cX4_readNumber 85 = .ok (.iconst (-1), 1) := by decide +kernel
theorem dX4_readNumber_86 : decode cX4_readNumber 86 = .ok (.ireturn, 1) := by decide +kernel
theorem dX4_readNumber_87 : decode cX4_readNumber 87 = .ok (.aload_n 0, 1) := by decide +kernel
theorem dX4_readNumber_88 : decode cX4_readNumber 88 = .ok (.invokevirtual 31, 3) := by decide +kernel
theorem dX4_readNumber_91 : decode cX4_readNumber 91 = .ok (.iload_n 3, 1) := by decide +kernel
theorem dX4_readNumber_92 : decode cX4_readNumber 92 = .ok (.ireturn, 1) := by decide +kernel
theorem dX5_init_0 : decode cX5_init 0 = .ok (.aload_n 0, 1) := by decide +kernel
theorem dX5_init_1 : decode cX5_init 1 = .ok (.invokespecial 3, 3) := by decide +kernel
theorem dX5_init_4 : decode cX5_init 4 = .ok (.aload_n 0, 1) := by decide +kernel
theorem dX5_init_5 : decode cX5_init 5 = .ok (.bipush 8, 2) := by decide +kernel
theorem dX5_init_7 : decode cX5_init 7 = .ok (.newarray .double, 2) := by decide +kernel
theorem dX5_init_9 : decode cX5_init 9 = .ok (.putfield 9, 3) := by decide +kernel
theorem dX5_init_12 : decode cX5_init 12 = .ok (.aload_n 0, 1) := by decide +kernel
theorem dX5_init_13 : decode cX5_init 13 = .ok (.bipush 8, 2) := by decide +kernel
theorem dX5_init_15 : decode cX5_init 15 = .ok (.newarray .boolean, 2) := by decide +kernel
theorem dX5_init_17 : decode cX5_init 17 = .ok (.putfield 15, 3) := by decide +kernel
theorem dX5_init_20 : decode cX5_init 20 = .ok (.return_, 1) := by decide +kernel
theorem dX5_isMissing_0 : decode cX5_isMissing 0 = .ok (.aload_n 0, 1) := by decide +kernel
theorem dX5_isMissing_1 : decode cX5_isMissing 1 = .ok (.getfield 19, 3) := by decide +kernel
theorem dX5_isMissing_4 : decode cX5_isMissing 4 = .ok (.ifCond .ne 7, 3) := by decide +kernel
theorem dX5_isMissing_7 : decode cX5_isMissing 7 = .ok (.iconst 1, 1) := by decide +kernel
theorem dX5_isMissing_8 : decode cX5_isMissing 8 = .ok (.goto 4, 3) := by decide +kernel
theorem dX5_isMissing_11 : decode cX5_isMissing 11 = .ok (.iconst 0, 1) := by decide +kernel
theorem dX5_isMissing_12 : decode cX5_isMissing 12 = .ok (.ireturn, 1) := by decide +kernel
theorem dX5_placeCount_0 : decode cX5_placeCount 0 = .ok (.aload_n 0, 1) := by decide +kernel
theorem dX5_placeCount_1 : decode cX5_placeCount 1 = .ok (.getfield 23, 3) := by decide +kernel
theorem dX5_placeCount_4 : decode cX5_placeCount 4 = .ok (.ireturn, 1) := by decide +kernel
theorem dX5_lose_0 : decode cX5_lose 0 = .ok (.aload_n 0, 1) := by decide +kernel
theorem dX5_lose_1 : decode cX5_lose 1 = .ok (.iconst 0, 1) := by decide +kernel
theorem dX5_lose_2 : decode cX5_lose 2 = .ok (.putfield 19, 3) := by decide +kernel
theorem dX5_lose_5 : decode cX5_lose 5 = .ok (.aload_n 0, 1) := by decide +kernel
theorem dX5_lose_6 : decode cX5_lose 6 = .ok (.iconst 0, 1) := by decide +kernel
theorem dX5_lose_7 : decode cX5_lose 7 = .ok (.putfield 23, 3) := by decide +kernel
theorem dX5_lose_10 : decode cX5_lose 10 = .ok (.return_, 1) := by decide +kernel
theorem dX5_renew_0 : decode cX5_renew 0 = .ok (.aload_n 0, 1) := by decide +kernel
theorem dX5_renew_1 : decode cX5_renew 1 = .ok (.iconst 1, 1) := by decide +kernel
theorem dX5_renew_2 : decode cX5_renew 2 = .ok (.putfield 19, 3) := by decide +kernel
theorem dX5_renew_5 : decode cX5_renew 5 = .ok (.aload_n 0, 1) := by decide +kernel
theorem dX5_renew_6 : decode cX5_renew 6 = .ok (.iload_n 1, 1) := by decide +kernel
theorem dX5_renew_7 : decode cX5_renew 7 = .ok (.putfield 27, 3) := by decide +kernel
theorem dX5_renew_10 : decode cX5_renew 10 = .ok (.aload_n 0, 1) := by decide +kernel
theorem dX5_renew_11 : decode cX5_renew 11 = .ok (.iload_n 2, 1) := by decide +kernel
theorem dX5_renew_12 : decode cX5_renew 12 = .ok (.putfield 23, 3) := by decide +kernel
theorem dX5_renew_15 : decode cX5_renew 15 = .ok (.iconst 0, 1) := by decide +kernel
theorem dX5_renew_16 : decode cX5_renew 16 = .ok (.istore_n 3, 1) := by decide +kernel
theorem dX5_renew_17 : decode cX5_renew 17 = .ok (.iload_n 3, 1) := by decide +kernel
theorem dX5_renew_18 : decode cX5_renew 18 = .ok (.bipush 8, 2) := by decide +kernel
theorem dX5_renew_20 : decode cX5_renew 20 = .ok (.if_icmp .ge 15, 3) := by decide +kernel
theorem dX5_renew_23 : decode cX5_renew 23 = .ok (.aload_n 0, 1) := by decide +kernel
theorem dX5_renew_24 : decode cX5_renew 24 = .ok (.iload_n 3, 1) := by decide +kernel
theorem dX5_renew_25 : decode cX5_renew 25 = .ok (.dconst 0, 1) := by decide +kernel
theorem dX5_renew_26 : decode cX5_renew 26 = .ok (.invokevirtual 30, 3) := by decide +kernel
theorem dX5_renew_29 : decode cX5_renew 29 = .ok (.iinc 3 1, 3) := by decide +kernel
theorem dX5_renew_32 : decode cX5_renew 32 = .ok (.goto (-15), 3) := by decide +kernel
theorem dX5_renew_35 : decode cX5_renew 35 = .ok (.return_, 1) := by decide +kernel
theorem dX5_finding_0 : decode cX5_finding 0 = .ok (.aload_n 0, 1) := by decide +kernel
theorem dX5_finding_1 : decode cX5_finding 1 = .ok (.getfield 19, 3) := by decide +kernel
theorem dX5_finding_4 : decode cX5_finding 4 = .ok (.ifCond .ne 6, 3) := by decide +kernel
theorem dX5_finding_7 : decode cX5_finding 7 = .ok (.bipush (-11), 2) := by decide +kernel
theorem dX5_finding_9 : decode cX5_finding 9 = .ok (.ireturn, 1) := by decide +kernel
theorem dX5_finding_10 : decode cX5_finding 10 = .ok (.iload_n 1, 1) := by decide +kernel
theorem dX5_finding_11 : decode cX5_finding 11 = .ok (.aload_n 0, 1) := by decide +kernel
theorem dX5_finding_12 : decode cX5_finding 12 = .ok (.getfield 27, 3) := by decide +kernel
theorem dX5_finding_15 : decode cX5_finding 15 = .ok (.if_icmp .eq 6, 3) := by decide +kernel
theorem dX5_finding_18 : decode cX5_finding 18 = .ok (.bipush (-13), 2) := by decide +kernel
theorem dX5_finding_20 : decode cX5_finding 20 = .ok (.ireturn, 1) := by decide +kernel
theorem dX5_finding_21 : decode cX5_finding 21 = .ok (.iload_n 2, 1) := by decide +kernel
theorem dX5_finding_22 : decode cX5_finding 22 = .ok (.iconst 0, 1) := by decide +kernel
theorem dX5_finding_23 : decode cX5_finding 23 = .ok (.aload_n 0, 1) := by decide +kernel
theorem dX5_finding_24 : decode cX5_finding 24 = .ok (.getfield 23, 3) := by decide +kernel
theorem dX5_finding_27 : decode cX5_finding 27 = .ok (.iconst 1, 1) := by decide +kernel
theorem dX5_finding_28 : decode cX5_finding 28 = .ok (.isub, 1) := by decide +kernel
theorem dX5_finding_29 : decode cX5_finding 29 = .ok (.invokestatic 34, 3) := by decide +kernel
theorem dX5_finding_32 : decode cX5_finding 32 = .ok (.ifCond .eq 21, 3) := by decide +kernel
theorem dX5_finding_35 : decode cX5_finding 35 = .ok (.iload_n 3, 1) := by decide +kernel
theorem dX5_finding_36 : decode cX5_finding 36 = .ok (.iconst 0, 1) := by decide +kernel
theorem dX5_finding_37 : decode cX5_finding 37 = .ok (.aload_n 0, 1) := by decide +kernel
theorem dX5_finding_38 : decode cX5_finding 38 = .ok (.getfield 23, 3) := by decide +kernel
theorem dX5_finding_41 : decode cX5_finding 41 = .ok (.iconst 1, 1) := by decide +kernel
theorem dX5_finding_42 : decode cX5_finding 42 = .ok (.isub, 1) := by decide +kernel
theorem dX5_finding_43 : decode cX5_finding 43 = .ok (.invokestatic 34, 3) := by decide +kernel
theorem dX5_finding_46 : decode cX5_finding 46 = .ok (.ifCond .eq 7, 3) := by decide +kernel
theorem dX5_finding_49 : decode cX5_finding 49 = .ok (.iconst (-1), 1) := by decide +kernel
theorem dX5_finding_50 : decode cX5_finding 50 = .ok (.goto 5, 3) := by decide +kernel
theorem dX5_finding_53 : decode cX5_finding 53 = .ok (.bipush (-14), 2) := by decide +kernel
theorem dX5_finding_55 : decode cX5_finding 55 = .ok (.ireturn, 1) := by decide +kernel
theorem dX5_putNumber_0 : decode cX5_putNumber 0 = .ok (.aload_n 0, 1) := by decide +kernel
theorem dX5_putNumber_1 : decode cX5_putNumber 1 = .ok (.getfield 9, 3) := by decide +kernel
theorem dX5_putNumber_4 : decode cX5_putNumber 4 = .ok (.iload_n 1, 1) := by decide +kernel
theorem dX5_putNumber_5 : decode cX5_putNumber 5 = .ok (.dload_n 2, 1) := by decide +kernel
theorem dX5_putNumber_6 : decode cX5_putNumber 6 = .ok (.dastore, 1) := by decide +kernel
theorem dX5_putNumber_7 : decode cX5_putNumber 7 = .ok (.aload_n 0, 1) := by decide +kernel
theorem dX5_putNumber_8 : decode cX5_putNumber 8 = .ok (.getfield 15, 3) := by decide +kernel
theorem dX5_putNumber_11 : decode cX5_putNumber 11 = .ok (.iload_n 1, 1) := by decide +kernel
theorem dX5_putNumber_12 : decode cX5_putNumber 12 = .ok (.iconst 0, 1) := by decide +kernel
theorem dX5_putNumber_13 : decode cX5_putNumber 13 = .ok (.bastore, 1) := by decide +kernel
theorem dX5_putNumber_14 : decode cX5_putNumber 14 = .ok (.return_, 1) := by decide +kernel
theorem dX5_putNoNumber_0 : decode cX5_putNoNumber 0 = .ok (.aload_n 0, 1) := by decide +kernel
theorem dX5_putNoNumber_1 : decode cX5_putNoNumber 1 = .ok (.getfield 9, 3) := by decide +kernel
theorem dX5_putNoNumber_4 : decode cX5_putNoNumber 4 = .ok (.iload_n 1, 1) := by decide +kernel
theorem dX5_putNoNumber_5 : decode cX5_putNoNumber 5 = .ok (.dconst 0, 1) := by decide +kernel
theorem dX5_putNoNumber_6 : decode cX5_putNoNumber 6 = .ok (.dastore, 1) := by decide +kernel
theorem dX5_putNoNumber_7 : decode cX5_putNoNumber 7 = .ok (.aload_n 0, 1) := by decide +kernel
theorem dX5_putNoNumber_8 : decode cX5_putNoNumber 8 = .ok (.getfield 15, 3) := by decide +kernel
theorem dX5_putNoNumber_11 : decode cX5_putNoNumber 11 = .ok (.iload_n 1, 1) := by decide +kernel
theorem dX5_putNoNumber_12 : decode cX5_putNoNumber 12 = .ok (.iconst 1, 1) := by decide +kernel
theorem dX5_putNoNumber_13 : decode cX5_putNoNumber 13 = .ok (.bastore, 1) := by decide +kernel
theorem dX5_putNoNumber_14 : decode cX5_putNoNumber 14 = .ok (.return_, 1) := by decide +kernel
theorem dX5_putQuotient_0 : decode cX5_putQuotient 0 = .ok (.iload_n 2, 1) := by decide +kernel
theorem dX5_putQuotient_1 : decode cX5_putQuotient 1 = .ok (.ifCond .ne 15, 3) := by decide +kernel
theorem dX5_putQuotient_4 : decode cX5_putQuotient 4 = .ok (.iload_n 3, 1) := by decide +kernel
theorem dX5_putQuotient_5 : decode cX5_putQuotient 5 = .ok (.ifCond .ne 11, 3) := by decide +kernel
theorem dX5_putQuotient_8 : decode cX5_putQuotient 8 = .ok (.aload_n 0, 1) := by decide +kernel
theorem dX5_putQuotient_9 : decode cX5_putQuotient 9 = .ok (.iload_n 1, 1) := by decide +kernel
theorem dX5_putQuotient_10 : decode cX5_putQuotient 10 = .ok (.invokevirtual 38, 3) := by decide +kernel
theorem dX5_putQuotient_13 : decode cX5_putQuotient 13 = .ok (.goto 34, 3) := by decide +kernel
theorem dX5_putQuotient_16 : decode cX5_putQuotient 16 = .ok (.aload_n 0, 1) := by decide +kernel
theorem dX5_putQuotient_17 : decode cX5_putQuotient 17 = .ok (.getfield 27, 3) := by decide +kernel
theorem dX5_putQuotient_20 : decode cX5_putQuotient 20 = .ok (.ifCond .ne 17, 3) := by decide +kernel
theorem dX5_putQuotient_23 : decode cX5_putQuotient 23 = .ok (.aload_n 0, 1) := by decide +kernel
theorem dX5_putQuotient_24 : decode cX5_putQuotient 24 = .ok (.iload_n 1, 1) := by decide +kernel
theorem dX5_putQuotient_25 : decode cX5_putQuotient 25 = .ok (.iload_n 2, 1) := by decide +kernel
theorem dX5_putQuotient_26 : decode cX5_putQuotient 26 = .ok (.i2f, 1) := by decide +kernel
theorem dX5_putQuotient_27 : decode cX5_putQuotient 27 = .ok (.iload_n 3, 1) := by decide +kernel
theorem dX5_putQuotient_28 : decode cX5_putQuotient 28 = .ok (.i2f, 1) := by decide +kernel
theorem dX5_putQuotient_29 : decode cX5_putQuotient 29 = .ok (.fdiv, 1) := by decide +kernel
theorem dX5_putQuotient_30 : decode cX5_putQuotient 30 = .ok (.f2d, 1) := by decide +kernel
theorem dX5_putQuotient_31 : decode cX5_putQuotient 31 = .ok (.invokevirtual 30, 3) := by decide +kernel
theorem dX5_putQuotient_34 : decode cX5_putQuotient 34 = .ok (.goto 13, 3) := by decide +kernel
theorem dX5_putQuotient_37 : decode cX5_putQuotient 37 = .ok (.aload_n 0, 1) := by decide +kernel
theorem dX5_putQuotient_38 : decode cX5_putQuotient 38 = .ok (.iload_n 1, 1) := by decide +kernel
theorem dX5_putQuotient_39 : decode cX5_putQuotient 39 = .ok (.iload_n 2, 1) := by decide +kernel
theorem dX5_putQuotient_40 : decode cX5_putQuotient 40 = .ok (.i2d, 1) := by decide +kernel
theorem dX5_putQuotient_41 : decode cX5_putQuotient 41 = .ok (.iload_n 3, 1) := by decide +kernel
theorem dX5_putQuotient_42 : decode cX5_putQuotient 42 = .ok (.i2d, 1) := by decide +kernel
theorem dX5_putQuotient_43 : decode cX5_putQuotient 43 = .ok (.ddiv, 1) := by decide +kernel
theorem dX5_putQuotient_44 : decode cX5_putQuotient 44 = .ok (.invokevirtual 30, 3) := by decide +kernel
theorem dX5_putQuotient_47 : decode cX5_putQuotient 47 = .ok (.return_, 1) := by decide +kernel
theorem dX5_putRemainder_0 : decode cX5_putRemainder 0 = .ok (.aload_n 0, 1) := by decide +kernel
theorem dX5_putRemainder_1 : decode cX5_putRemainder 1 = .ok (.getfield 15, 3) := by decide +kernel
theorem dX5_putRemainder_4 : decode cX5_putRemainder 4 = .ok (.iload_n 1, 1) := by decide +kernel
theorem dX5_putRemainder_5 : decode cX5_putRemainder 5 = .ok (.baload, 1) := by decide +kernel
theorem dX5_putRemainder_6 : decode cX5_putRemainder 6 = .ok (.ifCond .ne 35, 3) := by decide +kernel
theorem dX5_putRemainder_9 : decode cX5_putRemainder 9 = .ok (.aload_n 0, 1) := by decide +kernel
theorem dX5_putRemainder_10 : decode cX5_putRemainder 10 = .ok (.getfield 15, 3) := by decide +kernel
theorem dX5_putRemainder_13 : decode cX5_putRemainder 13 = .ok (.iload_n 2, 1) := by decide +kernel
theorem dX5_putRemainder_14 : decode cX5_putRemainder 14 = .ok (.baload, 1) := by decide +kernel
theorem dX5_putRemainder_15 : decode cX5_putRemainder 15 = .ok (.ifCond .ne 26, 3) := by decide +kernel
theorem dX5_putRemainder_18 : decode cX5_putRemainder 18 = .ok (.aload_n 0, 1) := by decide +kernel
theorem dX5_putRemainder_19 : decode cX5_putRemainder 19 = .ok (.getfield 9, 3) := by decide +kernel
theorem dX5_putRemainder_22 : decode cX5_putRemainder 22 = .ok (.iload_n 1, 1) := by decide +kernel
theorem dX5_putRemainder_23 : decode cX5_putRemainder 23 = .ok (.daload, 1) := by decide +kernel
theorem dX5_putRemainder_24 : decode cX5_putRemainder 24 = .ok (.invokestatic 42, 3) := by decide +kernel
theorem dX5_putRemainder_27 : decode cX5_putRemainder 27 = .ok (.ifCond .ne 14, 3) := by decide +kernel
theorem dX5_putRemainder_30 : decode cX5_putRemainder 30 = .ok (.aload_n 0, 1) := by decide +kernel
theorem dX5_putRemainder_31 : decode cX5_putRemainder 31 = .ok (.getfield 9, 3) := by decide +kernel
theorem dX5_putRemainder_34 : decode cX5_putRemainder 34 = .ok (.iload_n 2, 1) := by decide +kernel
theorem dX5_putRemainder_35 : decode cX5_putRemainder 35 = .ok (.daload, 1) := by decide +kernel
theorem dX5_putRemainder_36 : decode cX5_putRemainder 36 = .ok (.dconst 0, 1) := by decide +kernel
theorem dX5_putRemainder_37 : decode cX5_putRemainder 37 = .ok (.dcmp .l, 1) := by decide +kernel
theorem dX5_putRemainder_38 : decode cX5_putRemainder 38 = .ok (.ifCond .ne 11, 3) := by decide +kernel
theorem dX5_putRemainder_41 : decode cX5_putRemainder 41 = .ok (.aload_n 0, 1) := by decide +kernel
theorem dX5_putRemainder_42 : decode cX5_putRemainder 42 = .ok (.iload_n 1, 1) := by decide +kernel
theorem dX5_putRemainder_43 : decode cX5_putRemainder 43 = .ok (.invokevirtual 38, 3) := by decide +kernel
theorem dX5_putRemainder_46 : decode cX5_putRemainder 46 = .ok (.goto 23, 3) := by decide +kernel
theorem dX5_putRemainder_49 : decode cX5_putRemainder 49 = .ok (.aload_n 0, 1) := by decide +kernel
theorem dX5_putRemainder_50 : decode cX5_putRemainder 50 = .ok (.iload_n 1, 1) := by decide +kernel
theorem dX5_putRemainder_51 : decode cX5_putRemainder 51 = .ok (.aload_n 0, 1) := by decide +kernel
theorem dX5_putRemainder_52 : decode cX5_putRemainder 52 = .ok (.getfield 9, 3) := by decide +kernel
theorem dX5_putRemainder_55 : decode cX5_putRemainder 55 = .ok (.iload_n 1, 1) := by decide +kernel
theorem dX5_putRemainder_56 : decode cX5_putRemainder 56 = .ok (.daload, 1) := by decide +kernel
theorem dX5_putRemainder_57 : decode cX5_putRemainder 57 = .ok (.aload_n 0, 1) := by decide +kernel
theorem dX5_putRemainder_58 : decode cX5_putRemainder 58 = .ok (.getfield 9, 3) := by decide +kernel
theorem dX5_putRemainder_61 : decode cX5_putRemainder 61 = .ok (.iload_n 2, 1) := by decide +kernel
theorem dX5_putRemainder_62 : decode cX5_putRemainder 62 = .ok (.daload, 1) := by decide +kernel
theorem dX5_putRemainder_63 : decode cX5_putRemainder 63 = .ok (.invokestatic 46, 3) := by decide +kernel
theorem dX5_putRemainder_66 : decode cX5_putRemainder 66 = .ok (.invokevirtual 30, 3) := by decide +kernel
theorem dX5_putRemainder_69 : decode cX5_putRemainder 69 = .ok (.return_, 1) := by decide +kernel
theorem dX5_remainder_0 : decode cX5_remainder 0 = .ok (.dload_n 0, 1) := by decide +kernel
theorem dX5_remainder_1 : decode cX5_remainder 1 = .ok (.dconst 0, 1) := by decide +kernel
theorem dX5_remainder_2 : decode cX5_remainder 2 = .ok (.dcmp .g, 1) := by decide +kernel
theorem dX5_remainder_3 : decode cX5_remainder 3 = .ok (.ifCond .ge 8, 3) := by decide +kernel
theorem dX5_remainder_6 : decode cX5_remainder 6 = .ok (.dload_n 0, 1) := by decide +kernel
theorem dX5_remainder_7 : decode cX5_remainder 7 = .ok (.dneg, 1) := by decide +kernel
theorem dX5_remainder_8 : decode cX5_remainder 8 = .ok (.goto 4, 3) := by decide +kernel
theorem dX5_remainder_11 : decode cX5_remainder 11 = .ok (.dload_n 0, 1) := by decide +kernel
theorem dX5_remainder_12 : decode cX5_remainder 12 = .ok (.dstore 4, 2) := by decide +kernel
theorem dX5_remainder_14 : decode cX5_remainder 14 = .ok (.dload_n 2, 1) := by decide +kernel
theorem dX5_remainder_15 : decode cX5_remainder 15 = .ok (.dconst 0, 1) := by decide +kernel
theorem dX5_remainder_16 : decode cX5_remainder 16 = .ok (.dcmp .g, 1) := by decide +kernel
theorem dX5_remainder_17 : decode cX5_remainder 17 = .ok (.ifCond .ge 8, 3) := by decide +kernel
theorem dX5_remainder_20 : decode cX5_remainder 20 = .ok (.dload_n 2, 1) := by decide +kernel
theorem dX5_remainder_21 : decode cX5_remainder 21 = .ok (.dneg, 1) := by decide +kernel
theorem dX5_remainder_22 : decode cX5_remainder 22 = .ok (.goto 4, 3) := by decide +kernel
theorem dX5_remainder_25 : decode cX5_remainder 25 = .ok (.dload_n 2, 1) := by decide +kernel
theorem dX5_remainder_26 : decode cX5_remainder 26 = .ok (.dstore 6, 2) := by decide +kernel
theorem dX5_remainder_28 : decode cX5_remainder 28 = .ok (.iconst 0, 1) := by decide +kernel
theorem dX5_remainder_29 : decode cX5_remainder 29 = .ok (.istore 8, 2) := by decide +kernel
theorem dX5_remainder_31 : decode cX5_remainder 31 = .ok (.iload 8, 2) := by decide +kernel
theorem dX5_remainder_33 : decode cX5_remainder 33 = .ok (.sipush 2100, 3) := by decide +kernel
theorem dX5_remainder_36 : decode cX5_remainder 36 = .ok (.if_icmp .ge 29, 3) := by decide +kernel
theorem dX5_remainder_39 : decode cX5_remainder 39 = .ok (.dload 6, 2) := by decide +kernel
theorem dX5_remainder_41 : decode cX5_remainder 41 = .ok (.dload 4, 2) := by decide +kernel
theorem dX5_remainder_43 : decode cX5_remainder 43 = .ok (.ldc2_w 50, 3) := by decide +kernel
theorem dX5_remainder_46 : decode cX5_remainder 46 = .ok (.ddiv, 1) := by decide +kernel
theorem dX5_remainder_47 : decode cX5_remainder 47 = .ok (.dcmp .g, 1) := by decide +kernel
theorem dX5_remainder_48 : decode cX5_remainder 48 = .ok (.ifCond .gt 17, 3) := by decide +kernel
theorem dX5_remainder_51 : decode cX5_remainder 51 = .ok (.dload 6, 2) := by decide +kernel
theorem dX5_remainder_53 : decode cX5_remainder 53 = .ok (.ldc2_w 50, 3) := by decide +kernel
theorem dX5_remainder_56 : decode cX5_remainder 56 = .ok (.dmul, 1) := by decide +kernel
theorem dX5_remainder_57 : decode cX5_remainder 57 = .ok (.dstore 6, 2) := by decide +kernel
theorem dX5_remainder_59 : decode cX5_remainder 59 = .ok (.iinc 8 1, 3) := by decide +kernel
theorem dX5_remainder_62 : decode cX5_remainder 62 = .ok (.goto (-31), 3) := by decide +kernel
theorem dX5_remainder_65 : decode cX5_remainder 65 = .ok (.iload 8, 2) := by decide +kernel
theorem dX5_remainder_67 : decode cX5_remainder 67 = .ok (.istore 9, 2) := by decide +kernel
theorem dX5_remainder_69 : decode cX5_remainder 69 = .ok (.iload 9, 2) := by decide +kernel
theorem dX5_remainder_71 : decode cX5_remainder 71 = .ok (.ifCond .lt 32, 3) := by decide +kernel
theorem dX5_remainder_74 : decode cX5_remainder 74 = .ok (.dload 4, 2) := by decide +kernel
theorem dX5_remainder_76 : decode cX5_remainder 76 = .ok (.dload 6, 2) := by decide +kernel
theorem dX5_remainder_78 : decode cX5_remainder 78 = .ok (.dcmp .l, 1) := by decide +kernel
theorem dX5_remainder_79 : decode cX5_remainder 79 = .ok (.ifCond .lt 10, 3) := by decide +kernel
theorem dX5_remainder_82 : decode cX5_remainder 82 = .ok (.dload 4, 2) := by decide +kernel
theorem dX5_remainder_84 : decode cX5_remainder 84 = .ok (.dload 6, 2) := by decide +kernel
theorem dX5_remainder_86 : decode cX5_remainder 86 = .ok (.dsub, 1) := by decide +kernel
theorem dX5_remainder_87 : decode cX5_remainder 87 = .ok (.dstore 4, 2) := by decide +kernel
theorem dX5_remainder_89 : decode cX5_remainder 89 = .ok (.dload 6, 2) := by decide +kernel
theorem dX5_remainder_91 : decode cX5_remainder 91 = .ok (.ldc2_w 50, 3) := by decide +kernel
theorem dX5_remainder_94 : decode cX5_remainder 94 = .ok (.ddiv, 1) := by decide +kernel
theorem dX5_remainder_95 : decode cX5_remainder 95 = .ok (.dstore 6, 2) := by decide +kernel
theorem dX5_remainder_97 : decode cX5_remainder 97 = .ok (.iinc 9 (-1), 3) := by decide +kernel
theorem dX5_remainder_100 : decode cX5_remainder 100 = .ok (.goto (-31), 3) := by decide +kernel
theorem dX5_remainder_103 : decode cX5_remainder 103 = .ok (.dload_n 0, 1) := by decide +kernel
theorem dX5_remainder_104 : decode cX5_remainder 104 = .ok (.dconst 0, 1) := by decide +kernel
theorem dX5_remainder_105 : decode cX5_remainder 105 = .ok (.dcmp .g, 1) := by decide +kernel
theorem dX5_remainder_106 : decode cX5_remainder 106 = .ok (.ifCond .ge 9, 3) := by decide +kernel
theorem dX5_remainder_109 : decode cX5_remainder 109 = .ok (.dload 4, 2) := by decide +kernel
theorem dX5_remainder_111 : decode cX5_remainder 111 = .ok (.dneg, 1) := by decide +kernel
theorem dX5_remainder_112 : decode cX5_remainder 112 = .ok (.goto 5, 3) := by decide +kernel
theorem dX5_remainder_115 : decode cX5_remainder 115 = .ok (.dload 4, 2) := by decide +kernel
theorem dX5_remainder_117 : decode cX5_remainder 117 = .ok (.dreturn, 1) := by decide +kernel
theorem dX5_isEndless_0 : decode cX5_isEndless 0 = .ok (.dload_n 0, 1) := by decide +kernel
theorem dX5_isEndless_1 : decode cX5_isEndless 1 = .ok (.ldc2_w 52, 3) := by decide +kernel
theorem dX5_isEndless_4 : decode cX5_isEndless 4 = .ok (.dcmp .l, 1) := by decide +kernel
theorem dX5_isEndless_5 : decode cX5_isEndless 5 = .ok (.ifCond .gt 11, 3) := by decide +kernel
theorem dX5_isEndless_8 : decode cX5_isEndless 8 = .ok (.dload_n 0, 1) := by decide +kernel
theorem dX5_isEndless_9 : decode cX5_isEndless 9 = .ok (.ldc2_w 54, 3) := by decide +kernel
theorem dX5_isEndless_12 : decode cX5_isEndless 12 = .ok (.dcmp .g, 1) := by decide +kernel
theorem dX5_isEndless_13 : decode cX5_isEndless 13 = .ok (.ifCond .ge 7, 3) := by decide +kernel
theorem dX5_isEndless_16 : decode cX5_isEndless 16 = .ok (.iconst 1, 1) := by decide +kernel
theorem dX5_isEndless_17 : decode cX5_isEndless 17 = .ok (.goto 4, 3) := by decide +kernel
theorem dX5_isEndless_20 : decode cX5_isEndless 20 = .ok (.iconst 0, 1) := by decide +kernel
theorem dX5_isEndless_21 : decode cX5_isEndless 21 = .ok (.ireturn, 1) := by decide +kernel
theorem dX5_order_0 : decode cX5_order 0 = .ok (.aload_n 0, 1) := by decide +kernel
theorem dX5_order_1 : decode cX5_order 1 = .ok (.getfield 15, 3) := by decide +kernel
theorem dX5_order_4 : decode cX5_order 4 = .ok (.iload_n 1, 1) := by decide +kernel
theorem dX5_order_5 : decode cX5_order 5 = .ok (.baload, 1) := by decide +kernel
theorem dX5_order_6 : decode cX5_order 6 = .ok (.ifCond .ne 12, 3) := by decide +kernel
theorem dX5_order_9 : decode cX5_order 9 = .ok (.aload_n 0, 1) := by decide +kernel
theorem dX5_order_10 : decode cX5_order 10 = .ok (.getfield 15, 3) := by decide +kernel
theorem dX5_order_13 : decode cX5_order 13 = .ok (.iload_n 2, 1) := by decide +kernel
theorem dX5_order_14 : decode cX5_order 14 = .ok (.baload, 1) := by decide +kernel
theorem dX5_order_15 : decode cX5_order 15 = .ok (.ifCond .eq 5, 3) := by decide +kernel
theorem dX5_order_18 : decode cX5_order 18 = .ok (.iconst 0, 1) := by decide +kernel
theorem dX5_order_19 : decode cX5_order 19 = .ok (.ireturn, 1) := by decide +kernel
theorem dX5_order_20 : decode cX5_order 20 = .ok (.aload_n 0, 1) := by decide +kernel
theorem dX5_order_21 : decode cX5_order 21 = .ok (.getfield 9, 3) := by decide +kernel
theorem dX5_order_24 : decode cX5_order 24 = .ok (.iload_n 1, 1) := by decide +kernel
theorem dX5_order_25 : decode cX5_order 25 = .ok (.daload, 1) := by decide +kernel
theorem dX5_order_26 : decode cX5_order 26 = .ok (.aload_n 0, 1) := by decide +kernel
theorem dX5_order_27 : decode cX5_order 27 = .ok (.getfield 9, 3) := by decide +kernel
theorem dX5_order_30 : decode cX5_order 30 = .ok (.iload_n 2, 1) := by decide +kernel
theorem dX5_order_31 : decode cX5_order 31 = .ok (.daload, 1) := by decide +kernel
theorem dX5_order_32 : decode cX5_order 32 = .ok (.dcmp .g, 1) := by decide +kernel
theorem dX5_order_33 : decode cX5_order 33 = .ok (.ifCond .ge 5, 3) := by decide +kernel
theorem dX5_order_36 : decode cX5_order 36 = .ok (.iconst 2, 1) := by decide +kernel
theorem dX5_order_37 : decode cX5_order 37 = .ok (.ireturn, 1) := by decide +kernel
theorem dX5_order_38 : decode cX5_order 38 = .ok (.aload_n 0, 1) := by decide +kernel
theorem dX5_order_39 : decode cX5_order 39 = .ok (.getfield 9, 3) := by decide +kernel
theorem dX5_order_42 : decode cX5_order 42 = .ok (.iload_n 1, 1) := by decide +kernel
theorem dX5_order_43 : decode cX5_order 43 = .ok (.daload, 1) := by decide +kernel
theorem dX5_order_44 : decode cX5_order 44 = .ok (.aload_n 0, 1) := by decide +kernel
theorem dX5_order_45 : decode cX5_order 45 = .ok (.getfield 9, 3) := by decide +kernel
theorem dX5_order_48 : decode cX5_order 48 = .ok (.iload_n 2, 1) := by decide +kernel
theorem dX5_order_49 : decode cX5_order 49 = .ok (.daload, 1) := by decide +kernel
theorem dX5_order_50 : decode cX5_order 50 = .ok (.dcmp .l, 1) := by decide +kernel
theorem dX5_order_51 : decode cX5_order 51 = .ok (.ifCond .ne 7, 3) := by decide +kernel
theorem dX5_order_54 : decode cX5_order 54 = .ok (.iconst 1, 1) := by decide +kernel
theorem dX5_order_55 : decode cX5_order 55 = .ok (.goto 4, 3) := by decide +kernel
theorem dX5_order_58 : decode cX5_order 58 = .ok (.iconst 0, 1) := by decide +kernel
theorem dX5_order_59 : decode cX5_order 59 = .ok (.ireturn, 1) := by decide +kernel
theorem dX5_thousandAt_0 : decode cX5_thousandAt 0 = .ok (.aload_n 0, 1) := by decide +kernel
theorem dX5_thousandAt_1 : decode cX5_thousandAt 1 = .ok (.getfield 15, 3) := by decide +kernel
theorem dX5_thousandAt_4 : decode cX5_thousandAt 4 = .ok (.iload_n 1, 1) := by decide +kernel
theorem dX5_thousandAt_5 : decode cX5_thousandAt 5 = .ok (.baload, 1) := by decide +kernel
theorem dX5_thousandAt_6 : decode cX5_thousandAt 6 = .ok (.ifCond .eq 6, 3) := by decide +kernel
theorem dX5_thousandAt_9 : decode cX5_thousandAt 9 = .ok (.ldc 56, 2) := by decide +kernel
theorem dX5_thousandAt_11 : decode cX5_thousandAt 11 = .ok (.ireturn, 1) := by decide +kernel
theorem dX5_thousandAt_12 : decode cX5_thousandAt 12 = .ok (.aload_n 0, 1) := by decide +kernel
theorem dX5_thousandAt_13 : decode cX5_thousandAt 13 = .ok (.getfield 27, 3) := by decide +kernel
theorem dX5_thousandAt_16 : decode cX5_thousandAt 16 = .ok (.ifCond .ne 18, 3) := by decide +kernel
theorem dX5_thousandAt_19 : decode cX5_thousandAt 19 = .ok (.aload_n 0, 1) := by decide +kernel
theorem dX5_thousandAt_20 : decode cX5_thousandAt 20 = .ok (.getfield 9, 3) := by decide +kernel
theorem dX5_thousandAt_23 : decode cX5_thousandAt 23 = .ok (.iload_n 1, 1) := by decide +kernel
theorem dX5_thousandAt_24 : decode cX5_thousandAt 24 = .ok (.daload, 1) := by decide +kernel
theorem dX5_thousandAt_25 : decode cX5_thousandAt 25 = .ok (.d2f, 1) := by decide +kernel
theorem dX5_thousandAt_26 : decode cX5_thousandAt 26 = .ok (.ldc 57, 2) := by decide +kernel
theorem dX5_thousandAt_28 : decode cX5_thousandAt 28 = .ok (.fmul, 1) := by decide +kernel
theorem dX5_thousandAt_29 : decode cX5_thousandAt 29 = .ok (.f2d, 1) := by decide +kernel
theorem dX5_thousandAt_30 : decode cX5_thousandAt 30 = .ok (.invokestatic 58, 3) := by decide +kernel
theorem dX5_thousandAt_33 : decode cX5_thousandAt 33 = .ok (.ireturn, 1) := by decide +kernel
theorem dX5_thousandAt_34 : decode cX5_thousandAt 34 = .ok (.aload_n 0, 1) := by decide +kernel
theorem dX5_thousandAt_35 : decode cX5_thousandAt 35 = .ok (.getfield 9, 3) := by decide +kernel
theorem dX5_thousandAt_38 : decode cX5_thousandAt 38 = .ok (.iload_n 1, 1) := by decide +kernel
theorem dX5_thousandAt_39 : decode cX5_thousandAt 39 = .ok (.daload, 1) := by decide +kernel
theorem dX5_thousandAt_40 : decode cX5_thousandAt 40 = .ok (.ldc2_w 62, 3) := by decide +kernel
theorem dX5_thousandAt_43 : decode cX5_thousandAt 43 = .ok (.dmul, 1) := by decide +kernel
theorem dX5_thousandAt_44 : decode cX5_thousandAt 44 = .ok (.invokestatic 58, 3) := by decide +kernel
theorem dX5_thousandAt_47 : decode cX5_thousandAt 47 = .ok (.ireturn, 1) := by decide +kernel
theorem dX5_thousandOfAll_0 : decode cX5_thousandOfAll 0 = .ok (.dconst 0, 1) := by decide +kernel
theorem dX5_thousandOfAll_1 : decode cX5_thousandOfAll 1 = .ok (.dstore_n 1, 1) := by decide +kernel
theorem dX5_thousandOfAll_2 : decode cX5_thousandOfAll 2 = .ok (.iconst 0, 1) := by decide +kernel
theorem dX5_thousandOfAll_3 : decode cX5_thousandOfAll 3 = .ok (.istore_n 3, 1) := by decide +kernel
theorem dX5_thousandOfAll_4 : decode cX5_thousandOfAll 4 = .ok (.iload_n 3, 1) := by decide +kernel
theorem dX5_thousandOfAll_5 : decode cX5_thousandOfAll 5 = .ok (.aload_n 0, 1) := by decide +kernel
theorem dX5_thousandOfAll_6 : decode cX5_thousandOfAll 6 = .ok (.getfield 23, 3) := by decide +kernel
theorem dX5_thousandOfAll_9 : decode cX5_thousandOfAll 9 = .ok (.if_icmp .ge 68, 3) := by decide +kernel
theorem dX5_thousandOfAll_12 : decode cX5_thousandOfAll 12 = .ok (.aload_n 0, 1) := by decide +kernel
theorem dX5_thousandOfAll_13 : decode cX5_thousandOfAll 13 = .ok (.getfield 9, 3) := by decide +kernel
theorem dX5_thousandOfAll_16 : decode cX5_thousandOfAll 16 = .ok (.iload_n 3, 1) := by decide +kernel
theorem dX5_thousandOfAll_17 : decode cX5_thousandOfAll 17 = .ok (.daload, 1) := by decide +kernel
theorem dX5_thousandOfAll_18 : decode cX5_thousandOfAll 18 = .ok (.dstore 4, 2) := by decide +kernel
theorem dX5_thousandOfAll_20 : decode cX5_thousandOfAll 20 = .ok (.dload_n 1, 1) := by decide +kernel
theorem dX5_thousandOfAll_21 : decode cX5_thousandOfAll 21 = .ok (.invokestatic 42, 3) := by decide +kernel
theorem dX5_thousandOfAll_24 : decode cX5_thousandOfAll 24 = .ok (.ifCond .eq 22, 3) := by decide +kernel
theorem dX5_thousandOfAll_27 : decode cX5_thousandOfAll 27 = .ok (.dload 4, 2) := by decide +kernel
theorem dX5_thousandOfAll_29 : decode cX5_thousandOfAll 29 = .ok (.invokestatic 42, 3) := by decide +kernel
theorem dX5_thousandOfAll_32 : decode cX5_thousandOfAll 32 = .ok (.ifCond .eq 14, 3) := by decide +kernel
theorem dX5_thousandOfAll_35 : decode cX5_thousandOfAll 35 = .ok (.dload_n 1, 1) := by decide +kernel
theorem dX5_thousandOfAll_36 : decode cX5_thousandOfAll 36 = .ok (.dload 4, 2) := by decide +kernel
theorem dX5_thousandOfAll_38 : decode cX5_thousandOfAll 38 = .ok (.dcmp .l, 1) := by decide +kernel
theorem dX5_thousandOfAll_39 : decode cX5_thousandOfAll 39 = .ok (.ifCond .eq 7, 3) := by decide +kernel
theorem dX5_thousandOfAll_42 : decode cX5_thousandOfAll 42 = .ok (.iconst 1, 1) := by decide +kernel
theorem dX5_thousandOfAll_43 : decode cX5_thousandOfAll 43 = .ok (.goto 4, 3) := by decide +kernel
theorem dX5_thousandOfAll_46 : decode cX5_thousandOfAll 46 = .ok (.iconst 0, 1) := by decide +kernel
theorem dX5_thousandOfAll_47 : decode cX5_thousandOfAll 47 = .ok (.istore 6, 2) := by decide +kernel
theorem dX5_thousandOfAll_49 : decode cX5_thousandOfAll 49 = .ok (.aload_n 0, 1) := by decide +kernel
theorem dX5_thousandOfAll_50 : decode cX5_thousandOfAll 50 = .ok (.getfield 15, 3) := by decide +kernel
theorem dX5_thousandOfAll_53 : decode cX5_thousandOfAll 53 = .ok (.iload_n 3, 1) := by decide +kernel
theorem dX5_thousandOfAll_54 : decode cX5_thousandOfAll 54 = .ok (.baload, 1) := by decide +kernel
theorem dX5_thousandOfAll_55 : decode cX5_thousandOfAll 55 = .ok (.ifCond .ne 8, 3) := by decide +kernel
theorem dX5_thousandOfAll_58 : decode cX5_thousandOfAll 58 = .ok (.iload 6, 2) := by decide +kernel
theorem dX5_thousandOfAll_60 : decode cX5_thousandOfAll 60 = .ok (.ifCond .eq 6, 3) := by decide +kernel
theorem dX5_thousandOfAll_63 : decode cX5_thousandOfAll 63 = .ok (.ldc 56, 2) := by decide +kernel
theorem dX5_thousandOfAll_65 : decode cX5_thousandOfAll 65 = .ok (.ireturn, 1) := by decide +kernel
theorem dX5_thousandOfAll_66 : decode cX5_thousandOfAll 66 = .ok (.dload_n 1, 1) := by decide +kernel
theorem dX5_thousandOfAll_67 : decode cX5_thousandOfAll 67 = .ok (.dload 4, 2) := by decide +kernel
theorem dX5_thousandOfAll_69 : decode cX5_thousandOfAll 69 = .ok (.dadd, 1) := by decide +kernel
theorem dX5_thousandOfAll_70 : decode cX5_thousandOfAll 70 = .ok (.dstore_n 1, 1) := by decide +kernel
theorem dX5_thousandOfAll_71 : decode cX5_thousandOfAll 71 = .ok (.iinc 3 1, 3) := by decide +kernel
theorem dX5_thousandOfAll_74 : decode cX5_thousandOfAll 74 = .ok (.goto (-70), 3) := by decide +kernel
theorem dX5_thousandOfAll_77 : decode cX5_thousandOfAll 77 = .ok (.dload_n 1, 1) := by decide +kernel
theorem dX5_thousandOfAll_78 : decode cX5_thousandOfAll 78 = .ok (.ldc2_w 62, 3) := by decide +kernel
theorem dX5_thousandOfAll_81 : decode cX5_thousandOfAll 81 = .ok (.dmul, 1) := by decide +kernel
theorem dX5_thousandOfAll_82 : decode cX5_thousandOfAll 82 = .ok (.invokestatic 58, 3) := by decide +kernel
theorem dX5_thousandOfAll_85 : decode cX5_thousandOfAll 85 = .ok (.ireturn, 1) := by decide +kernel
theorem dX5_cutThousand_0 : decode cX5_cutThousand 0 = .ok (.dload_n 0, 1) := by decide +kernel
theorem dX5_cutThousand_1 : decode cX5_cutThousand 1 = .ok (.ldc2_w 52, 3) := by decide +kernel
theorem dX5_cutThousand_4 : decode cX5_cutThousand 4 = .ok (.dcmp .l, 1) := by decide +kernel
theorem dX5_cutThousand_5 : decode cX5_cutThousand 5 = .ok (.ifCond .lt 6, 3) := by decide +kernel
theorem dX5_cutThousand_8 : decode cX5_cutThousand 8 = .ok (.ldc 64, 2) := by decide +kernel
theorem dX5_cutThousand_10 : decode cX5_cutThousand 10 = .ok (.ireturn, 1) := by decide +kernel
theorem dX5_cutThousand_11 : decode cX5_cutThousand 11 = .ok (.dload_n 0, 1) := by decide +kernel
theorem dX5_cutThousand_12 : decode cX5_cutThousand 12 = .ok (.ldc2_w 54, 3) := by decide +kernel
theorem dX5_cutThousand_15 : decode cX5_cutThousand 15 = .ok (.dcmp .g, 1) := by decide +kernel
theorem dX5_cutThousand_16 : decode cX5_cutThousand 16 = .ok (.ifCond .gt 6, 3) := by decide +kernel
theorem dX5_cutThousand_19 : decode cX5_cutThousand 19 = .ok (.ldc 65, 2) := by decide +kernel
theorem dX5_cutThousand_21 : decode cX5_cutThousand 21 = .ok (.ireturn, 1) := by decide +kernel
theorem dX5_cutThousand_22 : decode cX5_cutThousand 22 = .ok (.ldc 56, 2) := by decide +kernel
theorem dX5_cutThousand_24 : decode cX5_cutThousand 24 = .ok (.dload_n 0, 1) := by decide +kernel
theorem dX5_cutThousand_25 : decode cX5_cutThousand 25 = .ok (.d2i, 1) := by decide +kernel
theorem dX5_cutThousand_26 : decode cX5_cutThousand 26 = .ok (.iadd, 1) := by decide +kernel
theorem dX5_cutThousand_27 : decode cX5_cutThousand 27 = .ok (.ireturn, 1) := by decide +kernel
theorem dX5_noNumberCount_0 : decode cX5_noNumberCount 0 = .ok (.iconst 0, 1) := by decide +kernel
theorem dX5_noNumberCount_1 : decode cX5_noNumberCount 1 = .ok (.istore_n 1, 1) := by decide +kernel
theorem dX5_noNumberCount_2 : decode cX5_noNumberCount 2 = .ok (.iconst 0, 1) := by decide +kernel
theorem dX5_noNumberCount_3 : decode cX5_noNumberCount 3 = .ok (.istore_n 2, 1) := by decide +kernel
theorem dX5_noNumberCount_4 : decode cX5_noNumberCount 4 = .ok (.iload_n 2, 1) := by decide +kernel
theorem dX5_noNumberCount_5 : decode cX5_noNumberCount 5 = .ok (.aload_n 0, 1) := by decide +kernel
theorem dX5_noNumberCount_6 : decode cX5_noNumberCount 6 = .ok (.getfield 23, 3) := by decide +kernel
theorem dX5_noNumberCount_9 : decode cX5_noNumberCount 9 = .ok (.if_icmp .ge 21, 3) := by decide +kernel
theorem dX5_noNumberCount_12 : decode cX5_noNumberCount 12 = .ok (.aload_n 0, 1) := by decide +kernel
theorem dX5_noNumberCount_13 : decode cX5_noNumberCount 13 = .ok (.getfield 15, 3) := by decide +kernel
theorem dX5_noNumberCount_16 : decode cX5_noNumberCount 16 = .ok (.iload_n 2, 1) := by decide +kernel
theorem dX5_noNumberCount_17 : decode cX5_noNumberCount 17 = .ok (.baload, 1) := by decide +kernel
theorem dX5_noNumberCount_18 : decode cX5_noNumberCount 18 = .ok (.ifCond .eq 6, 3) := by decide +kernel
theorem dX5_noNumberCount_21 : decode cX5_noNumberCount 21 = .ok (.iinc 1 1, 3) := by decide +kernel
theorem dX5_noNumberCount_24 : decode cX5_noNumberCount 24 = .ok (.iinc 2 1, 3) := by decide +kernel
theorem dX5_noNumberCount_27 : decode cX5_noNumberCount 27 = .ok (.goto (-23), 3) := by decide +kernel
theorem dX5_noNumberCount_30 : decode cX5_noNumberCount 30 = .ok (.iload_n 1, 1) := by decide +kernel
theorem dX5_noNumberCount_31 : decode cX5_noNumberCount 31 = .ok (.ireturn, 1) := by decide +kernel
theorem dJx29ce0_ordinal_8abf5_0 : decode cJx29ce0_ordinal_8abf5 0 = .ok (.aload_n 0, 1) := by decide +kernel
theorem dJx29ce0_ordinal_8abf5_1 : decode cJx29ce0_ordinal_8abf5 1 = .ok (.getfield 7, 3) := by decide +kernel
theorem dJx29ce0_ordinal_8abf5_4 : decode cJx29ce0_ordinal_8abf5 4 = .ok (.ireturn, 1) := by decide +kernel
theorem dJ9_floorDiv_7cf53_0 : decode cJ9_floorDiv_7cf53 0 = .ok (.iload_n 0, 1) := by decide +kernel
theorem dJ9_floorDiv_7cf53_1 : decode cJ9_floorDiv_7cf53 1 = .ok (.iload_n 1, 1) := by decide +kernel
theorem dJ9_floorDiv_7cf53_2 : decode cJ9_floorDiv_7cf53 2 = .ok (.idiv, 1) := by decide +kernel
theorem dJ9_floorDiv_7cf53_3 : decode cJ9_floorDiv_7cf53 3 = .ok (.istore_n 2, 1) := by decide +kernel
theorem dJ9_floorDiv_7cf53_4 : decode cJ9_floorDiv_7cf53 4 = .ok (.iload_n 0, 1) := by decide +kernel
theorem dJ9_floorDiv_7cf53_5 : decode cJ9_floorDiv_7cf53 5 = .ok (.iload_n 1, 1) := by decide +kernel
theorem dJ9_floorDiv_7cf53_6 : decode cJ9_floorDiv_7cf53 6 = .ok (.ixor, 1) := by decide +kernel
theorem dJ9_floorDiv_7cf53_7 : decode cJ9_floorDiv_7cf53 7 = .ok (.ifCond .ge 14, 3) := by decide +kernel
theorem dJ9_floorDiv_7cf53_10 : decode cJ9_floorDiv_7cf53 10 = .ok (.iload_n 2, 1) := by decide +kernel
theorem dJ9_floorDiv_7cf53_11 : decode cJ9_floorDiv_7cf53 11 = .ok (.iload_n 1, 1) := by decide +kernel
theorem dJ9_floorDiv_7cf53_12 : decode cJ9_floorDiv_7cf53 12 = .ok (.imul, 1) := by decide +kernel
theorem dJ9_floorDiv_7cf53_13 : decode cJ9_floorDiv_7cf53 13 = .ok (.iload_n 0, 1) := by decide +kernel
theorem dJ9_floorDiv_7cf53_14 : decode cJ9_floorDiv_7cf53 14 = .ok (.if_icmp .eq 7, 3) := by decide +kernel
theorem dJ9_floorDiv_7cf53_17 : decode cJ9_floorDiv_7cf53 17 = .ok (.iload_n 2, 1) := by decide +kernel
theorem dJ9_floorDiv_7cf53_18 : decode cJ9_floorDiv_7cf53 18 = .ok (.iconst 1, 1) := by decide +kernel
theorem dJ9_floorDiv_7cf53_19 : decode cJ9_floorDiv_7cf53 19 = .ok (.isub, 1) := by decide +kernel
theorem dJ9_floorDiv_7cf53_20 : decode cJ9_floorDiv_7cf53 20 = .ok (.ireturn, 1) := by decide +kernel
theorem dJ9_floorDiv_7cf53_21 : decode cJ9_floorDiv_7cf53 21 = .ok (.iload_n 2, 1) := by decide +kernel
theorem dJ9_floorDiv_7cf53_22 : decode cJ9_floorDiv_7cf53 22 = .ok (.ireturn, 1) := by decide +kernel
theorem dJ9_min_7cf53_0 : decode cJ9_min_7cf53 0 = .ok (.iload_n 0, 1) := by decide +kernel
theorem dJ9_min_7cf53_1 : decode cJ9_min_7cf53 1 = .ok (.iload_n 1, 1) := by decide +kernel
theorem dJ9_min_7cf53_2 : decode cJ9_min_7cf53 2 = .ok (.if_icmp .gt 7, 3) := by decide +kernel
theorem dJ9_min_7cf53_5 : decode cJ9_min_7cf53 5 = .ok (.iload_n 0, 1) := by decide +kernel
theorem dJ9_min_7cf53_6 : decode cJ9_min_7cf53 6 = .ok (.goto 4, 3) := by decide +kernel
theorem dJ9_min_7cf53_9 : decode cJ9_min_7cf53 9 = .ok (.iload_n 1, 1) := by decide +kernel
theorem dJ9_min_7cf53_10 : decode cJ9_min_7cf53 10 = .ok (.ireturn, 1) := by decide +kernel
theorem dJ0_length_8abf5_0 : decode cJ0_length_8abf5 0 = .ok (.aload_n 0, 1) := by decide +kernel
theorem dJ0_length_8abf5_1 : decode cJ0_length_8abf5 1 = .ok (.getfield 9, 3) := by decide +kernel
theorem dJ0_length_8abf5_4 : decode cJ0_length_8abf5 4 = .ok (.arraylength, 1) := by decide +kernel
theorem dJ0_length_8abf5_5 : decode cJ0_length_8abf5 5 = .ok (.aload_n 0, 1) := by decide +kernel
theorem dJ0_length_8abf5_6 : decode cJ0_length_8abf5 6 = .ok (.invokevirtual 335, 3) := by decide +kernel
theorem dJ0_length_8abf5_9 : decode cJ0_length_8abf5 9 = .ok (.ishr, 1) := by decide +kernel
theorem dJ0_length_8abf5_10 : decode cJ0_length_8abf5 10 = .ok (.ireturn, 1) := by decide +kernel
theorem dJ0_charAt_5068e_0 : decode cJ0_charAt_5068e 0 = .ok (.aload_n 0, 1) := by decide +kernel
theorem dJ0_charAt_5068e_1 : decode cJ0_charAt_5068e 1 = .ok (.invokevirtual 492, 3) := by decide +kernel
theorem dJ0_charAt_5068e_4 : decode cJ0_charAt_5068e 4 = .ok (.ifCond .eq 12, 3) := by decide +kernel
theorem dJ0_charAt_5068e_7 : decode cJ0_charAt_5068e 7 = .ok (.aload_n 0, 1) := by decide +kernel
theorem dJ0_charAt_5068e_8 : decode cJ0_charAt_5068e 8 = .ok (.getfield 9, 3) := by decide +kernel
theorem dJ0_charAt_5068e_11 : decode cJ0_charAt_5068e 11 = .ok (.iload_n 1, 1) := by decide +kernel
theorem dJ0_charAt_5068e_12 : decode cJ0_charAt_5068e 12 = .ok (.invokestatic 495, 3) := by decide +kernel
theorem dJ0_charAt_5068e_15 : decode cJ0_charAt_5068e 15 = .ok (.ireturn, 1) := by decide +kernel
theorem dJ0_charAt_5068e_16 : decode cJ0_charAt_5068e 16 = .ok (.aload_n 0, 1) := by decide +kernel
theorem dJ0_charAt_5068e_17 : decode cJ0_charAt_5068e 17 = .ok (.getfield 9, 3) := by decide +kernel
theorem dJ0_charAt_5068e_20 : decode cJ0_charAt_5068e 20 = .ok (.iload_n 1, 1) := by decide +kernel
theorem dJ0_charAt_5068e_21 : decode cJ0_charAt_5068e 21 = .ok (.invokestatic 498, 3) := by decide +kernel
theorem dJ0_charAt_5068e_24 : decode cJ0_charAt_5068e 24 = .ok (.ireturn, 1) := by decide +kernel
theorem dJ0_coder_7d493_0 : decode cJ0_coder_7d493 0 = .ok (.getstatic 38, 3) := by decide +kernel
theorem dJ0_coder_7d493_3 : decode cJ0_coder_7d493 3 = .ok (.ifCond .eq 10, 3) := by decide +kernel
theorem dJ0_coder_7d493_6 : decode cJ0_coder_7d493 6 = .ok (.aload_n 0, 1) := by decide +kernel
theorem dJ0_coder_7d493_7 : decode cJ0_coder_7d493 7 = .ok (.getfield 15, 3) := by decide +kernel
theorem dJ0_coder_7d493_10 : decode cJ0_coder_7d493 10 = .ok (.goto 4, 3) := by decide +kernel
theorem dJ0_coder_7d493_13 : decode cJ0_coder_7d493 13 = .ok (.iconst 1, 1) := by decide +kernel
theorem dJ0_coder_7d493_14 : decode cJ0_coder_7d493 14 = .ok (.ireturn, 1) := by decide +kernel
theorem dJ0_isLatin1_aae02_0 : decode cJ0_isLatin1_aae02 0 = .ok (.getstatic 38, 3) := by decide +kernel
theorem dJ0_isLatin1_aae02_3 : decode cJ0_isLatin1_aae02 3 = .ok (.ifCond .eq 14, 3) := by decide +kernel
theorem dJ0_isLatin1_aae02_6 : decode cJ0_isLatin1_aae02 6 = .ok (.aload_n 0, 1) := by decide +kernel
theorem dJ0_isLatin1_aae02_7 : decode cJ0_isLatin1_aae02 7 = .ok (.getfield 15, 3) := by decide +kernel
theorem dJ0_isLatin1_aae02_10 : decode cJ0_isLatin1_aae02 10 = .ok (.ifCond .ne 7, 3) := by decide +kernel
theorem dJ0_isLatin1_aae02_13 : decode cJ0_isLatin1_aae02 13 = .ok (.iconst 1, 1) := by decide +kernel
theorem dJ0_isLatin1_aae02_14 : decode cJ0_isLatin1_aae02 14 = .ok (.goto 4, 3) := by decide +kernel
theorem dJ0_isLatin1_aae02_17 : decode cJ0_isLatin1_aae02 17 = .ok (.iconst 0, 1) := by decide +kernel
theorem dJ0_isLatin1_aae02_18 : decode cJ0_isLatin1_aae02 18 = .ok (.ireturn, 1) := by decide +kernel
theorem dJ0_checkIndex_df160_0 : decode cJ0_checkIndex_df160 0 = .ok (.iload_n 0, 1) := by decide +kernel
theorem dJ0_checkIndex_df160_1 : decode cJ0_checkIndex_df160 1 = .ok (.iload_n 1, 1) := by decide +kernel
theorem dJ0_checkIndex_df160_2 : decode cJ0_checkIndex_df160 2 = .ok (.getstatic 1053, 3) := by decide +kernel
theorem dJ0_checkIndex_df160_5 : decode cJ0_checkIndex_df160 5 = .ok (.invokestatic 1059, 3) := by decide +kernel
theorem dJ0_checkIndex_df160_8 : decode cJ0_checkIndex_df160 8 = .ok (.pop, 1) := by decide +kernel
theorem dJ0_checkIndex_df160_9 : decode cJ0_checkIndex_df160 9 = .ok (.return_, 1) := by decide +kernel
theorem dJ1_charAt_3b067_0 : decode cJ1_charAt_3b067 0 = .ok (.iload_n 1, 1) := by decide +kernel
theorem dJ1_charAt_3b067_1 : decode cJ1_charAt_3b067 1 = .ok (.aload_n 0, 1) := by decide +kernel
theorem dJ1_charAt_3b067_2 : decode cJ1_charAt_3b067 2 = .ok (.arraylength, 1) := by decide +kernel
theorem dJ1_charAt_3b067_3 : decode cJ1_charAt_3b067 3 = .ok (.invokestatic 9, 3) := by decide +kernel
theorem dJ1_charAt_3b067_6 : decode cJ1_charAt_3b067 6 = .ok (.aload_n 0, 1) := by decide +kernel
theorem dJ1_charAt_3b067_7 : decode cJ1_charAt_3b067 7 = .ok (.iload_n 1, 1) := by decide +kernel
theorem dJ1_charAt_3b067_8 : decode cJ1_charAt_3b067 8 = .ok (.baload, 1) := by decide +kernel
theorem dJ1_charAt_3b067_9 : decode cJ1_charAt_3b067 9 = .ok (.sipush 255, 3) := by decide +kernel
theorem dJ1_charAt_3b067_12 : decode cJ1_charAt_3b067 12 = .ok (.iand, 1) := by decide +kernel
theorem dJ1_charAt_3b067_13 : decode cJ1_charAt_3b067 13 = .ok (.i2c, 1) := by decide +kernel
theorem dJ1_charAt_3b067_14 : decode cJ1_charAt_3b067 14 = .ok (.ireturn, 1) := by decide +kernel
theorem dJ2_getChar_3b067_0 : decode cJ2_getChar_3b067 0 = .ok (.getstatic 44, 3) := by decide +kernel
theorem dJ2_getChar_3b067_3 : decode cJ2_getChar_3b067 3 = .ok (.ifCond .ne 25, 3) := by decide +kernel
theorem dJ2_getChar_3b067_6 : decode cJ2_getChar_3b067 6 = .ok (.iload_n 1, 1) := by decide +kernel
theorem dJ2_getChar_3b067_7 : decode cJ2_getChar_3b067 7 = .ok (.ifCond .lt 11, 3) := by decide +kernel
theorem dJ2_getChar_3b067_10 : decode cJ2_getChar_3b067 10 = .ok (.iload_n 1, 1) := by decide +kernel
theorem dJ2_getChar_3b067_11 : decode cJ2_getChar_3b067 11 = .ok (.aload_n 0, 1) := by decide +kernel
theorem dJ2_getChar_3b067_12 : decode cJ2_getChar_3b067 12 = .ok (.invokestatic 48, 3) := by decide +kernel
theorem dJ2_getChar_3b067_15 : decode cJ2_getChar_3b067 15 = .ok (.if_icmp .lt 13, 3) := by decide +kernel
theorem dJ2_getChar_3b067_18 : decode cJ2_getChar_3b067 18 = .ok (.new 52, 3) := by decide +kernel
theorem dJ2_getChar_3b067_21 : decode cJ2_getChar_3b067 21 = .ok (.dup, 1) := by decide +kernel
theorem dJ2_getChar_3b067_22 : decode cJ2_getChar_3b067 22 = .ok (.ldc 54, 2) := by decide +kernel
theorem dJ2_getChar_3b067_24 : decode cJ2_getChar_3b067 24 = .ok (.invokespecial 56, 3) := by decide +kernel
theorem dJ2_getChar_3b067_27 : decode cJ2_getChar_3b067 27 = .ok (.athrow, 1) := by decide +kernel
theorem dJ2_getChar_3b067_28 : decode cJ2_getChar_3b067 28 = .ok (.iload_n 1, 1) := by decide +kernel
theorem dJ2_getChar_3b067_29 : decode cJ2_getChar_3b067 29 = .ok (.iconst 1, 1) := by decide +kernel
theorem dJ2_getChar_3b067_30 : decode cJ2_getChar_3b067 30 = .ok (.ishl, 1) := by decide +kernel
theorem dJ2_getChar_3b067_31 : decode cJ2_getChar_3b067 31 = .ok (.istore_n 1, 1) := by decide +kernel
theorem dJ2_getChar_3b067_32 : decode cJ2_getChar_3b067 32 = .ok (.aload_n 0, 1) := by decide +kernel
theorem dJ2_getChar_3b067_33 : decode cJ2_getChar_3b067 33 = .ok (.iload_n 1, 1) := by decide +kernel
theorem dJ2_getChar_3b067_34 : decode cJ2_getChar_3b067 34 = .ok (.iinc 1 1, 3) := by decide +kernel
theorem dJ2_getChar_3b067_37 : decode cJ2_getChar_3b067 37 = .ok (.baload, 1) := by decide +kernel
theorem dJ2_getChar_3b067_38 : decode cJ2_getChar_3b067 38 = .ok (.sipush 255, 3) := by decide +kernel
theorem dJ2_getChar_3b067_41 : decode cJ2_getChar_3b067 41 = .ok (.iand, 1) := by decide +kernel
theorem dJ2_getChar_3b067_42 : decode cJ2_getChar_3b067 42 = .ok (.getstatic 59, 3) := by decide +kernel
theorem dJ2_getChar_3b067_45 : decode cJ2_getChar_3b067 45 = .ok (.ishl, 1) := by decide +kernel
theorem dJ2_getChar_3b067_46 : decode cJ2_getChar_3b067 46 = .ok (.aload_n 0, 1) := by decide +kernel
theorem dJ2_getChar_3b067_47 : decode cJ2_getChar_3b067 47 = .ok (.iload_n 1, 1) := by decide +kernel
theorem dJ2_getChar_3b067_48 : decode cJ2_getChar_3b067 48 = .ok (.baload, 1) := by decide +kernel
theorem dJ2_getChar_3b067_49 : decode cJ2_getChar_3b067 49 = .ok (.sipush 255, 3) := by decide +kernel
theorem dJ2_getChar_3b067_52 : decode cJ2_getChar_3b067 52 = .ok (.iand, 1) := by decide +kernel
theorem dJ2_getChar_3b067_53 : decode cJ2_getChar_3b067 53 = .ok (.getstatic 63, 3) := by decide +kernel
theorem dJ2_getChar_3b067_56 : decode cJ2_getChar_3b067 56 = .ok (.ishl, 1) := by decide +kernel
theorem dJ2_getChar_3b067_57 : decode cJ2_getChar_3b067 57 = .ok (.ior, 1) := by decide +kernel
theorem dJ2_getChar_3b067_58 : decode cJ2_getChar_3b067 58 = .ok (.i2c, 1) := by decide +kernel
theorem dJ2_getChar_3b067_59 : decode cJ2_getChar_3b067 59 = .ok (.ireturn, 1) := by decide +kernel
theorem dJ2_length_9d52b_0 : decode cJ2_length_9d52b 0 = .ok (.aload_n 0, 1) := by decide +kernel
theorem dJ2_length_9d52b_1 : decode cJ2_length_9d52b 1 = .ok (.arraylength, 1) := by decide +kernel
theorem dJ2_length_9d52b_2 : decode cJ2_length_9d52b 2 = .ok (.iconst 1, 1) := by decide +kernel
theorem dJ2_length_9d52b_3 : decode cJ2_length_9d52b 3 = .ok (.ishr, 1) := by decide +kernel
theorem dJ2_length_9d52b_4 : decode cJ2_length_9d52b 4 = .ok (.ireturn, 1) := by decide +kernel
theorem dJ2_charAt_3b067_0 : decode cJ2_charAt_3b067 0 = .ok (.iload_n 1, 1) := by decide +kernel
theorem dJ2_charAt_3b067_1 : decode cJ2_charAt_3b067 1 = .ok (.aload_n 0, 1) := by decide +kernel
theorem dJ2_charAt_3b067_2 : decode cJ2_charAt_3b067 2 = .ok (.invokestatic 67, 3) := by decide +kernel
theorem dJ2_charAt_3b067_5 : decode cJ2_charAt_3b067 5 = .ok (.aload_n 0, 1) := by decide +kernel
theorem dJ2_charAt_3b067_6 : decode cJ2_charAt_3b067 6 = .ok (.iload_n 1, 1) := by decide +kernel
theorem dJ2_charAt_3b067_7 : decode cJ2_charAt_3b067 7 = .ok (.invokestatic 71, 3) := by decide +kernel
theorem dJ2_charAt_3b067_10 : decode cJ2_charAt_3b067 10 = .ok (.ireturn, 1) := by decide +kernel
theorem dJ2_checkIndex_2214a_0 : decode cJ2_checkIndex_2214a 0 = .ok (.iload_n 0, 1) := by decide +kernel
theorem dJ2_checkIndex_2214a_1 : decode cJ2_checkIndex_2214a 1 = .ok (.aload_n 1, 1) := by decide +kernel
theorem dJ2_checkIndex_2214a_2 : decode cJ2_checkIndex_2214a 2 = .ok (.invokestatic 48, 3) := by decide +kernel
theorem dJ2_checkIndex_2214a_5 : decode cJ2_checkIndex_2214a 5 = .ok (.invokestatic 414, 3) := by decide +kernel
theorem dJ2_checkIndex_2214a_8 : decode cJ2_checkIndex_2214a 8 = .ok (.return_, 1) := by decide +kernel
theorem dJ3_checkIndex_8e157_0 : decode cJ3_checkIndex_8e157 0 = .ok (.iload_n 0, 1) := by decide +kernel
theorem dJ3_checkIndex_8e157_1 : decode cJ3_checkIndex_8e157 1 = .ok (.ifCond .lt 8, 3) := by decide +kernel
theorem dJ3_checkIndex_8e157_4 : decode cJ3_checkIndex_8e157 4 = .ok (.iload_n 0, 1) := by decide +kernel
theorem dJ3_checkIndex_8e157_5 : decode cJ3_checkIndex_8e157 5 = .ok (.iload_n 1, 1) := by decide +kernel
theorem dJ3_checkIndex_8e157_6 : decode cJ3_checkIndex_8e157 6 = .ok (.if_icmp .lt 10, 3) := by decide +kernel
theorem dJ3_checkIndex_8e157_9 : decode cJ3_checkIndex_8e157 9 = .ok (.aload_n 2, 1) := by decide +kernel
theorem dJ3_checkIndex_8e157_10 : decode cJ3_checkIndex_8e157 10 = .ok (.iload_n 0, 1) := by decide +kernel
theorem dJ3_checkIndex_8e157_11 : decode cJ3_checkIndex_8e157 11 = .ok (.iload_n 1, 1) := by decide +kernel
theorem dJ3_checkIndex_8e157_12 : decode cJ3_checkIndex_8e157 12 = .ok (.invokestatic 95, 3) := by decide +kernel
theorem dJ3_checkIndex_8e157_15 : decode cJ3_checkIndex_8e157 15 = .ok (.athrow, 1) := by decide +kernel
theorem dJ3_checkIndex_8e157_16 : decode cJ3_checkIndex_8e157 16 = .ok (.iload_n 0, 1) := by decide +kernel
theorem dJ3_checkIndex_8e157_17 : decode cJ3_checkIndex_8e157 17 = .ok (.ireturn, 1) := by decide +kernel
end
section
/-! decode rows: X7 L -/
theorem dX7_init_0 : decode cX7_init 0 = .ok (.aload_n 0, 1) := by decide +kernel
theorem dX7_init_1 : decode cX7_init 1 = .ok (.invokespecial 1, 3) := by decide +kernel
theorem dX7_init_4 : decode cX7_init 4 = .ok (.aload_n 0, 1) := by decide +kernel
theorem dX7_init_5 : decode cX7_init 5 = .ok (.new 7, 3) := by decide +kernel
theorem dX7_init_8 : decode cX7_init 8 = .ok (.dup, 1) := by decide +kernel
theorem dX7_init_9 : decode cX7_init 9 = .ok (.invokespecial 9, 3) := by decide +kernel
theorem dX7_init_12 : decode cX7_init 12 = .ok (.putfield 10, 3) := by decide +kernel
theorem dX7_init_15 : decode cX7_init 15 = .ok (.aload_n 0, 1) := by decide +kernel
theorem dX7_init_16 : decode cX7_init 16 = .ok (.new 16, 3) := by decide +kernel
theorem dX7_init_19 : decode cX7_init 19 = .ok (.dup, 1) := by decide +kernel
theorem dX7_init_20 : decode cX7_init 20 = .ok (.invokespecial 18, 3) := by decide +kernel
theorem dX7_init_23 : decode cX7_init 23 = .ok (.putfield 19, 3) := by decide +kernel
theorem dX7_init_26 : decode cX7_init 26 = .ok (.aload_n 0, 1) := by decide +kernel
theorem dX7_init_27 : decode cX7_init 27 = .ok (.new 16, 3) := by decide +kernel
theorem dX7_init_30 : decode cX7_init 30 = .ok (.dup, 1) := by decide +kernel
theorem dX7_init_31 : decode cX7_init 31 = .ok (.invokespecial 18, 3) := by decide +kernel
theorem dX7_init_34 : decode cX7_init 34 = .ok (.putfield 23, 3) := by decide +kernel
theorem dX7_init_37 : decode cX7_init 37 = .ok (.aload_n 0, 1) := by decide +kernel
theorem dX7_init_38 : decode cX7_init 38 = .ok (.new 16, 3) := by decide +kernel
theorem dX7_init_41 : decode cX7_init 41 = .ok (.dup, 1) := by decide +kernel
theorem dX7_init_42 : decode cX7_init 42 = .ok (.invokespecial 18, 3) := by decide +kernel
theorem dX7_init_45 : decode cX7_init 45 = .ok (.putfield 26, 3) := by decide +kernel
theorem dX7_init_48 : decode cX7_init 48 = .ok (.aload_n 0, 1) := by decide +kernel
theorem dX7_init_49 : decode cX7_init 49 = .ok (.iconst 2, 1) := by decide +kernel
theorem dX7_init_50 : decode cX7_init 50 = .ok (.anewarray 16, 3) := by decide +kernel
theorem dX7_init_53 : decode cX7_init 53 = .ok (.putfield 29, 3) := by decide +kernel
theorem dX7_init_56 : decode cX7_init 56 = .ok (.iconst 0, 1) := by decide +kernel
theorem dX7_init_57 : decode cX7_init 57 = .ok (.istore_n 1, 1) := by decide +kernel
theorem dX7_init_58 : decode cX7_init 58 = .ok (.iload_n 1, 1) := by decide +kernel
theorem dX7_init_59 : decode cX7_init 59 = .ok (.iconst 2, 1) := by decide +kernel
theorem dX7_init_60 : decode cX7_init 60 = .ok (.if_icmp .ge 22, 3) := by decide +kernel
theorem dX7_init_63 : decode cX7_init 63 = .ok (.aload_n 0, 1) := by decide +kernel
theorem dX7_init_64 : decode cX7_init 64 = .ok (.getfield 29, 3) := by decide +kernel
theorem dX7_init_67 : decode cX7_init 67 = .ok (.iload_n 1, 1) := by decide +kernel
theorem dX7_init_68 : decode cX7_init 68 = .ok (.new 16, 3) := by decide +kernel
theorem dX7_init_71 : decode cX7_init 71 = .ok (.dup, 1) := by decide +kernel
theorem dX7_init_72 : decode cX7_init 72 = .ok (.invokespecial 18, 3) := by decide +kernel
theorem dX7_init_75 : decode cX7_init 75 = .ok (.aastore, 1) := by decide +kernel
theorem dX7_init_76 : decode cX7_init 76 = .ok (.iinc 1 1, 3) := by decide +kernel
theorem dX7_init_79 : decode cX7_init 79 = .ok (.goto (-21), 3) := by decide +kernel
theorem dX7_init_82 : decode cX7_init 82 = .ok (.aload_n 0, 1) := by decide +kernel
theorem dX7_init_83 : decode cX7_init 83 = .ok (.iconst 2, 1) := by decide +kernel
theorem dX7_init_84 : decode cX7_init 84 = .ok (.newarray .boolean, 2) := by decide +kernel
theorem dX7_init_86 : decode cX7_init 86 = .ok (.putfield 33, 3) := by decide +kernel
theorem dX7_init_89 : decode cX7_init 89 = .ok (.aload_n 0, 1) := by decide +kernel
theorem dX7_init_90 : decode cX7_init 90 = .ok (.new 37, 3) := by decide +kernel
theorem dX7_init_93 : decode cX7_init 93 = .ok (.dup, 1) := by decide +kernel
theorem dX7_init_94 : decode cX7_init 94 = .ok (.invokespecial 39, 3) := by decide +kernel
theorem dX7_init_97 : decode cX7_init 97 = .ok (.putfield 40, 3) := by decide +kernel
theorem dX7_init_100 : decode cX7_init 100 = .ok (.aload_n 0, 1) := by decide +kernel
theorem dX7_init_101 : decode cX7_init 101 = .ok (.new 44, 3) := by decide +kernel
theorem dX7_init_104 : decode cX7_init 104 = .ok (.dup, 1) := by decide +kernel
theorem dX7_init_105 : decode cX7_init 105 = .ok (.invokespecial 46, 3) := by decide +kernel
theorem dX7_init_108 : decode cX7_init 108 = .ok (.putfield 47, 3) := by decide +kernel
theorem dX7_init_111 : decode cX7_init 111 = .ok (.aload_n 0, 1) := by decide +kernel
theorem dX7_init_112 : decode cX7_init 112 = .ok (.iconst 3, 1) := by decide +kernel
theorem dX7_init_113 : decode cX7_init 113 = .ok (.anewarray 51, 3) := by decide +kernel
theorem dX7_init_116 : decode cX7_init 116 = .ok (.putfield 53, 3) := by decide +kernel
theorem dX7_init_119 : decode cX7_init 119 = .ok (.iconst 0, 1) := by decide +kernel
theorem dX7_init_120 : decode cX7_init 120 = .ok (.istore_n 1, 1) := by decide +kernel
theorem dX7_init_121 : decode cX7_init 121 = .ok (.iload_n 1, 1) := by decide +kernel
theorem dX7_init_122 : decode cX7_init 122 = .ok (.iconst 3, 1) := by decide +kernel
theorem dX7_init_123 : decode cX7_init 123 = .ok (.if_icmp .ge 22, 3) := by decide +kernel
theorem dX7_init_126 : decode cX7_init 126 = .ok (.aload_n 0, 1) := by decide +kernel
theorem dX7_init_127 : decode cX7_init 127 = .ok (.getfield 53, 3) := by decide +kernel
theorem dX7_init_130 : decode cX7_init 130 = .ok (.iload_n 1, 1) := by decide +kernel
theorem dX7_init_131 : decode cX7_init 131 = .ok (.new 51, 3) := by decide +kernel
theorem dX7_init_134 : decode cX7_init 134 = .ok (.dup, 1) := by decide +kernel
theorem dX7_init_135 : decode cX7_init 135 = .ok (.invokespecial 57, 3) := by decide +kernel
theorem dX7_init_138 : decode cX7_init 138 = .ok (.aastore, 1) := by decide +kernel
theorem dX7_init_139 : decode cX7_init 139 = .ok (.iinc 1 1, 3) := by decide +kernel
theorem dX7_init_142 : decode cX7_init 142 = .ok (.goto (-21), 3) := by decide +kernel
theorem dX7_init_145 : decode cX7_init 145 = .ok (.return_, 1) := by decide +kernel
theorem dX7_write_0 : decode cX7_write 0 = .ok (.iload_n 1, 1) := by decide +kernel
theorem dX7_write_1 : decode cX7_write 1 = .ok (.iconst 0, 1) := by decide +kernel
theorem dX7_write_2 : decode cX7_write 2 = .ok (.sipush 255, 3) := by decide +kernel
theorem dX7_write_5 : decode cX7_write 5 = .ok (.invokestatic 58, 3) := by decide +kernel
theorem dX7_write_8 : decode cX7_write 8 = .ok (.ifCond .ne 6, 3) := by decide +kernel
theorem dX7_write_11 : decode cX7_write 11 = .ok (.bipush (-3), 2) := by decide +kernel
theorem dX7_write_13 : decode cX7_write 13 = .ok (.ireturn, 1) := by decide +kernel
theorem dX7_write_14 : decode cX7_write 14 = .ok (.aload_n 0, 1) := by decide +kernel
theorem dX7_write_15 : decode cX7_write 15 = .ok (.getfield 10, 3) := by decide +kernel
theorem dX7_write_18 : decode cX7_write 18 = .ok (.iload_n 1, 1) := by decide +kernel
theorem dX7_write_19 : decode cX7_write 19 = .ok (.i2c, 1) := by decide +kernel
theorem dX7_write_20 : decode cX7_write 20 = .ok (.invokevirtual 62, 3) := by decide +kernel
theorem dX7_write_23 : decode cX7_write 23 = .ok (.ifCond .eq 13, 3) := by decide +kernel
theorem dX7_write_26 : decode cX7_write 26 = .ok (.aload_n 0, 1) := by decide +kernel
theorem dX7_write_27 : decode cX7_write 27 = .ok (.getfield 10, 3) := by decide +kernel
theorem dX7_write_30 : decode cX7_write 30 = .ok (.invokevirtual 66, 3) := by decide +kernel
theorem dX7_write_33 : decode cX7_write 33 = .ok (.goto 5, 3) := by decide +kernel
theorem dX7_write_36 : decode cX7_write 36 = .ok (.bipush (-5), 2) := by decide +kernel
theorem dX7_write_38 : decode cX7_write 38 = .ok (.ireturn, 1) := by decide +kernel
theorem dX7_erase_0 : decode cX7_erase 0 = .ok (.aload_n 0, 1) := by decide +kernel
theorem dX7_erase_1 : decode cX7_erase 1 = .ok (.getfield 10, 3) := by decide +kernel
theorem dX7_erase_4 : decode cX7_erase 4 = .ok (.invokevirtual 66, 3) := by decide +kernel
theorem dX7_erase_7 : decode cX7_erase 7 = .ok (.istore_n 1, 1) := by decide +kernel
theorem dX7_erase_8 : decode cX7_erase 8 = .ok (.aload_n 0, 1) := by decide +kernel
theorem dX7_erase_9 : decode cX7_erase 9 = .ok (.getfield 10, 3) := by decide +kernel
theorem dX7_erase_12 : decode cX7_erase 12 = .ok (.invokevirtual 70, 3) := by decide +kernel
theorem dX7_erase_15 : decode cX7_erase 15 = .ok (.iload_n 1, 1) := by decide +kernel
theorem dX7_erase_16 : decode cX7_erase 16 = .ok (.ireturn, 1) := by decide +kernel
theorem dX7_fault_0 : decode cX7_fault 0 = .ok (.aload_n 0, 1) := by decide +kernel
theorem dX7_fault_1 : decode cX7_fault 1 = .ok (.getfield 10, 3) := by decide +kernel
theorem dX7_fault_4 : decode cX7_fault 4 = .ok (.aload_n 0, 1) := by decide +kernel
theorem dX7_fault_5 : decode cX7_fault 5 = .ok (.getfield 19, 3) := by decide +kernel
theorem dX7_fault_8 : decode cX7_fault 8 = .ok (.aload_n 0, 1) := by decide +kernel
theorem dX7_fault_9 : decode cX7_fault 9 = .ok (.getfield 26, 3) := by decide +kernel
theorem dX7_fault_12 : decode cX7_fault 12 = .ok (.invokevirtual 73, 3) := by decide +kernel
theorem dX7_fault_15 : decode cX7_fault 15 = .ok (.ireturn, 1) := by decide +kernel
theorem dX7_net_0 : decode cX7_net 0 = .ok (.aload_n 0, 1) := by decide +kernel
theorem dX7_net_1 : decode cX7_net 1 = .ok (.getfield 10, 3) := by decide +kernel
theorem dX7_net_4 : decode cX7_net 4 = .ok (.aload_n 0, 1) := by decide +kernel
theorem dX7_net_5 : decode cX7_net 5 = .ok (.getfield 19, 3) := by decide +kernel
theorem dX7_net_8 : decode cX7_net 8 = .ok (.aload_n 0, 1) := by decide +kernel
theorem dX7_net_9 : decode cX7_net 9 = .ok (.getfield 26, 3) := by decide +kernel
theorem dX7_net_12 : decode cX7_net 12 = .ok (.invokevirtual 73, 3) := by decide +kernel
theorem dX7_net_15 : decode cX7_net 15 = .ok (.iconst (-1), 1) := by decide +kernel
theorem dX7_net_16 : decode cX7_net 16 = .ok (.if_icmp .eq 6, 3) := by decide +kernel
theorem dX7_net_19 : decode cX7_net 19 = .ok (.bipush (-4), 2) := by decide +kernel
theorem dX7_net_21 : decode cX7_net 21 = .ok (.ireturn, 1) := by decide +kernel
theorem dX7_net_22 : decode cX7_net 22 = .ok (.aload_n 0, 1) := by decide +kernel
theorem dX7_net_23 : decode cX7_net 23 = .ok (.getfield 19, 3) := by decide +kernel
theorem dX7_net_26 : decode cX7_net 26 = .ok (.aload_n 0, 1) := by decide +kernel
theorem dX7_net_27 : decode cX7_net 27 = .ok (.getfield 26, 3) := by decide +kernel
theorem dX7_net_30 : decode cX7_net 30 = .ok (.invokevirtual 77, 3) := by decide +kernel
theorem dX7_net_33 : decode cX7_net 33 = .ok (.aload_n 0, 1) := by decide +kernel
theorem dX7_net_34 : decode cX7_net 34 = .ok (.getfield 23, 3) := by decide +kernel
theorem dX7_net_37 : decode cX7_net 37 = .ok (.aload_n 0, 1) := by decide +kernel
theorem dX7_net_38 : decode cX7_net 38 = .ok (.getfield 19, 3) := by decide +kernel
theorem dX7_net_41 : decode cX7_net 41 = .ok (.invokevirtual 77, 3) := by decide +kernel
theorem dX7_net_44 : decode cX7_net 44 = .ok (.aload_n 0, 1) := by decide +kernel
theorem dX7_net_45 : decode cX7_net 45 = .ok (.getfield 40, 3) := by decide +kernel
theorem dX7_net_48 : decode cX7_net 48 = .ok (.invokevirtual 81, 3) := by decide +kernel
theorem dX7_net_51 : decode cX7_net 51 = .ok (.iconst 0, 1) := by decide +kernel
theorem dX7_net_52 : decode cX7_net 52 = .ok (.istore_n 1, 1) := by decide +kernel
theorem dX7_net_53 : decode cX7_net 53 = .ok (.iload_n 1, 1) := by decide +kernel
theorem dX7_net_54 : decode cX7_net 54 = .ok (.iconst 2, 1) := by decide +kernel
theorem dX7_net_55 : decode cX7_net 55 = .ok (.if_icmp .ge 16, 3) := by decide +kernel
theorem dX7_net_58 : decode cX7_net 58 = .ok (.aload_n 0, 1) := by decide +kernel
theorem dX7_net_59 : decode cX7_net 59 = .ok (.getfield 33, 3) := by decide +kernel
theorem dX7_net_62 : decode cX7_net 62 = .ok (.iload_n 1, 1) := by decide +kernel
theorem dX7_net_63 : decode cX7_net 63 = .ok (.iconst 0, 1) := by decide +kernel
theorem dX7_net_64 : decode cX7_net 64 = .ok (.bastore, 1) := by decide +kernel
theorem dX7_net_65 : decode cX7_net 65 = .ok (.iinc 1 1, 3) := by decide +kernel
theorem dX7_net_68 : decode cX7_net 68 = .ok (.goto (-15), 3) := by decide +kernel
theorem dX7_net_71 : decode cX7_net 71 = .ok (.iconst 0, 1) := by decide +kernel
theorem dX7_net_72 : decode cX7_net 72 = .ok (.istore_n 1, 1) := by decide +kernel
theorem dX7_net_73 : decode cX7_net 73 = .ok (.iload_n 1, 1) := by decide +kernel
theorem dX7_net_74 : decode cX7_net 74 = .ok (.iconst 3, 1) := by decide +kernel
theorem dX7_net_75 : decode cX7_net 75 = .ok (.if_icmp .ge 18, 3) := by decide +kernel
theorem dX7_net_78 : decode cX7_net 78 = .ok (.aload_n 0, 1) := by decide +kernel
theorem dX7_net_79 : decode cX7_net 79 = .ok (.getfield 53, 3) := by decide +kernel
theorem dX7_net_82 : decode cX7_net 82 = .ok (.iload_n 1, 1) := by decide +kernel
theorem dX7_net_83 : decode cX7_net 83 = .ok (.aaload, 1) := by decide +kernel
theorem dX7_net_84 : decode cX7_net 84 = .ok (.invokevirtual 82, 3) := by decide +kernel
theorem dX7_net_87 : decode cX7_net 87 = .ok (.iinc 1 1, 3) := by decide +kernel
theorem dX7_net_90 : decode cX7_net 90 = .ok (.goto (-17), 3) := by decide +kernel
theorem dX7_net_93 : decode cX7_net 93 = .ok (.aload_n 0, 1) := by decide +kernel
theorem dX7_net_94 : decode cX7_net 94 = .ok (.getfield 10, 3) := by decide +kernel
theorem dX7_net_97 : decode cX7_net 97 = .ok (.invokevirtual 70, 3) := by decide +kernel
theorem dX7_net_100 : decode cX7_net 100 = .ok (.aload_n 0, 1) := by decide +kernel
theorem dX7_net_101 : decode cX7_net 101 = .ok (.getfield 10, 3) := by decide +kernel
theorem dX7_net_104 : decode cX7_net 104 = .ok (.invokevirtual 85, 3) := by decide +kernel
theorem dX7_net_107 : decode cX7_net 107 = .ok (.ireturn, 1) := by decide +kernel
theorem dX7_path_0 : decode cX7_path 0 = .ok (.aload_n 0, 1) := by decide +kernel
theorem dX7_path_1 : decode cX7_path 1 = .ok (.iload_n 1, 1) := by decide +kernel
theorem dX7_path_2 : decode cX7_path 2 = .ok (.invokevirtual 88, 3) := by decide +kernel
theorem dX7_path_5 : decode cX7_path 5 = .ok (.ifCond .ne 6, 3) := by decide +kernel
theorem dX7_path_8 : decode cX7_path 8 = .ok (.bipush (-2), 2) := by decide +kernel
theorem dX7_path_10 : decode cX7_path 10 = .ok (.ireturn, 1) := by decide +kernel
theorem dX7_path_11 : decode cX7_path 11 = .ok (.iload_n 2, 1) := by decide +kernel
theorem dX7_path_12 : decode cX7_path 12 = .ok (.tableswitch 106 0 5 #[40, 50, 60, 70, 80, 93], 40) := by decide +kernel
theorem dX7_path_52 : decode cX7_path 52 = .ok (.aload_n 0, 1) := by decide +kernel
theorem dX7_path_53 : decode cX7_path 53 = .ok (.getfield 23, 3) := by decide +kernel
theorem dX7_path_56 : decode cX7_path 56 = .ok (.getfield 92, 3) := by decide +kernel
theorem dX7_path_59 : decode cX7_path 59 = .ok (.iload_n 1, 1) := by decide +kernel
theorem dX7_path_60 : decode cX7_path 60 = .ok (.iaload, 1) := by decide +kernel
theorem dX7_path_61 : decode cX7_path 61 = .ok (.ireturn, 1) := by decide +kernel
theorem dX7_path_62 : decode cX7_path 62 = .ok (.aload_n 0, 1) := by decide +kernel
theorem dX7_path_63 : decode cX7_path 63 = .ok (.getfield 23, 3) := by decide +kernel
theorem dX7_path_66 : decode cX7_path 66 = .ok (.getfield 96, 3) := by decide +kernel
theorem dX7_path_69 : decode cX7_path 69 = .ok (.iload_n 1, 1) := by decide +kernel
theorem dX7_path_70 : decode cX7_path 70 = .ok (.iaload, 1) := by decide +kernel
theorem dX7_path_71 : decode cX7_path 71 = .ok (.ireturn, 1) := by decide +kernel
theorem dX7_path_72 : decode cX7_path 72 = .ok (.aload_n 0, 1) := by decide +kernel
theorem dX7_path_73 : decode cX7_path 73 = .ok (.getfield 23, 3) := by decide +kernel
theorem dX7_path_76 : decode cX7_path 76 = .ok (.getfield 99, 3) := by decide +kernel
theorem dX7_path_79 : decode cX7_path 79 = .ok (.iload_n 1, 1) := by decide +kernel
theorem dX7_path_80 : decode cX7_path 80 = .ok (.iaload, 1) := by decide +kernel
theorem dX7_path_81 : decode cX7_path 81 = .ok (.ireturn, 1) := by decide +kernel
theorem dX7_path_82 : decode cX7_path 82 = .ok (.aload_n 0, 1) := by decide +kernel
theorem dX7_path_83 : decode cX7_path 83 = .ok (.getfield 23, 3) := by decide +kernel
theorem dX7_path_86 : decode cX7_path 86 = .ok (.getfield 102, 3) := by decide +kernel
theorem dX7_path_89 : decode cX7_path 89 = .ok (.iload_n 1, 1) := by decide +kernel
theorem dX7_path_90 : decode cX7_path 90 = .ok (.iaload, 1) := by decide +kernel
theorem dX7_path_91 : decode cX7_path 91 = .ok (.ireturn, 1) := by decide +kernel
theorem dX7_path_92 : decode cX7_path 92 = .ok (.sipush 2000, 3) := by decide +kernel
theorem dX7_path_95 : decode cX7_path 95 = .ok (.aload_n 0, 1) := by decide +kernel
theorem dX7_path_96 : decode cX7_path 96 = .ok (.getfield 23, 3) := by decide +kernel
theorem dX7_path_99 : decode cX7_path 99 = .ok (.iload_n 1, 1) := by decide +kernel
theorem dX7_path_100 : decode cX7_path 100 = .ok (.invokevirtual 105, 3) := by decide +kernel
theorem dX7_path_103 : decode cX7_path 103 = .ok (.iadd, 1) := by decide +kernel
theorem dX7_path_104 : decode cX7_path 104 = .ok (.ireturn, 1) := by decide +kernel
theorem dX7_path_105 : decode cX7_path 105 = .ok (.sipush 2000, 3) := by decide +kernel
theorem dX7_path_108 : decode cX7_path 108 = .ok (.aload_n 0, 1) := by decide +kernel
theorem dX7_path_109 : decode cX7_path 109 = .ok (.getfield 23, 3) := by decide +kernel
theorem dX7_path_112 : decode cX7_path 112 = .ok (.iload_n 1, 1) := by decide +kernel
theorem dX7_path_113 : decode cX7_path 113 = .ok (.invokevirtual 109, 3) := by decide +kernel
theorem dX7_path_116 : decode cX7_path 116 = .ok (.iadd, 1) := by decide +kernel
theorem dX7_path_117 : decode cX7_path 117 = .ok (.ireturn, 1) := by decide +kernel
theorem dX7_path_118 : decode cX7_path 118 = .ok (.bipush (-3), 2) := by decide +kernel
theorem dX7_path_120 : decode cX7_path 120 = .ok (.ireturn, 1) := by decide +kernel
theorem dX7_period_0 : decode cX7_period 0 = .ok (.iload_n 1, 1) := by decide +kernel
theorem dX7_period_1 : decode cX7_period 1 = .ok (.iconst 0, 1) := by decide +kernel
theorem dX7_period_2 : decode cX7_period 2 = .ok (.sipush 999, 3) := by decide +kernel
theorem dX7_period_5 : decode cX7_period 5 = .ok (.invokestatic 58, 3) := by decide +kernel
theorem dX7_period_8 : decode cX7_period 8 = .ok (.ifCond .ne 6, 3) := by decide +kernel
theorem dX7_period_11 : decode cX7_period 11 = .ok (.bipush (-3), 2) := by decide +kernel
theorem dX7_period_13 : decode cX7_period 13 = .ok (.ireturn, 1) := by decide +kernel
theorem dX7_period_14 : decode cX7_period 14 = .ok (.aload_n 0, 1) := by decide +kernel
theorem dX7_period_15 : decode cX7_period 15 = .ok (.getfield 23, 3) := by decide +kernel
theorem dX7_period_18 : decode cX7_period 18 = .ok (.getfield 112, 3) := by decide +kernel
theorem dX7_period_21 : decode cX7_period 21 = .ok (.istore_n 2, 1) := by decide +kernel
theorem dX7_period_22 : decode cX7_period 22 = .ok (.iload_n 1, 1) := by decide +kernel
theorem dX7_period_23 : decode cX7_period 23 = .ok (.iload_n 2, 1) := by decide +kernel
theorem dX7_period_24 : decode cX7_period 24 = .ok (.if_icmp .ne 6, 3) := by decide +kernel
theorem dX7_period_27 : decode cX7_period 27 = .ok (.bipush (-4), 2) := by decide +kernel
theorem dX7_period_29 : decode cX7_period 29 = .ok (.ireturn, 1) := by decide +kernel
theorem dX7_period_30 : decode cX7_period 30 = .ok (.aload_n 0, 1) := by decide +kernel
theorem dX7_period_31 : decode cX7_period 31 = .ok (.getfield 40, 3) := by decide +kernel
theorem dX7_period_34 : decode cX7_period 34 = .ok (.iconst (-1), 1) := by decide +kernel
theorem dX7_period_35 : decode cX7_period 35 = .ok (.iload_n 2, 1) := by decide +kernel
theorem dX7_period_36 : decode cX7_period 36 = .ok (.invokevirtual 116, 3) := by decide +kernel
theorem dX7_period_39 : decode cX7_period 39 = .ok (.aload_n 0, 1) := by decide +kernel
theorem dX7_period_40 : decode cX7_period 40 = .ok (.getfield 23, 3) := by decide +kernel
theorem dX7_period_43 : decode cX7_period 43 = .ok (.iload_n 1, 1) := by decide +kernel
theorem dX7_period_44 : decode cX7_period 44 = .ok (.putfield 112, 3) := by decide +kernel
theorem dX7_period_47 : decode cX7_period 47 = .ok (.iload_n 2, 1) := by decide +kernel
theorem dX7_period_48 : decode cX7_period 48 = .ok (.ireturn, 1) := by decide +kernel
theorem dX7_slower_0 : decode cX7_slower 0 = .ok (.aload_n 0, 1) := by decide +kernel
theorem dX7_slower_1 : decode cX7_slower 1 = .ok (.iload_n 1, 1) := by decide +kernel
theorem dX7_slower_2 : decode cX7_slower 2 = .ok (.invokevirtual 88, 3) := by decide +kernel
theorem dX7_slower_5 : decode cX7_slower 5 = .ok (.ifCond .ne 6, 3) := by decide +kernel
theorem dX7_slower_8 : decode cX7_slower 8 = .ok (.bipush (-2), 2) := by decide +kernel
theorem dX7_slower_10 : decode cX7_slower 10 = .ok (.ireturn, 1) := by decide +kernel
theorem dX7_slower_11 : decode cX7_slower 11 = .ok (.iload_n 2, 1) := by decide +kernel
theorem dX7_slower_12 : decode cX7_slower 12 = .ok (.iconst 1, 1) := by decide +kernel
theorem dX7_slower_13 : decode cX7_slower 13 = .ok (.bipush 20, 2) := by decide +kernel
theorem dX7_slower_15 : decode cX7_slower 15 = .ok (.invokestatic 58, 3) := by decide +kernel
theorem dX7_slower_18 : decode cX7_slower 18 = .ok (.ifCond .ne 6, 3) := by decide +kernel
theorem dX7_slower_21 : decode cX7_slower 21 = .ok (.bipush (-3), 2) := by decide +kernel
theorem dX7_slower_23 : decode cX7_slower 23 = .ok (.ireturn, 1) := by decide +kernel
theorem dX7_slower_24 : decode cX7_slower 24 = .ok (.aload_n 0, 1) := by decide +kernel
theorem dX7_slower_25 : decode cX7_slower 25 = .ok (.getfield 23, 3) := by decide +kernel
theorem dX7_slower_28 : decode cX7_slower 28 = .ok (.iload_n 1, 1) := by decide +kernel
theorem dX7_slower_29 : decode cX7_slower 29 = .ok (.iload_n 2, 1) := by decide +kernel
theorem dX7_slower_30 : decode cX7_slower 30 = .ok (.invokevirtual 120, 3) := by decide +kernel
theorem dX7_slower_33 : decode cX7_slower 33 = .ok (.ifCond .ne 6, 3) := by decide +kernel
theorem dX7_slower_36 : decode cX7_slower 36 = .ok (.bipush (-4), 2) := by decide +kernel
theorem dX7_slower_38 : decode cX7_slower 38 = .ok (.ireturn, 1) := by decide +kernel
theorem dX7_slower_39 : decode cX7_slower 39 = .ok (.aload_n 0, 1) := by decide +kernel
theorem dX7_slower_40 : decode cX7_slower 40 = .ok (.getfield 40, 3) := by decide +kernel
theorem dX7_slower_43 : decode cX7_slower 43 = .ok (.iload_n 1, 1) := by decide +kernel
theorem dX7_slower_44 : decode cX7_slower 44 = .ok (.iload_n 2, 1) := by decide +kernel
theorem dX7_slower_45 : decode cX7_slower 45 = .ok (.invokevirtual 116, 3) := by decide +kernel
theorem dX7_slower_48 : decode cX7_slower 48 = .ok (.aload_n 0, 1) := by decide +kernel
theorem dX7_slower_49 : decode cX7_slower 49 = .ok (.getfield 23, 3) := by decide +kernel
theorem dX7_slower_52 : decode cX7_slower 52 = .ok (.iload_n 1, 1) := by decide +kernel
theorem dX7_slower_53 : decode cX7_slower 53 = .ok (.iload_n 2, 1) := by decide +kernel
theorem dX7_slower_54 : decode cX7_slower 54 = .ok (.invokevirtual 124, 3) := by decide +kernel
theorem dX7_slower_57 : decode cX7_slower 57 = .ok (.aload_n 0, 1) := by decide +kernel
theorem dX7_slower_58 : decode cX7_slower 58 = .ok (.getfield 23, 3) := by decide +kernel
theorem dX7_slower_61 : decode cX7_slower 61 = .ok (.getfield 99, 3) := by decide +kernel
theorem dX7_slower_64 : decode cX7_slower 64 = .ok (.iload_n 1, 1) := by decide +kernel
theorem dX7_slower_65 : decode cX7_slower 65 = .ok (.iaload, 1) := by decide +kernel
theorem dX7_slower_66 : decode cX7_slower 66 = .ok (.ireturn, 1) := by decide +kernel
theorem dX7_undo_0 : decode cX7_undo 0 = .ok (.aload_n 0, 1) := by decide +kernel
theorem dX7_undo_1 : decode cX7_undo 1 = .ok (.getfield 40, 3) := by decide +kernel
theorem dX7_undo_4 : decode cX7_undo 4 = .ok (.invokevirtual 127, 3) := by decide +kernel
theorem dX7_undo_7 : decode cX7_undo 7 = .ok (.ifCond .ne 6, 3) := by decide +kernel
theorem dX7_undo_10 : decode cX7_undo 10 = .ok (.bipush (-4), 2) := by decide +kernel
theorem dX7_undo_12 : decode cX7_undo 12 = .ok (.ireturn, 1) := by decide +kernel
theorem dX7_undo_13 : decode cX7_undo 13 = .ok (.aload_n 0, 1) := by decide +kernel
theorem dX7_undo_14 : decode cX7_undo 14 = .ok (.getfield 40, 3) := by decide +kernel
theorem dX7_undo_17 : decode cX7_undo 17 = .ok (.aload_n 0, 1) := by decide +kernel
theorem dX7_undo_18 : decode cX7_undo 18 = .ok (.getfield 23, 3) := by decide +kernel
theorem dX7_undo_21 : decode cX7_undo 21 = .ok (.invokevirtual 130, 3) := by decide +kernel
theorem dX7_undo_24 : decode cX7_undo 24 = .ok (.aload_n 0, 1) := by decide +kernel
theorem dX7_undo_25 : decode cX7_undo 25 = .ok (.getfield 40, 3) := by decide +kernel
theorem dX7_undo_28 : decode cX7_undo 28 = .ok (.invokevirtual 127, 3) := by decide +kernel
theorem dX7_undo_31 : decode cX7_undo 31 = .ok (.ireturn, 1) := by decide +kernel
theorem dX7_keep_0 : decode cX7_keep 0 = .ok (.iload_n 1, 1) := by decide +kernel
theorem dX7_keep_1 : decode cX7_keep 1 = .ok (.invokestatic 133, 3) := by decide +kernel
theorem dX7_keep_4 : decode cX7_keep 4 = .ok (.ifCond .ne 6, 3) := by decide +kernel
theorem dX7_keep_7 : decode cX7_keep 7 = .ok (.bipush (-2), 2) := by decide +kernel
theorem dX7_keep_9 : decode cX7_keep 9 = .ok (.ireturn, 1) := by decide +kernel
theorem dX7_keep_10 : decode cX7_keep 10 = .ok (.aload_n 0, 1) := by decide +kernel
theorem dX7_keep_11 : decode cX7_keep 11 = .ok (.getfield 29, 3) := by decide +kernel
theorem dX7_keep_14 : decode cX7_keep 14 = .ok (.iload_n 1, 1) := by decide +kernel
theorem dX7_keep_15 : decode cX7_keep 15 = .ok (.aaload, 1) := by decide +kernel
theorem dX7_keep_16 : decode cX7_keep 16 = .ok (.aload_n 0, 1) := by decide +kernel
theorem dX7_keep_17 : decode cX7_keep 17 = .ok (.getfield 23, 3) := by decide +kernel
theorem dX7_keep_20 : decode cX7_keep 20 = .ok (.invokevirtual 77, 3) := by decide +kernel
theorem dX7_keep_23 : decode cX7_keep 23 = .ok (.aload_n 0, 1) := by decide +kernel
theorem dX7_keep_24 : decode cX7_keep 24 = .ok (.getfield 33, 3) := by decide +kernel
theorem dX7_keep_27 : decode cX7_keep 27 = .ok (.iload_n 1, 1) := by decide +kernel
theorem dX7_keep_28 : decode cX7_keep 28 = .ok (.iconst 1, 1) := by decide +kernel
theorem dX7_keep_29 : decode cX7_keep 29 = .ok (.bastore, 1) := by decide +kernel
theorem dX7_keep_30 : decode cX7_keep 30 = .ok (.aload_n 0, 1) := by decide +kernel
theorem dX7_keep_31 : decode cX7_keep 31 = .ok (.getfield 23, 3) := by decide +kernel
theorem dX7_keep_34 : decode cX7_keep 34 = .ok (.getfield 112, 3) := by decide +kernel
theorem dX7_keep_37 : decode cX7_keep 37 = .ok (.ireturn, 1) := by decide +kernel
theorem dX7_back_0 : decode cX7_back 0 = .ok (.iload_n 1, 1) := by decide +kernel
theorem dX7_back_1 : decode cX7_back 1 = .ok (.invokestatic 133, 3) := by decide +kernel
theorem dX7_back_4 : decode cX7_back 4 = .ok (.ifCond .ne 6, 3) := by decide +kernel
theorem dX7_back_7 : decode cX7_back 7 = .ok (.bipush (-2), 2) := by decide +kernel
theorem dX7_back_9 : decode cX7_back 9 = .ok (.ireturn, 1) := by decide +kernel
theorem dX7_back_10 : decode cX7_back 10 = .ok (.aload_n 0, 1) := by decide +kernel
theorem dX7_back_11 : decode cX7_back 11 = .ok (.getfield 33, 3) := by decide +kernel
theorem dX7_back_14 : decode cX7_back 14 = .ok (.iload_n 1, 1) := by decide +kernel
theorem dX7_back_15 : decode cX7_back 15 = .ok (.baload, 1) := by decide +kernel
theorem dX7_back_16 : decode cX7_back 16 = .ok (.ifCond .ne 6, 3) := by decide +kernel
theorem dX7_back_19 : decode cX7_back 19 = .ok (.bipush (-4), 2) := by decide +kernel
theorem dX7_back_21 : decode cX7_back 21 = .ok (.ireturn, 1) := by decide +kernel
theorem dX7_back_22 : decode cX7_back 22 = .ok (.aload_n 0, 1) := by decide +kernel
theorem dX7_back_23 : decode cX7_back 23 = .ok (.getfield 23, 3) := by decide +kernel
theorem dX7_back_26 : decode cX7_back 26 = .ok (.aload_n 0, 1) := by decide +kernel
theorem dX7_back_27 : decode cX7_back 27 = .ok (.getfield 29, 3) := by decide +kernel
theorem dX7_back_30 : decode cX7_back 30 = .ok (.iload_n 1, 1) := by decide +kernel
theorem dX7_back_31 : decode cX7_back 31 = .ok (.aaload, 1) := by decide +kernel
theorem dX7_back_32 : decode cX7_back 32 = .ok (.invokevirtual 77, 3) := by decide +kernel
theorem dX7_back_35 : decode cX7_back 35 = .ok (.aload_n 0, 1) := by decide +kernel
theorem dX7_back_36 : decode cX7_back 36 = .ok (.getfield 40, 3) := by decide +kernel
theorem dX7_back_39 : decode cX7_back 39 = .ok (.invokevirtual 81, 3) := by decide +kernel
theorem dX7_back_42 : decode cX7_back 42 = .ok (.aload_n 0, 1) := by decide +kernel
theorem dX7_back_43 : decode cX7_back 43 = .ok (.getfield 23, 3) := by decide +kernel
theorem dX7_back_46 : decode cX7_back 46 = .ok (.getfield 112, 3) := by decide +kernel
theorem dX7_back_49 : decode cX7_back 49 = .ok (.ireturn, 1) := by decide +kernel
theorem dX7_feasible_0 : decode cX7_feasible 0 = .ok (.aload_n 0, 1) := by decide +kernel
theorem dX7_feasible_1 : decode cX7_feasible 1 = .ok (.getfield 47, 3) := by decide +kernel
theorem dX7_feasible_4 : decode cX7_feasible 4 = .ok (.aload_n 0, 1) := by decide +kernel
theorem dX7_feasible_5 : decode cX7_feasible 5 = .ok (.getfield 23, 3) := by decide +kernel
theorem dX7_feasible_8 : decode cX7_feasible 8 = .ok (.invokevirtual 136, 3) := by decide +kernel
theorem dX7_feasible_11 : decode cX7_feasible 11 = .ok (.ifCond .eq 7, 3) := by decide +kernel
theorem dX7_feasible_14 : decode cX7_feasible 14 = .ok (.iconst 1, 1) := by decide +kernel
theorem dX7_feasible_15 : decode cX7_feasible 15 = .ok (.goto 4, 3) := by decide +kernel
theorem dX7_feasible_18 : decode cX7_feasible 18 = .ok (.iconst 0, 1) := by decide +kernel
theorem dX7_feasible_19 : decode cX7_feasible 19 = .ok (.ireturn, 1) := by decide +kernel
theorem dX7_shift_0 : decode cX7_shift 0 = .ok (.iload_n 1, 1) := by decide +kernel
theorem dX7_shift_1 : decode cX7_shift 1 = .ok (.iconst 0, 1) := by decide +kernel
theorem dX7_shift_2 : decode cX7_shift 2 = .ok (.aload_n 0, 1) := by decide +kernel
theorem dX7_shift_3 : decode cX7_shift 3 = .ok (.getfield 23, 3) := by decide +kernel
theorem dX7_shift_6 : decode cX7_shift 6 = .ok (.getfield 140, 3) := by decide +kernel
theorem dX7_shift_9 : decode cX7_shift 9 = .ok (.iconst 1, 1) := by decide +kernel
theorem dX7_shift_10 : decode cX7_shift 10 = .ok (.isub, 1) := by decide +kernel
theorem dX7_shift_11 : decode cX7_shift 11 = .ok (.invokestatic 58, 3) := by decide +kernel
theorem dX7_shift_14 : decode cX7_shift 14 = .ok (.ifCond .ne 6, 3) := by decide +kernel
theorem dX7_shift_17 : decode cX7_shift 17 = .ok (.bipush (-2), 2) := by decide +kernel
theorem dX7_shift_19 : decode cX7_shift 19 = .ok (.ireturn, 1) := by decide +kernel
theorem dX7_shift_20 : decode cX7_shift 20 = .ok (.aload_n 0, 1) := by decide +kernel
theorem dX7_shift_21 : decode cX7_shift 21 = .ok (.getfield 47, 3) := by decide +kernel
theorem dX7_shift_24 : decode cX7_shift 24 = .ok (.aload_n 0, 1) := by decide +kernel
theorem dX7_shift_25 : decode cX7_shift 25 = .ok (.getfield 23, 3) := by decide +kernel
theorem dX7_shift_28 : decode cX7_shift 28 = .ok (.invokevirtual 136, 3) := by decide +kernel
theorem dX7_shift_31 : decode cX7_shift 31 = .ok (.ifCond .ne 6, 3) := by decide +kernel
theorem dX7_shift_34 : decode cX7_shift 34 = .ok (.bipush (-4), 2) := by decide +kernel
theorem dX7_shift_36 : decode cX7_shift 36 = .ok (.ireturn, 1) := by decide +kernel
theorem dX7_shift_37 : decode cX7_shift 37 = .ok (.aload_n 0, 1) := by decide +kernel
theorem dX7_shift_38 : decode cX7_shift 38 = .ok (.getfield 47, 3) := by decide +kernel
theorem dX7_shift_41 : decode cX7_shift 41 = .ok (.iload_n 1, 1) := by decide +kernel
theorem dX7_shift_42 : decode cX7_shift 42 = .ok (.invokevirtual 143, 3) := by decide +kernel
theorem dX7_shift_45 : decode cX7_shift 45 = .ok (.ineg, 1) := by decide +kernel
theorem dX7_shift_46 : decode cX7_shift 46 = .ok (.aload_n 0, 1) := by decide +kernel
theorem dX7_shift_47 : decode cX7_shift 47 = .ok (.getfield 23, 3) := by decide +kernel
theorem dX7_shift_50 : decode cX7_shift 50 = .ok (.getfield 146, 3) := by decide +kernel
theorem dX7_shift_53 : decode cX7_shift 53 = .ok (.imul, 1) := by decide +kernel
theorem dX7_shift_54 : decode cX7_shift 54 = .ok (.ireturn, 1) := by decide +kernel
theorem dX7_least_0 : decode cX7_least 0 = .ok (.aload_n 0, 1) := by decide +kernel
theorem dX7_least_1 : decode cX7_least 1 = .ok (.getfield 47, 3) := by decide +kernel
theorem dX7_least_4 : decode cX7_least 4 = .ok (.aload_n 0, 1) := by decide +kernel
theorem dX7_least_5 : decode cX7_least 5 = .ok (.getfield 23, 3) := by decide +kernel
theorem dX7_least_8 : decode cX7_least 8 = .ok (.invokevirtual 149, 3) := by decide +kernel
theorem dX7_least_11 : decode cX7_least 11 = .ok (.ireturn, 1) := by decide +kernel
theorem dX7_rate_0 : decode cX7_rate 0 = .ok (.iload_n 1, 1) := by decide +kernel
theorem dX7_rate_1 : decode cX7_rate 1 = .ok (.iconst 0, 1) := by decide +kernel
theorem dX7_rate_2 : decode cX7_rate 2 = .ok (.iconst 1, 1) := by decide +kernel
theorem dX7_rate_3 : decode cX7_rate 3 = .ok (.invokestatic 58, 3) := by decide +kernel
theorem dX7_rate_6 : decode cX7_rate 6 = .ok (.ifCond .ne 6, 3) := by decide +kernel
theorem dX7_rate_9 : decode cX7_rate 9 = .ok (.bipush (-3), 2) := by decide +kernel
theorem dX7_rate_11 : decode cX7_rate 11 = .ok (.ireturn, 1) := by decide +kernel
theorem dX7_rate_12 : decode cX7_rate 12 = .ok (.aload_n 0, 1) := by decide +kernel
theorem dX7_rate_13 : decode cX7_rate 13 = .ok (.getfield 47, 3) := by decide +kernel
theorem dX7_rate_16 : decode cX7_rate 16 = .ok (.aload_n 0, 1) := by decide +kernel
theorem dX7_rate_17 : decode cX7_rate 17 = .ok (.getfield 23, 3) := by decide +kernel
theorem dX7_rate_20 : decode cX7_rate 20 = .ok (.invokevirtual 153, 3) := by decide +kernel
theorem dX7_rate_23 : decode cX7_rate 23 = .ok (.ifCond .ne 5, 3) := by decide +kernel
theorem dX7_rate_26 : decode cX7_rate 26 = .ok (.iconst (-1), 1) := by decide +kernel
theorem dX7_rate_27 : decode cX7_rate 27 = .ok (.ireturn, 1) := by decide +kernel
theorem dX7_rate_28 : decode cX7_rate 28 = .ok (.iload_n 1, 1) := by decide +kernel
theorem dX7_rate_29 : decode cX7_rate 29 = .ok (.ifCond .ne 13, 3) := by decide +kernel
theorem dX7_rate_32 : decode cX7_rate 32 = .ok (.aload_n 0, 1) := by decide +kernel
theorem dX7_rate_33 : decode cX7_rate 33 = .ok (.getfield 47, 3) := by decide +kernel
theorem dX7_rate_36 : decode cX7_rate 36 = .ok (.invokevirtual 156, 3) := by decide +kernel
theorem dX7_rate_39 : decode cX7_rate 39 = .ok (.goto 10, 3) := by decide +kernel
theorem dX7_rate_42 : decode cX7_rate 42 = .ok (.aload_n 0, 1) := by decide +kernel
theorem dX7_rate_43 : decode cX7_rate 43 = .ok (.getfield 47, 3) := by decide +kernel
theorem dX7_rate_46 : decode cX7_rate 46 = .ok (.invokevirtual 159, 3) := by decide +kernel
theorem dX7_rate_49 : decode cX7_rate 49 = .ok (.ireturn, 1) := by decide +kernel
theorem dX7_margin_0 : decode cX7_margin 0 = .ok (.sipush 2000, 3) := by decide +kernel
theorem dX7_margin_3 : decode cX7_margin 3 = .ok (.aload_n 0, 1) := by decide +kernel
theorem dX7_margin_4 : decode cX7_margin 4 = .ok (.getfield 47, 3) := by decide +kernel
theorem dX7_margin_7 : decode cX7_margin 7 = .ok (.aload_n 0, 1) := by decide +kernel
theorem dX7_margin_8 : decode cX7_margin 8 = .ok (.getfield 23, 3) := by decide +kernel
theorem dX7_margin_11 : decode cX7_margin 11 = .ok (.invokevirtual 162, 3) := by decide +kernel
theorem dX7_margin_14 : decode cX7_margin 14 = .ok (.iadd, 1) := by decide +kernel
theorem dX7_margin_15 : decode cX7_margin 15 = .ok (.ireturn, 1) := by decide +kernel
theorem dX7_spare_0 : decode cX7_spare 0 = .ok (.aload_n 0, 1) := by decide +kernel
theorem dX7_spare_1 : decode cX7_spare 1 = .ok (.iload_n 1, 1) := by decide +kernel
theorem dX7_spare_2 : decode cX7_spare 2 = .ok (.invokevirtual 88, 3) := by decide +kernel
theorem dX7_spare_5 : decode cX7_spare 5 = .ok (.ifCond .ne 6, 3) := by decide +kernel
theorem dX7_spare_8 : decode cX7_spare 8 = .ok (.bipush (-2), 2) := by decide +kernel
theorem dX7_spare_10 : decode cX7_spare 10 = .ok (.ireturn, 1) := by decide +kernel
theorem dX7_spare_11 : decode cX7_spare 11 = .ok (.iload_n 2, 1) := by decide +kernel
theorem dX7_spare_12 : decode cX7_spare 12 = .ok (.iconst 0, 1) := by decide +kernel
theorem dX7_spare_13 : decode cX7_spare 13 = .ok (.iconst 1, 1) := by decide +kernel
theorem dX7_spare_14 : decode cX7_spare 14 = .ok (.invokestatic 58, 3) := by decide +kernel
theorem dX7_spare_17 : decode cX7_spare 17 = .ok (.ifCond .ne 6, 3) := by decide +kernel
theorem dX7_spare_20 : decode cX7_spare 20 = .ok (.bipush (-3), 2) := by decide +kernel
theorem dX7_spare_22 : decode cX7_spare 22 = .ok (.ireturn, 1) := by decide +kernel
theorem dX7_spare_23 : decode cX7_spare 23 = .ok (.aload_n 0, 1) := by decide +kernel
theorem dX7_spare_24 : decode cX7_spare 24 = .ok (.getfield 47, 3) := by decide +kernel
theorem dX7_spare_27 : decode cX7_spare 27 = .ok (.aload_n 0, 1) := by decide +kernel
theorem dX7_spare_28 : decode cX7_spare 28 = .ok (.getfield 23, 3) := by decide +kernel
theorem dX7_spare_31 : decode cX7_spare 31 = .ok (.invokevirtual 136, 3) := by decide +kernel
theorem dX7_spare_34 : decode cX7_spare 34 = .ok (.ifCond .ne 6, 3) := by decide +kernel
theorem dX7_spare_37 : decode cX7_spare 37 = .ok (.bipush (-4), 2) := by decide +kernel
theorem dX7_spare_39 : decode cX7_spare 39 = .ok (.ireturn, 1) := by decide +kernel
theorem dX7_spare_40 : decode cX7_spare 40 = .ok (.aload_n 0, 1) := by decide +kernel
theorem dX7_spare_41 : decode cX7_spare 41 = .ok (.getfield 47, 3) := by decide +kernel
theorem dX7_spare_44 : decode cX7_spare 44 = .ok (.aload_n 0, 1) := by decide +kernel
theorem dX7_spare_45 : decode cX7_spare 45 = .ok (.getfield 23, 3) := by decide +kernel
theorem dX7_spare_48 : decode cX7_spare 48 = .ok (.getfield 92, 3) := by decide +kernel
theorem dX7_spare_51 : decode cX7_spare 51 = .ok (.iload_n 1, 1) := by decide +kernel
theorem dX7_spare_52 : decode cX7_spare 52 = .ok (.iaload, 1) := by decide +kernel
theorem dX7_spare_53 : decode cX7_spare 53 = .ok (.invokevirtual 143, 3) := by decide +kernel
theorem dX7_spare_56 : decode cX7_spare 56 = .ok (.aload_n 0, 1) := by decide +kernel
theorem dX7_spare_57 : decode cX7_spare 57 = .ok (.getfield 47, 3) := by decide +kernel
theorem dX7_spare_60 : decode cX7_spare 60 = .ok (.aload_n 0, 1) := by decide +kernel
theorem dX7_spare_61 : decode cX7_spare 61 = .ok (.getfield 23, 3) := by decide +kernel
theorem dX7_spare_64 : decode cX7_spare 64 = .ok (.getfield 96, 3) := by decide +kernel
theorem dX7_spare_67 : decode cX7_spare 67 = .ok (.iload_n 1, 1) := by decide +kernel
theorem dX7_spare_68 : decode cX7_spare 68 = .ok (.iaload, 1) := by decide +kernel
theorem dX7_spare_69 : decode cX7_spare 69 = .ok (.invokevirtual 143, 3) := by decide +kernel
theorem dX7_spare_72 : decode cX7_spare 72 = .ok (.isub, 1) := by decide +kernel
theorem dX7_spare_73 : decode cX7_spare 73 = .ok (.istore_n 3, 1) := by decide +kernel
theorem dX7_spare_74 : decode cX7_spare 74 = .ok (.iload_n 3, 1) := by decide +kernel
theorem dX7_spare_75 : decode cX7_spare 75 = .ok (.aload_n 0, 1) := by decide +kernel
theorem dX7_spare_76 : decode cX7_spare 76 = .ok (.getfield 23, 3) := by decide +kernel
theorem dX7_spare_79 : decode cX7_spare 79 = .ok (.getfield 146, 3) := by decide +kernel
theorem dX7_spare_82 : decode cX7_spare 82 = .ok (.imul, 1) := by decide +kernel
theorem dX7_spare_83 : decode cX7_spare 83 = .ok (.istore 4, 2) := by decide +kernel
theorem dX7_spare_85 : decode cX7_spare 85 = .ok (.iload_n 2, 1) := by decide +kernel
theorem dX7_spare_86 : decode cX7_spare 86 = .ok (.ifCond .ne 17, 3) := by decide +kernel
theorem dX7_spare_89 : decode cX7_spare 89 = .ok (.aload_n 0, 1) := by decide +kernel
theorem dX7_spare_90 : decode cX7_spare 90 = .ok (.getfield 23, 3) := by decide +kernel
theorem dX7_spare_93 : decode cX7_spare 93 = .ok (.iload_n 1, 1) := by decide +kernel
theorem dX7_spare_94 : decode cX7_spare 94 = .ok (.invokevirtual 105, 3) := by decide +kernel
theorem dX7_spare_97 : decode cX7_spare 97 = .ok (.iload 4, 2) := by decide +kernel
theorem dX7_spare_99 : decode cX7_spare 99 = .ok (.isub, 1) := by decide +kernel
theorem dX7_spare_100 : decode cX7_spare 100 = .ok (.goto 14, 3) := by decide +kernel
theorem dX7_spare_103 : decode cX7_spare 103 = .ok (.aload_n 0, 1) := by decide +kernel
theorem dX7_spare_104 : decode cX7_spare 104 = .ok (.getfield 23, 3) := by decide +kernel
theorem dX7_spare_107 : decode cX7_spare 107 = .ok (.iload_n 1, 1) := by decide +kernel
theorem dX7_spare_108 : decode cX7_spare 108 = .ok (.invokevirtual 109, 3) := by decide +kernel
theorem dX7_spare_111 : decode cX7_spare 111 = .ok (.iload 4, 2) := by decide +kernel
theorem dX7_spare_113 : decode cX7_spare 113 = .ok (.iadd, 1) := by decide +kernel
theorem dX7_spare_114 : decode cX7_spare 114 = .ok (.ireturn, 1) := by decide +kernel
theorem dX7_cycle_0 : decode cX7_cycle 0 = .ok (.iload_n 1, 1) := by decide +kernel
theorem dX7_cycle_1 : decode cX7_cycle 1 = .ok (.ifCond .ge 6, 3) := by decide +kernel
theorem dX7_cycle_4 : decode cX7_cycle 4 = .ok (.bipush (-3), 2) := by decide +kernel
theorem dX7_cycle_6 : decode cX7_cycle 6 = .ok (.ireturn, 1) := by decide +kernel
theorem dX7_cycle_7 : decode cX7_cycle 7 = .ok (.aload_n 0, 1) := by decide +kernel
theorem dX7_cycle_8 : decode cX7_cycle 8 = .ok (.getfield 47, 3) := by decide +kernel
theorem dX7_cycle_11 : decode cX7_cycle 11 = .ok (.aload_n 0, 1) := by decide +kernel
theorem dX7_cycle_12 : decode cX7_cycle 12 = .ok (.getfield 23, 3) := by decide +kernel
theorem dX7_cycle_15 : decode cX7_cycle 15 = .ok (.invokevirtual 136, 3) := by decide +kernel
theorem dX7_cycle_18 : decode cX7_cycle 18 = .ok (.ifCond .ne 13, 3) := by decide +kernel
theorem dX7_cycle_21 : decode cX7_cycle 21 = .ok (.aload_n 0, 1) := by decide +kernel
theorem dX7_cycle_22 : decode cX7_cycle 22 = .ok (.getfield 47, 3) := by decide +kernel
theorem dX7_cycle_25 : decode cX7_cycle 25 = .ok (.invokevirtual 165, 3) := by decide +kernel
theorem dX7_cycle_28 : decode cX7_cycle 28 = .ok (.ifCond .ne 5, 3) := by decide +kernel
theorem dX7_cycle_31 : decode cX7_cycle 31 = .ok (.iconst (-1), 1) := by decide +kernel
theorem dX7_cycle_32 : decode cX7_cycle 32 = .ok (.ireturn, 1) := by decide +kernel
theorem dX7_cycle_33 : decode cX7_cycle 33 = .ok (.iload_n 1, 1) := by decide +kernel
theorem dX7_cycle_34 : decode cX7_cycle 34 = .ok (.aload_n 0, 1) := by decide +kernel
theorem dX7_cycle_35 : decode cX7_cycle 35 = .ok (.getfield 47, 3) := by decide +kernel
theorem dX7_cycle_38 : decode cX7_cycle 38 = .ok (.invokevirtual 169, 3) := by decide +kernel
theorem dX7_cycle_41 : decode cX7_cycle 41 = .ok (.if_icmp .ge 14, 3) := by decide +kernel
theorem dX7_cycle_44 : decode cX7_cycle 44 = .ok (.aload_n 0, 1) := by decide +kernel
theorem dX7_cycle_45 : decode cX7_cycle 45 = .ok (.getfield 47, 3) := by decide +kernel
theorem dX7_cycle_48 : decode cX7_cycle 48 = .ok (.iload_n 1, 1) := by decide +kernel
theorem dX7_cycle_49 : decode cX7_cycle 49 = .ok (.invokevirtual 172, 3) := by decide +kernel
theorem dX7_cycle_52 : decode cX7_cycle 52 = .ok (.goto 4, 3) := by decide +kernel
theorem dX7_cycle_55 : decode cX7_cycle 55 = .ok (.iconst (-1), 1) := by decide +kernel
theorem dX7_cycle_56 : decode cX7_cycle 56 = .ok (.ireturn, 1) := by decide +kernel
theorem dX7_buffer_0 : decode cX7_buffer 0 = .ok (.iload_n 1, 1) := by decide +kernel
theorem dX7_buffer_1 : decode cX7_buffer 1 = .ok (.iconst 1, 1) := by decide +kernel
theorem dX7_buffer_2 : decode cX7_buffer 2 = .ok (.bipush 20, 2) := by decide +kernel
theorem dX7_buffer_4 : decode cX7_buffer 4 = .ok (.invokestatic 58, 3) := by decide +kernel
theorem dX7_buffer_7 : decode cX7_buffer 7 = .ok (.ifCond .ne 6, 3) := by decide +kernel
theorem dX7_buffer_10 : decode cX7_buffer 10 = .ok (.bipush (-3), 2) := by decide +kernel
theorem dX7_buffer_12 : decode cX7_buffer 12 = .ok (.ireturn, 1) := by decide +kernel
theorem dX7_buffer_13 : decode cX7_buffer 13 = .ok (.iconst (-1), 1) := by decide +kernel
theorem dX7_buffer_14 : decode cX7_buffer 14 = .ok (.istore_n 2, 1) := by decide +kernel
theorem dX7_buffer_15 : decode cX7_buffer 15 = .ok (.aload_n 0, 1) := by decide +kernel
theorem dX7_buffer_16 : decode cX7_buffer 16 = .ok (.getfield 47, 3) := by decide +kernel
theorem dX7_buffer_19 : decode cX7_buffer 19 = .ok (.aload_n 0, 1) := by decide +kernel
theorem dX7_buffer_20 : decode cX7_buffer 20 = .ok (.getfield 23, 3) := by decide +kernel
theorem dX7_buffer_23 : decode cX7_buffer 23 = .ok (.invokevirtual 149, 3) := by decide +kernel
theorem dX7_buffer_26 : decode cX7_buffer 26 = .ok (.invokestatic 175, 3) := by decide +kernel
theorem dX7_buffer_29 : decode cX7_buffer 29 = .ok (.istore_n 3, 1) := by decide +kernel
theorem dX7_buffer_30 : decode cX7_buffer 30 = .ok (.iconst 0, 1) := by decide +kernel
theorem dX7_buffer_31 : decode cX7_buffer 31 = .ok (.istore 4, 2) := by decide +kernel
theorem dX7_buffer_33 : decode cX7_buffer 33 = .ok (.iload 4, 2) := by decide +kernel
theorem dX7_buffer_35 : decode cX7_buffer 35 = .ok (.aload_n 0, 1) := by decide +kernel
theorem dX7_buffer_36 : decode cX7_buffer 36 = .ok (.getfield 23, 3) := by decide +kernel
theorem dX7_buffer_39 : decode cX7_buffer 39 = .ok (.getfield 178, 3) := by decide +kernel
theorem dX7_buffer_42 : decode cX7_buffer 42 = .ok (.if_icmp .ge 74, 3) := by decide +kernel
theorem dX7_buffer_45 : decode cX7_buffer 45 = .ok (.aload_n 0, 1) := by decide +kernel
theorem dX7_buffer_46 : decode cX7_buffer 46 = .ok (.getfield 23, 3) := by decide +kernel
theorem dX7_buffer_49 : decode cX7_buffer 49 = .ok (.iload 4, 2) := by decide +kernel
theorem dX7_buffer_51 : decode cX7_buffer 51 = .ok (.iload_n 1, 1) := by decide +kernel
theorem dX7_buffer_52 : decode cX7_buffer 52 = .ok (.invokevirtual 120, 3) := by decide +kernel
theorem dX7_buffer_55 : decode cX7_buffer 55 = .ok (.ifCond .ne 6, 3) := by decide +kernel
theorem dX7_buffer_58 : decode cX7_buffer 58 = .ok (.goto 52, 3) := by decide +kernel
theorem dX7_buffer_61 : decode cX7_buffer 61 = .ok (.aload_n 0, 1) := by decide +kernel
theorem dX7_buffer_62 : decode cX7_buffer 62 = .ok (.getfield 26, 3) := by decide +kernel
theorem dX7_buffer_65 : decode cX7_buffer 65 = .ok (.aload_n 0, 1) := by decide +kernel
theorem dX7_buffer_66 : decode cX7_buffer 66 = .ok (.getfield 23, 3) := by decide +kernel
theorem dX7_buffer_69 : decode cX7_buffer 69 = .ok (.invokevirtual 77, 3) := by decide +kernel
theorem dX7_buffer_72 : decode cX7_buffer 72 = .ok (.aload_n 0, 1) := by decide +kernel
theorem dX7_buffer_73 : decode cX7_buffer 73 = .ok (.getfield 26, 3) := by decide +kernel
theorem dX7_buffer_76 : decode cX7_buffer 76 = .ok (.iload 4, 2) := by decide +kernel
theorem dX7_buffer_78 : decode cX7_buffer 78 = .ok (.iload_n 1, 1) := by decide +kernel
theorem dX7_buffer_79 : decode cX7_buffer 79 = .ok (.invokevirtual 124, 3) := by decide +kernel
theorem dX7_buffer_82 : decode cX7_buffer 82 = .ok (.aload_n 0, 1) := by decide +kernel
theorem dX7_buffer_83 : decode cX7_buffer 83 = .ok (.getfield 47, 3) := by decide +kernel
theorem dX7_buffer_86 : decode cX7_buffer 86 = .ok (.aload_n 0, 1) := by decide +kernel
theorem dX7_buffer_87 : decode cX7_buffer 87 = .ok (.getfield 26, 3) := by decide +kernel
theorem dX7_buffer_90 : decode cX7_buffer 90 = .ok (.invokevirtual 149, 3) := by decide +kernel
theorem dX7_buffer_93 : decode cX7_buffer 93 = .ok (.invokestatic 175, 3) := by decide +kernel
theorem dX7_buffer_96 : decode cX7_buffer 96 = .ok (.istore 5, 2) := by decide +kernel
theorem dX7_buffer_98 : decode cX7_buffer 98 = .ok (.iload 5, 2) := by decide +kernel
theorem dX7_buffer_100 : decode cX7_buffer 100 = .ok (.iload_n 3, 1) := by decide +kernel
theorem dX7_buffer_101 : decode cX7_buffer 101 = .ok (.if_icmp .ge 9, 3) := by decide +kernel
theorem dX7_buffer_104 : decode cX7_buffer 104 = .ok (.iload 4, 2) := by decide +kernel
theorem dX7_buffer_106 : decode cX7_buffer 106 = .ok (.istore_n 2, 1) := by decide +kernel
theorem dX7_buffer_107 : decode cX7_buffer 107 = .ok (.iload 5, 2) := by decide +kernel
theorem dX7_buffer_109 : decode cX7_buffer 109 = .ok (.istore_n 3, 1) := by decide +kernel
theorem dX7_buffer_110 : decode cX7_buffer 110 = .ok (.iinc 4 1, 3) := by decide +kernel
theorem dX7_buffer_113 : decode cX7_buffer 113 = .ok (.goto (-80), 3) := by decide +kernel
theorem dX7_buffer_116 : decode cX7_buffer 116 = .ok (.iload_n 2, 1) := by decide +kernel
theorem dX7_buffer_117 : decode cX7_buffer 117 = .ok (.ireturn, 1) := by decide +kernel
theorem dX7_trace_0 : decode cX7_trace 0 = .ok (.iload_n 1, 1) := by decide +kernel
theorem dX7_trace_1 : decode cX7_trace 1 = .ok (.invokestatic 181, 3) := by decide +kernel
theorem dX7_trace_4 : decode cX7_trace 4 = .ok (.ifCond .ne 6, 3) := by decide +kernel
theorem dX7_trace_7 : decode cX7_trace 7 = .ok (.bipush (-2), 2) := by decide +kernel
theorem dX7_trace_9 : decode cX7_trace 9 = .ok (.ireturn, 1) := by decide +kernel
theorem dX7_trace_10 : decode cX7_trace 10 = .ok (.iload_n 2, 1) := by decide +kernel
theorem dX7_trace_11 : decode cX7_trace 11 = .ok (.invokestatic 184, 3) := by decide +kernel
theorem dX7_trace_14 : decode cX7_trace 14 = .ok (.ifCond .eq 9, 3) := by decide +kernel
theorem dX7_trace_17 : decode cX7_trace 17 = .ok (.iload_n 3, 1) := by decide +kernel
theorem dX7_trace_18 : decode cX7_trace 18 = .ok (.bipush 8, 2) := by decide +kernel
theorem dX7_trace_20 : decode cX7_trace 20 = .ok (.if_icmp .le 6, 3) := by decide +kernel
theorem dX7_trace_23 : decode cX7_trace 23 = .ok (.bipush (-3), 2) := by decide +kernel
theorem dX7_trace_25 : decode cX7_trace 25 = .ok (.ireturn, 1) := by decide +kernel
theorem dX7_trace_26 : decode cX7_trace 26 = .ok (.iload_n 3, 1) := by decide +kernel
theorem dX7_trace_27 : decode cX7_trace 27 = .ok (.ifCond .ge 6, 3) := by decide +kernel
theorem dX7_trace_30 : decode cX7_trace 30 = .ok (.bipush (-12), 2) := by decide +kernel
theorem dX7_trace_32 : decode cX7_trace 32 = .ok (.ireturn, 1) := by decide +kernel
theorem dX7_trace_33 : decode cX7_trace 33 = .ok (.aload_n 0, 1) := by decide +kernel
theorem dX7_trace_34 : decode cX7_trace 34 = .ok (.getfield 53, 3) := by decide +kernel
theorem dX7_trace_37 : decode cX7_trace 37 = .ok (.iload_n 1, 1) := by decide +kernel
theorem dX7_trace_38 : decode cX7_trace 38 = .ok (.aaload, 1) := by decide +kernel
theorem dX7_trace_39 : decode cX7_trace 39 = .ok (.iload_n 2, 1) := by decide +kernel
theorem dX7_trace_40 : decode cX7_trace 40 = .ok (.iload_n 3, 1) := by decide +kernel
theorem dX7_trace_41 : decode cX7_trace 41 = .ok (.invokevirtual 187, 3) := by decide +kernel
theorem dX7_trace_44 : decode cX7_trace 44 = .ok (.iload_n 3, 1) := by decide +kernel
theorem dX7_trace_45 : decode cX7_trace 45 = .ok (.ireturn, 1) := by decide +kernel
theorem dX7_set_0 : decode cX7_set 0 = .ok (.iload_n 1, 1) := by decide +kernel
theorem dX7_set_1 : decode cX7_set 1 = .ok (.invokestatic 181, 3) := by decide +kernel
theorem dX7_set_4 : decode cX7_set 4 = .ok (.ifCond .ne 6, 3) := by decide +kernel
theorem dX7_set_7 : decode cX7_set 7 = .ok (.bipush (-2), 2) := by decide +kernel
theorem dX7_set_9 : decode cX7_set 9 = .ok (.ireturn, 1) := by decide +kernel
theorem dX7_set_10 : decode cX7_set 10 = .ok (.iload_n 2, 1) := by decide +kernel
theorem dX7_set_11 : decode cX7_set 11 = .ok (.invokestatic 184, 3) := by decide +kernel
theorem dX7_set_14 : decode cX7_set 14 = .ok (.ifCond .eq 19, 3) := by decide +kernel
theorem dX7_set_17 : decode cX7_set 17 = .ok (.iload 4, 2) := by decide +kernel
theorem dX7_set_19 : decode cX7_set 19 = .ok (.invokestatic 190, 3) := by decide +kernel
theorem dX7_set_22 : decode cX7_set 22 = .ok (.ifCond .eq 11, 3) := by decide +kernel
theorem dX7_set_25 : decode cX7_set 25 = .ok (.iload 5, 2) := by decide +kernel
theorem dX7_set_27 : decode cX7_set 27 = .ok (.invokestatic 190, 3) := by decide +kernel
theorem dX7_set_30 : decode cX7_set 30 = .ok (.ifCond .ne 6, 3) := by decide +kernel
theorem dX7_set_33 : decode cX7_set 33 = .ok (.bipush (-3), 2) := by decide +kernel
theorem dX7_set_35 : decode cX7_set 35 = .ok (.ireturn, 1) := by decide +kernel
theorem dX7_set_36 : decode cX7_set 36 = .ok (.aload_n 0, 1) := by decide +kernel
theorem dX7_set_37 : decode cX7_set 37 = .ok (.getfield 53, 3) := by decide +kernel
theorem dX7_set_40 : decode cX7_set 40 = .ok (.iload_n 1, 1) := by decide +kernel
theorem dX7_set_41 : decode cX7_set 41 = .ok (.aaload, 1) := by decide +kernel
theorem dX7_set_42 : decode cX7_set 42 = .ok (.astore 6, 2) := by decide +kernel
theorem dX7_set_44 : decode cX7_set 44 = .ok (.aload 6, 2) := by decide +kernel
theorem dX7_set_46 : decode cX7_set 46 = .ok (.iload_n 2, 1) := by decide +kernel
theorem dX7_set_47 : decode cX7_set 47 = .ok (.iload_n 3, 1) := by decide +kernel
theorem dX7_set_48 : decode cX7_set 48 = .ok (.iload_n 3, 1) := by decide +kernel
theorem dX7_set_49 : decode cX7_set 49 = .ok (.invokevirtual 193, 3) := by decide +kernel
theorem dX7_set_52 : decode cX7_set 52 = .ok (.istore 7, 2) := by decide +kernel
theorem dX7_set_54 : decode cX7_set 54 = .ok (.iload 7, 2) := by decide +kernel
theorem dX7_set_56 : decode cX7_set 56 = .ok (.iconst (-1), 1) := by decide +kernel
theorem dX7_set_57 : decode cX7_set 57 = .ok (.if_icmp .eq 6, 3) := by decide +kernel
theorem dX7_set_60 : decode cX7_set 60 = .ok (.iload 7, 2) := by decide +kernel
theorem dX7_set_62 : decode cX7_set 62 = .ok (.ireturn, 1) := by decide +kernel
theorem dX7_set_63 : decode cX7_set 63 = .ok (.aload 6, 2) := by decide +kernel
theorem dX7_set_65 : decode cX7_set 65 = .ok (.iload_n 3, 1) := by decide +kernel
theorem dX7_set_66 : decode cX7_set 66 = .ok (.iload 4, 2) := by decide +kernel
theorem dX7_set_68 : decode cX7_set 68 = .ok (.iload 5, 2) := by decide +kernel
theorem dX7_set_70 : decode cX7_set 70 = .ok (.invokevirtual 197, 3) := by decide +kernel
theorem dX7_set_73 : decode cX7_set 73 = .ok (.aload 6, 2) := by decide +kernel
theorem dX7_set_75 : decode cX7_set 75 = .ok (.iload_n 3, 1) := by decide +kernel
theorem dX7_set_76 : decode cX7_set 76 = .ok (.invokevirtual 201, 3) := by decide +kernel
theorem dX7_set_79 : decode cX7_set 79 = .ok (.ireturn, 1) := by decide +kernel
theorem dX7_get_0 : decode cX7_get 0 = .ok (.aload_n 0, 1) := by decide +kernel
theorem dX7_get_1 : decode cX7_get 1 = .ok (.iload_n 1, 1) := by decide +kernel
theorem dX7_get_2 : decode cX7_get 2 = .ok (.iload_n 2, 1) := by decide +kernel
theorem dX7_get_3 : decode cX7_get 3 = .ok (.iload_n 3, 1) := by decide +kernel
theorem dX7_get_4 : decode cX7_get 4 = .ok (.iload_n 3, 1) := by decide +kernel
theorem dX7_get_5 : decode cX7_get 5 = .ok (.invokevirtual 204, 3) := by decide +kernel
theorem dX7_get_8 : decode cX7_get 8 = .ok (.istore 4, 2) := by decide +kernel
theorem dX7_get_10 : decode cX7_get 10 = .ok (.iload 4, 2) := by decide +kernel
theorem dX7_get_12 : decode cX7_get 12 = .ok (.iconst (-1), 1) := by decide +kernel
theorem dX7_get_13 : decode cX7_get 13 = .ok (.if_icmp .eq 8, 3) := by decide +kernel
theorem dX7_get_16 : decode cX7_get 16 = .ok (.iload 4, 2) := by decide +kernel
theorem dX7_get_18 : decode cX7_get 18 = .ok (.goto 13, 3) := by decide +kernel
theorem dX7_get_21 : decode cX7_get 21 = .ok (.aload_n 0, 1) := by decide +kernel
theorem dX7_get_22 : decode cX7_get 22 = .ok (.getfield 53, 3) := by decide +kernel
theorem dX7_get_25 : decode cX7_get 25 = .ok (.iload_n 1, 1) := by decide +kernel
theorem dX7_get_26 : decode cX7_get 26 = .ok (.aaload, 1) := by decide +kernel
theorem dX7_get_27 : decode cX7_get 27 = .ok (.iload_n 3, 1) := by decide +kernel
theorem dX7_get_28 : decode cX7_get 28 = .ok (.invokevirtual 201, 3) := by decide +kernel
theorem dX7_get_31 : decode cX7_get 31 = .ok (.ireturn, 1) := by decide +kernel
theorem dX7_rest_0 : decode cX7_rest 0 = .ok (.aload_n 0, 1) := by decide +kernel
theorem dX7_rest_1 : decode cX7_rest 1 = .ok (.iload_n 1, 1) := by decide +kernel
theorem dX7_rest_2 : decode cX7_rest 2 = .ok (.iload_n 2, 1) := by decide +kernel
theorem dX7_rest_3 : decode cX7_rest 3 = .ok (.iload_n 3, 1) := by decide +kernel
theorem dX7_rest_4 : decode cX7_rest 4 = .ok (.iload 4, 2) := by decide +kernel
theorem dX7_rest_6 : decode cX7_rest 6 = .ok (.invokevirtual 204, 3) := by decide +kernel
theorem dX7_rest_9 : decode cX7_rest 9 = .ok (.istore 5, 2) := by decide +kernel
theorem dX7_rest_11 : decode cX7_rest 11 = .ok (.iload 5, 2) := by decide +kernel
theorem dX7_rest_13 : decode cX7_rest 13 = .ok (.iconst (-1), 1) := by decide +kernel
theorem dX7_rest_14 : decode cX7_rest 14 = .ok (.if_icmp .eq 6, 3) := by decide +kernel
theorem dX7_rest_17 : decode cX7_rest 17 = .ok (.iload 5, 2) := by decide +kernel
theorem dX7_rest_19 : decode cX7_rest 19 = .ok (.ireturn, 1) := by decide +kernel
theorem dX7_rest_20 : decode cX7_rest 20 = .ok (.aload_n 0, 1) := by decide +kernel
theorem dX7_rest_21 : decode cX7_rest 21 = .ok (.getfield 53, 3) := by decide +kernel
theorem dX7_rest_24 : decode cX7_rest 24 = .ok (.iload_n 1, 1) := by decide +kernel
theorem dX7_rest_25 : decode cX7_rest 25 = .ok (.aaload, 1) := by decide +kernel
theorem dX7_rest_26 : decode cX7_rest 26 = .ok (.iload_n 3, 1) := by decide +kernel
theorem dX7_rest_27 : decode cX7_rest 27 = .ok (.iload 4, 2) := by decide +kernel
theorem dX7_rest_29 : decode cX7_rest 29 = .ok (.invokevirtual 208, 3) := by decide +kernel
theorem dX7_rest_32 : decode cX7_rest 32 = .ok (.aload_n 0, 1) := by decide +kernel
theorem dX7_rest_33 : decode cX7_rest 33 = .ok (.getfield 53, 3) := by decide +kernel
theorem dX7_rest_36 : decode cX7_rest 36 = .ok (.iload_n 1, 1) := by decide +kernel
theorem dX7_rest_37 : decode cX7_rest 37 = .ok (.aaload, 1) := by decide +kernel
theorem dX7_rest_38 : decode cX7_rest 38 = .ok (.iload_n 3, 1) := by decide +kernel
theorem dX7_rest_39 : decode cX7_rest 39 = .ok (.invokevirtual 201, 3) := by decide +kernel
theorem dX7_rest_42 : decode cX7_rest 42 = .ok (.ireturn, 1) := by decide +kernel
theorem dX7_compare_0 : decode cX7_compare 0 = .ok (.aload_n 0, 1) := by decide +kernel
theorem dX7_compare_1 : decode cX7_compare 1 = .ok (.iload_n 1, 1) := by decide +kernel
theorem dX7_compare_2 : decode cX7_compare 2 = .ok (.iload_n 2, 1) := by decide +kernel
theorem dX7_compare_3 : decode cX7_compare 3 = .ok (.iload_n 3, 1) := by decide +kernel
theorem dX7_compare_4 : decode cX7_compare 4 = .ok (.iload 4, 2) := by decide +kernel
theorem dX7_compare_6 : decode cX7_compare 6 = .ok (.invokevirtual 204, 3) := by decide +kernel
theorem dX7_compare_9 : decode cX7_compare 9 = .ok (.istore 5, 2) := by decide +kernel
theorem dX7_compare_11 : decode cX7_compare 11 = .ok (.iload 5, 2) := by decide +kernel
theorem dX7_compare_13 : decode cX7_compare 13 = .ok (.iconst (-1), 1) := by decide +kernel
theorem dX7_compare_14 : decode cX7_compare 14 = .ok (.if_icmp .eq 8, 3) := by decide +kernel
theorem dX7_compare_17 : decode cX7_compare 17 = .ok (.iload 5, 2) := by decide +kernel
theorem dX7_compare_19 : decode cX7_compare 19 = .ok (.goto 15, 3) := by decide +kernel
theorem dX7_compare_22 : decode cX7_compare 22 = .ok (.aload_n 0, 1) := by decide +kernel
theorem dX7_compare_23 : decode cX7_compare 23 = .ok (.getfield 53, 3) := by decide +kernel
theorem dX7_compare_26 : decode cX7_compare 26 = .ok (.iload_n 1, 1) := by decide +kernel
theorem dX7_compare_27 : decode cX7_compare 27 = .ok (.aaload, 1) := by decide +kernel
theorem dX7_compare_28 : decode cX7_compare 28 = .ok (.iload_n 3, 1) := by decide +kernel
theorem dX7_compare_29 : decode cX7_compare 29 = .ok (.iload 4, 2) := by decide +kernel
theorem dX7_compare_31 : decode cX7_compare 31 = .ok (.invokevirtual 211, 3) := by decide +kernel
theorem dX7_compare_34 : decode cX7_compare 34 = .ok (.ireturn, 1) := by decide +kernel
theorem dX7_sum_0 : decode cX7_sum 0 = .ok (.iload_n 1, 1) := by decide +kernel
theorem dX7_sum_1 : decode cX7_sum 1 = .ok (.invokestatic 181, 3) := by decide +kernel
theorem dX7_sum_4 : decode cX7_sum 4 = .ok (.ifCond .ne 6, 3) := by decide +kernel
theorem dX7_sum_7 : decode cX7_sum 7 = .ok (.bipush (-2), 2) := by decide +kernel
theorem dX7_sum_9 : decode cX7_sum 9 = .ok (.ireturn, 1) := by decide +kernel
theorem dX7_sum_10 : decode cX7_sum 10 = .ok (.iload_n 2, 1) := by decide +kernel
theorem dX7_sum_11 : decode cX7_sum 11 = .ok (.iconst 0, 1) := by decide +kernel
theorem dX7_sum_12 : decode cX7_sum 12 = .ok (.iconst 1, 1) := by decide +kernel
theorem dX7_sum_13 : decode cX7_sum 13 = .ok (.invokestatic 58, 3) := by decide +kernel
theorem dX7_sum_16 : decode cX7_sum 16 = .ok (.ifCond .ne 6, 3) := by decide +kernel
theorem dX7_sum_19 : decode cX7_sum 19 = .ok (.bipush (-3), 2) := by decide +kernel
theorem dX7_sum_21 : decode cX7_sum 21 = .ok (.ireturn, 1) := by decide +kernel
theorem dX7_sum_22 : decode cX7_sum 22 = .ok (.aload_n 0, 1) := by decide +kernel
theorem dX7_sum_23 : decode cX7_sum 23 = .ok (.getfield 53, 3) := by decide +kernel
theorem dX7_sum_26 : decode cX7_sum 26 = .ok (.iload_n 1, 1) := by decide +kernel
theorem dX7_sum_27 : decode cX7_sum 27 = .ok (.aaload, 1) := by decide +kernel
theorem dX7_sum_28 : decode cX7_sum 28 = .ok (.astore_n 3, 1) := by decide +kernel
theorem dX7_sum_29 : decode cX7_sum 29 = .ok (.aload_n 3, 1) := by decide +kernel
theorem dX7_sum_30 : decode cX7_sum 30 = .ok (.invokevirtual 215, 3) := by decide +kernel
theorem dX7_sum_33 : decode cX7_sum 33 = .ok (.ifCond .eq 6, 3) := by decide +kernel
theorem dX7_sum_36 : decode cX7_sum 36 = .ok (.bipush (-11), 2) := by decide +kernel
theorem dX7_sum_38 : decode cX7_sum 38 = .ok (.ireturn, 1) := by decide +kernel
theorem dX7_sum_39 : decode cX7_sum 39 = .ok (.iload_n 2, 1) := by decide +kernel
theorem dX7_sum_40 : decode cX7_sum 40 = .ok (.ifCond .ne 10, 3) := by decide +kernel
theorem dX7_sum_43 : decode cX7_sum 43 = .ok (.aload_n 3, 1) := by decide +kernel
theorem dX7_sum_44 : decode cX7_sum 44 = .ok (.invokevirtual 218, 3) := by decide +kernel
theorem dX7_sum_47 : decode cX7_sum 47 = .ok (.goto 7, 3) := by decide +kernel
theorem dX7_sum_50 : decode cX7_sum 50 = .ok (.aload_n 3, 1) := by decide +kernel
theorem dX7_sum_51 : decode cX7_sum 51 = .ok (.invokevirtual 221, 3) := by decide +kernel
theorem dX7_sum_54 : decode cX7_sum 54 = .ok (.ireturn, 1) := by decide +kernel
theorem dX7_drop_0 : decode cX7_drop 0 = .ok (.iload_n 1, 1) := by decide +kernel
theorem dX7_drop_1 : decode cX7_drop 1 = .ok (.invokestatic 181, 3) := by decide +kernel
theorem dX7_drop_4 : decode cX7_drop 4 = .ok (.ifCond .ne 6, 3) := by decide +kernel
theorem dX7_drop_7 : decode cX7_drop 7 = .ok (.bipush (-2), 2) := by decide +kernel
theorem dX7_drop_9 : decode cX7_drop 9 = .ok (.ireturn, 1) := by decide +kernel
theorem dX7_drop_10 : decode cX7_drop 10 = .ok (.aload_n 0, 1) := by decide +kernel
theorem dX7_drop_11 : decode cX7_drop 11 = .ok (.getfield 53, 3) := by decide +kernel
theorem dX7_drop_14 : decode cX7_drop 14 = .ok (.iload_n 1, 1) := by decide +kernel
theorem dX7_drop_15 : decode cX7_drop 15 = .ok (.aaload, 1) := by decide +kernel
theorem dX7_drop_16 : decode cX7_drop 16 = .ok (.astore_n 2, 1) := by decide +kernel
theorem dX7_drop_17 : decode cX7_drop 17 = .ok (.aload_n 2, 1) := by decide +kernel
theorem dX7_drop_18 : decode cX7_drop 18 = .ok (.invokevirtual 215, 3) := by decide +kernel
theorem dX7_drop_21 : decode cX7_drop 21 = .ok (.ifCond .eq 6, 3) := by decide +kernel
theorem dX7_drop_24 : decode cX7_drop 24 = .ok (.bipush (-11), 2) := by decide +kernel
theorem dX7_drop_26 : decode cX7_drop 26 = .ok (.ireturn, 1) := by decide +kernel
theorem dX7_drop_27 : decode cX7_drop 27 = .ok (.aload_n 2, 1) := by decide +kernel
theorem dX7_drop_28 : decode cX7_drop 28 = .ok (.invokevirtual 224, 3) := by decide +kernel
theorem dX7_drop_31 : decode cX7_drop 31 = .ok (.istore_n 3, 1) := by decide +kernel
theorem dX7_drop_32 : decode cX7_drop 32 = .ok (.aload_n 2, 1) := by decide +kernel
theorem dX7_drop_33 : decode cX7_drop 33 = .ok (.invokevirtual 82, 3) := by decide +kernel
theorem dX7_drop_36 : decode cX7_drop 36 = .ok (.iload_n 3, 1) := by decide +kernel
theorem dX7_drop_37 : decode cX7_drop 37 = .ok (.ireturn, 1) := by decide +kernel
theorem dX7_count_0 : decode cX7_count 0 = .ok (.iload_n 1, 1) := by decide +kernel
theorem dX7_count_1 : decode cX7_count 1 = .ok (.tableswitch 132 0 9 #[55, 63, 71, 79, 87, 95, 103, 108, 116, 124], 55) := by decide +kernel
theorem dX7_count_56 : decode cX7_count 56 = .ok (.aload_n 0, 1) := by decide +kernel
theorem dX7_count_57 : decode cX7_count 57 = .ok (.getfield 23, 3) := by decide +kernel
theorem dX7_count_60 : decode cX7_count 60 = .ok (.getfield 140, 3) := by decide +kernel
theorem dX7_count_63 : decode cX7_count 63 = .ok (.ireturn, 1) := by decide +kernel
theorem dX7_count_64 : decode cX7_count 64 = .ok (.aload_n 0, 1) := by decide +kernel
theorem dX7_count_65 : decode cX7_count 65 = .ok (.getfield 23, 3) := by decide +kernel
theorem dX7_count_68 : decode cX7_count 68 = .ok (.getfield 178, 3) := by decide +kernel
theorem dX7_count_71 : decode cX7_count 71 = .ok (.ireturn, 1) := by decide +kernel
theorem dX7_count_72 : decode cX7_count 72 = .ok (.aload_n 0, 1) := by decide +kernel
theorem dX7_count_73 : decode cX7_count 73 = .ok (.getfield 23, 3) := by decide +kernel
theorem dX7_count_76 : decode cX7_count 76 = .ok (.getfield 227, 3) := by decide +kernel
theorem dX7_count_79 : decode cX7_count 79 = .ok (.ireturn, 1) := by decide +kernel
theorem dX7_count_80 : decode cX7_count 80 = .ok (.aload_n 0, 1) := by decide +kernel
theorem dX7_count_81 : decode cX7_count 81 = .ok (.getfield 23, 3) := by decide +kernel
theorem dX7_count_84 : decode cX7_count 84 = .ok (.getfield 230, 3) := by decide +kernel
theorem dX7_count_87 : decode cX7_count 87 = .ok (.ireturn, 1) := by decide +kernel
theorem dX7_count_88 : decode cX7_count 88 = .ok (.aload_n 0, 1) := by decide +kernel
theorem dX7_count_89 : decode cX7_count 89 = .ok (.getfield 23, 3) := by decide +kernel
theorem dX7_count_92 : decode cX7_count 92 = .ok (.getfield 146, 3) := by decide +kernel
theorem dX7_count_95 : decode cX7_count 95 = .ok (.ireturn, 1) := by decide +kernel
theorem dX7_count_96 : decode cX7_count 96 = .ok (.aload_n 0, 1) := by decide +kernel
theorem dX7_count_97 : decode cX7_count 97 = .ok (.getfield 23, 3) := by decide +kernel
theorem dX7_count_100 : decode cX7_count 100 = .ok (.getfield 112, 3) := by decide +kernel
theorem dX7_count_103 : decode cX7_count 103 = .ok (.ireturn, 1) := by decide +kernel
theorem dX7_count_104 : decode cX7_count 104 = .ok (.aload_n 0, 1) := by decide +kernel
theorem dX7_count_105 : decode cX7_count 105 = .ok (.invokevirtual 233, 3) := by decide +kernel
theorem dX7_count_108 : decode cX7_count 108 = .ok (.ireturn, 1) := by decide +kernel
theorem dX7_count_109 : decode cX7_count 109 = .ok (.aload_n 0, 1) := by decide +kernel
theorem dX7_count_110 : decode cX7_count 110 = .ok (.getfield 40, 3) := by decide +kernel
theorem dX7_count_113 : decode cX7_count 113 = .ok (.invokevirtual 127, 3) := by decide +kernel
theorem dX7_count_116 : decode cX7_count 116 = .ok (.ireturn, 1) := by decide +kernel
theorem dX7_count_117 : decode cX7_count 117 = .ok (.aload_n 0, 1) := by decide +kernel
theorem dX7_count_118 : decode cX7_count 118 = .ok (.getfield 10, 3) := by decide +kernel
theorem dX7_count_121 : decode cX7_count 121 = .ok (.invokevirtual 66, 3) := by decide +kernel
theorem dX7_count_124 : decode cX7_count 124 = .ok (.ireturn, 1) := by decide +kernel
theorem dX7_count_125 : decode cX7_count 125 = .ok (.aload_n 0, 1) := by decide +kernel
theorem dX7_count_126 : decode cX7_count 126 = .ok (.getfield 23, 3) := by decide +kernel
theorem dX7_count_129 : decode cX7_count 129 = .ok (.invokevirtual 236, 3) := by decide +kernel
theorem dX7_count_132 : decode cX7_count 132 = .ok (.ireturn, 1) := by decide +kernel
theorem dX7_count_133 : decode cX7_count 133 = .ok (.bipush (-3), 2) := by decide +kernel
theorem dX7_count_135 : decode cX7_count 135 = .ok (.ireturn, 1) := by decide +kernel
theorem dX7_isWithin_0 : decode cX7_isWithin 0 = .ok (.iload_n 0, 1) := by decide +kernel
theorem dX7_isWithin_1 : decode cX7_isWithin 1 = .ok (.iload_n 1, 1) := by decide +kernel
theorem dX7_isWithin_2 : decode cX7_isWithin 2 = .ok (.if_icmp .lt 12, 3) := by decide +kernel
theorem dX7_isWithin_5 : decode cX7_isWithin 5 = .ok (.iload_n 0, 1) := by decide +kernel
theorem dX7_isWithin_6 : decode cX7_isWithin 6 = .ok (.iload_n 2, 1) := by decide +kernel
theorem dX7_isWithin_7 : decode cX7_isWithin 7 = .ok (.if_icmp .gt 7, 3) := by decide +kernel
theorem dX7_isWithin_10 : decode cX7_isWithin 10 = .ok (.iconst 1, 1) := by decide +kernel
theorem dX7_isWithin_11 : decode cX7_isWithin 11 = .ok (.goto 4, 3) := by decide +kernel
theorem dX7_isWithin_14 : decode cX7_isWithin 14 = .ok (.iconst 0, 1) := by decide +kernel
theorem dX7_isWithin_15 : decode cX7_isWithin 15 = .ok (.ireturn, 1) := by decide +kernel
theorem dX7_isPath_0 : decode cX7_isPath 0 = .ok (.iload_n 1, 1) := by decide +kernel
theorem dX7_isPath_1 : decode cX7_isPath 1 = .ok (.iconst 0, 1) := by decide +kernel
theorem dX7_isPath_2 : decode cX7_isPath 2 = .ok (.aload_n 0, 1) := by decide +kernel
theorem dX7_isPath_3 : decode cX7_isPath 3 = .ok (.getfield 23, 3) := by decide +kernel
theorem dX7_isPath_6 : decode cX7_isPath 6 = .ok (.getfield 178, 3) := by decide +kernel
theorem dX7_isPath_9 : decode cX7_isPath 9 = .ok (.iconst 1, 1) := by decide +kernel
theorem dX7_isPath_10 : decode cX7_isPath 10 = .ok (.isub, 1) := by decide +kernel
theorem dX7_isPath_11 : decode cX7_isPath 11 = .ok (.invokestatic 58, 3) := by decide +kernel
theorem dX7_isPath_14 : decode cX7_isPath 14 = .ok (.ireturn, 1) := by decide +kernel
theorem dX7_isKeptPlace_0 : decode cX7_isKeptPlace 0 = .ok (.iload_n 0, 1) := by decide +kernel
theorem dX7_isKeptPlace_1 : decode cX7_isKeptPlace 1 = .ok (.iconst 0, 1) := by decide +kernel
theorem dX7_isKeptPlace_2 : decode cX7_isKeptPlace 2 = .ok (.iconst 1, 1) := by decide +kernel
theorem dX7_isKeptPlace_3 : decode cX7_isKeptPlace 3 = .ok (.invokestatic 58, 3) := by decide +kernel
theorem dX7_isKeptPlace_6 : decode cX7_isKeptPlace 6 = .ok (.ireturn, 1) := by decide +kernel
theorem dX7_isTrace_0 : decode cX7_isTrace 0 = .ok (.iload_n 0, 1) := by decide +kernel
theorem dX7_isTrace_1 : decode cX7_isTrace 1 = .ok (.iconst 0, 1) := by decide +kernel
theorem dX7_isTrace_2 : decode cX7_isTrace 2 = .ok (.iconst 2, 1) := by decide +kernel
theorem dX7_isTrace_3 : decode cX7_isTrace 3 = .ok (.invokestatic 58, 3) := by decide +kernel
theorem dX7_isTrace_6 : decode cX7_isTrace 6 = .ok (.ireturn, 1) := by decide +kernel
theorem dX7_isSort_0 : decode cX7_isSort 0 = .ok (.iload_n 0, 1) := by decide +kernel
theorem dX7_isSort_1 : decode cX7_isSort 1 = .ok (.ifCond .eq 8, 3) := by decide +kernel
theorem dX7_isSort_4 : decode cX7_isSort 4 = .ok (.iload_n 0, 1) := by decide +kernel
theorem dX7_isSort_5 : decode cX7_isSort 5 = .ok (.iconst 1, 1) := by decide +kernel
theorem dX7_isSort_6 : decode cX7_isSort 6 = .ok (.if_icmp .ne 7, 3) := by decide +kernel
theorem dX7_isSort_9 : decode cX7_isSort 9 = .ok (.iconst 1, 1) := by decide +kernel
theorem dX7_isSort_10 : decode cX7_isSort 10 = .ok (.goto 4, 3) := by decide +kernel
theorem dX7_isSort_13 : decode cX7_isSort 13 = .ok (.iconst 0, 1) := by decide +kernel
theorem dX7_isSort_14 : decode cX7_isSort 14 = .ok (.ireturn, 1) := by decide +kernel
theorem dX7_isQuotientPart_0 : decode cX7_isQuotientPart 0 = .ok (.iload_n 0, 1) := by decide +kernel
theorem dX7_isQuotientPart_1 : decode cX7_isQuotientPart 1 = .ok (.sipush (-9999), 3) := by decide +kernel
theorem dX7_isQuotientPart_4 : decode cX7_isQuotientPart 4 = .ok (.sipush 9999, 3) := by decide +kernel
theorem dX7_isQuotientPart_7 : decode cX7_isQuotientPart 7 = .ok (.invokestatic 58, 3) := by decide +kernel
theorem dX7_isQuotientPart_10 : decode cX7_isQuotientPart 10 = .ok (.ireturn, 1) := by decide +kernel
theorem dX7_traceRefusal_0 : decode cX7_traceRefusal 0 = .ok (.iload_n 1, 1) := by decide +kernel
theorem dX7_traceRefusal_1 : decode cX7_traceRefusal 1 = .ok (.invokestatic 181, 3) := by decide +kernel
theorem dX7_traceRefusal_4 : decode cX7_traceRefusal 4 = .ok (.ifCond .ne 6, 3) := by decide +kernel
theorem dX7_traceRefusal_7 : decode cX7_traceRefusal 7 = .ok (.bipush (-2), 2) := by decide +kernel
theorem dX7_traceRefusal_9 : decode cX7_traceRefusal 9 = .ok (.ireturn, 1) := by decide +kernel
theorem dX7_traceRefusal_10 : decode cX7_traceRefusal 10 = .ok (.iload_n 2, 1) := by decide +kernel
theorem dX7_traceRefusal_11 : decode cX7_traceRefusal 11 = .ok (.invokestatic 184, 3) := by decide +kernel
theorem dX7_traceRefusal_14 : decode cX7_traceRefusal 14 = .ok (.ifCond .eq 19, 3) := by decide +kernel
theorem dX7_traceRefusal_17 : decode cX7_traceRefusal 17 = .ok (.aload_n 0, 1) := by decide +kernel
theorem dX7_traceRefusal_18 : decode cX7_traceRefusal 18 = .ok (.getfield 53, 3) := by decide +kernel
theorem dX7_traceRefusal_21 : decode cX7_traceRefusal 21 = .ok (.iload_n 1, 1) := by decide +kernel
theorem dX7_traceRefusal_22 : decode cX7_traceRefusal 22 = .ok (.aaload, 1) := by decide +kernel
theorem dX7_traceRefusal_23 : decode cX7_traceRefusal 23 = .ok (.iload_n 2, 1) := by decide +kernel
theorem dX7_traceRefusal_24 : decode cX7_traceRefusal 24 = .ok (.iload_n 3, 1) := by decide +kernel
theorem dX7_traceRefusal_25 : decode cX7_traceRefusal 25 = .ok (.iload 4, 2) := by decide +kernel
theorem dX7_traceRefusal_27 : decode cX7_traceRefusal 27 = .ok (.invokevirtual 193, 3) := by decide +kernel
theorem dX7_traceRefusal_30 : decode cX7_traceRefusal 30 = .ok (.goto 5, 3) := by decide +kernel
theorem dX7_traceRefusal_33 : decode cX7_traceRefusal 33 = .ok (.bipush (-3), 2) := by decide +kernel
theorem dX7_traceRefusal_35 : decode cX7_traceRefusal 35 = .ok (.ireturn, 1) := by decide +kernel
theorem dX7_placesOfAllTraces_0 : decode cX7_placesOfAllTraces 0 = .ok (.iconst 0, 1) := by decide +kernel
theorem dX7_placesOfAllTraces_1 : decode cX7_placesOfAllTraces 1 = .ok (.istore_n 1, 1) := by decide +kernel
theorem dX7_placesOfAllTraces_2 : decode cX7_placesOfAllTraces 2 = .ok (.iconst 0, 1) := by decide +kernel
theorem dX7_placesOfAllTraces_3 : decode cX7_placesOfAllTraces 3 = .ok (.istore_n 2, 1) := by decide +kernel
theorem dX7_placesOfAllTraces_4 : decode cX7_placesOfAllTraces 4 = .ok (.iload_n 2, 1) := by decide +kernel
theorem dX7_placesOfAllTraces_5 : decode cX7_placesOfAllTraces 5 = .ok (.iconst 3, 1) := by decide +kernel
theorem dX7_placesOfAllTraces_6 : decode cX7_placesOfAllTraces 6 = .ok (.if_icmp .ge 21, 3) := by decide +kernel
theorem dX7_placesOfAllTraces_9 : decode cX7_placesOfAllTraces 9 = .ok (.iload_n 1, 1) := by decide +kernel
theorem dX7_placesOfAllTraces_10 : decode cX7_placesOfAllTraces 10 = .ok (.aload_n 0, 1) := by decide +kernel
theorem dX7_placesOfAllTraces_11 : decode cX7_placesOfAllTraces 11 = .ok (.getfield 53, 3) := by decide +kernel
theorem dX7_placesOfAllTraces_14 : decode cX7_placesOfAllTraces 14 = .ok (.iload_n 2, 1) := by decide +kernel
theorem dX7_placesOfAllTraces_15 : decode cX7_placesOfAllTraces 15 = .ok (.aaload, 1) := by decide +kernel
theorem dX7_placesOfAllTraces_16 : decode cX7_placesOfAllTraces 16 = .ok (.invokevirtual 224, 3) := by decide +kernel
theorem dX7_placesOfAllTraces_19 : decode cX7_placesOfAllTraces 19 = .ok (.iadd, 1) := by decide +kernel
theorem dX7_placesOfAllTraces_20 : decode cX7_placesOfAllTraces 20 = .ok (.istore_n 1, 1) := by decide +kernel
theorem dX7_placesOfAllTraces_21 : decode cX7_placesOfAllTraces 21 = .ok (.iinc 2 1, 3) := by decide +kernel
theorem dX7_placesOfAllTraces_24 : decode cX7_placesOfAllTraces 24 = .ok (.goto (-20), 3) := by decide +kernel
theorem dX7_placesOfAllTraces_27 : decode cX7_placesOfAllTraces 27 = .ok (.iload_n 1, 1) := by decide +kernel
theorem dX7_placesOfAllTraces_28 : decode cX7_placesOfAllTraces 28 = .ok (.ireturn, 1) := by decide +kernel
theorem dX7_orAboveAll_0 : decode cX7_orAboveAll 0 = .ok (.iload_n 0, 1) := by decide +kernel
theorem dX7_orAboveAll_1 : decode cX7_orAboveAll 1 = .ok (.iconst (-1), 1) := by decide +kernel
theorem dX7_orAboveAll_2 : decode cX7_orAboveAll 2 = .ok (.if_icmp .ne 9, 3) := by decide +kernel
theorem dX7_orAboveAll_5 : decode cX7_orAboveAll 5 = .ok (.sipush 1000, 3) := by decide +kernel
theorem dX7_orAboveAll_8 : decode cX7_orAboveAll 8 = .ok (.goto 4, 3) := by decide +kernel
theorem dX7_orAboveAll_11 : decode cX7_orAboveAll 11 = .ok (.iload_n 0, 1) := by decide +kernel
theorem dX7_orAboveAll_12 : decode cX7_orAboveAll 12 = .ok (.ireturn, 1) := by decide +kernel
theorem dL_law_0 : decode cL_law 0 = .ok (.new 7, 3) := by decide +kernel
theorem dL_law_3 : decode cL_law 3 = .ok (.dup, 1) := by decide +kernel
theorem dL_law_4 : decode cL_law 4 = .ok (.invokespecial 9, 3) := by decide +kernel
theorem dL_law_7 : decode cL_law 7 = .ok (.astore_n 1, 1) := by decide +kernel
theorem dL_law_8 : decode cL_law 8 = .ok (.new 10, 3) := by decide +kernel
theorem dL_law_11 : decode cL_law 11 = .ok (.dup, 1) := by decide +kernel
theorem dL_law_12 : decode cL_law 12 = .ok (.invokespecial 12, 3) := by decide +kernel
theorem dL_law_15 : decode cL_law 15 = .ok (.astore_n 2, 1) := by decide +kernel
theorem dL_law_16 : decode cL_law 16 = .ok (.iconst 0, 1) := by decide +kernel
theorem dL_law_17 : decode cL_law 17 = .ok (.istore_n 3, 1) := by decide +kernel
theorem dL_law_18 : decode cL_law 18 = .ok (.iload_n 3, 1) := by decide +kernel
theorem dL_law_19 : decode cL_law 19 = .ok (.aload_n 0, 1) := by decide +kernel
theorem dL_law_20 : decode cL_law 20 = .ok (.arraylength, 1) := by decide +kernel
theorem dL_law_21 : decode cL_law 21 = .ok (.bipush 6, 2) := by decide +kernel
theorem dL_law_23 : decode cL_law 23 = .ok (.isub, 1) := by decide +kernel
theorem dL_law_24 : decode cL_law 24 = .ok (.if_icmp .gt 842, 3) := by decide +kernel
theorem dL_law_27 : decode cL_law 27 = .ok (.aload_n 0, 1) := by decide +kernel
theorem dL_law_28 : decode cL_law 28 = .ok (.iload_n 3, 1) := by decide +kernel
theorem dL_law_29 : decode cL_law 29 = .ok (.iaload, 1) := by decide +kernel
theorem dL_law_30 : decode cL_law 30 = .ok (.bipush 31, 2) := by decide +kernel
theorem dL_law_32 : decode cL_law 32 = .ok (.iand, 1) := by decide +kernel
theorem dL_law_33 : decode cL_law 33 = .ok (.tableswitch 827 0 25 #[119, 142, 155, 168, 181, 214, 237, 270, 283, 306, 329, 342, 365, 378, 401, 414, 447, 470, 493, 536, 599, 642, 695, 748, 781, 804], 119) := by decide +kernel
theorem dL_law_152 : decode cL_law 152 = .ok (.aload_n 1, 1) := by decide +kernel
theorem dL_law_153 : decode cL_law 153 = .ok (.aload_n 0, 1) := by decide +kernel
theorem dL_law_154 : decode cL_law 154 = .ok (.iload_n 3, 1) := by decide +kernel
theorem dL_law_155 : decode cL_law 155 = .ok (.iconst 1, 1) := by decide +kernel
theorem dL_law_156 : decode cL_law 156 = .ok (.iadd, 1) := by decide +kernel
theorem dL_law_157 : decode cL_law 157 = .ok (.iaload, 1) := by decide +kernel
theorem dL_law_158 : decode cL_law 158 = .ok (.invokevirtual 13, 3) := by decide +kernel
theorem dL_law_161 : decode cL_law 161 = .ok (.aload_n 2, 1) := by decide +kernel
theorem dL_law_162 : decode cL_law 162 = .ok (.aload_n 0, 1) := by decide +kernel
theorem dL_law_163 : decode cL_law 163 = .ok (.iload_n 3, 1) := by decide +kernel
theorem dL_law_164 : decode cL_law 164 = .ok (.iconst 1, 1) := by decide +kernel
theorem dL_law_165 : decode cL_law 165 = .ok (.iadd, 1) := by decide +kernel
theorem dL_law_166 : decode cL_law 166 = .ok (.iaload, 1) := by decide +kernel
theorem dL_law_167 : decode cL_law 167 = .ok (.invokevirtual 17, 3) := by decide +kernel
theorem dL_law_170 : decode cL_law 170 = .ok (.if_icmp .eq 690, 3) := by decide +kernel
theorem dL_law_173 : decode cL_law 173 = .ok (.iconst 0, 1) := by decide +kernel
theorem dL_law_174 : decode cL_law 174 = .ok (.ireturn, 1) := by decide +kernel
theorem dL_law_175 : decode cL_law 175 = .ok (.aload_n 1, 1) := by decide +kernel
theorem dL_law_176 : decode cL_law 176 = .ok (.invokevirtual 18, 3) := by decide +kernel
theorem dL_law_179 : decode cL_law 179 = .ok (.aload_n 2, 1) := by decide +kernel
theorem dL_law_180 : decode cL_law 180 = .ok (.invokevirtual 22, 3) := by decide +kernel
theorem dL_law_183 : decode cL_law 183 = .ok (.if_icmp .eq 677, 3) := by decide +kernel
theorem dL_law_186 : decode cL_law 186 = .ok (.iconst 0, 1) := by decide +kernel
theorem dL_law_187 : decode cL_law 187 = .ok (.ireturn, 1) := by decide +kernel
theorem dL_law_188 : decode cL_law 188 = .ok (.aload_n 1, 1) := by decide +kernel
theorem dL_law_189 : decode cL_law 189 = .ok (.invokevirtual 23, 3) := by decide +kernel
theorem dL_law_192 : decode cL_law 192 = .ok (.aload_n 2, 1) := by decide +kernel
theorem dL_law_193 : decode cL_law 193 = .ok (.invokevirtual 26, 3) := by decide +kernel
theorem dL_law_196 : decode cL_law 196 = .ok (.if_icmp .eq 664, 3) := by decide +kernel
theorem dL_law_199 : decode cL_law 199 = .ok (.iconst 0, 1) := by decide +kernel
theorem dL_law_200 : decode cL_law 200 = .ok (.ireturn, 1) := by decide +kernel
theorem dL_law_201 : decode cL_law 201 = .ok (.aload_n 1, 1) := by decide +kernel
theorem dL_law_202 : decode cL_law 202 = .ok (.invokevirtual 27, 3) := by decide +kernel
theorem dL_law_205 : decode cL_law 205 = .ok (.aload_n 2, 1) := by decide +kernel
theorem dL_law_206 : decode cL_law 206 = .ok (.invokevirtual 30, 3) := by decide +kernel
theorem dL_law_209 : decode cL_law 209 = .ok (.if_icmp .eq 651, 3) := by decide +kernel
theorem dL_law_212 : decode cL_law 212 = .ok (.iconst 0, 1) := by decide +kernel
theorem dL_law_213 : decode cL_law 213 = .ok (.ireturn, 1) := by decide +kernel
theorem dL_law_214 : decode cL_law 214 = .ok (.aload_n 1, 1) := by decide +kernel
theorem dL_law_215 : decode cL_law 215 = .ok (.aload_n 0, 1) := by decide +kernel
theorem dL_law_216 : decode cL_law 216 = .ok (.iload_n 3, 1) := by decide +kernel
theorem dL_law_217 : decode cL_law 217 = .ok (.iconst 1, 1) := by decide +kernel
theorem dL_law_218 : decode cL_law 218 = .ok (.iadd, 1) := by decide +kernel
theorem dL_law_219 : decode cL_law 219 = .ok (.iaload, 1) := by decide +kernel
theorem dL_law_220 : decode cL_law 220 = .ok (.aload_n 0, 1) := by decide +kernel
theorem dL_law_221 : decode cL_law 221 = .ok (.iload_n 3, 1) := by decide +kernel
theorem dL_law_222 : decode cL_law 222 = .ok (.iconst 2, 1) := by decide +kernel
theorem dL_law_223 : decode cL_law 223 = .ok (.iadd, 1) := by decide +kernel
theorem dL_law_224 : decode cL_law 224 = .ok (.iaload, 1) := by decide +kernel
theorem dL_law_225 : decode cL_law 225 = .ok (.invokevirtual 31, 3) := by decide +kernel
theorem dL_law_228 : decode cL_law 228 = .ok (.aload_n 2, 1) := by decide +kernel
theorem dL_law_229 : decode cL_law 229 = .ok (.aload_n 0, 1) := by decide +kernel
theorem dL_law_230 : decode cL_law 230 = .ok (.iload_n 3, 1) := by decide +kernel
theorem dL_law_231 : decode cL_law 231 = .ok (.iconst 1, 1) := by decide +kernel
theorem dL_law_232 : decode cL_law 232 = .ok (.iadd, 1) := by decide +kernel
theorem dL_law_233 : decode cL_law 233 = .ok (.iaload, 1) := by decide +kernel
theorem dL_law_234 : decode cL_law 234 = .ok (.aload_n 0, 1) := by decide +kernel
theorem dL_law_235 : decode cL_law 235 = .ok (.iload_n 3, 1) := by decide +kernel
theorem dL_law_236 : decode cL_law 236 = .ok (.iconst 2, 1) := by decide +kernel
theorem dL_law_237 : decode cL_law 237 = .ok (.iadd, 1) := by decide +kernel
theorem dL_law_238 : decode cL_law 238 = .ok (.iaload, 1) := by decide +kernel
theorem dL_law_239 : decode cL_law 239 = .ok (.invokevirtual 35, 3) := by decide +kernel
theorem dL_law_242 : decode cL_law 242 = .ok (.if_icmp .eq 618, 3) := by decide +kernel
theorem dL_law_245 : decode cL_law 245 = .ok (.iconst 0, 1) := by decide +kernel
theorem dL_law_246 : decode cL_law 246 = .ok (.ireturn, 1) := by decide +kernel
theorem dL_law_247 : decode cL_law 247 = .ok (.aload_n 1, 1) := by decide +kernel
theorem dL_law_248 : decode cL_law 248 = .ok (.aload_n 0, 1) := by decide +kernel
theorem dL_law_249 : decode cL_law 249 = .ok (.iload_n 3, 1) := by decide +kernel
theorem dL_law_250 : decode cL_law 250 = .ok (.iconst 1, 1) := by decide +kernel
theorem dL_law_251 : decode cL_law 251 = .ok (.iadd, 1) := by decide +kernel
theorem dL_law_252 : decode cL_law 252 = .ok (.iaload, 1) := by decide +kernel
theorem dL_law_253 : decode cL_law 253 = .ok (.invokevirtual 36, 3) := by decide +kernel
theorem dL_law_256 : decode cL_law 256 = .ok (.aload_n 2, 1) := by decide +kernel
theorem dL_law_257 : decode cL_law 257 = .ok (.aload_n 0, 1) := by decide +kernel
theorem dL_law_258 : decode cL_law 258 = .ok (.iload_n 3, 1) := by decide +kernel
theorem dL_law_259 : decode cL_law 259 = .ok (.iconst 1, 1) := by decide +kernel
theorem dL_law_260 : decode cL_law 260 = .ok (.iadd, 1) := by decide +kernel
theorem dL_law_261 : decode cL_law 261 = .ok (.iaload, 1) := by decide +kernel
theorem dL_law_262 : decode cL_law 262 = .ok (.invokevirtual 39, 3) := by decide +kernel
theorem dL_law_265 : decode cL_law 265 = .ok (.if_icmp .eq 595, 3) := by decide +kernel
theorem dL_law_268 : decode cL_law 268 = .ok (.iconst 0, 1) := by decide +kernel
theorem dL_law_269 : decode cL_law 269 = .ok (.ireturn, 1) := by decide +kernel
theorem dL_law_270 : decode cL_law 270 = .ok (.aload_n 1, 1) := by decide +kernel
theorem dL_law_271 : decode cL_law 271 = .ok (.aload_n 0, 1) := by decide +kernel
theorem dL_law_272 : decode cL_law 272 = .ok (.iload_n 3, 1) := by decide +kernel
theorem dL_law_273 : decode cL_law 273 = .ok (.iconst 1, 1) := by decide +kernel
theorem dL_law_274 : decode cL_law 274 = .ok (.iadd, 1) := by decide +kernel
theorem dL_law_275 : decode cL_law 275 = .ok (.iaload, 1) := by decide +kernel
theorem dL_law_276 : decode cL_law 276 = .ok (.aload_n 0, 1) := by decide +kernel
theorem dL_law_277 : decode cL_law 277 = .ok (.iload_n 3, 1) := by decide +kernel
theorem dL_law_278 : decode cL_law 278 = .ok (.iconst 2, 1) := by decide +kernel
theorem dL_law_279 : decode cL_law 279 = .ok (.iadd, 1) := by decide +kernel
theorem dL_law_280 : decode cL_law 280 = .ok (.iaload, 1) := by decide +kernel
theorem dL_law_281 : decode cL_law 281 = .ok (.invokevirtual 40, 3) := by decide +kernel
theorem dL_law_284 : decode cL_law 284 = .ok (.aload_n 2, 1) := by decide +kernel
theorem dL_law_285 : decode cL_law 285 = .ok (.aload_n 0, 1) := by decide +kernel
theorem dL_law_286 : decode cL_law 286 = .ok (.iload_n 3, 1) := by decide +kernel
theorem dL_law_287 : decode cL_law 287 = .ok (.iconst 1, 1) := by decide +kernel
theorem dL_law_288 : decode cL_law 288 = .ok (.iadd, 1) := by decide +kernel
theorem dL_law_289 : decode cL_law 289 = .ok (.iaload, 1) := by decide +kernel
theorem dL_law_290 : decode cL_law 290 = .ok (.aload_n 0, 1) := by decide +kernel
theorem dL_law_291 : decode cL_law 291 = .ok (.iload_n 3, 1) := by decide +kernel
theorem dL_law_292 : decode cL_law 292 = .ok (.iconst 2, 1) := by decide +kernel
theorem dL_law_293 : decode cL_law 293 = .ok (.iadd, 1) := by decide +kernel
theorem dL_law_294 : decode cL_law 294 = .ok (.iaload, 1) := by decide +kernel
theorem dL_law_295 : decode cL_law 295 = .ok (.invokevirtual 43, 3) := by decide +kernel
theorem dL_law_298 : decode cL_law 298 = .ok (.if_icmp .eq 562, 3) := by decide +kernel
theorem dL_law_301 : decode cL_law 301 = .ok (.iconst 0, 1) := by decide +kernel
theorem dL_law_302 : decode cL_law 302 = .ok (.ireturn, 1) := by decide +kernel
theorem dL_law_303 : decode cL_law 303 = .ok (.aload_n 1, 1) := by decide +kernel
theorem dL_law_304 : decode cL_law 304 = .ok (.invokevirtual 44, 3) := by decide +kernel
theorem dL_law_307 : decode cL_law 307 = .ok (.aload_n 2, 1) := by decide +kernel
theorem dL_law_308 : decode cL_law 308 = .ok (.invokevirtual 47, 3) := by decide +kernel
theorem dL_law_311 : decode cL_law 311 = .ok (.if_icmp .eq 549, 3) := by decide +kernel
theorem dL_law_314 : decode cL_law 314 = .ok (.iconst 0, 1) := by decide +kernel
theorem dL_law_315 : decode cL_law 315 = .ok (.ireturn, 1) := by decide +kernel
theorem dL_law_316 : decode cL_law 316 = .ok (.aload_n 1, 1) := by decide +kernel
theorem dL_law_317 : decode cL_law 317 = .ok (.aload_n 0, 1) := by decide +kernel
theorem dL_law_318 : decode cL_law 318 = .ok (.iload_n 3, 1) := by decide +kernel
theorem dL_law_319 : decode cL_law 319 = .ok (.iconst 1, 1) := by decide +kernel
theorem dL_law_320 : decode cL_law 320 = .ok (.iadd, 1) := by decide +kernel
theorem dL_law_321 : decode cL_law 321 = .ok (.iaload, 1) := by decide +kernel
theorem dL_law_322 : decode cL_law 322 = .ok (.invokevirtual 48, 3) := by decide +kernel
theorem dL_law_325 : decode cL_law 325 = .ok (.aload_n 2, 1) := by decide +kernel
theorem dL_law_326 : decode cL_law 326 = .ok (.aload_n 0, 1) := by decide +kernel
theorem dL_law_327 : decode cL_law 327 = .ok (.iload_n 3, 1) := by decide +kernel
theorem dL_law_328 : decode cL_law 328 = .ok (.iconst 1, 1) := by decide +kernel
theorem dL_law_329 : decode cL_law 329 = .ok (.iadd, 1) := by decide +kernel
theorem dL_law_330 : decode cL_law 330 = .ok (.iaload, 1) := by decide +kernel
theorem dL_law_331 : decode cL_law 331 = .ok (.invokevirtual 51, 3) := by decide +kernel
theorem dL_law_334 : decode cL_law 334 = .ok (.if_icmp .eq 526, 3) := by decide +kernel
theorem dL_law_337 : decode cL_law 337 = .ok (.iconst 0, 1) := by decide +kernel
theorem dL_law_338 : decode cL_law 338 = .ok (.ireturn, 1) := by decide +kernel
theorem dL_law_339 : decode cL_law 339 = .ok (.aload_n 1, 1) := by decide +kernel
theorem dL_law_340 : decode cL_law 340 = .ok (.aload_n 0, 1) := by decide +kernel
theorem dL_law_341 : decode cL_law 341 = .ok (.iload_n 3, 1) := by decide +kernel
theorem dL_law_342 : decode cL_law 342 = .ok (.iconst 1, 1) := by decide +kernel
theorem dL_law_343 : decode cL_law 343 = .ok (.iadd, 1) := by decide +kernel
theorem dL_law_344 : decode cL_law 344 = .ok (.iaload, 1) := by decide +kernel
theorem dL_law_345 : decode cL_law 345 = .ok (.invokevirtual 52, 3) := by decide +kernel
theorem dL_law_348 : decode cL_law 348 = .ok (.aload_n 2, 1) := by decide +kernel
theorem dL_law_349 : decode cL_law 349 = .ok (.aload_n 0, 1) := by decide +kernel
theorem dL_law_350 : decode cL_law 350 = .ok (.iload_n 3, 1) := by decide +kernel
theorem dL_law_351 : decode cL_law 351 = .ok (.iconst 1, 1) := by decide +kernel
theorem dL_law_352 : decode cL_law 352 = .ok (.iadd, 1) := by decide +kernel
theorem dL_law_353 : decode cL_law 353 = .ok (.iaload, 1) := by decide +kernel
theorem dL_law_354 : decode cL_law 354 = .ok (.invokevirtual 55, 3) := by decide +kernel
theorem dL_law_357 : decode cL_law 357 = .ok (.if_icmp .eq 503, 3) := by decide +kernel
theorem dL_law_360 : decode cL_law 360 = .ok (.iconst 0, 1) := by decide +kernel
theorem dL_law_361 : decode cL_law 361 = .ok (.ireturn, 1) := by decide +kernel
theorem dL_law_362 : decode cL_law 362 = .ok (.aload_n 1, 1) := by decide +kernel
theorem dL_law_363 : decode cL_law 363 = .ok (.invokevirtual 56, 3) := by decide +kernel
theorem dL_law_366 : decode cL_law 366 = .ok (.aload_n 2, 1) := by decide +kernel
theorem dL_law_367 : decode cL_law 367 = .ok (.invokevirtual 59, 3) := by decide +kernel
theorem dL_law_370 : decode cL_law 370 = .ok (.if_icmp .eq 490, 3) := by decide +kernel
theorem dL_law_373 : decode cL_law 373 = .ok (.iconst 0, 1) := by decide +kernel
theorem dL_law_374 : decode cL_law 374 = .ok (.ireturn, 1) := by decide +kernel
theorem dL_law_375 : decode cL_law 375 = .ok (.aload_n 1, 1) := by decide +kernel
theorem dL_law_376 : decode cL_law 376 = .ok (.aload_n 0, 1) := by decide +kernel
theorem dL_law_377 : decode cL_law 377 = .ok (.iload_n 3, 1) := by decide +kernel
theorem dL_law_378 : decode cL_law 378 = .ok (.iconst 1, 1) := by decide +kernel
theorem dL_law_379 : decode cL_law 379 = .ok (.iadd, 1) := by decide +kernel
theorem dL_law_380 : decode cL_law 380 = .ok (.iaload, 1) := by decide +kernel
theorem dL_law_381 : decode cL_law 381 = .ok (.invokevirtual 60, 3) := by decide +kernel
theorem dL_law_384 : decode cL_law 384 = .ok (.aload_n 2, 1) := by decide +kernel
theorem dL_law_385 : decode cL_law 385 = .ok (.aload_n 0, 1) := by decide +kernel
theorem dL_law_386 : decode cL_law 386 = .ok (.iload_n 3, 1) := by decide +kernel
theorem dL_law_387 : decode cL_law 387 = .ok (.iconst 1, 1) := by decide +kernel
theorem dL_law_388 : decode cL_law 388 = .ok (.iadd, 1) := by decide +kernel
theorem dL_law_389 : decode cL_law 389 = .ok (.iaload, 1) := by decide +kernel
theorem dL_law_390 : decode cL_law 390 = .ok (.invokevirtual 63, 3) := by decide +kernel
theorem dL_law_393 : decode cL_law 393 = .ok (.if_icmp .eq 467, 3) := by decide +kernel
theorem dL_law_396 : decode cL_law 396 = .ok (.iconst 0, 1) := by decide +kernel
theorem dL_law_397 : decode cL_law 397 = .ok (.ireturn, 1) := by decide +kernel
theorem dL_law_398 : decode cL_law 398 = .ok (.aload_n 1, 1) := by decide +kernel
theorem dL_law_399 : decode cL_law 399 = .ok (.invokevirtual 64, 3) := by decide +kernel
theorem dL_law_402 : decode cL_law 402 = .ok (.aload_n 2, 1) := by decide +kernel
theorem dL_law_403 : decode cL_law 403 = .ok (.invokevirtual 67, 3) := by decide +kernel
theorem dL_law_406 : decode cL_law 406 = .ok (.if_icmp .eq 454, 3) := by decide +kernel
theorem dL_law_409 : decode cL_law 409 = .ok (.iconst 0, 1) := by decide +kernel
theorem dL_law_410 : decode cL_law 410 = .ok (.ireturn, 1) := by decide +kernel
theorem dL_law_411 : decode cL_law 411 = .ok (.aload_n 1, 1) := by decide +kernel
theorem dL_law_412 : decode cL_law 412 = .ok (.aload_n 0, 1) := by decide +kernel
theorem dL_law_413 : decode cL_law 413 = .ok (.iload_n 3, 1) := by decide +kernel
theorem dL_law_414 : decode cL_law 414 = .ok (.iconst 1, 1) := by decide +kernel
theorem dL_law_415 : decode cL_law 415 = .ok (.iadd, 1) := by decide +kernel
theorem dL_law_416 : decode cL_law 416 = .ok (.iaload, 1) := by decide +kernel
theorem dL_law_417 : decode cL_law 417 = .ok (.invokevirtual 68, 3) := by decide +kernel
theorem dL_law_420 : decode cL_law 420 = .ok (.aload_n 2, 1) := by decide +kernel
theorem dL_law_421 : decode cL_law 421 = .ok (.aload_n 0, 1) := by decide +kernel
theorem dL_law_422 : decode cL_law 422 = .ok (.iload_n 3, 1) := by decide +kernel
theorem dL_law_423 : decode cL_law 423 = .ok (.iconst 1, 1) := by decide +kernel
theorem dL_law_424 : decode cL_law 424 = .ok (.iadd, 1) := by decide +kernel
theorem dL_law_425 : decode cL_law 425 = .ok (.iaload, 1) := by decide +kernel
theorem dL_law_426 : decode cL_law 426 = .ok (.invokevirtual 71, 3) := by decide +kernel
theorem dL_law_429 : decode cL_law 429 = .ok (.if_icmp .eq 431, 3) := by decide +kernel
theorem dL_law_432 : decode cL_law 432 = .ok (.iconst 0, 1) := by decide +kernel
theorem dL_law_433 : decode cL_law 433 = .ok (.ireturn, 1) := by decide +kernel
theorem dL_law_434 : decode cL_law 434 = .ok (.aload_n 1, 1) := by decide +kernel
theorem dL_law_435 : decode cL_law 435 = .ok (.invokevirtual 72, 3) := by decide +kernel
theorem dL_law_438 : decode cL_law 438 = .ok (.aload_n 2, 1) := by decide +kernel
theorem dL_law_439 : decode cL_law 439 = .ok (.invokevirtual 75, 3) := by decide +kernel
theorem dL_law_442 : decode cL_law 442 = .ok (.if_icmp .eq 418, 3) := by decide +kernel
theorem dL_law_445 : decode cL_law 445 = .ok (.iconst 0, 1) := by decide +kernel
theorem dL_law_446 : decode cL_law 446 = .ok (.ireturn, 1) := by decide +kernel
theorem dL_law_447 : decode cL_law 447 = .ok (.aload_n 1, 1) := by decide +kernel
theorem dL_law_448 : decode cL_law 448 = .ok (.aload_n 0, 1) := by decide +kernel
theorem dL_law_449 : decode cL_law 449 = .ok (.iload_n 3, 1) := by decide +kernel
theorem dL_law_450 : decode cL_law 450 = .ok (.iconst 1, 1) := by decide +kernel
theorem dL_law_451 : decode cL_law 451 = .ok (.iadd, 1) := by decide +kernel
theorem dL_law_452 : decode cL_law 452 = .ok (.iaload, 1) := by decide +kernel
theorem dL_law_453 : decode cL_law 453 = .ok (.aload_n 0, 1) := by decide +kernel
theorem dL_law_454 : decode cL_law 454 = .ok (.iload_n 3, 1) := by decide +kernel
theorem dL_law_455 : decode cL_law 455 = .ok (.iconst 2, 1) := by decide +kernel
theorem dL_law_456 : decode cL_law 456 = .ok (.iadd, 1) := by decide +kernel
theorem dL_law_457 : decode cL_law 457 = .ok (.iaload, 1) := by decide +kernel
theorem dL_law_458 : decode cL_law 458 = .ok (.invokevirtual 76, 3) := by decide +kernel
theorem dL_law_461 : decode cL_law 461 = .ok (.aload_n 2, 1) := by decide +kernel
theorem dL_law_462 : decode cL_law 462 = .ok (.aload_n 0, 1) := by decide +kernel
theorem dL_law_463 : decode cL_law 463 = .ok (.iload_n 3, 1) := by decide +kernel
theorem dL_law_464 : decode cL_law 464 = .ok (.iconst 1, 1) := by decide +kernel
theorem dL_law_465 : decode cL_law 465 = .ok (.iadd, 1) := by decide +kernel
theorem dL_law_466 : decode cL_law 466 = .ok (.iaload, 1) := by decide +kernel
theorem dL_law_467 : decode cL_law 467 = .ok (.aload_n 0, 1) := by decide +kernel
theorem dL_law_468 : decode cL_law 468 = .ok (.iload_n 3, 1) := by decide +kernel
theorem dL_law_469 : decode cL_law 469 = .ok (.iconst 2, 1) := by decide +kernel
theorem dL_law_470 : decode cL_law 470 = .ok (.iadd, 1) := by decide +kernel
theorem dL_law_471 : decode cL_law 471 = .ok (.iaload, 1) := by decide +kernel
theorem dL_law_472 : decode cL_law 472 = .ok (.invokevirtual 79, 3) := by decide +kernel
theorem dL_law_475 : decode cL_law 475 = .ok (.if_icmp .eq 385, 3) := by decide +kernel
theorem dL_law_478 : decode cL_law 478 = .ok (.iconst 0, 1) := by decide +kernel
theorem dL_law_479 : decode cL_law 479 = .ok (.ireturn, 1) := by decide +kernel
theorem dL_law_480 : decode cL_law 480 = .ok (.aload_n 1, 1) := by decide +kernel
theorem dL_law_481 : decode cL_law 481 = .ok (.aload_n 0, 1) := by decide +kernel
theorem dL_law_482 : decode cL_law 482 = .ok (.iload_n 3, 1) := by decide +kernel
theorem dL_law_483 : decode cL_law 483 = .ok (.iconst 1, 1) := by decide +kernel
theorem dL_law_484 : decode cL_law 484 = .ok (.iadd, 1) := by decide +kernel
theorem dL_law_485 : decode cL_law 485 = .ok (.iaload, 1) := by decide +kernel
theorem dL_law_486 : decode cL_law 486 = .ok (.invokevirtual 80, 3) := by decide +kernel
theorem dL_law_489 : decode cL_law 489 = .ok (.aload_n 2, 1) := by decide +kernel
theorem dL_law_490 : decode cL_law 490 = .ok (.aload_n 0, 1) := by decide +kernel
theorem dL_law_491 : decode cL_law 491 = .ok (.iload_n 3, 1) := by decide +kernel
theorem dL_law_492 : decode cL_law 492 = .ok (.iconst 1, 1) := by decide +kernel
theorem dL_law_493 : decode cL_law 493 = .ok (.iadd, 1) := by decide +kernel
theorem dL_law_494 : decode cL_law 494 = .ok (.iaload, 1) := by decide +kernel
theorem dL_law_495 : decode cL_law 495 = .ok (.invokevirtual 83, 3) := by decide +kernel
theorem dL_law_498 : decode cL_law 498 = .ok (.if_icmp .eq 362, 3) := by decide +kernel
theorem dL_law_501 : decode cL_law 501 = .ok (.iconst 0, 1) := by decide +kernel
theorem dL_law_502 : decode cL_law 502 = .ok (.ireturn, 1) := by decide +kernel
theorem dL_law_503 : decode cL_law 503 = .ok (.aload_n 1, 1) := by decide +kernel
theorem dL_law_504 : decode cL_law 504 = .ok (.aload_n 0, 1) := by decide +kernel
theorem dL_law_505 : decode cL_law 505 = .ok (.iload_n 3, 1) := by decide +kernel
theorem dL_law_506 : decode cL_law 506 = .ok (.iconst 1, 1) := by decide +kernel
theorem dL_law_507 : decode cL_law 507 = .ok (.iadd, 1) := by decide +kernel
theorem dL_law_508 : decode cL_law 508 = .ok (.iaload, 1) := by decide +kernel
theorem dL_law_509 : decode cL_law 509 = .ok (.invokevirtual 84, 3) := by decide +kernel
theorem dL_law_512 : decode cL_law 512 = .ok (.aload_n 2, 1) := by decide +kernel
theorem dL_law_513 : decode cL_law 513 = .ok (.aload_n 0, 1) := by decide +kernel
theorem dL_law_514 : decode cL_law 514 = .ok (.iload_n 3, 1) := by decide +kernel
theorem dL_law_515 : decode cL_law 515 = .ok (.iconst 1, 1) := by decide +kernel
theorem dL_law_516 : decode cL_law 516 = .ok (.iadd, 1) := by decide +kernel
theorem dL_law_517 : decode cL_law 517 = .ok (.iaload, 1) := by decide +kernel
theorem dL_law_518 : decode cL_law 518 = .ok (.invokevirtual 87, 3) := by decide +kernel
theorem dL_law_521 : decode cL_law 521 = .ok (.if_icmp .eq 339, 3) := by decide +kernel
theorem dL_law_524 : decode cL_law 524 = .ok (.iconst 0, 1) := by decide +kernel
theorem dL_law_525 : decode cL_law 525 = .ok (.ireturn, 1) := by decide +kernel
theorem dL_law_526 : decode cL_law 526 = .ok (.aload_n 1, 1) := by decide +kernel
theorem dL_law_527 : decode cL_law 527 = .ok (.aload_n 0, 1) := by decide +kernel
theorem dL_law_528 : decode cL_law 528 = .ok (.iload_n 3, 1) := by decide +kernel
theorem dL_law_529 : decode cL_law 529 = .ok (.iconst 1, 1) := by decide +kernel
theorem dL_law_530 : decode cL_law 530 = .ok (.iadd, 1) := by decide +kernel
theorem dL_law_531 : decode cL_law 531 = .ok (.iaload, 1) := by decide +kernel
theorem dL_law_532 : decode cL_law 532 = .ok (.aload_n 0, 1) := by decide +kernel
theorem dL_law_533 : decode cL_law 533 = .ok (.iload_n 3, 1) := by decide +kernel
theorem dL_law_534 : decode cL_law 534 = .ok (.iconst 2, 1) := by decide +kernel
theorem dL_law_535 : decode cL_law 535 = .ok (.iadd, 1) := by decide +kernel
theorem dL_law_536 : decode cL_law 536 = .ok (.iaload, 1) := by decide +kernel
theorem dL_law_537 : decode cL_law 537 = .ok (.aload_n 0, 1) := by decide +kernel
theorem dL_law_538 : decode cL_law 538 = .ok (.iload_n 3, 1) := by decide +kernel
theorem dL_law_539 : decode cL_law 539 = .ok (.iconst 3, 1) := by decide +kernel
theorem dL_law_540 : decode cL_law 540 = .ok (.iadd, 1) := by decide +kernel
theorem dL_law_541 : decode cL_law 541 = .ok (.iaload, 1) := by decide +kernel
theorem dL_law_542 : decode cL_law 542 = .ok (.invokevirtual 88, 3) := by decide +kernel
theorem dL_law_545 : decode cL_law 545 = .ok (.aload_n 2, 1) := by decide +kernel
theorem dL_law_546 : decode cL_law 546 = .ok (.aload_n 0, 1) := by decide +kernel
theorem dL_law_547 : decode cL_law 547 = .ok (.iload_n 3, 1) := by decide +kernel
theorem dL_law_548 : decode cL_law 548 = .ok (.iconst 1, 1) := by decide +kernel
theorem dL_law_549 : decode cL_law 549 = .ok (.iadd, 1) := by decide +kernel
theorem dL_law_550 : decode cL_law 550 = .ok (.iaload, 1) := by decide +kernel
theorem dL_law_551 : decode cL_law 551 = .ok (.aload_n 0, 1) := by decide +kernel
theorem dL_law_552 : decode cL_law 552 = .ok (.iload_n 3, 1) := by decide +kernel
theorem dL_law_553 : decode cL_law 553 = .ok (.iconst 2, 1) := by decide +kernel
theorem dL_law_554 : decode cL_law 554 = .ok (.iadd, 1) := by decide +kernel
theorem dL_law_555 : decode cL_law 555 = .ok (.iaload, 1) := by decide +kernel
theorem dL_law_556 : decode cL_law 556 = .ok (.aload_n 0, 1) := by decide +kernel
theorem dL_law_557 : decode cL_law 557 = .ok (.iload_n 3, 1) := by decide +kernel
theorem dL_law_558 : decode cL_law 558 = .ok (.iconst 3, 1) := by decide +kernel
theorem dL_law_559 : decode cL_law 559 = .ok (.iadd, 1) := by decide +kernel
theorem dL_law_560 : decode cL_law 560 = .ok (.iaload, 1) := by decide +kernel
theorem dL_law_561 : decode cL_law 561 = .ok (.invokevirtual 92, 3) := by decide +kernel
theorem dL_law_564 : decode cL_law 564 = .ok (.if_icmp .eq 296, 3) := by decide +kernel
theorem dL_law_567 : decode cL_law 567 = .ok (.iconst 0, 1) := by decide +kernel
theorem dL_law_568 : decode cL_law 568 = .ok (.ireturn, 1) := by decide +kernel
theorem dL_law_569 : decode cL_law 569 = .ok (.aload_n 1, 1) := by decide +kernel
theorem dL_law_570 : decode cL_law 570 = .ok (.aload_n 0, 1) := by decide +kernel
theorem dL_law_571 : decode cL_law 571 = .ok (.iload_n 3, 1) := by decide +kernel
theorem dL_law_572 : decode cL_law 572 = .ok (.iconst 1, 1) := by decide +kernel
theorem dL_law_573 : decode cL_law 573 = .ok (.iadd, 1) := by decide +kernel
theorem dL_law_574 : decode cL_law 574 = .ok (.iaload, 1) := by decide +kernel
theorem dL_law_575 : decode cL_law 575 = .ok (.aload_n 0, 1) := by decide +kernel
theorem dL_law_576 : decode cL_law 576 = .ok (.iload_n 3, 1) := by decide +kernel
theorem dL_law_577 : decode cL_law 577 = .ok (.iconst 2, 1) := by decide +kernel
theorem dL_law_578 : decode cL_law 578 = .ok (.iadd, 1) := by decide +kernel
theorem dL_law_579 : decode cL_law 579 = .ok (.iaload, 1) := by decide +kernel
theorem dL_law_580 : decode cL_law 580 = .ok (.aload_n 0, 1) := by decide +kernel
theorem dL_law_581 : decode cL_law 581 = .ok (.iload_n 3, 1) := by decide +kernel
theorem dL_law_582 : decode cL_law 582 = .ok (.iconst 3, 1) := by decide +kernel
theorem dL_law_583 : decode cL_law 583 = .ok (.iadd, 1) := by decide +kernel
theorem dL_law_584 : decode cL_law 584 = .ok (.iaload, 1) := by decide +kernel
theorem dL_law_585 : decode cL_law 585 = .ok (.aload_n 0, 1) := by decide +kernel
theorem dL_law_586 : decode cL_law 586 = .ok (.iload_n 3, 1) := by decide +kernel
theorem dL_law_587 : decode cL_law 587 = .ok (.iconst 4, 1) := by decide +kernel
theorem dL_law_588 : decode cL_law 588 = .ok (.iadd, 1) := by decide +kernel
theorem dL_law_589 : decode cL_law 589 = .ok (.iaload, 1) := by decide +kernel
theorem dL_law_590 : decode cL_law 590 = .ok (.aload_n 0, 1) := by decide +kernel
theorem dL_law_591 : decode cL_law 591 = .ok (.iload_n 3, 1) := by decide +kernel
theorem dL_law_592 : decode cL_law 592 = .ok (.iconst 5, 1) := by decide +kernel
theorem dL_law_593 : decode cL_law 593 = .ok (.iadd, 1) := by decide +kernel
theorem dL_law_594 : decode cL_law 594 = .ok (.iaload, 1) := by decide +kernel
theorem dL_law_595 : decode cL_law 595 = .ok (.invokevirtual 93, 3) := by decide +kernel
theorem dL_law_598 : decode cL_law 598 = .ok (.aload_n 2, 1) := by decide +kernel
theorem dL_law_599 : decode cL_law 599 = .ok (.aload_n 0, 1) := by decide +kernel
theorem dL_law_600 : decode cL_law 600 = .ok (.iload_n 3, 1) := by decide +kernel
theorem dL_law_601 : decode cL_law 601 = .ok (.iconst 1, 1) := by decide +kernel
theorem dL_law_602 : decode cL_law 602 = .ok (.iadd, 1) := by decide +kernel
theorem dL_law_603 : decode cL_law 603 = .ok (.iaload, 1) := by decide +kernel
theorem dL_law_604 : decode cL_law 604 = .ok (.aload_n 0, 1) := by decide +kernel
theorem dL_law_605 : decode cL_law 605 = .ok (.iload_n 3, 1) := by decide +kernel
theorem dL_law_606 : decode cL_law 606 = .ok (.iconst 2, 1) := by decide +kernel
theorem dL_law_607 : decode cL_law 607 = .ok (.iadd, 1) := by decide +kernel
theorem dL_law_608 : decode cL_law 608 = .ok (.iaload, 1) := by decide +kernel
theorem dL_law_609 : decode cL_law 609 = .ok (.aload_n 0, 1) := by decide +kernel
theorem dL_law_610 : decode cL_law 610 = .ok (.iload_n 3, 1) := by decide +kernel
theorem dL_law_611 : decode cL_law 611 = .ok (.iconst 3, 1) := by decide +kernel
theorem dL_law_612 : decode cL_law 612 = .ok (.iadd, 1) := by decide +kernel
theorem dL_law_613 : decode cL_law 613 = .ok (.iaload, 1) := by decide +kernel
theorem dL_law_614 : decode cL_law 614 = .ok (.aload_n 0, 1) := by decide +kernel
theorem dL_law_615 : decode cL_law 615 = .ok (.iload_n 3, 1) := by decide +kernel
theorem dL_law_616 : decode cL_law 616 = .ok (.iconst 4, 1) := by decide +kernel
theorem dL_law_617 : decode cL_law 617 = .ok (.iadd, 1) := by decide +kernel
theorem dL_law_618 : decode cL_law 618 = .ok (.iaload, 1) := by decide +kernel
theorem dL_law_619 : decode cL_law 619 = .ok (.aload_n 0, 1) := by decide +kernel
theorem dL_law_620 : decode cL_law 620 = .ok (.iload_n 3, 1) := by decide +kernel
theorem dL_law_621 : decode cL_law 621 = .ok (.iconst 5, 1) := by decide +kernel
theorem dL_law_622 : decode cL_law 622 = .ok (.iadd, 1) := by decide +kernel
theorem dL_law_623 : decode cL_law 623 = .ok (.iaload, 1) := by decide +kernel
theorem dL_law_624 : decode cL_law 624 = .ok (.invokevirtual 97, 3) := by decide +kernel
theorem dL_law_627 : decode cL_law 627 = .ok (.if_icmp .eq 233, 3) := by decide +kernel
theorem dL_law_630 : decode cL_law 630 = .ok (.iconst 0, 1) := by decide +kernel
theorem dL_law_631 : decode cL_law 631 = .ok (.ireturn, 1) := by decide +kernel
theorem dL_law_632 : decode cL_law 632 = .ok (.aload_n 1, 1) := by decide +kernel
theorem dL_law_633 : decode cL_law 633 = .ok (.aload_n 0, 1) := by decide +kernel
theorem dL_law_634 : decode cL_law 634 = .ok (.iload_n 3, 1) := by decide +kernel
theorem dL_law_635 : decode cL_law 635 = .ok (.iconst 1, 1) := by decide +kernel
theorem dL_law_636 : decode cL_law 636 = .ok (.iadd, 1) := by decide +kernel
theorem dL_law_637 : decode cL_law 637 = .ok (.iaload, 1) := by decide +kernel
theorem dL_law_638 : decode cL_law 638 = .ok (.aload_n 0, 1) := by decide +kernel
theorem dL_law_639 : decode cL_law 639 = .ok (.iload_n 3, 1) := by decide +kernel
theorem dL_law_640 : decode cL_law 640 = .ok (.iconst 2, 1) := by decide +kernel
theorem dL_law_641 : decode cL_law 641 = .ok (.iadd, 1) := by decide +kernel
theorem dL_law_642 : decode cL_law 642 = .ok (.iaload, 1) := by decide +kernel
theorem dL_law_643 : decode cL_law 643 = .ok (.aload_n 0, 1) := by decide +kernel
theorem dL_law_644 : decode cL_law 644 = .ok (.iload_n 3, 1) := by decide +kernel
theorem dL_law_645 : decode cL_law 645 = .ok (.iconst 3, 1) := by decide +kernel
theorem dL_law_646 : decode cL_law 646 = .ok (.iadd, 1) := by decide +kernel
theorem dL_law_647 : decode cL_law 647 = .ok (.iaload, 1) := by decide +kernel
theorem dL_law_648 : decode cL_law 648 = .ok (.invokevirtual 98, 3) := by decide +kernel
theorem dL_law_651 : decode cL_law 651 = .ok (.aload_n 2, 1) := by decide +kernel
theorem dL_law_652 : decode cL_law 652 = .ok (.aload_n 0, 1) := by decide +kernel
theorem dL_law_653 : decode cL_law 653 = .ok (.iload_n 3, 1) := by decide +kernel
theorem dL_law_654 : decode cL_law 654 = .ok (.iconst 1, 1) := by decide +kernel
theorem dL_law_655 : decode cL_law 655 = .ok (.iadd, 1) := by decide +kernel
theorem dL_law_656 : decode cL_law 656 = .ok (.iaload, 1) := by decide +kernel
theorem dL_law_657 : decode cL_law 657 = .ok (.aload_n 0, 1) := by decide +kernel
theorem dL_law_658 : decode cL_law 658 = .ok (.iload_n 3, 1) := by decide +kernel
theorem dL_law_659 : decode cL_law 659 = .ok (.iconst 2, 1) := by decide +kernel
theorem dL_law_660 : decode cL_law 660 = .ok (.iadd, 1) := by decide +kernel
theorem dL_law_661 : decode cL_law 661 = .ok (.iaload, 1) := by decide +kernel
theorem dL_law_662 : decode cL_law 662 = .ok (.aload_n 0, 1) := by decide +kernel
theorem dL_law_663 : decode cL_law 663 = .ok (.iload_n 3, 1) := by decide +kernel
theorem dL_law_664 : decode cL_law 664 = .ok (.iconst 3, 1) := by decide +kernel
theorem dL_law_665 : decode cL_law 665 = .ok (.iadd, 1) := by decide +kernel
theorem dL_law_666 : decode cL_law 666 = .ok (.iaload, 1) := by decide +kernel
theorem dL_law_667 : decode cL_law 667 = .ok (.invokevirtual 101, 3) := by decide +kernel
theorem dL_law_670 : decode cL_law 670 = .ok (.if_icmp .eq 190, 3) := by decide +kernel
theorem dL_law_673 : decode cL_law 673 = .ok (.iconst 0, 1) := by decide +kernel
theorem dL_law_674 : decode cL_law 674 = .ok (.ireturn, 1) := by decide +kernel
theorem dL_law_675 : decode cL_law 675 = .ok (.aload_n 1, 1) := by decide +kernel
theorem dL_law_676 : decode cL_law 676 = .ok (.aload_n 0, 1) := by decide +kernel
theorem dL_law_677 : decode cL_law 677 = .ok (.iload_n 3, 1) := by decide +kernel
theorem dL_law_678 : decode cL_law 678 = .ok (.iconst 1, 1) := by decide +kernel
theorem dL_law_679 : decode cL_law 679 = .ok (.iadd, 1) := by decide +kernel
theorem dL_law_680 : decode cL_law 680 = .ok (.iaload, 1) := by decide +kernel
theorem dL_law_681 : decode cL_law 681 = .ok (.aload_n 0, 1) := by decide +kernel
theorem dL_law_682 : decode cL_law 682 = .ok (.iload_n 3, 1) := by decide +kernel
theorem dL_law_683 : decode cL_law 683 = .ok (.iconst 2, 1) := by decide +kernel
theorem dL_law_684 : decode cL_law 684 = .ok (.iadd, 1) := by decide +kernel
theorem dL_law_685 : decode cL_law 685 = .ok (.iaload, 1) := by decide +kernel
theorem dL_law_686 : decode cL_law 686 = .ok (.aload_n 0, 1) := by decide +kernel
theorem dL_law_687 : decode cL_law 687 = .ok (.iload_n 3, 1) := by decide +kernel
theorem dL_law_688 : decode cL_law 688 = .ok (.iconst 3, 1) := by decide +kernel
theorem dL_law_689 : decode cL_law 689 = .ok (.iadd, 1) := by decide +kernel
theorem dL_law_690 : decode cL_law 690 = .ok (.iaload, 1) := by decide +kernel
theorem dL_law_691 : decode cL_law 691 = .ok (.aload_n 0, 1) := by decide +kernel
theorem dL_law_692 : decode cL_law 692 = .ok (.iload_n 3, 1) := by decide +kernel
theorem dL_law_693 : decode cL_law 693 = .ok (.iconst 4, 1) := by decide +kernel
theorem dL_law_694 : decode cL_law 694 = .ok (.iadd, 1) := by decide +kernel
theorem dL_law_695 : decode cL_law 695 = .ok (.iaload, 1) := by decide +kernel
theorem dL_law_696 : decode cL_law 696 = .ok (.invokevirtual 102, 3) := by decide +kernel
theorem dL_law_699 : decode cL_law 699 = .ok (.aload_n 2, 1) := by decide +kernel
theorem dL_law_700 : decode cL_law 700 = .ok (.aload_n 0, 1) := by decide +kernel
theorem dL_law_701 : decode cL_law 701 = .ok (.iload_n 3, 1) := by decide +kernel
theorem dL_law_702 : decode cL_law 702 = .ok (.iconst 1, 1) := by decide +kernel
theorem dL_law_703 : decode cL_law 703 = .ok (.iadd, 1) := by decide +kernel
theorem dL_law_704 : decode cL_law 704 = .ok (.iaload, 1) := by decide +kernel
theorem dL_law_705 : decode cL_law 705 = .ok (.aload_n 0, 1) := by decide +kernel
theorem dL_law_706 : decode cL_law 706 = .ok (.iload_n 3, 1) := by decide +kernel
theorem dL_law_707 : decode cL_law 707 = .ok (.iconst 2, 1) := by decide +kernel
theorem dL_law_708 : decode cL_law 708 = .ok (.iadd, 1) := by decide +kernel
theorem dL_law_709 : decode cL_law 709 = .ok (.iaload, 1) := by decide +kernel
theorem dL_law_710 : decode cL_law 710 = .ok (.aload_n 0, 1) := by decide +kernel
theorem dL_law_711 : decode cL_law 711 = .ok (.iload_n 3, 1) := by decide +kernel
theorem dL_law_712 : decode cL_law 712 = .ok (.iconst 3, 1) := by decide +kernel
theorem dL_law_713 : decode cL_law 713 = .ok (.iadd, 1) := by decide +kernel
theorem dL_law_714 : decode cL_law 714 = .ok (.iaload, 1) := by decide +kernel
theorem dL_law_715 : decode cL_law 715 = .ok (.aload_n 0, 1) := by decide +kernel
theorem dL_law_716 : decode cL_law 716 = .ok (.iload_n 3, 1) := by decide +kernel
theorem dL_law_717 : decode cL_law 717 = .ok (.iconst 4, 1) := by decide +kernel
theorem dL_law_718 : decode cL_law 718 = .ok (.iadd, 1) := by decide +kernel
theorem dL_law_719 : decode cL_law 719 = .ok (.iaload, 1) := by decide +kernel
theorem dL_law_720 : decode cL_law 720 = .ok (.invokevirtual 106, 3) := by decide +kernel
theorem dL_law_723 : decode cL_law 723 = .ok (.if_icmp .eq 137, 3) := by decide +kernel
theorem dL_law_726 : decode cL_law 726 = .ok (.iconst 0, 1) := by decide +kernel
theorem dL_law_727 : decode cL_law 727 = .ok (.ireturn, 1) := by decide +kernel
theorem dL_law_728 : decode cL_law 728 = .ok (.aload_n 1, 1) := by decide +kernel
theorem dL_law_729 : decode cL_law 729 = .ok (.aload_n 0, 1) := by decide +kernel
theorem dL_law_730 : decode cL_law 730 = .ok (.iload_n 3, 1) := by decide +kernel
theorem dL_law_731 : decode cL_law 731 = .ok (.iconst 1, 1) := by decide +kernel
theorem dL_law_732 : decode cL_law 732 = .ok (.iadd, 1) := by decide +kernel
theorem dL_law_733 : decode cL_law 733 = .ok (.iaload, 1) := by decide +kernel
theorem dL_law_734 : decode cL_law 734 = .ok (.aload_n 0, 1) := by decide +kernel
theorem dL_law_735 : decode cL_law 735 = .ok (.iload_n 3, 1) := by decide +kernel
theorem dL_law_736 : decode cL_law 736 = .ok (.iconst 2, 1) := by decide +kernel
theorem dL_law_737 : decode cL_law 737 = .ok (.iadd, 1) := by decide +kernel
theorem dL_law_738 : decode cL_law 738 = .ok (.iaload, 1) := by decide +kernel
theorem dL_law_739 : decode cL_law 739 = .ok (.aload_n 0, 1) := by decide +kernel
theorem dL_law_740 : decode cL_law 740 = .ok (.iload_n 3, 1) := by decide +kernel
theorem dL_law_741 : decode cL_law 741 = .ok (.iconst 3, 1) := by decide +kernel
theorem dL_law_742 : decode cL_law 742 = .ok (.iadd, 1) := by decide +kernel
theorem dL_law_743 : decode cL_law 743 = .ok (.iaload, 1) := by decide +kernel
theorem dL_law_744 : decode cL_law 744 = .ok (.aload_n 0, 1) := by decide +kernel
theorem dL_law_745 : decode cL_law 745 = .ok (.iload_n 3, 1) := by decide +kernel
theorem dL_law_746 : decode cL_law 746 = .ok (.iconst 4, 1) := by decide +kernel
theorem dL_law_747 : decode cL_law 747 = .ok (.iadd, 1) := by decide +kernel
theorem dL_law_748 : decode cL_law 748 = .ok (.iaload, 1) := by decide +kernel
theorem dL_law_749 : decode cL_law 749 = .ok (.invokevirtual 107, 3) := by decide +kernel
theorem dL_law_752 : decode cL_law 752 = .ok (.aload_n 2, 1) := by decide +kernel
theorem dL_law_753 : decode cL_law 753 = .ok (.aload_n 0, 1) := by decide +kernel
theorem dL_law_754 : decode cL_law 754 = .ok (.iload_n 3, 1) := by decide +kernel
theorem dL_law_755 : decode cL_law 755 = .ok (.iconst 1, 1) := by decide +kernel
theorem dL_law_756 : decode cL_law 756 = .ok (.iadd, 1) := by decide +kernel
theorem dL_law_757 : decode cL_law 757 = .ok (.iaload, 1) := by decide +kernel
theorem dL_law_758 : decode cL_law 758 = .ok (.aload_n 0, 1) := by decide +kernel
theorem dL_law_759 : decode cL_law 759 = .ok (.iload_n 3, 1) := by decide +kernel
theorem dL_law_760 : decode cL_law 760 = .ok (.iconst 2, 1) := by decide +kernel
theorem dL_law_761 : decode cL_law 761 = .ok (.iadd, 1) := by decide +kernel
theorem dL_law_762 : decode cL_law 762 = .ok (.iaload, 1) := by decide +kernel
theorem dL_law_763 : decode cL_law 763 = .ok (.aload_n 0, 1) := by decide +kernel
theorem dL_law_764 : decode cL_law 764 = .ok (.iload_n 3, 1) := by decide +kernel
theorem dL_law_765 : decode cL_law 765 = .ok (.iconst 3, 1) := by decide +kernel
theorem dL_law_766 : decode cL_law 766 = .ok (.iadd, 1) := by decide +kernel
theorem dL_law_767 : decode cL_law 767 = .ok (.iaload, 1) := by decide +kernel
theorem dL_law_768 : decode cL_law 768 = .ok (.aload_n 0, 1) := by decide +kernel
theorem dL_law_769 : decode cL_law 769 = .ok (.iload_n 3, 1) := by decide +kernel
theorem dL_law_770 : decode cL_law 770 = .ok (.iconst 4, 1) := by decide +kernel
theorem dL_law_771 : decode cL_law 771 = .ok (.iadd, 1) := by decide +kernel
theorem dL_law_772 : decode cL_law 772 = .ok (.iaload, 1) := by decide +kernel
theorem dL_law_773 : decode cL_law 773 = .ok (.invokevirtual 110, 3) := by decide +kernel
theorem dL_law_776 : decode cL_law 776 = .ok (.if_icmp .eq 84, 3) := by decide +kernel
theorem dL_law_779 : decode cL_law 779 = .ok (.iconst 0, 1) := by decide +kernel
theorem dL_law_780 : decode cL_law 780 = .ok (.ireturn, 1) := by decide +kernel
theorem dL_law_781 : decode cL_law 781 = .ok (.aload_n 1, 1) := by decide +kernel
theorem dL_law_782 : decode cL_law 782 = .ok (.aload_n 0, 1) := by decide +kernel
theorem dL_law_783 : decode cL_law 783 = .ok (.iload_n 3, 1) := by decide +kernel
theorem dL_law_784 : decode cL_law 784 = .ok (.iconst 1, 1) := by decide +kernel
theorem dL_law_785 : decode cL_law 785 = .ok (.iadd, 1) := by decide +kernel
theorem dL_law_786 : decode cL_law 786 = .ok (.iaload, 1) := by decide +kernel
theorem dL_law_787 : decode cL_law 787 = .ok (.aload_n 0, 1) := by decide +kernel
theorem dL_law_788 : decode cL_law 788 = .ok (.iload_n 3, 1) := by decide +kernel
theorem dL_law_789 : decode cL_law 789 = .ok (.iconst 2, 1) := by decide +kernel
theorem dL_law_790 : decode cL_law 790 = .ok (.iadd, 1) := by decide +kernel
theorem dL_law_791 : decode cL_law 791 = .ok (.iaload, 1) := by decide +kernel
theorem dL_law_792 : decode cL_law 792 = .ok (.invokevirtual 111, 3) := by decide +kernel
theorem dL_law_795 : decode cL_law 795 = .ok (.aload_n 2, 1) := by decide +kernel
theorem dL_law_796 : decode cL_law 796 = .ok (.aload_n 0, 1) := by decide +kernel
theorem dL_law_797 : decode cL_law 797 = .ok (.iload_n 3, 1) := by decide +kernel
theorem dL_law_798 : decode cL_law 798 = .ok (.iconst 1, 1) := by decide +kernel
theorem dL_law_799 : decode cL_law 799 = .ok (.iadd, 1) := by decide +kernel
theorem dL_law_800 : decode cL_law 800 = .ok (.iaload, 1) := by decide +kernel
theorem dL_law_801 : decode cL_law 801 = .ok (.aload_n 0, 1) := by decide +kernel
theorem dL_law_802 : decode cL_law 802 = .ok (.iload_n 3, 1) := by decide +kernel
theorem dL_law_803 : decode cL_law 803 = .ok (.iconst 2, 1) := by decide +kernel
theorem dL_law_804 : decode cL_law 804 = .ok (.iadd, 1) := by decide +kernel
theorem dL_law_805 : decode cL_law 805 = .ok (.iaload, 1) := by decide +kernel
theorem dL_law_806 : decode cL_law 806 = .ok (.invokevirtual 114, 3) := by decide +kernel
theorem dL_law_809 : decode cL_law 809 = .ok (.if_icmp .eq 51, 3) := by decide +kernel
theorem dL_law_812 : decode cL_law 812 = .ok (.iconst 0, 1) := by decide +kernel
theorem dL_law_813 : decode cL_law 813 = .ok (.ireturn, 1) := by decide +kernel
theorem dL_law_814 : decode cL_law 814 = .ok (.aload_n 1, 1) := by decide +kernel
theorem dL_law_815 : decode cL_law 815 = .ok (.aload_n 0, 1) := by decide +kernel
theorem dL_law_816 : decode cL_law 816 = .ok (.iload_n 3, 1) := by decide +kernel
theorem dL_law_817 : decode cL_law 817 = .ok (.iconst 1, 1) := by decide +kernel
theorem dL_law_818 : decode cL_law 818 = .ok (.iadd, 1) := by decide +kernel
theorem dL_law_819 : decode cL_law 819 = .ok (.iaload, 1) := by decide +kernel
theorem dL_law_820 : decode cL_law 820 = .ok (.invokevirtual 115, 3) := by decide +kernel
theorem dL_law_823 : decode cL_law 823 = .ok (.aload_n 2, 1) := by decide +kernel
theorem dL_law_824 : decode cL_law 824 = .ok (.aload_n 0, 1) := by decide +kernel
theorem dL_law_825 : decode cL_law 825 = .ok (.iload_n 3, 1) := by decide +kernel
theorem dL_law_826 : decode cL_law 826 = .ok (.iconst 1, 1) := by decide +kernel
theorem dL_law_827 : decode cL_law 827 = .ok (.iadd, 1) := by decide +kernel
theorem dL_law_828 : decode cL_law 828 = .ok (.iaload, 1) := by decide +kernel
theorem dL_law_829 : decode cL_law 829 = .ok (.invokevirtual 118, 3) := by decide +kernel
theorem dL_law_832 : decode cL_law 832 = .ok (.if_icmp .eq 28, 3) := by decide +kernel
theorem dL_law_835 : decode cL_law 835 = .ok (.iconst 0, 1) := by decide +kernel
theorem dL_law_836 : decode cL_law 836 = .ok (.ireturn, 1) := by decide +kernel
theorem dL_law_837 : decode cL_law 837 = .ok (.aload_n 1, 1) := by decide +kernel
theorem dL_law_838 : decode cL_law 838 = .ok (.aload_n 0, 1) := by decide +kernel
theorem dL_law_839 : decode cL_law 839 = .ok (.iload_n 3, 1) := by decide +kernel
theorem dL_law_840 : decode cL_law 840 = .ok (.iconst 1, 1) := by decide +kernel
theorem dL_law_841 : decode cL_law 841 = .ok (.iadd, 1) := by decide +kernel
theorem dL_law_842 : decode cL_law 842 = .ok (.iaload, 1) := by decide +kernel
theorem dL_law_843 : decode cL_law 843 = .ok (.invokevirtual 119, 3) := by decide +kernel
theorem dL_law_846 : decode cL_law 846 = .ok (.aload_n 2, 1) := by decide +kernel
theorem dL_law_847 : decode cL_law 847 = .ok (.aload_n 0, 1) := by decide +kernel
theorem dL_law_848 : decode cL_law 848 = .ok (.iload_n 3, 1) := by decide +kernel
theorem dL_law_849 : decode cL_law 849 = .ok (.iconst 1, 1) := by decide +kernel
theorem dL_law_850 : decode cL_law 850 = .ok (.iadd, 1) := by decide +kernel
theorem dL_law_851 : decode cL_law 851 = .ok (.iaload, 1) := by decide +kernel
theorem dL_law_852 : decode cL_law 852 = .ok (.invokevirtual 122, 3) := by decide +kernel
theorem dL_law_855 : decode cL_law 855 = .ok (.if_icmp .eq 5, 3) := by decide +kernel
theorem dL_law_858 : decode cL_law 858 = .ok (.iconst 0, 1) := by decide +kernel
theorem dL_law_859 : decode cL_law 859 = .ok (.ireturn, 1) := by decide +kernel
theorem dL_law_860 : decode cL_law 860 = .ok (.iinc 3 6, 3) := by decide +kernel
theorem dL_law_863 : decode cL_law 863 = .ok (.goto (-845), 3) := by decide +kernel
theorem dL_law_866 : decode cL_law 866 = .ok (.iconst 1, 1) := by decide +kernel
theorem dL_law_867 : decode cL_law 867 = .ok (.ireturn, 1) := by decide +kernel
end
section
/-! decode rows: X8 -/
theorem dX8_init_0 : decode cX8_init 0 = .ok (.aload_n 0, 1) := by decide +kernel
theorem dX8_init_1 : decode cX8_init 1 = .ok (.invokespecial 1, 3) := by decide +kernel
theorem dX8_init_4 : decode cX8_init 4 = .ok (.aload_n 0, 1) := by decide +kernel
theorem dX8_init_5 : decode cX8_init 5 = .ok (.sipush 396, 3) := by decide +kernel
theorem dX8_init_8 : decode cX8_init 8 = .ok (.newarray .int, 2) := by decide +kernel
theorem dX8_init_10 : decode cX8_init 10 = .ok (.putfield 7, 3) := by decide +kernel
theorem dX8_init_13 : decode cX8_init 13 = .ok (.aload_n 0, 1) := by decide +kernel
theorem dX8_init_14 : decode cX8_init 14 = .ok (.bipush 16, 2) := by decide +kernel
theorem dX8_init_16 : decode cX8_init 16 = .ok (.newarray .int, 2) := by decide +kernel
theorem dX8_init_18 : decode cX8_init 18 = .ok (.putfield 13, 3) := by decide +kernel
theorem dX8_init_21 : decode cX8_init 21 = .ok (.aload_n 0, 1) := by decide +kernel
theorem dX8_init_22 : decode cX8_init 22 = .ok (.bipush 16, 2) := by decide +kernel
theorem dX8_init_24 : decode cX8_init 24 = .ok (.newarray .int, 2) := by decide +kernel
theorem dX8_init_26 : decode cX8_init 26 = .ok (.putfield 16, 3) := by decide +kernel
theorem dX8_init_29 : decode cX8_init 29 = .ok (.aload_n 0, 1) := by decide +kernel
theorem dX8_init_30 : decode cX8_init 30 = .ok (.iconst 2, 1) := by decide +kernel
theorem dX8_init_31 : decode cX8_init 31 = .ok (.newarray .boolean, 2) := by decide +kernel
theorem dX8_init_33 : decode cX8_init 33 = .ok (.putfield 19, 3) := by decide +kernel
theorem dX8_init_36 : decode cX8_init 36 = .ok (.aload_n 0, 1) := by decide +kernel
theorem dX8_init_37 : decode cX8_init 37 = .ok (.sipush 200, 3) := by decide +kernel
theorem dX8_init_40 : decode cX8_init 40 = .ok (.newarray .int, 2) := by decide +kernel
theorem dX8_init_42 : decode cX8_init 42 = .ok (.putfield 23, 3) := by decide +kernel
theorem dX8_init_45 : decode cX8_init 45 = .ok (.aload_n 0, 1) := by decide +kernel
theorem dX8_init_46 : decode cX8_init 46 = .ok (.iconst 3, 1) := by decide +kernel
theorem dX8_init_47 : decode cX8_init 47 = .ok (.newarray .int, 2) := by decide +kernel
theorem dX8_init_49 : decode cX8_init 49 = .ok (.putfield 26, 3) := by decide +kernel
theorem dX8_init_52 : decode cX8_init 52 = .ok (.aload_n 0, 1) := by decide +kernel
theorem dX8_init_53 : decode cX8_init 53 = .ok (.iconst 3, 1) := by decide +kernel
theorem dX8_init_54 : decode cX8_init 54 = .ok (.newarray .int, 2) := by decide +kernel
theorem dX8_init_56 : decode cX8_init 56 = .ok (.dup, 1) := by decide +kernel
theorem dX8_init_57 : decode cX8_init 57 = .ok (.iconst 0, 1) := by decide +kernel
theorem dX8_init_58 : decode cX8_init 58 = .ok (.iconst (-1), 1) := by decide +kernel
theorem dX8_init_59 : decode cX8_init 59 = .ok (.iastore, 1) := by decide +kernel
theorem dX8_init_60 : decode cX8_init 60 = .ok (.dup, 1) := by decide +kernel
theorem dX8_init_61 : decode cX8_init 61 = .ok (.iconst 1, 1) := by decide +kernel
theorem dX8_init_62 : decode cX8_init 62 = .ok (.iconst (-1), 1) := by decide +kernel
theorem dX8_init_63 : decode cX8_init 63 = .ok (.iastore, 1) := by decide +kernel
theorem dX8_init_64 : decode cX8_init 64 = .ok (.dup, 1) := by decide +kernel
theorem dX8_init_65 : decode cX8_init 65 = .ok (.iconst 2, 1) := by decide +kernel
theorem dX8_init_66 : decode cX8_init 66 = .ok (.iconst (-1), 1) := by decide +kernel
theorem dX8_init_67 : decode cX8_init 67 = .ok (.iastore, 1) := by decide +kernel
theorem dX8_init_68 : decode cX8_init 68 = .ok (.putfield 29, 3) := by decide +kernel
theorem dX8_init_71 : decode cX8_init 71 = .ok (.aload_n 0, 1) := by decide +kernel
theorem dX8_init_72 : decode cX8_init 72 = .ok (.bipush 24, 2) := by decide +kernel
theorem dX8_init_74 : decode cX8_init 74 = .ok (.newarray .float, 2) := by decide +kernel
theorem dX8_init_76 : decode cX8_init 76 = .ok (.putfield 32, 3) := by decide +kernel
theorem dX8_init_79 : decode cX8_init 79 = .ok (.aload_n 0, 1) := by decide +kernel
theorem dX8_init_80 : decode cX8_init 80 = .ok (.bipush 24, 2) := by decide +kernel
theorem dX8_init_82 : decode cX8_init 82 = .ok (.newarray .double, 2) := by decide +kernel
theorem dX8_init_84 : decode cX8_init 84 = .ok (.putfield 36, 3) := by decide +kernel
theorem dX8_init_87 : decode cX8_init 87 = .ok (.aload_n 0, 1) := by decide +kernel
theorem dX8_init_88 : decode cX8_init 88 = .ok (.iconst 4, 1) := by decide +kernel
theorem dX8_init_89 : decode cX8_init 89 = .ok (.newarray .int, 2) := by decide +kernel
theorem dX8_init_91 : decode cX8_init 91 = .ok (.putfield 40, 3) := by decide +kernel
theorem dX8_init_94 : decode cX8_init 94 = .ok (.aload_n 0, 1) := by decide +kernel
theorem dX8_init_95 : decode cX8_init 95 = .ok (.iconst 3, 1) := by decide +kernel
theorem dX8_init_96 : decode cX8_init 96 = .ok (.newarray .int, 2) := by decide +kernel
theorem dX8_init_98 : decode cX8_init 98 = .ok (.dup, 1) := by decide +kernel
theorem dX8_init_99 : decode cX8_init 99 = .ok (.iconst 0, 1) := by decide +kernel
theorem dX8_init_100 : decode cX8_init 100 = .ok (.bipush 110, 2) := by decide +kernel
theorem dX8_init_102 : decode cX8_init 102 = .ok (.iastore, 1) := by decide +kernel
theorem dX8_init_103 : decode cX8_init 103 = .ok (.dup, 1) := by decide +kernel
theorem dX8_init_104 : decode cX8_init 104 = .ok (.iconst 1, 1) := by decide +kernel
theorem dX8_init_105 : decode cX8_init 105 = .ok (.bipush 101, 2) := by decide +kernel
theorem dX8_init_107 : decode cX8_init 107 = .ok (.iastore, 1) := by decide +kernel
theorem dX8_init_108 : decode cX8_init 108 = .ok (.dup, 1) := by decide +kernel
theorem dX8_init_109 : decode cX8_init 109 = .ok (.iconst 2, 1) := by decide +kernel
theorem dX8_init_110 : decode cX8_init 110 = .ok (.bipush 116, 2) := by decide +kernel
theorem dX8_init_112 : decode cX8_init 112 = .ok (.iastore, 1) := by decide +kernel
theorem dX8_init_113 : decode cX8_init 113 = .ok (.putfield 43, 3) := by decide +kernel
theorem dX8_init_116 : decode cX8_init 116 = .ok (.aload_n 0, 1) := by decide +kernel
theorem dX8_init_117 : decode cX8_init 117 = .ok (.iconst 4, 1) := by decide +kernel
theorem dX8_init_118 : decode cX8_init 118 = .ok (.newarray .int, 2) := by decide +kernel
theorem dX8_init_120 : decode cX8_init 120 = .ok (.dup, 1) := by decide +kernel
theorem dX8_init_121 : decode cX8_init 121 = .ok (.iconst 0, 1) := by decide +kernel
theorem dX8_init_122 : decode cX8_init 122 = .ok (.bipush 112, 2) := by decide +kernel
theorem dX8_init_124 : decode cX8_init 124 = .ok (.iastore, 1) := by decide +kernel
theorem dX8_init_125 : decode cX8_init 125 = .ok (.dup, 1) := by decide +kernel
theorem dX8_init_126 : decode cX8_init 126 = .ok (.iconst 1, 1) := by decide +kernel
theorem dX8_init_127 : decode cX8_init 127 = .ok (.bipush 97, 2) := by decide +kernel
theorem dX8_init_129 : decode cX8_init 129 = .ok (.iastore, 1) := by decide +kernel
theorem dX8_init_130 : decode cX8_init 130 = .ok (.dup, 1) := by decide +kernel
theorem dX8_init_131 : decode cX8_init 131 = .ok (.iconst 2, 1) := by decide +kernel
theorem dX8_init_132 : decode cX8_init 132 = .ok (.bipush 116, 2) := by decide +kernel
theorem dX8_init_134 : decode cX8_init 134 = .ok (.iastore, 1) := by decide +kernel
theorem dX8_init_135 : decode cX8_init 135 = .ok (.dup, 1) := by decide +kernel
theorem dX8_init_136 : decode cX8_init 136 = .ok (.iconst 3, 1) := by decide +kernel
theorem dX8_init_137 : decode cX8_init 137 = .ok (.bipush 104, 2) := by decide +kernel
theorem dX8_init_139 : decode cX8_init 139 = .ok (.iastore, 1) := by decide +kernel
theorem dX8_init_140 : decode cX8_init 140 = .ok (.putfield 46, 3) := by decide +kernel
theorem dX8_init_143 : decode cX8_init 143 = .ok (.aload_n 0, 1) := by decide +kernel
theorem dX8_init_144 : decode cX8_init 144 = .ok (.iconst 5, 1) := by decide +kernel
theorem dX8_init_145 : decode cX8_init 145 = .ok (.newarray .int, 2) := by decide +kernel
theorem dX8_init_147 : decode cX8_init 147 = .ok (.dup, 1) := by decide +kernel
theorem dX8_init_148 : decode cX8_init 148 = .ok (.iconst 0, 1) := by decide +kernel
theorem dX8_init_149 : decode cX8_init 149 = .ok (.bipush 115, 2) := by decide +kernel
theorem dX8_init_151 : decode cX8_init 151 = .ok (.iastore, 1) := by decide +kernel
theorem dX8_init_152 : decode cX8_init 152 = .ok (.dup, 1) := by decide +kernel
theorem dX8_init_153 : decode cX8_init 153 = .ok (.iconst 1, 1) := by decide +kernel
theorem dX8_init_154 : decode cX8_init 154 = .ok (.bipush 101, 2) := by decide +kernel
theorem dX8_init_156 : decode cX8_init 156 = .ok (.iastore, 1) := by decide +kernel
theorem dX8_init_157 : decode cX8_init 157 = .ok (.dup, 1) := by decide +kernel
theorem dX8_init_158 : decode cX8_init 158 = .ok (.iconst 2, 1) := by decide +kernel
theorem dX8_init_159 : decode cX8_init 159 = .ok (.bipush 116, 2) := by decide +kernel
theorem dX8_init_161 : decode cX8_init 161 = .ok (.iastore, 1) := by decide +kernel
theorem dX8_init_162 : decode cX8_init 162 = .ok (.dup, 1) := by decide +kernel
theorem dX8_init_163 : decode cX8_init 163 = .ok (.iconst 3, 1) := by decide +kernel
theorem dX8_init_164 : decode cX8_init 164 = .ok (.bipush 117, 2) := by decide +kernel
theorem dX8_init_166 : decode cX8_init 166 = .ok (.iastore, 1) := by decide +kernel
theorem dX8_init_167 : decode cX8_init 167 = .ok (.dup, 1) := by decide +kernel
theorem dX8_init_168 : decode cX8_init 168 = .ok (.iconst 4, 1) := by decide +kernel
theorem dX8_init_169 : decode cX8_init 169 = .ok (.bipush 112, 2) := by decide +kernel
theorem dX8_init_171 : decode cX8_init 171 = .ok (.iastore, 1) := by decide +kernel
theorem dX8_init_172 : decode cX8_init 172 = .ok (.putfield 49, 3) := by decide +kernel
theorem dX8_init_175 : decode cX8_init 175 = .ok (.aload_n 0, 1) := by decide +kernel
theorem dX8_init_176 : decode cX8_init 176 = .ok (.iconst 4, 1) := by decide +kernel
theorem dX8_init_177 : decode cX8_init 177 = .ok (.newarray .int, 2) := by decide +kernel
theorem dX8_init_179 : decode cX8_init 179 = .ok (.dup, 1) := by decide +kernel
theorem dX8_init_180 : decode cX8_init 180 = .ok (.iconst 0, 1) := by decide +kernel
theorem dX8_init_181 : decode cX8_init 181 = .ok (.bipush 104, 2) := by decide +kernel
theorem dX8_init_183 : decode cX8_init 183 = .ok (.iastore, 1) := by decide +kernel
theorem dX8_init_184 : decode cX8_init 184 = .ok (.dup, 1) := by decide +kernel
theorem dX8_init_185 : decode cX8_init 185 = .ok (.iconst 1, 1) := by decide +kernel
theorem dX8_init_186 : decode cX8_init 186 = .ok (.bipush 111, 2) := by decide +kernel
theorem dX8_init_188 : decode cX8_init 188 = .ok (.iastore, 1) := by decide +kernel
theorem dX8_init_189 : decode cX8_init 189 = .ok (.dup, 1) := by decide +kernel
theorem dX8_init_190 : decode cX8_init 190 = .ok (.iconst 2, 1) := by decide +kernel
theorem dX8_init_191 : decode cX8_init 191 = .ok (.bipush 108, 2) := by decide +kernel
theorem dX8_init_193 : decode cX8_init 193 = .ok (.iastore, 1) := by decide +kernel
theorem dX8_init_194 : decode cX8_init 194 = .ok (.dup, 1) := by decide +kernel
theorem dX8_init_195 : decode cX8_init 195 = .ok (.iconst 3, 1) := by decide +kernel
theorem dX8_init_196 : decode cX8_init 196 = .ok (.bipush 100, 2) := by decide +kernel
theorem dX8_init_198 : decode cX8_init 198 = .ok (.iastore, 1) := by decide +kernel
theorem dX8_init_199 : decode cX8_init 199 = .ok (.putfield 52, 3) := by decide +kernel
theorem dX8_init_202 : decode cX8_init 202 = .ok (.aload_n 0, 1) := by decide +kernel
theorem dX8_init_203 : decode cX8_init 203 = .ok (.iconst 4, 1) := by decide +kernel
theorem dX8_init_204 : decode cX8_init 204 = .ok (.newarray .int, 2) := by decide +kernel
theorem dX8_init_206 : decode cX8_init 206 = .ok (.dup, 1) := by decide +kernel
theorem dX8_init_207 : decode cX8_init 207 = .ok (.iconst 0, 1) := by decide +kernel
theorem dX8_init_208 : decode cX8_init 208 = .ok (.bipush 115, 2) := by decide +kernel
theorem dX8_init_210 : decode cX8_init 210 = .ok (.iastore, 1) := by decide +kernel
theorem dX8_init_211 : decode cX8_init 211 = .ok (.dup, 1) := by decide +kernel
theorem dX8_init_212 : decode cX8_init 212 = .ok (.iconst 1, 1) := by decide +kernel
theorem dX8_init_213 : decode cX8_init 213 = .ok (.bipush 116, 2) := by decide +kernel
theorem dX8_init_215 : decode cX8_init 215 = .ok (.iastore, 1) := by decide +kernel
theorem dX8_init_216 : decode cX8_init 216 = .ok (.dup, 1) := by decide +kernel
theorem dX8_init_217 : decode cX8_init 217 = .ok (.iconst 2, 1) := by decide +kernel
theorem dX8_init_218 : decode cX8_init 218 = .ok (.bipush 101, 2) := by decide +kernel
theorem dX8_init_220 : decode cX8_init 220 = .ok (.iastore, 1) := by decide +kernel
theorem dX8_init_221 : decode cX8_init 221 = .ok (.dup, 1) := by decide +kernel
theorem dX8_init_222 : decode cX8_init 222 = .ok (.iconst 3, 1) := by decide +kernel
theorem dX8_init_223 : decode cX8_init 223 = .ok (.bipush 112, 2) := by decide +kernel
theorem dX8_init_225 : decode cX8_init 225 = .ok (.iastore, 1) := by decide +kernel
theorem dX8_init_226 : decode cX8_init 226 = .ok (.putfield 55, 3) := by decide +kernel
theorem dX8_init_229 : decode cX8_init 229 = .ok (.aload_n 0, 1) := by decide +kernel
theorem dX8_init_230 : decode cX8_init 230 = .ok (.bipush 6, 2) := by decide +kernel
theorem dX8_init_232 : decode cX8_init 232 = .ok (.newarray .int, 2) := by decide +kernel
theorem dX8_init_234 : decode cX8_init 234 = .ok (.dup, 1) := by decide +kernel
theorem dX8_init_235 : decode cX8_init 235 = .ok (.iconst 0, 1) := by decide +kernel
theorem dX8_init_236 : decode cX8_init 236 = .ok (.bipush 112, 2) := by decide +kernel
theorem dX8_init_238 : decode cX8_init 238 = .ok (.iastore, 1) := by decide +kernel
theorem dX8_init_239 : decode cX8_init 239 = .ok (.dup, 1) := by decide +kernel
theorem dX8_init_240 : decode cX8_init 240 = .ok (.iconst 1, 1) := by decide +kernel
theorem dX8_init_241 : decode cX8_init 241 = .ok (.bipush 101, 2) := by decide +kernel
theorem dX8_init_243 : decode cX8_init 243 = .ok (.iastore, 1) := by decide +kernel
theorem dX8_init_244 : decode cX8_init 244 = .ok (.dup, 1) := by decide +kernel
theorem dX8_init_245 : decode cX8_init 245 = .ok (.iconst 2, 1) := by decide +kernel
theorem dX8_init_246 : decode cX8_init 246 = .ok (.bipush 114, 2) := by decide +kernel
theorem dX8_init_248 : decode cX8_init 248 = .ok (.iastore, 1) := by decide +kernel
theorem dX8_init_249 : decode cX8_init 249 = .ok (.dup, 1) := by decide +kernel
theorem dX8_init_250 : decode cX8_init 250 = .ok (.iconst 3, 1) := by decide +kernel
theorem dX8_init_251 : decode cX8_init 251 = .ok (.bipush 105, 2) := by decide +kernel
theorem dX8_init_253 : decode cX8_init 253 = .ok (.iastore, 1) := by decide +kernel
theorem dX8_init_254 : decode cX8_init 254 = .ok (.dup, 1) := by decide +kernel
theorem dX8_init_255 : decode cX8_init 255 = .ok (.iconst 4, 1) := by decide +kernel
theorem dX8_init_256 : decode cX8_init 256 = .ok (.bipush 111, 2) := by decide +kernel
theorem dX8_init_258 : decode cX8_init 258 = .ok (.iastore, 1) := by decide +kernel
theorem dX8_init_259 : decode cX8_init 259 = .ok (.dup, 1) := by decide +kernel
theorem dX8_init_260 : decode cX8_init 260 = .ok (.iconst 5, 1) := by decide +kernel
theorem dX8_init_261 : decode cX8_init 261 = .ok (.bipush 100, 2) := by decide +kernel
theorem dX8_init_263 : decode cX8_init 263 = .ok (.iastore, 1) := by decide +kernel
theorem dX8_init_264 : decode cX8_init 264 = .ok (.putfield 58, 3) := by decide +kernel
theorem dX8_init_267 : decode cX8_init 267 = .ok (.aload_n 0, 1) := by decide +kernel
theorem dX8_init_268 : decode cX8_init 268 = .ok (.bipush 16, 2) := by decide +kernel
theorem dX8_init_270 : decode cX8_init 270 = .ok (.newarray .int, 2) := by decide +kernel
theorem dX8_init_272 : decode cX8_init 272 = .ok (.putfield 61, 3) := by decide +kernel
theorem dX8_init_275 : decode cX8_init 275 = .ok (.aload_n 0, 1) := by decide +kernel
theorem dX8_init_276 : decode cX8_init 276 = .ok (.bipush 16, 2) := by decide +kernel
theorem dX8_init_278 : decode cX8_init 278 = .ok (.newarray .int, 2) := by decide +kernel
theorem dX8_init_280 : decode cX8_init 280 = .ok (.putfield 64, 3) := by decide +kernel
theorem dX8_init_283 : decode cX8_init 283 = .ok (.aload_n 0, 1) := by decide +kernel
theorem dX8_init_284 : decode cX8_init 284 = .ok (.bipush 8, 2) := by decide +kernel
theorem dX8_init_286 : decode cX8_init 286 = .ok (.newarray .int, 2) := by decide +kernel
theorem dX8_init_288 : decode cX8_init 288 = .ok (.putfield 67, 3) := by decide +kernel
theorem dX8_init_291 : decode cX8_init 291 = .ok (.aload_n 0, 1) := by decide +kernel
theorem dX8_init_292 : decode cX8_init 292 = .ok (.bipush 64, 2) := by decide +kernel
theorem dX8_init_294 : decode cX8_init 294 = .ok (.newarray .int, 2) := by decide +kernel
theorem dX8_init_296 : decode cX8_init 296 = .ok (.putfield 70, 3) := by decide +kernel
theorem dX8_init_299 : decode cX8_init 299 = .ok (.aload_n 0, 1) := by decide +kernel
theorem dX8_init_300 : decode cX8_init 300 = .ok (.bipush 8, 2) := by decide +kernel
theorem dX8_init_302 : decode cX8_init 302 = .ok (.newarray .int, 2) := by decide +kernel
theorem dX8_init_304 : decode cX8_init 304 = .ok (.putfield 73, 3) := by decide +kernel
theorem dX8_init_307 : decode cX8_init 307 = .ok (.aload_n 0, 1) := by decide +kernel
theorem dX8_init_308 : decode cX8_init 308 = .ok (.iconst 2, 1) := by decide +kernel
theorem dX8_init_309 : decode cX8_init 309 = .ok (.invokevirtual 76, 3) := by decide +kernel
theorem dX8_init_312 : decode cX8_init 312 = .ok (.aload_n 0, 1) := by decide +kernel
theorem dX8_init_313 : decode cX8_init 313 = .ok (.iconst 0, 1) := by decide +kernel
theorem dX8_init_314 : decode cX8_init 314 = .ok (.sipush 363, 3) := by decide +kernel
theorem dX8_init_317 : decode cX8_init 317 = .ok (.invokevirtual 80, 3) := by decide +kernel
theorem dX8_init_320 : decode cX8_init 320 = .ok (.return_, 1) := by decide +kernel
theorem dX8_in_0 : decode cX8_in 0 = .ok (.lload_n 0, 1) := by decide +kernel
theorem dX8_in_1 : decode cX8_in 1 = .ok (.lload_n 2, 1) := by decide +kernel
theorem dX8_in_2 : decode cX8_in 2 = .ok (.lcmp, 1) := by decide +kernel
theorem dX8_in_3 : decode cX8_in 3 = .ok (.ifCond .lt 14, 3) := by decide +kernel
theorem dX8_in_6 : decode cX8_in 6 = .ok (.lload_n 0, 1) := by decide +kernel
theorem dX8_in_7 : decode cX8_in 7 = .ok (.lload 4, 2) := by decide +kernel
theorem dX8_in_9 : decode cX8_in 9 = .ok (.lcmp, 1) := by decide +kernel
theorem dX8_in_10 : decode cX8_in 10 = .ok (.ifCond .gt 7, 3) := by decide +kernel
theorem dX8_in_13 : decode cX8_in 13 = .ok (.iconst 1, 1) := by decide +kernel
theorem dX8_in_14 : decode cX8_in 14 = .ok (.goto 4, 3) := by decide +kernel
theorem dX8_in_17 : decode cX8_in 17 = .ok (.iconst 0, 1) := by decide +kernel
theorem dX8_in_18 : decode cX8_in 18 = .ok (.ireturn, 1) := by decide +kernel
theorem dX8_copyRow_0 : decode cX8_copyRow 0 = .ok (.iconst 0, 1) := by decide +kernel
theorem dX8_copyRow_1 : decode cX8_copyRow 1 = .ok (.istore_n 3, 1) := by decide +kernel
theorem dX8_copyRow_2 : decode cX8_copyRow 2 = .ok (.iload_n 3, 1) := by decide +kernel
theorem dX8_copyRow_3 : decode cX8_copyRow 3 = .ok (.bipush 33, 2) := by decide +kernel
theorem dX8_copyRow_5 : decode cX8_copyRow 5 = .ok (.if_icmp .ge 25, 3) := by decide +kernel
theorem dX8_copyRow_8 : decode cX8_copyRow 8 = .ok (.aload_n 0, 1) := by decide +kernel
theorem dX8_copyRow_9 : decode cX8_copyRow 9 = .ok (.getfield 7, 3) := by decide +kernel
theorem dX8_copyRow_12 : decode cX8_copyRow 12 = .ok (.iload_n 2, 1) := by decide +kernel
theorem dX8_copyRow_13 : decode cX8_copyRow 13 = .ok (.iload_n 3, 1) := by decide +kernel
theorem dX8_copyRow_14 : decode cX8_copyRow 14 = .ok (.iadd, 1) := by decide +kernel
theorem dX8_copyRow_15 : decode cX8_copyRow 15 = .ok (.aload_n 0, 1) := by decide +kernel
theorem dX8_copyRow_16 : decode cX8_copyRow 16 = .ok (.getfield 7, 3) := by decide +kernel
theorem dX8_copyRow_19 : decode cX8_copyRow 19 = .ok (.iload_n 1, 1) := by decide +kernel
theorem dX8_copyRow_20 : decode cX8_copyRow 20 = .ok (.iload_n 3, 1) := by decide +kernel
theorem dX8_copyRow_21 : decode cX8_copyRow 21 = .ok (.iadd, 1) := by decide +kernel
theorem dX8_copyRow_22 : decode cX8_copyRow 22 = .ok (.iaload, 1) := by decide +kernel
theorem dX8_copyRow_23 : decode cX8_copyRow 23 = .ok (.iastore, 1) := by decide +kernel
theorem dX8_copyRow_24 : decode cX8_copyRow 24 = .ok (.iinc 3 1, 3) := by decide +kernel
theorem dX8_copyRow_27 : decode cX8_copyRow 27 = .ok (.goto (-25), 3) := by decide +kernel
theorem dX8_copyRow_30 : decode cX8_copyRow 30 = .ok (.return_, 1) := by decide +kernel
theorem dX8_anew_0 : decode cX8_anew 0 = .ok (.aload_n 0, 1) := by decide +kernel
theorem dX8_anew_1 : decode cX8_anew 1 = .ok (.iload_n 1, 1) := by decide +kernel
theorem dX8_anew_2 : decode cX8_anew 2 = .ok (.putfield 84, 3) := by decide +kernel
theorem dX8_anew_5 : decode cX8_anew 5 = .ok (.aload_n 0, 1) := by decide +kernel
theorem dX8_anew_6 : decode cX8_anew 6 = .ok (.iconst 0, 1) := by decide +kernel
theorem dX8_anew_7 : decode cX8_anew 7 = .ok (.putfield 88, 3) := by decide +kernel
theorem dX8_anew_10 : decode cX8_anew 10 = .ok (.aload_n 0, 1) := by decide +kernel
theorem dX8_anew_11 : decode cX8_anew 11 = .ok (.iconst 0, 1) := by decide +kernel
theorem dX8_anew_12 : decode cX8_anew 12 = .ok (.putfield 91, 3) := by decide +kernel
theorem dX8_anew_15 : decode cX8_anew 15 = .ok (.aload_n 0, 1) := by decide +kernel
theorem dX8_anew_16 : decode cX8_anew 16 = .ok (.iconst 0, 1) := by decide +kernel
theorem dX8_anew_17 : decode cX8_anew 17 = .ok (.putfield 94, 3) := by decide +kernel
theorem dX8_anew_20 : decode cX8_anew 20 = .ok (.aload_n 0, 1) := by decide +kernel
theorem dX8_anew_21 : decode cX8_anew 21 = .ok (.iconst 1, 1) := by decide +kernel
theorem dX8_anew_22 : decode cX8_anew 22 = .ok (.putfield 97, 3) := by decide +kernel
theorem dX8_anew_25 : decode cX8_anew 25 = .ok (.aload_n 0, 1) := by decide +kernel
theorem dX8_anew_26 : decode cX8_anew 26 = .ok (.getfield 7, 3) := by decide +kernel
theorem dX8_anew_29 : decode cX8_anew 29 = .ok (.iconst 0, 1) := by decide +kernel
theorem dX8_anew_30 : decode cX8_anew 30 = .ok (.bipush 99, 2) := by decide +kernel
theorem dX8_anew_32 : decode cX8_anew 32 = .ok (.iastore, 1) := by decide +kernel
theorem dX8_anew_33 : decode cX8_anew 33 = .ok (.return_, 1) := by decide +kernel
theorem dX8_write_0 : decode cX8_write 0 = .ok (.iload_n 1, 1) := by decide +kernel
theorem dX8_write_1 : decode cX8_write 1 = .ok (.i2l, 1) := by decide +kernel
theorem dX8_write_2 : decode cX8_write 2 = .ok (.lconst 0, 1) := by decide +kernel
theorem dX8_write_3 : decode cX8_write 3 = .ok (.ldc2_w 100, 3) := by decide +kernel
theorem dX8_write_6 : decode cX8_write 6 = .ok (.invokestatic 102, 3) := by decide +kernel
theorem dX8_write_9 : decode cX8_write 9 = .ok (.ifCond .ne 6, 3) := by decide +kernel
theorem dX8_write_12 : decode cX8_write 12 = .ok (.bipush (-3), 2) := by decide +kernel
theorem dX8_write_14 : decode cX8_write 14 = .ok (.ireturn, 1) := by decide +kernel
theorem dX8_write_15 : decode cX8_write 15 = .ok (.aload_n 0, 1) := by decide +kernel
theorem dX8_write_16 : decode cX8_write 16 = .ok (.getfield 106, 3) := by decide +kernel
theorem dX8_write_19 : decode cX8_write 19 = .ok (.sipush 200, 3) := by decide +kernel
theorem dX8_write_22 : decode cX8_write 22 = .ok (.if_icmp .ne 6, 3) := by decide +kernel
theorem dX8_write_25 : decode cX8_write 25 = .ok (.bipush (-5), 2) := by decide +kernel
theorem dX8_write_27 : decode cX8_write 27 = .ok (.ireturn, 1) := by decide +kernel
theorem dX8_write_28 : decode cX8_write 28 = .ok (.aload_n 0, 1) := by decide +kernel
theorem dX8_write_29 : decode cX8_write 29 = .ok (.getfield 23, 3) := by decide +kernel
theorem dX8_write_32 : decode cX8_write 32 = .ok (.aload_n 0, 1) := by decide +kernel
theorem dX8_write_33 : decode cX8_write 33 = .ok (.getfield 106, 3) := by decide +kernel
theorem dX8_write_36 : decode cX8_write 36 = .ok (.iload_n 1, 1) := by decide +kernel
theorem dX8_write_37 : decode cX8_write 37 = .ok (.iastore, 1) := by decide +kernel
theorem dX8_write_38 : decode cX8_write 38 = .ok (.aload_n 0, 1) := by decide +kernel
theorem dX8_write_39 : decode cX8_write 39 = .ok (.dup, 1) := by decide +kernel
theorem dX8_write_40 : decode cX8_write 40 = .ok (.getfield 106, 3) := by decide +kernel
theorem dX8_write_43 : decode cX8_write 43 = .ok (.iconst 1, 1) := by decide +kernel
theorem dX8_write_44 : decode cX8_write 44 = .ok (.iadd, 1) := by decide +kernel
theorem dX8_write_45 : decode cX8_write 45 = .ok (.putfield 106, 3) := by decide +kernel
theorem dX8_write_48 : decode cX8_write 48 = .ok (.aload_n 0, 1) := by decide +kernel
theorem dX8_write_49 : decode cX8_write 49 = .ok (.getfield 106, 3) := by decide +kernel
theorem dX8_write_52 : decode cX8_write 52 = .ok (.ireturn, 1) := by decide +kernel
theorem dX8_erase_0 : decode cX8_erase 0 = .ok (.aload_n 0, 1) := by decide +kernel
theorem dX8_erase_1 : decode cX8_erase 1 = .ok (.getfield 106, 3) := by decide +kernel
theorem dX8_erase_4 : decode cX8_erase 4 = .ok (.istore_n 1, 1) := by decide +kernel
theorem dX8_erase_5 : decode cX8_erase 5 = .ok (.aload_n 0, 1) := by decide +kernel
theorem dX8_erase_6 : decode cX8_erase 6 = .ok (.iconst 0, 1) := by decide +kernel
theorem dX8_erase_7 : decode cX8_erase 7 = .ok (.putfield 106, 3) := by decide +kernel
theorem dX8_erase_10 : decode cX8_erase 10 = .ok (.iload_n 1, 1) := by decide +kernel
theorem dX8_erase_11 : decode cX8_erase 11 = .ok (.ireturn, 1) := by decide +kernel
theorem dX8_isLetter_0 : decode cX8_isLetter 0 = .ok (.iload_n 0, 1) := by decide +kernel
theorem dX8_isLetter_1 : decode cX8_isLetter 1 = .ok (.i2l, 1) := by decide +kernel
theorem dX8_isLetter_2 : decode cX8_isLetter 2 = .ok (.ldc2_w 109, 3) := by decide +kernel
theorem dX8_isLetter_5 : decode cX8_isLetter 5 = .ok (.ldc2_w 111, 3) := by decide +kernel
theorem dX8_isLetter_8 : decode cX8_isLetter 8 = .ok (.invokestatic 102, 3) := by decide +kernel
theorem dX8_isLetter_11 : decode cX8_isLetter 11 = .ok (.ireturn, 1) := by decide +kernel
theorem dX8_isDigit_0 : decode cX8_isDigit 0 = .ok (.iload_n 0, 1) := by decide +kernel
theorem dX8_isDigit_1 : decode cX8_isDigit 1 = .ok (.i2l, 1) := by decide +kernel
theorem dX8_isDigit_2 : decode cX8_isDigit 2 = .ok (.ldc2_w 113, 3) := by decide +kernel
theorem dX8_isDigit_5 : decode cX8_isDigit 5 = .ok (.ldc2_w 115, 3) := by decide +kernel
theorem dX8_isDigit_8 : decode cX8_isDigit 8 = .ok (.invokestatic 102, 3) := by decide +kernel
theorem dX8_isDigit_11 : decode cX8_isDigit 11 = .ok (.ireturn, 1) := by decide +kernel
theorem dX8_nextToken_0 : decode cX8_nextToken 0 = .ok (.aload_n 0, 1) := by decide +kernel
theorem dX8_nextToken_1 : decode cX8_nextToken 1 = .ok (.aload_n 0, 1) := by decide +kernel
theorem dX8_nextToken_2 : decode cX8_nextToken 2 = .ok (.getfield 117, 3) := by decide +kernel
theorem dX8_nextToken_5 : decode cX8_nextToken 5 = .ok (.putfield 120, 3) := by decide +kernel
theorem dX8_nextToken_8 : decode cX8_nextToken 8 = .ok (.aload_n 0, 1) := by decide +kernel
theorem dX8_nextToken_9 : decode cX8_nextToken 9 = .ok (.getfield 120, 3) := by decide +kernel
theorem dX8_nextToken_12 : decode cX8_nextToken 12 = .ok (.aload_n 0, 1) := by decide +kernel
theorem dX8_nextToken_13 : decode cX8_nextToken 13 = .ok (.getfield 106, 3) := by decide +kernel
theorem dX8_nextToken_16 : decode cX8_nextToken 16 = .ok (.if_icmp .ge 30, 3) := by decide +kernel
theorem dX8_nextToken_19 : decode cX8_nextToken 19 = .ok (.aload_n 0, 1) := by decide +kernel
theorem dX8_nextToken_20 : decode cX8_nextToken 20 = .ok (.getfield 23, 3) := by decide +kernel
theorem dX8_nextToken_23 : decode cX8_nextToken 23 = .ok (.aload_n 0, 1) := by decide +kernel
theorem dX8_nextToken_24 : decode cX8_nextToken 24 = .ok (.getfield 120, 3) := by decide +kernel
theorem dX8_nextToken_27 : decode cX8_nextToken 27 = .ok (.iaload, 1) := by decide +kernel
theorem dX8_nextToken_28 : decode cX8_nextToken 28 = .ok (.bipush 32, 2) := by decide +kernel
theorem dX8_nextToken_30 : decode cX8_nextToken 30 = .ok (.if_icmp .ne 16, 3) := by decide +kernel
theorem dX8_nextToken_33 : decode cX8_nextToken 33 = .ok (.aload_n 0, 1) := by decide +kernel
theorem dX8_nextToken_34 : decode cX8_nextToken 34 = .ok (.dup, 1) := by decide +kernel
theorem dX8_nextToken_35 : decode cX8_nextToken 35 = .ok (.getfield 120, 3) := by decide +kernel
theorem dX8_nextToken_38 : decode cX8_nextToken 38 = .ok (.iconst 1, 1) := by decide +kernel
theorem dX8_nextToken_39 : decode cX8_nextToken 39 = .ok (.iadd, 1) := by decide +kernel
theorem dX8_nextToken_40 : decode cX8_nextToken 40 = .ok (.putfield 120, 3) := by decide +kernel
theorem dX8_nextToken_43 : decode cX8_nextToken 43 = .ok (.goto (-35), 3) := by decide +kernel
theorem dX8_nextToken_46 : decode cX8_nextToken 46 = .ok (.aload_n 0, 1) := by decide +kernel
theorem dX8_nextToken_47 : decode cX8_nextToken 47 = .ok (.aload_n 0, 1) := by decide +kernel
theorem dX8_nextToken_48 : decode cX8_nextToken 48 = .ok (.getfield 120, 3) := by decide +kernel
theorem dX8_nextToken_51 : decode cX8_nextToken 51 = .ok (.aload_n 0, 1) := by decide +kernel
theorem dX8_nextToken_52 : decode cX8_nextToken 52 = .ok (.getfield 106, 3) := by decide +kernel
theorem dX8_nextToken_55 : decode cX8_nextToken 55 = .ok (.if_icmp .ge 12, 3) := by decide +kernel
theorem dX8_nextToken_58 : decode cX8_nextToken 58 = .ok (.aload_n 0, 1) := by decide +kernel
theorem dX8_nextToken_59 : decode cX8_nextToken 59 = .ok (.getfield 120, 3) := by decide +kernel
theorem dX8_nextToken_62 : decode cX8_nextToken 62 = .ok (.iconst 1, 1) := by decide +kernel
theorem dX8_nextToken_63 : decode cX8_nextToken 63 = .ok (.iadd, 1) := by decide +kernel
theorem dX8_nextToken_64 : decode cX8_nextToken 64 = .ok (.goto 7, 3) := by decide +kernel
theorem dX8_nextToken_67 : decode cX8_nextToken 67 = .ok (.aload_n 0, 1) := by decide +kernel
theorem dX8_nextToken_68 : decode cX8_nextToken 68 = .ok (.getfield 120, 3) := by decide +kernel
theorem dX8_nextToken_71 : decode cX8_nextToken 71 = .ok (.putfield 117, 3) := by decide +kernel
theorem dX8_nextToken_74 : decode cX8_nextToken 74 = .ok (.aload_n 0, 1) := by decide +kernel
theorem dX8_nextToken_75 : decode cX8_nextToken 75 = .ok (.getfield 120, 3) := by decide +kernel
theorem dX8_nextToken_78 : decode cX8_nextToken 78 = .ok (.aload_n 0, 1) := by decide +kernel
theorem dX8_nextToken_79 : decode cX8_nextToken 79 = .ok (.getfield 106, 3) := by decide +kernel
theorem dX8_nextToken_82 : decode cX8_nextToken 82 = .ok (.if_icmp .ge 57, 3) := by decide +kernel
theorem dX8_nextToken_85 : decode cX8_nextToken 85 = .ok (.aload_n 0, 1) := by decide +kernel
theorem dX8_nextToken_86 : decode cX8_nextToken 86 = .ok (.getfield 23, 3) := by decide +kernel
theorem dX8_nextToken_89 : decode cX8_nextToken 89 = .ok (.aload_n 0, 1) := by decide +kernel
theorem dX8_nextToken_90 : decode cX8_nextToken 90 = .ok (.getfield 120, 3) := by decide +kernel
theorem dX8_nextToken_93 : decode cX8_nextToken 93 = .ok (.iaload, 1) := by decide +kernel
theorem dX8_nextToken_94 : decode cX8_nextToken 94 = .ok (.invokestatic 123, 3) := by decide +kernel
theorem dX8_nextToken_97 : decode cX8_nextToken 97 = .ok (.ifCond .eq 42, 3) := by decide +kernel
theorem dX8_nextToken_100 : decode cX8_nextToken 100 = .ok (.aload_n 0, 1) := by decide +kernel
theorem dX8_nextToken_101 : decode cX8_nextToken 101 = .ok (.getfield 117, 3) := by decide +kernel
theorem dX8_nextToken_104 : decode cX8_nextToken 104 = .ok (.aload_n 0, 1) := by decide +kernel
theorem dX8_nextToken_105 : decode cX8_nextToken 105 = .ok (.getfield 106, 3) := by decide +kernel
theorem dX8_nextToken_108 : decode cX8_nextToken 108 = .ok (.if_icmp .ge 96, 3) := by decide +kernel
theorem dX8_nextToken_111 : decode cX8_nextToken 111 = .ok (.aload_n 0, 1) := by decide +kernel
theorem dX8_nextToken_112 : decode cX8_nextToken 112 = .ok (.getfield 23, 3) := by decide +kernel
theorem dX8_nextToken_115 : decode cX8_nextToken 115 = .ok (.aload_n 0, 1) := by decide +kernel
theorem dX8_nextToken_116 : decode cX8_nextToken 116 = .ok (.getfield 117, 3) := by decide +kernel
theorem dX8_nextToken_119 : decode cX8_nextToken 119 = .ok (.iaload, 1) := by decide +kernel
theorem dX8_nextToken_120 : decode cX8_nextToken 120 = .ok (.invokestatic 123, 3) := by decide +kernel
theorem dX8_nextToken_123 : decode cX8_nextToken 123 = .ok (.ifCond .eq 81, 3) := by decide +kernel
theorem dX8_nextToken_126 : decode cX8_nextToken 126 = .ok (.aload_n 0, 1) := by decide +kernel
theorem dX8_nextToken_127 : decode cX8_nextToken 127 = .ok (.dup, 1) := by decide +kernel
theorem dX8_nextToken_128 : decode cX8_nextToken 128 = .ok (.getfield 117, 3) := by decide +kernel
theorem dX8_nextToken_131 : decode cX8_nextToken 131 = .ok (.iconst 1, 1) := by decide +kernel
theorem dX8_nextToken_132 : decode cX8_nextToken 132 = .ok (.iadd, 1) := by decide +kernel
theorem dX8_nextToken_133 : decode cX8_nextToken 133 = .ok (.putfield 117, 3) := by decide +kernel
theorem dX8_nextToken_136 : decode cX8_nextToken 136 = .ok (.goto (-36), 3) := by decide +kernel
theorem dX8_nextToken_139 : decode cX8_nextToken 139 = .ok (.aload_n 0, 1) := by decide +kernel
theorem dX8_nextToken_140 : decode cX8_nextToken 140 = .ok (.getfield 120, 3) := by decide +kernel
theorem dX8_nextToken_143 : decode cX8_nextToken 143 = .ok (.aload_n 0, 1) := by decide +kernel
theorem dX8_nextToken_144 : decode cX8_nextToken 144 = .ok (.getfield 106, 3) := by decide +kernel
theorem dX8_nextToken_147 : decode cX8_nextToken 147 = .ok (.if_icmp .ge 57, 3) := by decide +kernel
theorem dX8_nextToken_150 : decode cX8_nextToken 150 = .ok (.aload_n 0, 1) := by decide +kernel
theorem dX8_nextToken_151 : decode cX8_nextToken 151 = .ok (.getfield 23, 3) := by decide +kernel
theorem dX8_nextToken_154 : decode cX8_nextToken 154 = .ok (.aload_n 0, 1) := by decide +kernel
theorem dX8_nextToken_155 : decode cX8_nextToken 155 = .ok (.getfield 120, 3) := by decide +kernel
theorem dX8_nextToken_158 : decode cX8_nextToken 158 = .ok (.iaload, 1) := by decide +kernel
theorem dX8_nextToken_159 : decode cX8_nextToken 159 = .ok (.invokestatic 127, 3) := by decide +kernel
theorem dX8_nextToken_162 : decode cX8_nextToken 162 = .ok (.ifCond .eq 42, 3) := by decide +kernel
theorem dX8_nextToken_165 : decode cX8_nextToken 165 = .ok (.aload_n 0, 1) := by decide +kernel
theorem dX8_nextToken_166 : decode cX8_nextToken 166 = .ok (.getfield 117, 3) := by decide +kernel
theorem dX8_nextToken_169 : decode cX8_nextToken 169 = .ok (.aload_n 0, 1) := by decide +kernel
theorem dX8_nextToken_170 : decode cX8_nextToken 170 = .ok (.getfield 106, 3) := by decide +kernel
theorem dX8_nextToken_173 : decode cX8_nextToken 173 = .ok (.if_icmp .ge 31, 3) := by decide +kernel
theorem dX8_nextToken_176 : decode cX8_nextToken 176 = .ok (.aload_n 0, 1) := by decide +kernel
theorem dX8_nextToken_177 : decode cX8_nextToken 177 = .ok (.getfield 23, 3) := by decide +kernel
theorem dX8_nextToken_180 : decode cX8_nextToken 180 = .ok (.aload_n 0, 1) := by decide +kernel
theorem dX8_nextToken_181 : decode cX8_nextToken 181 = .ok (.getfield 117, 3) := by decide +kernel
theorem dX8_nextToken_184 : decode cX8_nextToken 184 = .ok (.iaload, 1) := by decide +kernel
theorem dX8_nextToken_185 : decode cX8_nextToken 185 = .ok (.invokestatic 127, 3) := by decide +kernel
theorem dX8_nextToken_188 : decode cX8_nextToken 188 = .ok (.ifCond .eq 16, 3) := by decide +kernel
theorem dX8_nextToken_191 : decode cX8_nextToken 191 = .ok (.aload_n 0, 1) := by decide +kernel
theorem dX8_nextToken_192 : decode cX8_nextToken 192 = .ok (.dup, 1) := by decide +kernel
theorem dX8_nextToken_193 : decode cX8_nextToken 193 = .ok (.getfield 117, 3) := by decide +kernel
theorem dX8_nextToken_196 : decode cX8_nextToken 196 = .ok (.iconst 1, 1) := by decide +kernel
theorem dX8_nextToken_197 : decode cX8_nextToken 197 = .ok (.iadd, 1) := by decide +kernel
theorem dX8_nextToken_198 : decode cX8_nextToken 198 = .ok (.putfield 117, 3) := by decide +kernel
theorem dX8_nextToken_201 : decode cX8_nextToken 201 = .ok (.goto (-36), 3) := by decide +kernel
theorem dX8_nextToken_204 : decode cX8_nextToken 204 = .ok (.return_, 1) := by decide +kernel
theorem dX8_isWord_0 : decode cX8_isWord 0 = .ok (.aload_n 0, 1) := by decide +kernel
theorem dX8_isWord_1 : decode cX8_isWord 1 = .ok (.getfield 117, 3) := by decide +kernel
theorem dX8_isWord_4 : decode cX8_isWord 4 = .ok (.aload_n 0, 1) := by decide +kernel
theorem dX8_isWord_5 : decode cX8_isWord 5 = .ok (.getfield 120, 3) := by decide +kernel
theorem dX8_isWord_8 : decode cX8_isWord 8 = .ok (.isub, 1) := by decide +kernel
theorem dX8_isWord_9 : decode cX8_isWord 9 = .ok (.aload_n 1, 1) := by decide +kernel
theorem dX8_isWord_10 : decode cX8_isWord 10 = .ok (.arraylength, 1) := by decide +kernel
theorem dX8_isWord_11 : decode cX8_isWord 11 = .ok (.if_icmp .ne 7, 3) := by decide +kernel
theorem dX8_isWord_14 : decode cX8_isWord 14 = .ok (.iconst 1, 1) := by decide +kernel
theorem dX8_isWord_15 : decode cX8_isWord 15 = .ok (.goto 4, 3) := by decide +kernel
theorem dX8_isWord_18 : decode cX8_isWord 18 = .ok (.iconst 0, 1) := by decide +kernel
theorem dX8_isWord_19 : decode cX8_isWord 19 = .ok (.istore_n 2, 1) := by decide +kernel
theorem dX8_isWord_20 : decode cX8_isWord 20 = .ok (.iconst 0, 1) := by decide +kernel
theorem dX8_isWord_21 : decode cX8_isWord 21 = .ok (.istore_n 3, 1) := by decide +kernel
theorem dX8_isWord_22 : decode cX8_isWord 22 = .ok (.iload_n 3, 1) := by decide +kernel
theorem dX8_isWord_23 : decode cX8_isWord 23 = .ok (.aload_n 1, 1) := by decide +kernel
theorem dX8_isWord_24 : decode cX8_isWord 24 = .ok (.arraylength, 1) := by decide +kernel
theorem dX8_isWord_25 : decode cX8_isWord 25 = .ok (.if_icmp .ge 36, 3) := by decide +kernel
theorem dX8_isWord_28 : decode cX8_isWord 28 = .ok (.iload_n 2, 1) := by decide +kernel
theorem dX8_isWord_29 : decode cX8_isWord 29 = .ok (.ifCond .eq 32, 3) := by decide +kernel
theorem dX8_isWord_32 : decode cX8_isWord 32 = .ok (.aload_n 0, 1) := by decide +kernel
theorem dX8_isWord_33 : decode cX8_isWord 33 = .ok (.getfield 23, 3) := by decide +kernel
theorem dX8_isWord_36 : decode cX8_isWord 36 = .ok (.aload_n 0, 1) := by decide +kernel
theorem dX8_isWord_37 : decode cX8_isWord 37 = .ok (.getfield 120, 3) := by decide +kernel
theorem dX8_isWord_40 : decode cX8_isWord 40 = .ok (.iload_n 3, 1) := by decide +kernel
theorem dX8_isWord_41 : decode cX8_isWord 41 = .ok (.iadd, 1) := by decide +kernel
theorem dX8_isWord_42 : decode cX8_isWord 42 = .ok (.iaload, 1) := by decide +kernel
theorem dX8_isWord_43 : decode cX8_isWord 43 = .ok (.aload_n 1, 1) := by decide +kernel
theorem dX8_isWord_44 : decode cX8_isWord 44 = .ok (.iload_n 3, 1) := by decide +kernel
theorem dX8_isWord_45 : decode cX8_isWord 45 = .ok (.iaload, 1) := by decide +kernel
theorem dX8_isWord_46 : decode cX8_isWord 46 = .ok (.if_icmp .ne 7, 3) := by decide +kernel
theorem dX8_isWord_49 : decode cX8_isWord 49 = .ok (.iconst 1, 1) := by decide +kernel
theorem dX8_isWord_50 : decode cX8_isWord 50 = .ok (.goto 4, 3) := by decide +kernel
theorem dX8_isWord_53 : decode cX8_isWord 53 = .ok (.iconst 0, 1) := by decide +kernel
theorem dX8_isWord_54 : decode cX8_isWord 54 = .ok (.istore_n 2, 1) := by decide +kernel
theorem dX8_isWord_55 : decode cX8_isWord 55 = .ok (.iinc 3 1, 3) := by decide +kernel
theorem dX8_isWord_58 : decode cX8_isWord 58 = .ok (.goto (-36), 3) := by decide +kernel
theorem dX8_isWord_61 : decode cX8_isWord 61 = .ok (.iload_n 2, 1) := by decide +kernel
theorem dX8_isWord_62 : decode cX8_isWord 62 = .ok (.ireturn, 1) := by decide +kernel
theorem dX8_number_0 : decode cX8_number 0 = .ok (.aload_n 0, 1) := by decide +kernel
theorem dX8_number_1 : decode cX8_number 1 = .ok (.getfield 120, 3) := by decide +kernel
theorem dX8_number_4 : decode cX8_number 4 = .ok (.aload_n 0, 1) := by decide +kernel
theorem dX8_number_5 : decode cX8_number 5 = .ok (.getfield 106, 3) := by decide +kernel
theorem dX8_number_8 : decode cX8_number 8 = .ok (.if_icmp .eq 31, 3) := by decide +kernel
theorem dX8_number_11 : decode cX8_number 11 = .ok (.aload_n 0, 1) := by decide +kernel
theorem dX8_number_12 : decode cX8_number 12 = .ok (.getfield 23, 3) := by decide +kernel
theorem dX8_number_15 : decode cX8_number 15 = .ok (.aload_n 0, 1) := by decide +kernel
theorem dX8_number_16 : decode cX8_number 16 = .ok (.getfield 120, 3) := by decide +kernel
theorem dX8_number_19 : decode cX8_number 19 = .ok (.iaload, 1) := by decide +kernel
theorem dX8_number_20 : decode cX8_number 20 = .ok (.invokestatic 127, 3) := by decide +kernel
theorem dX8_number_23 : decode cX8_number 23 = .ok (.ifCond .eq 16, 3) := by decide +kernel
theorem dX8_number_26 : decode cX8_number 26 = .ok (.aload_n 0, 1) := by decide +kernel
theorem dX8_number_27 : decode cX8_number 27 = .ok (.getfield 117, 3) := by decide +kernel
theorem dX8_number_30 : decode cX8_number 30 = .ok (.aload_n 0, 1) := by decide +kernel
theorem dX8_number_31 : decode cX8_number 31 = .ok (.getfield 120, 3) := by decide +kernel
theorem dX8_number_34 : decode cX8_number 34 = .ok (.isub, 1) := by decide +kernel
theorem dX8_number_35 : decode cX8_number 35 = .ok (.iconst 3, 1) := by decide +kernel
theorem dX8_number_36 : decode cX8_number 36 = .ok (.if_icmp .le 5, 3) := by decide +kernel
theorem dX8_number_39 : decode cX8_number 39 = .ok (.iconst 0, 1) := by decide +kernel
theorem dX8_number_40 : decode cX8_number 40 = .ok (.ireturn, 1) := by decide +kernel
theorem dX8_number_41 : decode cX8_number 41 = .ok (.iconst 0, 1) := by decide +kernel
theorem dX8_number_42 : decode cX8_number 42 = .ok (.istore 4, 2) := by decide +kernel
theorem dX8_number_44 : decode cX8_number 44 = .ok (.aload_n 0, 1) := by decide +kernel
theorem dX8_number_45 : decode cX8_number 45 = .ok (.getfield 120, 3) := by decide +kernel
theorem dX8_number_48 : decode cX8_number 48 = .ok (.istore 5, 2) := by decide +kernel
theorem dX8_number_50 : decode cX8_number 50 = .ok (.iload 5, 2) := by decide +kernel
theorem dX8_number_52 : decode cX8_number 52 = .ok (.aload_n 0, 1) := by decide +kernel
theorem dX8_number_53 : decode cX8_number 53 = .ok (.getfield 117, 3) := by decide +kernel
theorem dX8_number_56 : decode cX8_number 56 = .ok (.if_icmp .ge 27, 3) := by decide +kernel
theorem dX8_number_59 : decode cX8_number 59 = .ok (.bipush 10, 2) := by decide +kernel
theorem dX8_number_61 : decode cX8_number 61 = .ok (.iload 4, 2) := by decide +kernel
theorem dX8_number_63 : decode cX8_number 63 = .ok (.imul, 1) := by decide +kernel
theorem dX8_number_64 : decode cX8_number 64 = .ok (.aload_n 0, 1) := by decide +kernel
theorem dX8_number_65 : decode cX8_number 65 = .ok (.getfield 23, 3) := by decide +kernel
theorem dX8_number_68 : decode cX8_number 68 = .ok (.iload 5, 2) := by decide +kernel
theorem dX8_number_70 : decode cX8_number 70 = .ok (.iaload, 1) := by decide +kernel
theorem dX8_number_71 : decode cX8_number 71 = .ok (.iadd, 1) := by decide +kernel
theorem dX8_number_72 : decode cX8_number 72 = .ok (.bipush 48, 2) := by decide +kernel
theorem dX8_number_74 : decode cX8_number 74 = .ok (.isub, 1) := by decide +kernel
theorem dX8_number_75 : decode cX8_number 75 = .ok (.istore 4, 2) := by decide +kernel
theorem dX8_number_77 : decode cX8_number 77 = .ok (.iinc 5 1, 3) := by decide +kernel
theorem dX8_number_80 : decode cX8_number 80 = .ok (.goto (-30), 3) := by decide +kernel
theorem dX8_number_83 : decode cX8_number 83 = .ok (.iload 4, 2) := by decide +kernel
theorem dX8_number_85 : decode cX8_number 85 = .ok (.i2l, 1) := by decide +kernel
theorem dX8_number_86 : decode cX8_number 86 = .ok (.iload_n 2, 1) := by decide +kernel
theorem dX8_number_87 : decode cX8_number 87 = .ok (.i2l, 1) := by decide +kernel
theorem dX8_number_88 : decode cX8_number 88 = .ok (.iload_n 3, 1) := by decide +kernel
theorem dX8_number_89 : decode cX8_number 89 = .ok (.i2l, 1) := by decide +kernel
theorem dX8_number_90 : decode cX8_number 90 = .ok (.invokestatic 102, 3) := by decide +kernel
theorem dX8_number_93 : decode cX8_number 93 = .ok (.istore 5, 2) := by decide +kernel
theorem dX8_number_95 : decode cX8_number 95 = .ok (.iload 5, 2) := by decide +kernel
theorem dX8_number_97 : decode cX8_number 97 = .ok (.ifCond .eq 15, 3) := by decide +kernel
theorem dX8_number_100 : decode cX8_number 100 = .ok (.aload_n 0, 1) := by decide +kernel
theorem dX8_number_101 : decode cX8_number 101 = .ok (.getfield 40, 3) := by decide +kernel
theorem dX8_number_104 : decode cX8_number 104 = .ok (.iload_n 1, 1) := by decide +kernel
theorem dX8_number_105 : decode cX8_number 105 = .ok (.iload 4, 2) := by decide +kernel
theorem dX8_number_107 : decode cX8_number 107 = .ok (.iastore, 1) := by decide +kernel
theorem dX8_number_108 : decode cX8_number 108 = .ok (.aload_n 0, 1) := by decide +kernel
theorem dX8_number_109 : decode cX8_number 109 = .ok (.invokevirtual 130, 3) := by decide +kernel
theorem dX8_number_112 : decode cX8_number 112 = .ok (.iload 5, 2) := by decide +kernel
theorem dX8_number_114 : decode cX8_number 114 = .ok (.ireturn, 1) := by decide +kernel
theorem dX8_wordHere_0 : decode cX8_wordHere 0 = .ok (.aload_n 0, 1) := by decide +kernel
theorem dX8_wordHere_1 : decode cX8_wordHere 1 = .ok (.aload_n 0, 1) := by decide +kernel
theorem dX8_wordHere_2 : decode cX8_wordHere 2 = .ok (.getfield 43, 3) := by decide +kernel
theorem dX8_wordHere_5 : decode cX8_wordHere 5 = .ok (.invokevirtual 133, 3) := by decide +kernel
theorem dX8_wordHere_8 : decode cX8_wordHere 8 = .ok (.ifCond .eq 7, 3) := by decide +kernel
theorem dX8_wordHere_11 : decode cX8_wordHere 11 = .ok (.iconst 0, 1) := by decide +kernel
theorem dX8_wordHere_12 : decode cX8_wordHere 12 = .ok (.goto 79, 3) := by decide +kernel
theorem dX8_wordHere_15 : decode cX8_wordHere 15 = .ok (.aload_n 0, 1) := by decide +kernel
theorem dX8_wordHere_16 : decode cX8_wordHere 16 = .ok (.aload_n 0, 1) := by decide +kernel
theorem dX8_wordHere_17 : decode cX8_wordHere 17 = .ok (.getfield 46, 3) := by decide +kernel
theorem dX8_wordHere_20 : decode cX8_wordHere 20 = .ok (.invokevirtual 133, 3) := by decide +kernel
theorem dX8_wordHere_23 : decode cX8_wordHere 23 = .ok (.ifCond .eq 7, 3) := by decide +kernel
theorem dX8_wordHere_26 : decode cX8_wordHere 26 = .ok (.iconst 1, 1) := by decide +kernel
theorem dX8_wordHere_27 : decode cX8_wordHere 27 = .ok (.goto 64, 3) := by decide +kernel
theorem dX8_wordHere_30 : decode cX8_wordHere 30 = .ok (.aload_n 0, 1) := by decide +kernel
theorem dX8_wordHere_31 : decode cX8_wordHere 31 = .ok (.aload_n 0, 1) := by decide +kernel
theorem dX8_wordHere_32 : decode cX8_wordHere 32 = .ok (.getfield 49, 3) := by decide +kernel
theorem dX8_wordHere_35 : decode cX8_wordHere 35 = .ok (.invokevirtual 133, 3) := by decide +kernel
theorem dX8_wordHere_38 : decode cX8_wordHere 38 = .ok (.ifCond .eq 7, 3) := by decide +kernel
theorem dX8_wordHere_41 : decode cX8_wordHere 41 = .ok (.iconst 2, 1) := by decide +kernel
theorem dX8_wordHere_42 : decode cX8_wordHere 42 = .ok (.goto 49, 3) := by decide +kernel
theorem dX8_wordHere_45 : decode cX8_wordHere 45 = .ok (.aload_n 0, 1) := by decide +kernel
theorem dX8_wordHere_46 : decode cX8_wordHere 46 = .ok (.aload_n 0, 1) := by decide +kernel
theorem dX8_wordHere_47 : decode cX8_wordHere 47 = .ok (.getfield 52, 3) := by decide +kernel
theorem dX8_wordHere_50 : decode cX8_wordHere 50 = .ok (.invokevirtual 133, 3) := by decide +kernel
theorem dX8_wordHere_53 : decode cX8_wordHere 53 = .ok (.ifCond .eq 7, 3) := by decide +kernel
theorem dX8_wordHere_56 : decode cX8_wordHere 56 = .ok (.iconst 3, 1) := by decide +kernel
theorem dX8_wordHere_57 : decode cX8_wordHere 57 = .ok (.goto 34, 3) := by decide +kernel
theorem dX8_wordHere_60 : decode cX8_wordHere 60 = .ok (.aload_n 0, 1) := by decide +kernel
theorem dX8_wordHere_61 : decode cX8_wordHere 61 = .ok (.aload_n 0, 1) := by decide +kernel
theorem dX8_wordHere_62 : decode cX8_wordHere 62 = .ok (.getfield 55, 3) := by decide +kernel
theorem dX8_wordHere_65 : decode cX8_wordHere 65 = .ok (.invokevirtual 133, 3) := by decide +kernel
theorem dX8_wordHere_68 : decode cX8_wordHere 68 = .ok (.ifCond .eq 7, 3) := by decide +kernel
theorem dX8_wordHere_71 : decode cX8_wordHere 71 = .ok (.iconst 4, 1) := by decide +kernel
theorem dX8_wordHere_72 : decode cX8_wordHere 72 = .ok (.goto 19, 3) := by decide +kernel
theorem dX8_wordHere_75 : decode cX8_wordHere 75 = .ok (.aload_n 0, 1) := by decide +kernel
theorem dX8_wordHere_76 : decode cX8_wordHere 76 = .ok (.aload_n 0, 1) := by decide +kernel
theorem dX8_wordHere_77 : decode cX8_wordHere 77 = .ok (.getfield 58, 3) := by decide +kernel
theorem dX8_wordHere_80 : decode cX8_wordHere 80 = .ok (.invokevirtual 133, 3) := by decide +kernel
theorem dX8_wordHere_83 : decode cX8_wordHere 83 = .ok (.ifCond .eq 7, 3) := by decide +kernel
theorem dX8_wordHere_86 : decode cX8_wordHere 86 = .ok (.iconst 5, 1) := by decide +kernel
theorem dX8_wordHere_87 : decode cX8_wordHere 87 = .ok (.goto 4, 3) := by decide +kernel
theorem dX8_wordHere_90 : decode cX8_wordHere 90 = .ok (.iconst (-1), 1) := by decide +kernel
theorem dX8_wordHere_91 : decode cX8_wordHere 91 = .ok (.ireturn, 1) := by decide +kernel
theorem dX8_readsNumbers_0 : decode cX8_readsNumbers 0 = .ok (.iload_n 1, 1) := by decide +kernel
theorem dX8_readsNumbers_1 : decode cX8_readsNumbers 1 = .ok (.tableswitch 129 0 5 #[39, 48, 129, 129, 110, 119], 39) := by decide +kernel
theorem dX8_readsNumbers_40 : decode cX8_readsNumbers 40 = .ok (.aload_n 0, 1) := by decide +kernel
theorem dX8_readsNumbers_41 : decode cX8_readsNumbers 41 = .ok (.iconst 0, 1) := by decide +kernel
theorem dX8_readsNumbers_42 : decode cX8_readsNumbers 42 = .ok (.iconst 2, 1) := by decide +kernel
theorem dX8_readsNumbers_43 : decode cX8_readsNumbers 43 = .ok (.bipush 8, 2) := by decide +kernel
theorem dX8_readsNumbers_45 : decode cX8_readsNumbers 45 = .ok (.invokevirtual 137, 3) := by decide +kernel
theorem dX8_readsNumbers_48 : decode cX8_readsNumbers 48 = .ok (.ireturn, 1) := by decide +kernel
theorem dX8_readsNumbers_49 : decode cX8_readsNumbers 49 = .ok (.aload_n 0, 1) := by decide +kernel
theorem dX8_readsNumbers_50 : decode cX8_readsNumbers 50 = .ok (.iconst 0, 1) := by decide +kernel
theorem dX8_readsNumbers_51 : decode cX8_readsNumbers 51 = .ok (.iconst 0, 1) := by decide +kernel
theorem dX8_readsNumbers_52 : decode cX8_readsNumbers 52 = .ok (.aload_n 0, 1) := by decide +kernel
theorem dX8_readsNumbers_53 : decode cX8_readsNumbers 53 = .ok (.getfield 141, 3) := by decide +kernel
theorem dX8_readsNumbers_56 : decode cX8_readsNumbers 56 = .ok (.iconst 1, 1) := by decide +kernel
theorem dX8_readsNumbers_57 : decode cX8_readsNumbers 57 = .ok (.isub, 1) := by decide +kernel
theorem dX8_readsNumbers_58 : decode cX8_readsNumbers 58 = .ok (.invokevirtual 137, 3) := by decide +kernel
theorem dX8_readsNumbers_61 : decode cX8_readsNumbers 61 = .ok (.ifCond .eq 48, 3) := by decide +kernel
theorem dX8_readsNumbers_64 : decode cX8_readsNumbers 64 = .ok (.aload_n 0, 1) := by decide +kernel
theorem dX8_readsNumbers_65 : decode cX8_readsNumbers 65 = .ok (.iconst 1, 1) := by decide +kernel
theorem dX8_readsNumbers_66 : decode cX8_readsNumbers 66 = .ok (.iconst 0, 1) := by decide +kernel
theorem dX8_readsNumbers_67 : decode cX8_readsNumbers 67 = .ok (.aload_n 0, 1) := by decide +kernel
theorem dX8_readsNumbers_68 : decode cX8_readsNumbers 68 = .ok (.getfield 141, 3) := by decide +kernel
theorem dX8_readsNumbers_71 : decode cX8_readsNumbers 71 = .ok (.iconst 1, 1) := by decide +kernel
theorem dX8_readsNumbers_72 : decode cX8_readsNumbers 72 = .ok (.isub, 1) := by decide +kernel
theorem dX8_readsNumbers_73 : decode cX8_readsNumbers 73 = .ok (.invokevirtual 137, 3) := by decide +kernel
theorem dX8_readsNumbers_76 : decode cX8_readsNumbers 76 = .ok (.ifCond .eq 33, 3) := by decide +kernel
theorem dX8_readsNumbers_79 : decode cX8_readsNumbers 79 = .ok (.aload_n 0, 1) := by decide +kernel
theorem dX8_readsNumbers_80 : decode cX8_readsNumbers 80 = .ok (.iconst 2, 1) := by decide +kernel
theorem dX8_readsNumbers_81 : decode cX8_readsNumbers 81 = .ok (.iconst 0, 1) := by decide +kernel
theorem dX8_readsNumbers_82 : decode cX8_readsNumbers 82 = .ok (.bipush 99, 2) := by decide +kernel
theorem dX8_readsNumbers_84 : decode cX8_readsNumbers 84 = .ok (.invokevirtual 137, 3) := by decide +kernel
theorem dX8_readsNumbers_87 : decode cX8_readsNumbers 87 = .ok (.ifCond .eq 22, 3) := by decide +kernel
theorem dX8_readsNumbers_90 : decode cX8_readsNumbers 90 = .ok (.aload_n 0, 1) := by decide +kernel
theorem dX8_readsNumbers_91 : decode cX8_readsNumbers 91 = .ok (.iconst 3, 1) := by decide +kernel
theorem dX8_readsNumbers_92 : decode cX8_readsNumbers 92 = .ok (.iconst 0, 1) := by decide +kernel
theorem dX8_readsNumbers_93 : decode cX8_readsNumbers 93 = .ok (.aload_n 0, 1) := by decide +kernel
theorem dX8_readsNumbers_94 : decode cX8_readsNumbers 94 = .ok (.getfield 40, 3) := by decide +kernel
theorem dX8_readsNumbers_97 : decode cX8_readsNumbers 97 = .ok (.iconst 2, 1) := by decide +kernel
theorem dX8_readsNumbers_98 : decode cX8_readsNumbers 98 = .ok (.iaload, 1) := by decide +kernel
theorem dX8_readsNumbers_99 : decode cX8_readsNumbers 99 = .ok (.invokevirtual 137, 3) := by decide +kernel
theorem dX8_readsNumbers_102 : decode cX8_readsNumbers 102 = .ok (.ifCond .eq 7, 3) := by decide +kernel
theorem dX8_readsNumbers_105 : decode cX8_readsNumbers 105 = .ok (.iconst 1, 1) := by decide +kernel
theorem dX8_readsNumbers_106 : decode cX8_readsNumbers 106 = .ok (.goto 4, 3) := by decide +kernel
theorem dX8_readsNumbers_109 : decode cX8_readsNumbers 109 = .ok (.iconst 0, 1) := by decide +kernel
theorem dX8_readsNumbers_110 : decode cX8_readsNumbers 110 = .ok (.ireturn, 1) := by decide +kernel
theorem dX8_readsNumbers_111 : decode cX8_readsNumbers 111 = .ok (.aload_n 0, 1) := by decide +kernel
theorem dX8_readsNumbers_112 : decode cX8_readsNumbers 112 = .ok (.iconst 0, 1) := by decide +kernel
theorem dX8_readsNumbers_113 : decode cX8_readsNumbers 113 = .ok (.iconst 1, 1) := by decide +kernel
theorem dX8_readsNumbers_114 : decode cX8_readsNumbers 114 = .ok (.bipush 9, 2) := by decide +kernel
theorem dX8_readsNumbers_116 : decode cX8_readsNumbers 116 = .ok (.invokevirtual 137, 3) := by decide +kernel
theorem dX8_readsNumbers_119 : decode cX8_readsNumbers 119 = .ok (.ireturn, 1) := by decide +kernel
theorem dX8_readsNumbers_120 : decode cX8_readsNumbers 120 = .ok (.aload_n 0, 1) := by decide +kernel
theorem dX8_readsNumbers_121 : decode cX8_readsNumbers 121 = .ok (.iconst 0, 1) := by decide +kernel
theorem dX8_readsNumbers_122 : decode cX8_readsNumbers 122 = .ok (.iconst 0, 1) := by decide +kernel
theorem dX8_readsNumbers_123 : decode cX8_readsNumbers 123 = .ok (.sipush 999, 3) := by decide +kernel
theorem dX8_readsNumbers_126 : decode cX8_readsNumbers 126 = .ok (.invokevirtual 137, 3) := by decide +kernel
theorem dX8_readsNumbers_129 : decode cX8_readsNumbers 129 = .ok (.ireturn, 1) := by decide +kernel
theorem dX8_readsNumbers_130 : decode cX8_readsNumbers 130 = .ok (.aload_n 0, 1) := by decide +kernel
theorem dX8_readsNumbers_131 : decode cX8_readsNumbers 131 = .ok (.iconst 0, 1) := by decide +kernel
theorem dX8_readsNumbers_132 : decode cX8_readsNumbers 132 = .ok (.iconst 0, 1) := by decide +kernel
theorem dX8_readsNumbers_133 : decode cX8_readsNumbers 133 = .ok (.bipush 9, 2) := by decide +kernel
theorem dX8_readsNumbers_135 : decode cX8_readsNumbers 135 = .ok (.invokevirtual 137, 3) := by decide +kernel
theorem dX8_readsNumbers_138 : decode cX8_readsNumbers 138 = .ok (.ireturn, 1) := by decide +kernel
theorem dX8_does_0 : decode cX8_does 0 = .ok (.iload_n 1, 1) := by decide +kernel
theorem dX8_does_1 : decode cX8_does 1 = .ok (.tableswitch 165 0 4 #[35, 48, 126, 139, 152], 35) := by decide +kernel
theorem dX8_does_36 : decode cX8_does 36 = .ok (.aload_n 0, 1) := by decide +kernel
theorem dX8_does_37 : decode cX8_does 37 = .ok (.aload_n 0, 1) := by decide +kernel
theorem dX8_does_38 : decode cX8_does 38 = .ok (.getfield 40, 3) := by decide +kernel
theorem dX8_does_41 : decode cX8_does 41 = .ok (.iconst 0, 1) := by decide +kernel
theorem dX8_does_42 : decode cX8_does 42 = .ok (.iaload, 1) := by decide +kernel
theorem dX8_does_43 : decode cX8_does 43 = .ok (.invokevirtual 76, 3) := by decide +kernel
theorem dX8_does_46 : decode cX8_does 46 = .ok (.goto 132, 3) := by decide +kernel
theorem dX8_does_49 : decode cX8_does 49 = .ok (.aload_n 0, 1) := by decide +kernel
theorem dX8_does_50 : decode cX8_does 50 = .ok (.getfield 13, 3) := by decide +kernel
theorem dX8_does_53 : decode cX8_does 53 = .ok (.aload_n 0, 1) := by decide +kernel
theorem dX8_does_54 : decode cX8_does 54 = .ok (.getfield 88, 3) := by decide +kernel
theorem dX8_does_57 : decode cX8_does 57 = .ok (.aload_n 0, 1) := by decide +kernel
theorem dX8_does_58 : decode cX8_does 58 = .ok (.getfield 40, 3) := by decide +kernel
theorem dX8_does_61 : decode cX8_does 61 = .ok (.iconst 0, 1) := by decide +kernel
theorem dX8_does_62 : decode cX8_does 62 = .ok (.iaload, 1) := by decide +kernel
theorem dX8_does_63 : decode cX8_does 63 = .ok (.iastore, 1) := by decide +kernel
theorem dX8_does_64 : decode cX8_does 64 = .ok (.aload_n 0, 1) := by decide +kernel
theorem dX8_does_65 : decode cX8_does 65 = .ok (.getfield 16, 3) := by decide +kernel
theorem dX8_does_68 : decode cX8_does 68 = .ok (.aload_n 0, 1) := by decide +kernel
theorem dX8_does_69 : decode cX8_does 69 = .ok (.getfield 88, 3) := by decide +kernel
theorem dX8_does_72 : decode cX8_does 72 = .ok (.aload_n 0, 1) := by decide +kernel
theorem dX8_does_73 : decode cX8_does 73 = .ok (.getfield 40, 3) := by decide +kernel
theorem dX8_does_76 : decode cX8_does 76 = .ok (.iconst 1, 1) := by decide +kernel
theorem dX8_does_77 : decode cX8_does 77 = .ok (.iaload, 1) := by decide +kernel
theorem dX8_does_78 : decode cX8_does 78 = .ok (.iastore, 1) := by decide +kernel
theorem dX8_does_79 : decode cX8_does 79 = .ok (.aload_n 0, 1) := by decide +kernel
theorem dX8_does_80 : decode cX8_does 80 = .ok (.getfield 7, 3) := by decide +kernel
theorem dX8_does_83 : decode cX8_does 83 = .ok (.iconst 1, 1) := by decide +kernel
theorem dX8_does_84 : decode cX8_does 84 = .ok (.aload_n 0, 1) := by decide +kernel
theorem dX8_does_85 : decode cX8_does 85 = .ok (.getfield 88, 3) := by decide +kernel
theorem dX8_does_88 : decode cX8_does 88 = .ok (.iadd, 1) := by decide +kernel
theorem dX8_does_89 : decode cX8_does 89 = .ok (.aload_n 0, 1) := by decide +kernel
theorem dX8_does_90 : decode cX8_does 90 = .ok (.getfield 40, 3) := by decide +kernel
theorem dX8_does_93 : decode cX8_does 93 = .ok (.iconst 2, 1) := by decide +kernel
theorem dX8_does_94 : decode cX8_does 94 = .ok (.iaload, 1) := by decide +kernel
theorem dX8_does_95 : decode cX8_does 95 = .ok (.iastore, 1) := by decide +kernel
theorem dX8_does_96 : decode cX8_does 96 = .ok (.aload_n 0, 1) := by decide +kernel
theorem dX8_does_97 : decode cX8_does 97 = .ok (.getfield 7, 3) := by decide +kernel
theorem dX8_does_100 : decode cX8_does 100 = .ok (.bipush 17, 2) := by decide +kernel
theorem dX8_does_102 : decode cX8_does 102 = .ok (.aload_n 0, 1) := by decide +kernel
theorem dX8_does_103 : decode cX8_does 103 = .ok (.getfield 88, 3) := by decide +kernel
theorem dX8_does_106 : decode cX8_does 106 = .ok (.iadd, 1) := by decide +kernel
theorem dX8_does_107 : decode cX8_does 107 = .ok (.aload_n 0, 1) := by decide +kernel
theorem dX8_does_108 : decode cX8_does 108 = .ok (.getfield 40, 3) := by decide +kernel
theorem dX8_does_111 : decode cX8_does 111 = .ok (.iconst 3, 1) := by decide +kernel
theorem dX8_does_112 : decode cX8_does 112 = .ok (.iaload, 1) := by decide +kernel
theorem dX8_does_113 : decode cX8_does 113 = .ok (.iastore, 1) := by decide +kernel
theorem dX8_does_114 : decode cX8_does 114 = .ok (.aload_n 0, 1) := by decide +kernel
theorem dX8_does_115 : decode cX8_does 115 = .ok (.dup, 1) := by decide +kernel
theorem dX8_does_116 : decode cX8_does 116 = .ok (.getfield 88, 3) := by decide +kernel
theorem dX8_does_119 : decode cX8_does 119 = .ok (.iconst 1, 1) := by decide +kernel
theorem dX8_does_120 : decode cX8_does 120 = .ok (.iadd, 1) := by decide +kernel
theorem dX8_does_121 : decode cX8_does 121 = .ok (.putfield 88, 3) := by decide +kernel
theorem dX8_does_124 : decode cX8_does 124 = .ok (.goto 54, 3) := by decide +kernel
theorem dX8_does_127 : decode cX8_does 127 = .ok (.aload_n 0, 1) := by decide +kernel
theorem dX8_does_128 : decode cX8_does 128 = .ok (.aload_n 0, 1) := by decide +kernel
theorem dX8_does_129 : decode cX8_does 129 = .ok (.getfield 40, 3) := by decide +kernel
theorem dX8_does_132 : decode cX8_does 132 = .ok (.iconst 0, 1) := by decide +kernel
theorem dX8_does_133 : decode cX8_does 133 = .ok (.iaload, 1) := by decide +kernel
theorem dX8_does_134 : decode cX8_does 134 = .ok (.putfield 91, 3) := by decide +kernel
theorem dX8_does_137 : decode cX8_does 137 = .ok (.goto 41, 3) := by decide +kernel
theorem dX8_does_140 : decode cX8_does 140 = .ok (.aload_n 0, 1) := by decide +kernel
theorem dX8_does_141 : decode cX8_does 141 = .ok (.aload_n 0, 1) := by decide +kernel
theorem dX8_does_142 : decode cX8_does 142 = .ok (.getfield 40, 3) := by decide +kernel
theorem dX8_does_145 : decode cX8_does 145 = .ok (.iconst 0, 1) := by decide +kernel
theorem dX8_does_146 : decode cX8_does 146 = .ok (.iaload, 1) := by decide +kernel
theorem dX8_does_147 : decode cX8_does 147 = .ok (.putfield 94, 3) := by decide +kernel
theorem dX8_does_150 : decode cX8_does 150 = .ok (.goto 28, 3) := by decide +kernel
theorem dX8_does_153 : decode cX8_does 153 = .ok (.aload_n 0, 1) := by decide +kernel
theorem dX8_does_154 : decode cX8_does 154 = .ok (.aload_n 0, 1) := by decide +kernel
theorem dX8_does_155 : decode cX8_does 155 = .ok (.getfield 40, 3) := by decide +kernel
theorem dX8_does_158 : decode cX8_does 158 = .ok (.iconst 0, 1) := by decide +kernel
theorem dX8_does_159 : decode cX8_does 159 = .ok (.iaload, 1) := by decide +kernel
theorem dX8_does_160 : decode cX8_does 160 = .ok (.putfield 97, 3) := by decide +kernel
theorem dX8_does_163 : decode cX8_does 163 = .ok (.goto 15, 3) := by decide +kernel
theorem dX8_does_166 : decode cX8_does 166 = .ok (.aload_n 0, 1) := by decide +kernel
theorem dX8_does_167 : decode cX8_does 167 = .ok (.getfield 7, 3) := by decide +kernel
theorem dX8_does_170 : decode cX8_does 170 = .ok (.iconst 0, 1) := by decide +kernel
theorem dX8_does_171 : decode cX8_does 171 = .ok (.aload_n 0, 1) := by decide +kernel
theorem dX8_does_172 : decode cX8_does 172 = .ok (.getfield 40, 3) := by decide +kernel
theorem dX8_does_175 : decode cX8_does 175 = .ok (.iconst 0, 1) := by decide +kernel
theorem dX8_does_176 : decode cX8_does 176 = .ok (.iaload, 1) := by decide +kernel
theorem dX8_does_177 : decode cX8_does 177 = .ok (.iastore, 1) := by decide +kernel
theorem dX8_does_178 : decode cX8_does 178 = .ok (.return_, 1) := by decide +kernel
theorem dX8_readsClause_0 : decode cX8_readsClause 0 = .ok (.aload_n 0, 1) := by decide +kernel
theorem dX8_readsClause_1 : decode cX8_readsClause 1 = .ok (.invokevirtual 144, 3) := by decide +kernel
theorem dX8_readsClause_4 : decode cX8_readsClause 4 = .ok (.istore_n 1, 1) := by decide +kernel
theorem dX8_readsClause_5 : decode cX8_readsClause 5 = .ok (.iload_n 1, 1) := by decide +kernel
theorem dX8_readsClause_6 : decode cX8_readsClause 6 = .ok (.iconst (-1), 1) := by decide +kernel
theorem dX8_readsClause_7 : decode cX8_readsClause 7 = .ok (.if_icmp .eq 17, 3) := by decide +kernel
theorem dX8_readsClause_10 : decode cX8_readsClause 10 = .ok (.iload_n 1, 1) := by decide +kernel
theorem dX8_readsClause_11 : decode cX8_readsClause 11 = .ok (.iconst 1, 1) := by decide +kernel
theorem dX8_readsClause_12 : decode cX8_readsClause 12 = .ok (.if_icmp .ne 14, 3) := by decide +kernel
theorem dX8_readsClause_15 : decode cX8_readsClause 15 = .ok (.aload_n 0, 1) := by decide +kernel
theorem dX8_readsClause_16 : decode cX8_readsClause 16 = .ok (.getfield 148, 3) := by decide +kernel
theorem dX8_readsClause_19 : decode cX8_readsClause 19 = .ok (.bipush 16, 2) := by decide +kernel
theorem dX8_readsClause_21 : decode cX8_readsClause 21 = .ok (.if_icmp .ne 5, 3) := by decide +kernel
theorem dX8_readsClause_24 : decode cX8_readsClause 24 = .ok (.iconst 0, 1) := by decide +kernel
theorem dX8_readsClause_25 : decode cX8_readsClause 25 = .ok (.ireturn, 1) := by decide +kernel
theorem dX8_readsClause_26 : decode cX8_readsClause 26 = .ok (.aload_n 0, 1) := by decide +kernel
theorem dX8_readsClause_27 : decode cX8_readsClause 27 = .ok (.invokevirtual 130, 3) := by decide +kernel
theorem dX8_readsClause_30 : decode cX8_readsClause 30 = .ok (.aload_n 0, 1) := by decide +kernel
theorem dX8_readsClause_31 : decode cX8_readsClause 31 = .ok (.iload_n 1, 1) := by decide +kernel
theorem dX8_readsClause_32 : decode cX8_readsClause 32 = .ok (.invokevirtual 151, 3) := by decide +kernel
theorem dX8_readsClause_35 : decode cX8_readsClause 35 = .ok (.ifCond .ne 5, 3) := by decide +kernel
theorem dX8_readsClause_38 : decode cX8_readsClause 38 = .ok (.iconst 0, 1) := by decide +kernel
theorem dX8_readsClause_39 : decode cX8_readsClause 39 = .ok (.ireturn, 1) := by decide +kernel
theorem dX8_readsClause_40 : decode cX8_readsClause 40 = .ok (.aload_n 0, 1) := by decide +kernel
theorem dX8_readsClause_41 : decode cX8_readsClause 41 = .ok (.iload_n 1, 1) := by decide +kernel
theorem dX8_readsClause_42 : decode cX8_readsClause 42 = .ok (.ifCond .ne 12, 3) := by decide +kernel
theorem dX8_readsClause_45 : decode cX8_readsClause 45 = .ok (.aload_n 0, 1) := by decide +kernel
theorem dX8_readsClause_46 : decode cX8_readsClause 46 = .ok (.getfield 40, 3) := by decide +kernel
theorem dX8_readsClause_49 : decode cX8_readsClause 49 = .ok (.iconst 0, 1) := by decide +kernel
theorem dX8_readsClause_50 : decode cX8_readsClause 50 = .ok (.iaload, 1) := by decide +kernel
theorem dX8_readsClause_51 : decode cX8_readsClause 51 = .ok (.goto 7, 3) := by decide +kernel
theorem dX8_readsClause_54 : decode cX8_readsClause 54 = .ok (.aload_n 0, 1) := by decide +kernel
theorem dX8_readsClause_55 : decode cX8_readsClause 55 = .ok (.getfield 141, 3) := by decide +kernel
theorem dX8_readsClause_58 : decode cX8_readsClause 58 = .ok (.putfield 141, 3) := by decide +kernel
theorem dX8_readsClause_61 : decode cX8_readsClause 61 = .ok (.aload_n 0, 1) := by decide +kernel
theorem dX8_readsClause_62 : decode cX8_readsClause 62 = .ok (.iload_n 1, 1) := by decide +kernel
theorem dX8_readsClause_63 : decode cX8_readsClause 63 = .ok (.ifCond .ne 7, 3) := by decide +kernel
theorem dX8_readsClause_66 : decode cX8_readsClause 66 = .ok (.iconst 0, 1) := by decide +kernel
theorem dX8_readsClause_67 : decode cX8_readsClause 67 = .ok (.goto 21, 3) := by decide +kernel
theorem dX8_readsClause_70 : decode cX8_readsClause 70 = .ok (.iload_n 1, 1) := by decide +kernel
theorem dX8_readsClause_71 : decode cX8_readsClause 71 = .ok (.iconst 1, 1) := by decide +kernel
theorem dX8_readsClause_72 : decode cX8_readsClause 72 = .ok (.if_icmp .ne 12, 3) := by decide +kernel
theorem dX8_readsClause_75 : decode cX8_readsClause 75 = .ok (.aload_n 0, 1) := by decide +kernel
theorem dX8_readsClause_76 : decode cX8_readsClause 76 = .ok (.getfield 148, 3) := by decide +kernel
theorem dX8_readsClause_79 : decode cX8_readsClause 79 = .ok (.iconst 1, 1) := by decide +kernel
theorem dX8_readsClause_80 : decode cX8_readsClause 80 = .ok (.iadd, 1) := by decide +kernel
theorem dX8_readsClause_81 : decode cX8_readsClause 81 = .ok (.goto 7, 3) := by decide +kernel
theorem dX8_readsClause_84 : decode cX8_readsClause 84 = .ok (.aload_n 0, 1) := by decide +kernel
theorem dX8_readsClause_85 : decode cX8_readsClause 85 = .ok (.getfield 148, 3) := by decide +kernel
theorem dX8_readsClause_88 : decode cX8_readsClause 88 = .ok (.putfield 148, 3) := by decide +kernel
theorem dX8_readsClause_91 : decode cX8_readsClause 91 = .ok (.aload_n 0, 1) := by decide +kernel
theorem dX8_readsClause_92 : decode cX8_readsClause 92 = .ok (.getfield 154, 3) := by decide +kernel
theorem dX8_readsClause_95 : decode cX8_readsClause 95 = .ok (.ifCond .eq 8, 3) := by decide +kernel
theorem dX8_readsClause_98 : decode cX8_readsClause 98 = .ok (.aload_n 0, 1) := by decide +kernel
theorem dX8_readsClause_99 : decode cX8_readsClause 99 = .ok (.iload_n 1, 1) := by decide +kernel
theorem dX8_readsClause_100 : decode cX8_readsClause 100 = .ok (.invokevirtual 158, 3) := by decide +kernel
theorem dX8_readsClause_103 : decode cX8_readsClause 103 = .ok (.iconst 1, 1) := by decide +kernel
theorem dX8_readsClause_104 : decode cX8_readsClause 104 = .ok (.ireturn, 1) := by decide +kernel
theorem dX8_reads_0 : decode cX8_reads 0 = .ok (.aload_n 0, 1) := by decide +kernel
theorem dX8_reads_1 : decode cX8_reads 1 = .ok (.iload_n 1, 1) := by decide +kernel
theorem dX8_reads_2 : decode cX8_reads 2 = .ok (.putfield 154, 3) := by decide +kernel
theorem dX8_reads_5 : decode cX8_reads 5 = .ok (.aload_n 0, 1) := by decide +kernel
theorem dX8_reads_6 : decode cX8_reads 6 = .ok (.iconst 0, 1) := by decide +kernel
theorem dX8_reads_7 : decode cX8_reads 7 = .ok (.putfield 117, 3) := by decide +kernel
theorem dX8_reads_10 : decode cX8_reads 10 = .ok (.aload_n 0, 1) := by decide +kernel
theorem dX8_reads_11 : decode cX8_reads 11 = .ok (.iconst 1, 1) := by decide +kernel
theorem dX8_reads_12 : decode cX8_reads 12 = .ok (.putfield 161, 3) := by decide +kernel
theorem dX8_reads_15 : decode cX8_reads 15 = .ok (.aload_n 0, 1) := by decide +kernel
theorem dX8_reads_16 : decode cX8_reads 16 = .ok (.aload_n 0, 1) := by decide +kernel
theorem dX8_reads_17 : decode cX8_reads 17 = .ok (.getfield 84, 3) := by decide +kernel
theorem dX8_reads_20 : decode cX8_reads 20 = .ok (.putfield 141, 3) := by decide +kernel
theorem dX8_reads_23 : decode cX8_reads 23 = .ok (.aload_n 0, 1) := by decide +kernel
theorem dX8_reads_24 : decode cX8_reads 24 = .ok (.aload_n 0, 1) := by decide +kernel
theorem dX8_reads_25 : decode cX8_reads 25 = .ok (.getfield 88, 3) := by decide +kernel
theorem dX8_reads_28 : decode cX8_reads 28 = .ok (.putfield 148, 3) := by decide +kernel
theorem dX8_reads_31 : decode cX8_reads 31 = .ok (.aload_n 0, 1) := by decide +kernel
theorem dX8_reads_32 : decode cX8_reads 32 = .ok (.invokevirtual 130, 3) := by decide +kernel
theorem dX8_reads_35 : decode cX8_reads 35 = .ok (.aload_n 0, 1) := by decide +kernel
theorem dX8_reads_36 : decode cX8_reads 36 = .ok (.invokevirtual 164, 3) := by decide +kernel
theorem dX8_reads_39 : decode cX8_reads 39 = .ok (.istore_n 2, 1) := by decide +kernel
theorem dX8_reads_40 : decode cX8_reads 40 = .ok (.iload_n 2, 1) := by decide +kernel
theorem dX8_reads_41 : decode cX8_reads 41 = .ok (.ifCond .eq 69, 3) := by decide +kernel
theorem dX8_reads_44 : decode cX8_reads 44 = .ok (.aload_n 0, 1) := by decide +kernel
theorem dX8_reads_45 : decode cX8_reads 45 = .ok (.getfield 120, 3) := by decide +kernel
theorem dX8_reads_48 : decode cX8_reads 48 = .ok (.aload_n 0, 1) := by decide +kernel
theorem dX8_reads_49 : decode cX8_reads 49 = .ok (.getfield 106, 3) := by decide +kernel
theorem dX8_reads_52 : decode cX8_reads 52 = .ok (.if_icmp .ge 58, 3) := by decide +kernel
theorem dX8_reads_55 : decode cX8_reads 55 = .ok (.aload_n 0, 1) := by decide +kernel
theorem dX8_reads_56 : decode cX8_reads 56 = .ok (.getfield 161, 3) := by decide +kernel
theorem dX8_reads_59 : decode cX8_reads 59 = .ok (.bipush 24, 2) := by decide +kernel
theorem dX8_reads_61 : decode cX8_reads 61 = .ok (.if_icmp .ge 21, 3) := by decide +kernel
theorem dX8_reads_64 : decode cX8_reads 64 = .ok (.aload_n 0, 1) := by decide +kernel
theorem dX8_reads_65 : decode cX8_reads 65 = .ok (.getfield 23, 3) := by decide +kernel
theorem dX8_reads_68 : decode cX8_reads 68 = .ok (.aload_n 0, 1) := by decide +kernel
theorem dX8_reads_69 : decode cX8_reads 69 = .ok (.getfield 120, 3) := by decide +kernel
theorem dX8_reads_72 : decode cX8_reads 72 = .ok (.iaload, 1) := by decide +kernel
theorem dX8_reads_73 : decode cX8_reads 73 = .ok (.bipush 59, 2) := by decide +kernel
theorem dX8_reads_75 : decode cX8_reads 75 = .ok (.if_icmp .ne 7, 3) := by decide +kernel
theorem dX8_reads_78 : decode cX8_reads 78 = .ok (.iconst 1, 1) := by decide +kernel
theorem dX8_reads_79 : decode cX8_reads 79 = .ok (.goto 4, 3) := by decide +kernel
theorem dX8_reads_82 : decode cX8_reads 82 = .ok (.iconst 0, 1) := by decide +kernel
theorem dX8_reads_83 : decode cX8_reads 83 = .ok (.istore_n 2, 1) := by decide +kernel
theorem dX8_reads_84 : decode cX8_reads 84 = .ok (.iload_n 2, 1) := by decide +kernel
theorem dX8_reads_85 : decode cX8_reads 85 = .ok (.ifCond .eq (-45), 3) := by decide +kernel
theorem dX8_reads_88 : decode cX8_reads 88 = .ok (.aload_n 0, 1) := by decide +kernel
theorem dX8_reads_89 : decode cX8_reads 89 = .ok (.invokevirtual 130, 3) := by decide +kernel
theorem dX8_reads_92 : decode cX8_reads 92 = .ok (.aload_n 0, 1) := by decide +kernel
theorem dX8_reads_93 : decode cX8_reads 93 = .ok (.invokevirtual 164, 3) := by decide +kernel
theorem dX8_reads_96 : decode cX8_reads 96 = .ok (.istore_n 2, 1) := by decide +kernel
theorem dX8_reads_97 : decode cX8_reads 97 = .ok (.aload_n 0, 1) := by decide +kernel
theorem dX8_reads_98 : decode cX8_reads 98 = .ok (.dup, 1) := by decide +kernel
theorem dX8_reads_99 : decode cX8_reads 99 = .ok (.getfield 161, 3) := by decide +kernel
theorem dX8_reads_102 : decode cX8_reads 102 = .ok (.iconst 1, 1) := by decide +kernel
theorem dX8_reads_103 : decode cX8_reads 103 = .ok (.iadd, 1) := by decide +kernel
theorem dX8_reads_104 : decode cX8_reads 104 = .ok (.putfield 161, 3) := by decide +kernel
theorem dX8_reads_107 : decode cX8_reads 107 = .ok (.goto (-67), 3) := by decide +kernel
theorem dX8_reads_110 : decode cX8_reads 110 = .ok (.iload_n 2, 1) := by decide +kernel
theorem dX8_reads_111 : decode cX8_reads 111 = .ok (.ireturn, 1) := by decide +kernel
theorem dX8_fault_0 : decode cX8_fault 0 = .ok (.aload_n 0, 1) := by decide +kernel
theorem dX8_fault_1 : decode cX8_fault 1 = .ok (.iconst 0, 1) := by decide +kernel
theorem dX8_fault_2 : decode cX8_fault 2 = .ok (.invokevirtual 168, 3) := by decide +kernel
theorem dX8_fault_5 : decode cX8_fault 5 = .ok (.ifCond .eq 7, 3) := by decide +kernel
theorem dX8_fault_8 : decode cX8_fault 8 = .ok (.iconst (-1), 1) := by decide +kernel
theorem dX8_fault_9 : decode cX8_fault 9 = .ok (.goto 7, 3) := by decide +kernel
theorem dX8_fault_12 : decode cX8_fault 12 = .ok (.aload_n 0, 1) := by decide +kernel
theorem dX8_fault_13 : decode cX8_fault 13 = .ok (.getfield 120, 3) := by decide +kernel
theorem dX8_fault_16 : decode cX8_fault 16 = .ok (.ireturn, 1) := by decide +kernel
theorem dX8_net_0 : decode cX8_net 0 = .ok (.aload_n 0, 1) := by decide +kernel
theorem dX8_net_1 : decode cX8_net 1 = .ok (.iconst 0, 1) := by decide +kernel
theorem dX8_net_2 : decode cX8_net 2 = .ok (.invokevirtual 168, 3) := by decide +kernel
theorem dX8_net_5 : decode cX8_net 5 = .ok (.ifCond .ne 6, 3) := by decide +kernel
theorem dX8_net_8 : decode cX8_net 8 = .ok (.bipush (-4), 2) := by decide +kernel
theorem dX8_net_10 : decode cX8_net 10 = .ok (.ireturn, 1) := by decide +kernel
theorem dX8_net_11 : decode cX8_net 11 = .ok (.aload_n 0, 1) := by decide +kernel
theorem dX8_net_12 : decode cX8_net 12 = .ok (.sipush 363, 3) := by decide +kernel
theorem dX8_net_15 : decode cX8_net 15 = .ok (.iconst 0, 1) := by decide +kernel
theorem dX8_net_16 : decode cX8_net 16 = .ok (.invokevirtual 80, 3) := by decide +kernel
theorem dX8_net_19 : decode cX8_net 19 = .ok (.aload_n 0, 1) := by decide +kernel
theorem dX8_net_20 : decode cX8_net 20 = .ok (.iconst 1, 1) := by decide +kernel
theorem dX8_net_21 : decode cX8_net 21 = .ok (.invokevirtual 168, 3) := by decide +kernel
theorem dX8_net_24 : decode cX8_net 24 = .ok (.pop, 1) := by decide +kernel
theorem dX8_net_25 : decode cX8_net 25 = .ok (.aload_n 0, 1) := by decide +kernel
theorem dX8_net_26 : decode cX8_net 26 = .ok (.iconst 0, 1) := by decide +kernel
theorem dX8_net_27 : decode cX8_net 27 = .ok (.sipush 363, 3) := by decide +kernel
theorem dX8_net_30 : decode cX8_net 30 = .ok (.invokevirtual 80, 3) := by decide +kernel
theorem dX8_net_33 : decode cX8_net 33 = .ok (.aload_n 0, 1) := by decide +kernel
theorem dX8_net_34 : decode cX8_net 34 = .ok (.iconst 0, 1) := by decide +kernel
theorem dX8_net_35 : decode cX8_net 35 = .ok (.putfield 106, 3) := by decide +kernel
theorem dX8_net_38 : decode cX8_net 38 = .ok (.aload_n 0, 1) := by decide +kernel
theorem dX8_net_39 : decode cX8_net 39 = .ok (.iconst 0, 1) := by decide +kernel
theorem dX8_net_40 : decode cX8_net 40 = .ok (.putfield 172, 3) := by decide +kernel
theorem dX8_net_43 : decode cX8_net 43 = .ok (.aload_n 0, 1) := by decide +kernel
theorem dX8_net_44 : decode cX8_net 44 = .ok (.getfield 19, 3) := by decide +kernel
theorem dX8_net_47 : decode cX8_net 47 = .ok (.iconst 0, 1) := by decide +kernel
theorem dX8_net_48 : decode cX8_net 48 = .ok (.iconst 0, 1) := by decide +kernel
theorem dX8_net_49 : decode cX8_net 49 = .ok (.bastore, 1) := by decide +kernel
theorem dX8_net_50 : decode cX8_net 50 = .ok (.aload_n 0, 1) := by decide +kernel
theorem dX8_net_51 : decode cX8_net 51 = .ok (.getfield 19, 3) := by decide +kernel
theorem dX8_net_54 : decode cX8_net 54 = .ok (.iconst 1, 1) := by decide +kernel
theorem dX8_net_55 : decode cX8_net 55 = .ok (.iconst 0, 1) := by decide +kernel
theorem dX8_net_56 : decode cX8_net 56 = .ok (.bastore, 1) := by decide +kernel
theorem dX8_net_57 : decode cX8_net 57 = .ok (.iconst 0, 1) := by decide +kernel
theorem dX8_net_58 : decode cX8_net 58 = .ok (.istore_n 1, 1) := by decide +kernel
theorem dX8_net_59 : decode cX8_net 59 = .ok (.iload_n 1, 1) := by decide +kernel
theorem dX8_net_60 : decode cX8_net 60 = .ok (.iconst 3, 1) := by decide +kernel
theorem dX8_net_61 : decode cX8_net 61 = .ok (.if_icmp .ge 16, 3) := by decide +kernel
theorem dX8_net_64 : decode cX8_net 64 = .ok (.aload_n 0, 1) := by decide +kernel
theorem dX8_net_65 : decode cX8_net 65 = .ok (.getfield 29, 3) := by decide +kernel
theorem dX8_net_68 : decode cX8_net 68 = .ok (.iload_n 1, 1) := by decide +kernel
theorem dX8_net_69 : decode cX8_net 69 = .ok (.iconst (-1), 1) := by decide +kernel
theorem dX8_net_70 : decode cX8_net 70 = .ok (.iastore, 1) := by decide +kernel
theorem dX8_net_71 : decode cX8_net 71 = .ok (.iinc 1 1, 3) := by decide +kernel
theorem dX8_net_74 : decode cX8_net 74 = .ok (.goto (-15), 3) := by decide +kernel
theorem dX8_net_77 : decode cX8_net 77 = .ok (.aload_n 0, 1) := by decide +kernel
theorem dX8_net_78 : decode cX8_net 78 = .ok (.getfield 161, 3) := by decide +kernel
theorem dX8_net_81 : decode cX8_net 81 = .ok (.ireturn, 1) := by decide +kernel
theorem dX8_isPath_0 : decode cX8_isPath 0 = .ok (.iload_n 1, 1) := by decide +kernel
theorem dX8_isPath_1 : decode cX8_isPath 1 = .ok (.i2l, 1) := by decide +kernel
theorem dX8_isPath_2 : decode cX8_isPath 2 = .ok (.lconst 0, 1) := by decide +kernel
theorem dX8_isPath_3 : decode cX8_isPath 3 = .ok (.aload_n 0, 1) := by decide +kernel
theorem dX8_isPath_4 : decode cX8_isPath 4 = .ok (.getfield 88, 3) := by decide +kernel
theorem dX8_isPath_7 : decode cX8_isPath 7 = .ok (.iconst 1, 1) := by decide +kernel
theorem dX8_isPath_8 : decode cX8_isPath 8 = .ok (.isub, 1) := by decide +kernel
theorem dX8_isPath_9 : decode cX8_isPath 9 = .ok (.i2l, 1) := by decide +kernel
theorem dX8_isPath_10 : decode cX8_isPath 10 = .ok (.invokestatic 102, 3) := by decide +kernel
theorem dX8_isPath_13 : decode cX8_isPath 13 = .ok (.ireturn, 1) := by decide +kernel
theorem dX8_isRegister_0 : decode cX8_isRegister 0 = .ok (.iload_n 1, 1) := by decide +kernel
theorem dX8_isRegister_1 : decode cX8_isRegister 1 = .ok (.i2l, 1) := by decide +kernel
theorem dX8_isRegister_2 : decode cX8_isRegister 2 = .ok (.lconst 0, 1) := by decide +kernel
theorem dX8_isRegister_3 : decode cX8_isRegister 3 = .ok (.aload_n 0, 1) := by decide +kernel
theorem dX8_isRegister_4 : decode cX8_isRegister 4 = .ok (.getfield 84, 3) := by decide +kernel
theorem dX8_isRegister_7 : decode cX8_isRegister 7 = .ok (.iconst 1, 1) := by decide +kernel
theorem dX8_isRegister_8 : decode cX8_isRegister 8 = .ok (.isub, 1) := by decide +kernel
theorem dX8_isRegister_9 : decode cX8_isRegister 9 = .ok (.i2l, 1) := by decide +kernel
theorem dX8_isRegister_10 : decode cX8_isRegister 10 = .ok (.invokestatic 102, 3) := by decide +kernel
theorem dX8_isRegister_13 : decode cX8_isRegister 13 = .ok (.ireturn, 1) := by decide +kernel
theorem dX8_lateOf_0 : decode cX8_lateOf 0 = .ok (.iload_n 2, 1) := by decide +kernel
theorem dX8_lateOf_1 : decode cX8_lateOf 1 = .ok (.aload_n 0, 1) := by decide +kernel
theorem dX8_lateOf_2 : decode cX8_lateOf 2 = .ok (.getfield 7, 3) := by decide +kernel
theorem dX8_lateOf_5 : decode cX8_lateOf 5 = .ok (.iconst 1, 1) := by decide +kernel
theorem dX8_lateOf_6 : decode cX8_lateOf 6 = .ok (.iload_n 1, 1) := by decide +kernel
theorem dX8_lateOf_7 : decode cX8_lateOf 7 = .ok (.iadd, 1) := by decide +kernel
theorem dX8_lateOf_8 : decode cX8_lateOf 8 = .ok (.iaload, 1) := by decide +kernel
theorem dX8_lateOf_9 : decode cX8_lateOf 9 = .ok (.isub, 1) := by decide +kernel
theorem dX8_lateOf_10 : decode cX8_lateOf 10 = .ok (.aload_n 0, 1) := by decide +kernel
theorem dX8_lateOf_11 : decode cX8_lateOf 11 = .ok (.getfield 91, 3) := by decide +kernel
theorem dX8_lateOf_14 : decode cX8_lateOf 14 = .ok (.isub, 1) := by decide +kernel
theorem dX8_lateOf_15 : decode cX8_lateOf 15 = .ok (.ireturn, 1) := by decide +kernel
theorem dX8_soonOf_0 : decode cX8_soonOf 0 = .ok (.aload_n 0, 1) := by decide +kernel
theorem dX8_soonOf_1 : decode cX8_soonOf 1 = .ok (.getfield 7, 3) := by decide +kernel
theorem dX8_soonOf_4 : decode cX8_soonOf 4 = .ok (.bipush 17, 2) := by decide +kernel
theorem dX8_soonOf_6 : decode cX8_soonOf 6 = .ok (.iload_n 1, 1) := by decide +kernel
theorem dX8_soonOf_7 : decode cX8_soonOf 7 = .ok (.iadd, 1) := by decide +kernel
theorem dX8_soonOf_8 : decode cX8_soonOf 8 = .ok (.iaload, 1) := by decide +kernel
theorem dX8_soonOf_9 : decode cX8_soonOf 9 = .ok (.aload_n 0, 1) := by decide +kernel
theorem dX8_soonOf_10 : decode cX8_soonOf 10 = .ok (.getfield 94, 3) := by decide +kernel
theorem dX8_soonOf_13 : decode cX8_soonOf 13 = .ok (.isub, 1) := by decide +kernel
theorem dX8_soonOf_14 : decode cX8_soonOf 14 = .ok (.ireturn, 1) := by decide +kernel
theorem dX8_path_0 : decode cX8_path 0 = .ok (.aload_n 0, 1) := by decide +kernel
theorem dX8_path_1 : decode cX8_path 1 = .ok (.iload_n 1, 1) := by decide +kernel
theorem dX8_path_2 : decode cX8_path 2 = .ok (.invokevirtual 175, 3) := by decide +kernel
theorem dX8_path_5 : decode cX8_path 5 = .ok (.ifCond .ne 6, 3) := by decide +kernel
theorem dX8_path_8 : decode cX8_path 8 = .ok (.bipush (-2), 2) := by decide +kernel
theorem dX8_path_10 : decode cX8_path 10 = .ok (.ireturn, 1) := by decide +kernel
theorem dX8_path_11 : decode cX8_path 11 = .ok (.iload_n 2, 1) := by decide +kernel
theorem dX8_path_12 : decode cX8_path 12 = .ok (.tableswitch 99 0 5 #[40, 47, 54, 63, 73, 89], 40) := by decide +kernel
theorem dX8_path_52 : decode cX8_path 52 = .ok (.aload_n 0, 1) := by decide +kernel
theorem dX8_path_53 : decode cX8_path 53 = .ok (.getfield 13, 3) := by decide +kernel
theorem dX8_path_56 : decode cX8_path 56 = .ok (.iload_n 1, 1) := by decide +kernel
theorem dX8_path_57 : decode cX8_path 57 = .ok (.iaload, 1) := by decide +kernel
theorem dX8_path_58 : decode cX8_path 58 = .ok (.ireturn, 1) := by decide +kernel
theorem dX8_path_59 : decode cX8_path 59 = .ok (.aload_n 0, 1) := by decide +kernel
theorem dX8_path_60 : decode cX8_path 60 = .ok (.getfield 16, 3) := by decide +kernel
theorem dX8_path_63 : decode cX8_path 63 = .ok (.iload_n 1, 1) := by decide +kernel
theorem dX8_path_64 : decode cX8_path 64 = .ok (.iaload, 1) := by decide +kernel
theorem dX8_path_65 : decode cX8_path 65 = .ok (.ireturn, 1) := by decide +kernel
theorem dX8_path_66 : decode cX8_path 66 = .ok (.aload_n 0, 1) := by decide +kernel
theorem dX8_path_67 : decode cX8_path 67 = .ok (.getfield 7, 3) := by decide +kernel
theorem dX8_path_70 : decode cX8_path 70 = .ok (.iconst 1, 1) := by decide +kernel
theorem dX8_path_71 : decode cX8_path 71 = .ok (.iload_n 1, 1) := by decide +kernel
theorem dX8_path_72 : decode cX8_path 72 = .ok (.iadd, 1) := by decide +kernel
theorem dX8_path_73 : decode cX8_path 73 = .ok (.iaload, 1) := by decide +kernel
theorem dX8_path_74 : decode cX8_path 74 = .ok (.ireturn, 1) := by decide +kernel
theorem dX8_path_75 : decode cX8_path 75 = .ok (.aload_n 0, 1) := by decide +kernel
theorem dX8_path_76 : decode cX8_path 76 = .ok (.getfield 7, 3) := by decide +kernel
theorem dX8_path_79 : decode cX8_path 79 = .ok (.bipush 17, 2) := by decide +kernel
theorem dX8_path_81 : decode cX8_path 81 = .ok (.iload_n 1, 1) := by decide +kernel
theorem dX8_path_82 : decode cX8_path 82 = .ok (.iadd, 1) := by decide +kernel
theorem dX8_path_83 : decode cX8_path 83 = .ok (.iaload, 1) := by decide +kernel
theorem dX8_path_84 : decode cX8_path 84 = .ok (.ireturn, 1) := by decide +kernel
theorem dX8_path_85 : decode cX8_path 85 = .ok (.aload_n 0, 1) := by decide +kernel
theorem dX8_path_86 : decode cX8_path 86 = .ok (.iload_n 1, 1) := by decide +kernel
theorem dX8_path_87 : decode cX8_path 87 = .ok (.aload_n 0, 1) := by decide +kernel
theorem dX8_path_88 : decode cX8_path 88 = .ok (.getfield 7, 3) := by decide +kernel
theorem dX8_path_91 : decode cX8_path 91 = .ok (.iconst 0, 1) := by decide +kernel
theorem dX8_path_92 : decode cX8_path 92 = .ok (.iaload, 1) := by decide +kernel
theorem dX8_path_93 : decode cX8_path 93 = .ok (.invokevirtual 178, 3) := by decide +kernel
theorem dX8_path_96 : decode cX8_path 96 = .ok (.sipush 2000, 3) := by decide +kernel
theorem dX8_path_99 : decode cX8_path 99 = .ok (.iadd, 1) := by decide +kernel
theorem dX8_path_100 : decode cX8_path 100 = .ok (.ireturn, 1) := by decide +kernel
theorem dX8_path_101 : decode cX8_path 101 = .ok (.aload_n 0, 1) := by decide +kernel
theorem dX8_path_102 : decode cX8_path 102 = .ok (.iload_n 1, 1) := by decide +kernel
theorem dX8_path_103 : decode cX8_path 103 = .ok (.invokevirtual 182, 3) := by decide +kernel
theorem dX8_path_106 : decode cX8_path 106 = .ok (.sipush 2000, 3) := by decide +kernel
theorem dX8_path_109 : decode cX8_path 109 = .ok (.iadd, 1) := by decide +kernel
theorem dX8_path_110 : decode cX8_path 110 = .ok (.ireturn, 1) := by decide +kernel
theorem dX8_path_111 : decode cX8_path 111 = .ok (.bipush (-3), 2) := by decide +kernel
theorem dX8_path_113 : decode cX8_path 113 = .ok (.ireturn, 1) := by decide +kernel
theorem dX8_keepPast_0 : decode cX8_keepPast 0 = .ok (.iconst 0, 1) := by decide +kernel
theorem dX8_keepPast_1 : decode cX8_keepPast 1 = .ok (.istore_n 1, 1) := by decide +kernel
theorem dX8_keepPast_2 : decode cX8_keepPast 2 = .ok (.iload_n 1, 1) := by decide +kernel
theorem dX8_keepPast_3 : decode cX8_keepPast 3 = .ok (.sipush 231, 3) := by decide +kernel
theorem dX8_keepPast_6 : decode cX8_keepPast 6 = .ok (.if_icmp .ge 36, 3) := by decide +kernel
theorem dX8_keepPast_9 : decode cX8_keepPast 9 = .ok (.aload_n 0, 1) := by decide +kernel
theorem dX8_keepPast_10 : decode cX8_keepPast 10 = .ok (.getfield 172, 3) := by decide +kernel
theorem dX8_keepPast_13 : decode cX8_keepPast 13 = .ok (.bipush 8, 2) := by decide +kernel
theorem dX8_keepPast_15 : decode cX8_keepPast 15 = .ok (.if_icmp .ne 27, 3) := by decide +kernel
theorem dX8_keepPast_18 : decode cX8_keepPast 18 = .ok (.aload_n 0, 1) := by decide +kernel
theorem dX8_keepPast_19 : decode cX8_keepPast 19 = .ok (.getfield 7, 3) := by decide +kernel
theorem dX8_keepPast_22 : decode cX8_keepPast 22 = .ok (.bipush 33, 2) := by decide +kernel
theorem dX8_keepPast_24 : decode cX8_keepPast 24 = .ok (.iload_n 1, 1) := by decide +kernel
theorem dX8_keepPast_25 : decode cX8_keepPast 25 = .ok (.iadd, 1) := by decide +kernel
theorem dX8_keepPast_26 : decode cX8_keepPast 26 = .ok (.aload_n 0, 1) := by decide +kernel
theorem dX8_keepPast_27 : decode cX8_keepPast 27 = .ok (.getfield 7, 3) := by decide +kernel
theorem dX8_keepPast_30 : decode cX8_keepPast 30 = .ok (.bipush 66, 2) := by decide +kernel
theorem dX8_keepPast_32 : decode cX8_keepPast 32 = .ok (.iload_n 1, 1) := by decide +kernel
theorem dX8_keepPast_33 : decode cX8_keepPast 33 = .ok (.iadd, 1) := by decide +kernel
theorem dX8_keepPast_34 : decode cX8_keepPast 34 = .ok (.iaload, 1) := by decide +kernel
theorem dX8_keepPast_35 : decode cX8_keepPast 35 = .ok (.iastore, 1) := by decide +kernel
theorem dX8_keepPast_36 : decode cX8_keepPast 36 = .ok (.iinc 1 1, 3) := by decide +kernel
theorem dX8_keepPast_39 : decode cX8_keepPast 39 = .ok (.goto (-37), 3) := by decide +kernel
theorem dX8_keepPast_42 : decode cX8_keepPast 42 = .ok (.aload_n 0, 1) := by decide +kernel
theorem dX8_keepPast_43 : decode cX8_keepPast 43 = .ok (.dup, 1) := by decide +kernel
theorem dX8_keepPast_44 : decode cX8_keepPast 44 = .ok (.getfield 172, 3) := by decide +kernel
theorem dX8_keepPast_47 : decode cX8_keepPast 47 = .ok (.aload_n 0, 1) := by decide +kernel
theorem dX8_keepPast_48 : decode cX8_keepPast 48 = .ok (.getfield 172, 3) := by decide +kernel
theorem dX8_keepPast_51 : decode cX8_keepPast 51 = .ok (.bipush 8, 2) := by decide +kernel
theorem dX8_keepPast_53 : decode cX8_keepPast 53 = .ok (.if_icmp .ne 7, 3) := by decide +kernel
theorem dX8_keepPast_56 : decode cX8_keepPast 56 = .ok (.iconst 1, 1) := by decide +kernel
theorem dX8_keepPast_57 : decode cX8_keepPast 57 = .ok (.goto 4, 3) := by decide +kernel
theorem dX8_keepPast_60 : decode cX8_keepPast 60 = .ok (.iconst 0, 1) := by decide +kernel
theorem dX8_keepPast_61 : decode cX8_keepPast 61 = .ok (.isub, 1) := by decide +kernel
theorem dX8_keepPast_62 : decode cX8_keepPast 62 = .ok (.putfield 172, 3) := by decide +kernel
theorem dX8_keepPast_65 : decode cX8_keepPast 65 = .ok (.aload_n 0, 1) := by decide +kernel
theorem dX8_keepPast_66 : decode cX8_keepPast 66 = .ok (.iconst 0, 1) := by decide +kernel
theorem dX8_keepPast_67 : decode cX8_keepPast 67 = .ok (.bipush 33, 2) := by decide +kernel
theorem dX8_keepPast_69 : decode cX8_keepPast 69 = .ok (.bipush 33, 2) := by decide +kernel
theorem dX8_keepPast_71 : decode cX8_keepPast 71 = .ok (.aload_n 0, 1) := by decide +kernel
theorem dX8_keepPast_72 : decode cX8_keepPast 72 = .ok (.getfield 172, 3) := by decide +kernel
theorem dX8_keepPast_75 : decode cX8_keepPast 75 = .ok (.imul, 1) := by decide +kernel
theorem dX8_keepPast_76 : decode cX8_keepPast 76 = .ok (.iadd, 1) := by decide +kernel
theorem dX8_keepPast_77 : decode cX8_keepPast 77 = .ok (.invokevirtual 80, 3) := by decide +kernel
theorem dX8_keepPast_80 : decode cX8_keepPast 80 = .ok (.aload_n 0, 1) := by decide +kernel
theorem dX8_keepPast_81 : decode cX8_keepPast 81 = .ok (.dup, 1) := by decide +kernel
theorem dX8_keepPast_82 : decode cX8_keepPast 82 = .ok (.getfield 172, 3) := by decide +kernel
theorem dX8_keepPast_85 : decode cX8_keepPast 85 = .ok (.iconst 1, 1) := by decide +kernel
theorem dX8_keepPast_86 : decode cX8_keepPast 86 = .ok (.iadd, 1) := by decide +kernel
theorem dX8_keepPast_87 : decode cX8_keepPast 87 = .ok (.putfield 172, 3) := by decide +kernel
theorem dX8_keepPast_90 : decode cX8_keepPast 90 = .ok (.return_, 1) := by decide +kernel
theorem dX8_period_0 : decode cX8_period 0 = .ok (.iload_n 1, 1) := by decide +kernel
theorem dX8_period_1 : decode cX8_period 1 = .ok (.i2l, 1) := by decide +kernel
theorem dX8_period_2 : decode cX8_period 2 = .ok (.lconst 0, 1) := by decide +kernel
theorem dX8_period_3 : decode cX8_period 3 = .ok (.ldc2_w 186, 3) := by decide +kernel
theorem dX8_period_6 : decode cX8_period 6 = .ok (.invokestatic 102, 3) := by decide +kernel
theorem dX8_period_9 : decode cX8_period 9 = .ok (.ifCond .ne 6, 3) := by decide +kernel
theorem dX8_period_12 : decode cX8_period 12 = .ok (.bipush (-3), 2) := by decide +kernel
theorem dX8_period_14 : decode cX8_period 14 = .ok (.ireturn, 1) := by decide +kernel
theorem dX8_period_15 : decode cX8_period 15 = .ok (.aload_n 0, 1) := by decide +kernel
theorem dX8_period_16 : decode cX8_period 16 = .ok (.getfield 7, 3) := by decide +kernel
theorem dX8_period_19 : decode cX8_period 19 = .ok (.iconst 0, 1) := by decide +kernel
theorem dX8_period_20 : decode cX8_period 20 = .ok (.iaload, 1) := by decide +kernel
theorem dX8_period_21 : decode cX8_period 21 = .ok (.istore_n 2, 1) := by decide +kernel
theorem dX8_period_22 : decode cX8_period 22 = .ok (.iload_n 2, 1) := by decide +kernel
theorem dX8_period_23 : decode cX8_period 23 = .ok (.iload_n 1, 1) := by decide +kernel
theorem dX8_period_24 : decode cX8_period 24 = .ok (.if_icmp .ne 6, 3) := by decide +kernel
theorem dX8_period_27 : decode cX8_period 27 = .ok (.bipush (-4), 2) := by decide +kernel
theorem dX8_period_29 : decode cX8_period 29 = .ok (.ireturn, 1) := by decide +kernel
theorem dX8_period_30 : decode cX8_period 30 = .ok (.aload_n 0, 1) := by decide +kernel
theorem dX8_period_31 : decode cX8_period 31 = .ok (.invokevirtual 188, 3) := by decide +kernel
theorem dX8_period_34 : decode cX8_period 34 = .ok (.aload_n 0, 1) := by decide +kernel
theorem dX8_period_35 : decode cX8_period 35 = .ok (.getfield 7, 3) := by decide +kernel
theorem dX8_period_38 : decode cX8_period 38 = .ok (.iconst 0, 1) := by decide +kernel
theorem dX8_period_39 : decode cX8_period 39 = .ok (.iload_n 1, 1) := by decide +kernel
theorem dX8_period_40 : decode cX8_period 40 = .ok (.iastore, 1) := by decide +kernel
theorem dX8_period_41 : decode cX8_period 41 = .ok (.iload_n 2, 1) := by decide +kernel
theorem dX8_period_42 : decode cX8_period 42 = .ok (.ireturn, 1) := by decide +kernel
theorem dX8_slower_0 : decode cX8_slower 0 = .ok (.aload_n 0, 1) := by decide +kernel
theorem dX8_slower_1 : decode cX8_slower 1 = .ok (.iload_n 1, 1) := by decide +kernel
theorem dX8_slower_2 : decode cX8_slower 2 = .ok (.invokevirtual 175, 3) := by decide +kernel
theorem dX8_slower_5 : decode cX8_slower 5 = .ok (.ifCond .ne 6, 3) := by decide +kernel
theorem dX8_slower_8 : decode cX8_slower 8 = .ok (.bipush (-2), 2) := by decide +kernel
theorem dX8_slower_10 : decode cX8_slower 10 = .ok (.ireturn, 1) := by decide +kernel
theorem dX8_slower_11 : decode cX8_slower 11 = .ok (.iload_n 2, 1) := by decide +kernel
theorem dX8_slower_12 : decode cX8_slower 12 = .ok (.i2l, 1) := by decide +kernel
theorem dX8_slower_13 : decode cX8_slower 13 = .ok (.lconst 1, 1) := by decide +kernel
theorem dX8_slower_14 : decode cX8_slower 14 = .ok (.ldc2_w 191, 3) := by decide +kernel
theorem dX8_slower_17 : decode cX8_slower 17 = .ok (.invokestatic 102, 3) := by decide +kernel
theorem dX8_slower_20 : decode cX8_slower 20 = .ok (.ifCond .ne 6, 3) := by decide +kernel
theorem dX8_slower_23 : decode cX8_slower 23 = .ok (.bipush (-3), 2) := by decide +kernel
theorem dX8_slower_25 : decode cX8_slower 25 = .ok (.ireturn, 1) := by decide +kernel
theorem dX8_slower_26 : decode cX8_slower 26 = .ok (.aload_n 0, 1) := by decide +kernel
theorem dX8_slower_27 : decode cX8_slower 27 = .ok (.getfield 7, 3) := by decide +kernel
theorem dX8_slower_30 : decode cX8_slower 30 = .ok (.iconst 1, 1) := by decide +kernel
theorem dX8_slower_31 : decode cX8_slower 31 = .ok (.iload_n 1, 1) := by decide +kernel
theorem dX8_slower_32 : decode cX8_slower 32 = .ok (.iadd, 1) := by decide +kernel
theorem dX8_slower_33 : decode cX8_slower 33 = .ok (.iaload, 1) := by decide +kernel
theorem dX8_slower_34 : decode cX8_slower 34 = .ok (.iload_n 2, 1) := by decide +kernel
theorem dX8_slower_35 : decode cX8_slower 35 = .ok (.iadd, 1) := by decide +kernel
theorem dX8_slower_36 : decode cX8_slower 36 = .ok (.sipush 199, 3) := by decide +kernel
theorem dX8_slower_39 : decode cX8_slower 39 = .ok (.if_icmp .le 6, 3) := by decide +kernel
theorem dX8_slower_42 : decode cX8_slower 42 = .ok (.bipush (-4), 2) := by decide +kernel
theorem dX8_slower_44 : decode cX8_slower 44 = .ok (.ireturn, 1) := by decide +kernel
theorem dX8_slower_45 : decode cX8_slower 45 = .ok (.aload_n 0, 1) := by decide +kernel
theorem dX8_slower_46 : decode cX8_slower 46 = .ok (.invokevirtual 188, 3) := by decide +kernel
theorem dX8_slower_49 : decode cX8_slower 49 = .ok (.aload_n 0, 1) := by decide +kernel
theorem dX8_slower_50 : decode cX8_slower 50 = .ok (.getfield 7, 3) := by decide +kernel
theorem dX8_slower_53 : decode cX8_slower 53 = .ok (.iconst 1, 1) := by decide +kernel
theorem dX8_slower_54 : decode cX8_slower 54 = .ok (.iload_n 1, 1) := by decide +kernel
theorem dX8_slower_55 : decode cX8_slower 55 = .ok (.iadd, 1) := by decide +kernel
theorem dX8_slower_56 : decode cX8_slower 56 = .ok (.dup2, 1) := by decide +kernel
theorem dX8_slower_57 : decode cX8_slower 57 = .ok (.iaload, 1) := by decide +kernel
theorem dX8_slower_58 : decode cX8_slower 58 = .ok (.iload_n 2, 1) := by decide +kernel
theorem dX8_slower_59 : decode cX8_slower 59 = .ok (.iadd, 1) := by decide +kernel
theorem dX8_slower_60 : decode cX8_slower 60 = .ok (.iastore, 1) := by decide +kernel
theorem dX8_slower_61 : decode cX8_slower 61 = .ok (.aload_n 0, 1) := by decide +kernel
theorem dX8_slower_62 : decode cX8_slower 62 = .ok (.getfield 7, 3) := by decide +kernel
theorem dX8_slower_65 : decode cX8_slower 65 = .ok (.bipush 17, 2) := by decide +kernel
theorem dX8_slower_67 : decode cX8_slower 67 = .ok (.iload_n 1, 1) := by decide +kernel
theorem dX8_slower_68 : decode cX8_slower 68 = .ok (.iadd, 1) := by decide +kernel
theorem dX8_slower_69 : decode cX8_slower 69 = .ok (.dup2, 1) := by decide +kernel
theorem dX8_slower_70 : decode cX8_slower 70 = .ok (.iaload, 1) := by decide +kernel
theorem dX8_slower_71 : decode cX8_slower 71 = .ok (.iload_n 2, 1) := by decide +kernel
theorem dX8_slower_72 : decode cX8_slower 72 = .ok (.iadd, 1) := by decide +kernel
theorem dX8_slower_73 : decode cX8_slower 73 = .ok (.iastore, 1) := by decide +kernel
theorem dX8_slower_74 : decode cX8_slower 74 = .ok (.aload_n 0, 1) := by decide +kernel
theorem dX8_slower_75 : decode cX8_slower 75 = .ok (.getfield 7, 3) := by decide +kernel
theorem dX8_slower_78 : decode cX8_slower 78 = .ok (.iconst 1, 1) := by decide +kernel
theorem dX8_slower_79 : decode cX8_slower 79 = .ok (.iload_n 1, 1) := by decide +kernel
theorem dX8_slower_80 : decode cX8_slower 80 = .ok (.iadd, 1) := by decide +kernel
theorem dX8_slower_81 : decode cX8_slower 81 = .ok (.iaload, 1) := by decide +kernel
theorem dX8_slower_82 : decode cX8_slower 82 = .ok (.ireturn, 1) := by decide +kernel
theorem dX8_undo_0 : decode cX8_undo 0 = .ok (.aload_n 0, 1) := by decide +kernel
theorem dX8_undo_1 : decode cX8_undo 1 = .ok (.getfield 172, 3) := by decide +kernel
theorem dX8_undo_4 : decode cX8_undo 4 = .ok (.ifCond .ne 6, 3) := by decide +kernel
theorem dX8_undo_7 : decode cX8_undo 7 = .ok (.bipush (-4), 2) := by decide +kernel
theorem dX8_undo_9 : decode cX8_undo 9 = .ok (.ireturn, 1) := by decide +kernel
theorem dX8_undo_10 : decode cX8_undo 10 = .ok (.aload_n 0, 1) := by decide +kernel
theorem dX8_undo_11 : decode cX8_undo 11 = .ok (.dup, 1) := by decide +kernel
theorem dX8_undo_12 : decode cX8_undo 12 = .ok (.getfield 172, 3) := by decide +kernel
theorem dX8_undo_15 : decode cX8_undo 15 = .ok (.iconst 1, 1) := by decide +kernel
theorem dX8_undo_16 : decode cX8_undo 16 = .ok (.isub, 1) := by decide +kernel
theorem dX8_undo_17 : decode cX8_undo 17 = .ok (.putfield 172, 3) := by decide +kernel
theorem dX8_undo_20 : decode cX8_undo 20 = .ok (.aload_n 0, 1) := by decide +kernel
theorem dX8_undo_21 : decode cX8_undo 21 = .ok (.bipush 33, 2) := by decide +kernel
theorem dX8_undo_23 : decode cX8_undo 23 = .ok (.bipush 33, 2) := by decide +kernel
theorem dX8_undo_25 : decode cX8_undo 25 = .ok (.aload_n 0, 1) := by decide +kernel
theorem dX8_undo_26 : decode cX8_undo 26 = .ok (.getfield 172, 3) := by decide +kernel
theorem dX8_undo_29 : decode cX8_undo 29 = .ok (.imul, 1) := by decide +kernel
theorem dX8_undo_30 : decode cX8_undo 30 = .ok (.iadd, 1) := by decide +kernel
theorem dX8_undo_31 : decode cX8_undo 31 = .ok (.iconst 0, 1) := by decide +kernel
theorem dX8_undo_32 : decode cX8_undo 32 = .ok (.invokevirtual 80, 3) := by decide +kernel
theorem dX8_undo_35 : decode cX8_undo 35 = .ok (.aload_n 0, 1) := by decide +kernel
theorem dX8_undo_36 : decode cX8_undo 36 = .ok (.getfield 172, 3) := by decide +kernel
theorem dX8_undo_39 : decode cX8_undo 39 = .ok (.ireturn, 1) := by decide +kernel
theorem dX8_keep_0 : decode cX8_keep 0 = .ok (.iload_n 1, 1) := by decide +kernel
theorem dX8_keep_1 : decode cX8_keep 1 = .ok (.i2l, 1) := by decide +kernel
theorem dX8_keep_2 : decode cX8_keep 2 = .ok (.lconst 0, 1) := by decide +kernel
theorem dX8_keep_3 : decode cX8_keep 3 = .ok (.lconst 1, 1) := by decide +kernel
theorem dX8_keep_4 : decode cX8_keep 4 = .ok (.invokestatic 102, 3) := by decide +kernel
theorem dX8_keep_7 : decode cX8_keep 7 = .ok (.ifCond .ne 6, 3) := by decide +kernel
theorem dX8_keep_10 : decode cX8_keep 10 = .ok (.bipush (-2), 2) := by decide +kernel
theorem dX8_keep_12 : decode cX8_keep 12 = .ok (.ireturn, 1) := by decide +kernel
theorem dX8_keep_13 : decode cX8_keep 13 = .ok (.aload_n 0, 1) := by decide +kernel
theorem dX8_keep_14 : decode cX8_keep 14 = .ok (.iconst 0, 1) := by decide +kernel
theorem dX8_keep_15 : decode cX8_keep 15 = .ok (.sipush 297, 3) := by decide +kernel
theorem dX8_keep_18 : decode cX8_keep 18 = .ok (.bipush 33, 2) := by decide +kernel
theorem dX8_keep_20 : decode cX8_keep 20 = .ok (.iload_n 1, 1) := by decide +kernel
theorem dX8_keep_21 : decode cX8_keep 21 = .ok (.imul, 1) := by decide +kernel
theorem dX8_keep_22 : decode cX8_keep 22 = .ok (.iadd, 1) := by decide +kernel
theorem dX8_keep_23 : decode cX8_keep 23 = .ok (.invokevirtual 80, 3) := by decide +kernel
theorem dX8_keep_26 : decode cX8_keep 26 = .ok (.aload_n 0, 1) := by decide +kernel
theorem dX8_keep_27 : decode cX8_keep 27 = .ok (.getfield 19, 3) := by decide +kernel
theorem dX8_keep_30 : decode cX8_keep 30 = .ok (.iload_n 1, 1) := by decide +kernel
theorem dX8_keep_31 : decode cX8_keep 31 = .ok (.iconst 1, 1) := by decide +kernel
theorem dX8_keep_32 : decode cX8_keep 32 = .ok (.bastore, 1) := by decide +kernel
theorem dX8_keep_33 : decode cX8_keep 33 = .ok (.aload_n 0, 1) := by decide +kernel
theorem dX8_keep_34 : decode cX8_keep 34 = .ok (.getfield 7, 3) := by decide +kernel
theorem dX8_keep_37 : decode cX8_keep 37 = .ok (.iconst 0, 1) := by decide +kernel
theorem dX8_keep_38 : decode cX8_keep 38 = .ok (.iaload, 1) := by decide +kernel
theorem dX8_keep_39 : decode cX8_keep 39 = .ok (.ireturn, 1) := by decide +kernel
theorem dX8_back_0 : decode cX8_back 0 = .ok (.iload_n 1, 1) := by decide +kernel
theorem dX8_back_1 : decode cX8_back 1 = .ok (.i2l, 1) := by decide +kernel
theorem dX8_back_2 : decode cX8_back 2 = .ok (.lconst 0, 1) := by decide +kernel
theorem dX8_back_3 : decode cX8_back 3 = .ok (.lconst 1, 1) := by decide +kernel
theorem dX8_back_4 : decode cX8_back 4 = .ok (.invokestatic 102, 3) := by decide +kernel
theorem dX8_back_7 : decode cX8_back 7 = .ok (.ifCond .ne 6, 3) := by decide +kernel
theorem dX8_back_10 : decode cX8_back 10 = .ok (.bipush (-2), 2) := by decide +kernel
theorem dX8_back_12 : decode cX8_back 12 = .ok (.ireturn, 1) := by decide +kernel
theorem dX8_back_13 : decode cX8_back 13 = .ok (.aload_n 0, 1) := by decide +kernel
theorem dX8_back_14 : decode cX8_back 14 = .ok (.getfield 19, 3) := by decide +kernel
theorem dX8_back_17 : decode cX8_back 17 = .ok (.iload_n 1, 1) := by decide +kernel
theorem dX8_back_18 : decode cX8_back 18 = .ok (.baload, 1) := by decide +kernel
theorem dX8_back_19 : decode cX8_back 19 = .ok (.ifCond .ne 6, 3) := by decide +kernel
theorem dX8_back_22 : decode cX8_back 22 = .ok (.bipush (-4), 2) := by decide +kernel
theorem dX8_back_24 : decode cX8_back 24 = .ok (.ireturn, 1) := by decide +kernel
theorem dX8_back_25 : decode cX8_back 25 = .ok (.aload_n 0, 1) := by decide +kernel
theorem dX8_back_26 : decode cX8_back 26 = .ok (.sipush 297, 3) := by decide +kernel
theorem dX8_back_29 : decode cX8_back 29 = .ok (.bipush 33, 2) := by decide +kernel
theorem dX8_back_31 : decode cX8_back 31 = .ok (.iload_n 1, 1) := by decide +kernel
theorem dX8_back_32 : decode cX8_back 32 = .ok (.imul, 1) := by decide +kernel
theorem dX8_back_33 : decode cX8_back 33 = .ok (.iadd, 1) := by decide +kernel
theorem dX8_back_34 : decode cX8_back 34 = .ok (.iconst 0, 1) := by decide +kernel
theorem dX8_back_35 : decode cX8_back 35 = .ok (.invokevirtual 80, 3) := by decide +kernel
theorem dX8_back_38 : decode cX8_back 38 = .ok (.aload_n 0, 1) := by decide +kernel
theorem dX8_back_39 : decode cX8_back 39 = .ok (.iconst 0, 1) := by decide +kernel
theorem dX8_back_40 : decode cX8_back 40 = .ok (.putfield 172, 3) := by decide +kernel
theorem dX8_back_43 : decode cX8_back 43 = .ok (.aload_n 0, 1) := by decide +kernel
theorem dX8_back_44 : decode cX8_back 44 = .ok (.getfield 7, 3) := by decide +kernel
theorem dX8_back_47 : decode cX8_back 47 = .ok (.iconst 0, 1) := by decide +kernel
theorem dX8_back_48 : decode cX8_back 48 = .ok (.iaload, 1) := by decide +kernel
theorem dX8_back_49 : decode cX8_back 49 = .ok (.ireturn, 1) := by decide +kernel
theorem dX8_floor_0 : decode cX8_floor 0 = .ok (.iload_n 0, 1) := by decide +kernel
theorem dX8_floor_1 : decode cX8_floor 1 = .ok (.ifCond .lt 9, 3) := by decide +kernel
theorem dX8_floor_4 : decode cX8_floor 4 = .ok (.iload_n 0, 1) := by decide +kernel
theorem dX8_floor_5 : decode cX8_floor 5 = .ok (.iload_n 1, 1) := by decide +kernel
theorem dX8_floor_6 : decode cX8_floor 6 = .ok (.idiv, 1) := by decide +kernel
theorem dX8_floor_7 : decode cX8_floor 7 = .ok (.goto 11, 3) := by decide +kernel
theorem dX8_floor_10 : decode cX8_floor 10 = .ok (.iload_n 1, 1) := by decide +kernel
theorem dX8_floor_11 : decode cX8_floor 11 = .ok (.iconst 1, 1) := by decide +kernel
theorem dX8_floor_12 : decode cX8_floor 12 = .ok (.isub, 1) := by decide +kernel
theorem dX8_floor_13 : decode cX8_floor 13 = .ok (.iload_n 0, 1) := by decide +kernel
theorem dX8_floor_14 : decode cX8_floor 14 = .ok (.isub, 1) := by decide +kernel
theorem dX8_floor_15 : decode cX8_floor 15 = .ok (.iload_n 1, 1) := by decide +kernel
theorem dX8_floor_16 : decode cX8_floor 16 = .ok (.idiv, 1) := by decide +kernel
theorem dX8_floor_17 : decode cX8_floor 17 = .ok (.ineg, 1) := by decide +kernel
theorem dX8_floor_18 : decode cX8_floor 18 = .ok (.ireturn, 1) := by decide +kernel
theorem dX8_layBounds_0 : decode cX8_layBounds 0 = .ok (.iconst 0, 1) := by decide +kernel
theorem dX8_layBounds_1 : decode cX8_layBounds 1 = .ok (.istore_n 3, 1) := by decide +kernel
theorem dX8_layBounds_2 : decode cX8_layBounds 2 = .ok (.iload_n 3, 1) := by decide +kernel
theorem dX8_layBounds_3 : decode cX8_layBounds 3 = .ok (.aload_n 0, 1) := by decide +kernel
theorem dX8_layBounds_4 : decode cX8_layBounds 4 = .ok (.getfield 88, 3) := by decide +kernel
theorem dX8_layBounds_7 : decode cX8_layBounds 7 = .ok (.if_icmp .ge 50, 3) := by decide +kernel
theorem dX8_layBounds_10 : decode cX8_layBounds 10 = .ok (.aload_n 0, 1) := by decide +kernel
theorem dX8_layBounds_11 : decode cX8_layBounds 11 = .ok (.getfield 61, 3) := by decide +kernel
theorem dX8_layBounds_14 : decode cX8_layBounds 14 = .ok (.iload_n 3, 1) := by decide +kernel
theorem dX8_layBounds_15 : decode cX8_layBounds 15 = .ok (.aload_n 0, 1) := by decide +kernel
theorem dX8_layBounds_16 : decode cX8_layBounds 16 = .ok (.iload_n 3, 1) := by decide +kernel
theorem dX8_layBounds_17 : decode cX8_layBounds 17 = .ok (.iload_n 1, 1) := by decide +kernel
theorem dX8_layBounds_18 : decode cX8_layBounds 18 = .ok (.invokevirtual 178, 3) := by decide +kernel
theorem dX8_layBounds_21 : decode cX8_layBounds 21 = .ok (.iload_n 2, 1) := by decide +kernel
theorem dX8_layBounds_22 : decode cX8_layBounds 22 = .ok (.isub, 1) := by decide +kernel
theorem dX8_layBounds_23 : decode cX8_layBounds 23 = .ok (.aload_n 0, 1) := by decide +kernel
theorem dX8_layBounds_24 : decode cX8_layBounds 24 = .ok (.getfield 97, 3) := by decide +kernel
theorem dX8_layBounds_27 : decode cX8_layBounds 27 = .ok (.invokestatic 193, 3) := by decide +kernel
theorem dX8_layBounds_30 : decode cX8_layBounds 30 = .ok (.iastore, 1) := by decide +kernel
theorem dX8_layBounds_31 : decode cX8_layBounds 31 = .ok (.aload_n 0, 1) := by decide +kernel
theorem dX8_layBounds_32 : decode cX8_layBounds 32 = .ok (.getfield 64, 3) := by decide +kernel
theorem dX8_layBounds_35 : decode cX8_layBounds 35 = .ok (.iload_n 3, 1) := by decide +kernel
theorem dX8_layBounds_36 : decode cX8_layBounds 36 = .ok (.aload_n 0, 1) := by decide +kernel
theorem dX8_layBounds_37 : decode cX8_layBounds 37 = .ok (.iload_n 3, 1) := by decide +kernel
theorem dX8_layBounds_38 : decode cX8_layBounds 38 = .ok (.invokevirtual 182, 3) := by decide +kernel
theorem dX8_layBounds_41 : decode cX8_layBounds 41 = .ok (.iload_n 2, 1) := by decide +kernel
theorem dX8_layBounds_42 : decode cX8_layBounds 42 = .ok (.isub, 1) := by decide +kernel
theorem dX8_layBounds_43 : decode cX8_layBounds 43 = .ok (.aload_n 0, 1) := by decide +kernel
theorem dX8_layBounds_44 : decode cX8_layBounds 44 = .ok (.getfield 97, 3) := by decide +kernel
theorem dX8_layBounds_47 : decode cX8_layBounds 47 = .ok (.invokestatic 193, 3) := by decide +kernel
theorem dX8_layBounds_50 : decode cX8_layBounds 50 = .ok (.iastore, 1) := by decide +kernel
theorem dX8_layBounds_51 : decode cX8_layBounds 51 = .ok (.iinc 3 1, 3) := by decide +kernel
theorem dX8_layBounds_54 : decode cX8_layBounds 54 = .ok (.goto (-52), 3) := by decide +kernel
theorem dX8_layBounds_57 : decode cX8_layBounds 57 = .ok (.return_, 1) := by decide +kernel
theorem dX8_makesLess_0 : decode cX8_makesLess 0 = .ok (.aload_n 0, 1) := by decide +kernel
theorem dX8_makesLess_1 : decode cX8_makesLess 1 = .ok (.getfield 67, 3) := by decide +kernel
theorem dX8_makesLess_4 : decode cX8_makesLess 4 = .ok (.iload_n 1, 1) := by decide +kernel
theorem dX8_makesLess_5 : decode cX8_makesLess 5 = .ok (.iaload, 1) := by decide +kernel
theorem dX8_makesLess_6 : decode cX8_makesLess 6 = .ok (.aload_n 0, 1) := by decide +kernel
theorem dX8_makesLess_7 : decode cX8_makesLess 7 = .ok (.getfield 67, 3) := by decide +kernel
theorem dX8_makesLess_10 : decode cX8_makesLess 10 = .ok (.iload_n 2, 1) := by decide +kernel
theorem dX8_makesLess_11 : decode cX8_makesLess 11 = .ok (.iaload, 1) := by decide +kernel
theorem dX8_makesLess_12 : decode cX8_makesLess 12 = .ok (.iload_n 3, 1) := by decide +kernel
theorem dX8_makesLess_13 : decode cX8_makesLess 13 = .ok (.iadd, 1) := by decide +kernel
theorem dX8_makesLess_14 : decode cX8_makesLess 14 = .ok (.if_icmp .le 7, 3) := by decide +kernel
theorem dX8_makesLess_17 : decode cX8_makesLess 17 = .ok (.iconst 1, 1) := by decide +kernel
theorem dX8_makesLess_18 : decode cX8_makesLess 18 = .ok (.goto 4, 3) := by decide +kernel
theorem dX8_makesLess_21 : decode cX8_makesLess 21 = .ok (.iconst 0, 1) := by decide +kernel
theorem dX8_makesLess_22 : decode cX8_makesLess 22 = .ok (.istore 4, 2) := by decide +kernel
theorem dX8_makesLess_24 : decode cX8_makesLess 24 = .ok (.aload_n 0, 1) := by decide +kernel
theorem dX8_makesLess_25 : decode cX8_makesLess 25 = .ok (.getfield 67, 3) := by decide +kernel
theorem dX8_makesLess_28 : decode cX8_makesLess 28 = .ok (.iload_n 1, 1) := by decide +kernel
theorem dX8_makesLess_29 : decode cX8_makesLess 29 = .ok (.iload 4, 2) := by decide +kernel
theorem dX8_makesLess_31 : decode cX8_makesLess 31 = .ok (.ifCond .eq 14, 3) := by decide +kernel
theorem dX8_makesLess_34 : decode cX8_makesLess 34 = .ok (.aload_n 0, 1) := by decide +kernel
theorem dX8_makesLess_35 : decode cX8_makesLess 35 = .ok (.getfield 67, 3) := by decide +kernel
theorem dX8_makesLess_38 : decode cX8_makesLess 38 = .ok (.iload_n 2, 1) := by decide +kernel
theorem dX8_makesLess_39 : decode cX8_makesLess 39 = .ok (.iaload, 1) := by decide +kernel
theorem dX8_makesLess_40 : decode cX8_makesLess 40 = .ok (.iload_n 3, 1) := by decide +kernel
theorem dX8_makesLess_41 : decode cX8_makesLess 41 = .ok (.iadd, 1) := by decide +kernel
theorem dX8_makesLess_42 : decode cX8_makesLess 42 = .ok (.goto 9, 3) := by decide +kernel
theorem dX8_makesLess_45 : decode cX8_makesLess 45 = .ok (.aload_n 0, 1) := by decide +kernel
theorem dX8_makesLess_46 : decode cX8_makesLess 46 = .ok (.getfield 67, 3) := by decide +kernel
theorem dX8_makesLess_49 : decode cX8_makesLess 49 = .ok (.iload_n 1, 1) := by decide +kernel
theorem dX8_makesLess_50 : decode cX8_makesLess 50 = .ok (.iaload, 1) := by decide +kernel
theorem dX8_makesLess_51 : decode cX8_makesLess 51 = .ok (.iastore, 1) := by decide +kernel
theorem dX8_makesLess_52 : decode cX8_makesLess 52 = .ok (.iload 4, 2) := by decide +kernel
theorem dX8_makesLess_54 : decode cX8_makesLess 54 = .ok (.ireturn, 1) := by decide +kernel
theorem dX8_areThere_0 : decode cX8_areThere 0 = .ok (.iconst 0, 1) := by decide +kernel
theorem dX8_areThere_1 : decode cX8_areThere 1 = .ok (.istore_n 1, 1) := by decide +kernel
theorem dX8_areThere_2 : decode cX8_areThere 2 = .ok (.iload_n 1, 1) := by decide +kernel
theorem dX8_areThere_3 : decode cX8_areThere 3 = .ok (.bipush 8, 2) := by decide +kernel
theorem dX8_areThere_5 : decode cX8_areThere 5 = .ok (.if_icmp .ge 16, 3) := by decide +kernel
theorem dX8_areThere_8 : decode cX8_areThere 8 = .ok (.aload_n 0, 1) := by decide +kernel
theorem dX8_areThere_9 : decode cX8_areThere 9 = .ok (.getfield 67, 3) := by decide +kernel
theorem dX8_areThere_12 : decode cX8_areThere 12 = .ok (.iload_n 1, 1) := by decide +kernel
theorem dX8_areThere_13 : decode cX8_areThere 13 = .ok (.iconst 0, 1) := by decide +kernel
theorem dX8_areThere_14 : decode cX8_areThere 14 = .ok (.iastore, 1) := by decide +kernel
theorem dX8_areThere_15 : decode cX8_areThere 15 = .ok (.iinc 1 1, 3) := by decide +kernel
theorem dX8_areThere_18 : decode cX8_areThere 18 = .ok (.goto (-16), 3) := by decide +kernel
theorem dX8_areThere_21 : decode cX8_areThere 21 = .ok (.iconst 1, 1) := by decide +kernel
theorem dX8_areThere_22 : decode cX8_areThere 22 = .ok (.istore_n 1, 1) := by decide +kernel
theorem dX8_areThere_23 : decode cX8_areThere 23 = .ok (.iconst 0, 1) := by decide +kernel
theorem dX8_areThere_24 : decode cX8_areThere 24 = .ok (.istore_n 2, 1) := by decide +kernel
theorem dX8_areThere_25 : decode cX8_areThere 25 = .ok (.iload_n 2, 1) := by decide +kernel
theorem dX8_areThere_26 : decode cX8_areThere 26 = .ok (.aload_n 0, 1) := by decide +kernel
theorem dX8_areThere_27 : decode cX8_areThere 27 = .ok (.getfield 84, 3) := by decide +kernel
theorem dX8_areThere_30 : decode cX8_areThere 30 = .ok (.if_icmp .gt 101, 3) := by decide +kernel
theorem dX8_areThere_33 : decode cX8_areThere 33 = .ok (.iload_n 1, 1) := by decide +kernel
theorem dX8_areThere_34 : decode cX8_areThere 34 = .ok (.ifCond .eq 97, 3) := by decide +kernel
theorem dX8_areThere_37 : decode cX8_areThere 37 = .ok (.iconst 0, 1) := by decide +kernel
theorem dX8_areThere_38 : decode cX8_areThere 38 = .ok (.istore_n 1, 1) := by decide +kernel
theorem dX8_areThere_39 : decode cX8_areThere 39 = .ok (.iconst 0, 1) := by decide +kernel
theorem dX8_areThere_40 : decode cX8_areThere 40 = .ok (.istore_n 3, 1) := by decide +kernel
theorem dX8_areThere_41 : decode cX8_areThere 41 = .ok (.iload_n 3, 1) := by decide +kernel
theorem dX8_areThere_42 : decode cX8_areThere 42 = .ok (.aload_n 0, 1) := by decide +kernel
theorem dX8_areThere_43 : decode cX8_areThere 43 = .ok (.getfield 88, 3) := by decide +kernel
theorem dX8_areThere_46 : decode cX8_areThere 46 = .ok (.if_icmp .ge 79, 3) := by decide +kernel
theorem dX8_areThere_49 : decode cX8_areThere 49 = .ok (.aload_n 0, 1) := by decide +kernel
theorem dX8_areThere_50 : decode cX8_areThere 50 = .ok (.aload_n 0, 1) := by decide +kernel
theorem dX8_areThere_51 : decode cX8_areThere 51 = .ok (.getfield 13, 3) := by decide +kernel
theorem dX8_areThere_54 : decode cX8_areThere 54 = .ok (.iload_n 3, 1) := by decide +kernel
theorem dX8_areThere_55 : decode cX8_areThere 55 = .ok (.iaload, 1) := by decide +kernel
theorem dX8_areThere_56 : decode cX8_areThere 56 = .ok (.aload_n 0, 1) := by decide +kernel
theorem dX8_areThere_57 : decode cX8_areThere 57 = .ok (.getfield 16, 3) := by decide +kernel
theorem dX8_areThere_60 : decode cX8_areThere 60 = .ok (.iload_n 3, 1) := by decide +kernel
theorem dX8_areThere_61 : decode cX8_areThere 61 = .ok (.iaload, 1) := by decide +kernel
theorem dX8_areThere_62 : decode cX8_areThere 62 = .ok (.aload_n 0, 1) := by decide +kernel
theorem dX8_areThere_63 : decode cX8_areThere 63 = .ok (.getfield 61, 3) := by decide +kernel
theorem dX8_areThere_66 : decode cX8_areThere 66 = .ok (.iload_n 3, 1) := by decide +kernel
theorem dX8_areThere_67 : decode cX8_areThere 67 = .ok (.iaload, 1) := by decide +kernel
theorem dX8_areThere_68 : decode cX8_areThere 68 = .ok (.invokevirtual 196, 3) := by decide +kernel
theorem dX8_areThere_71 : decode cX8_areThere 71 = .ok (.ifCond .ne 7, 3) := by decide +kernel
theorem dX8_areThere_74 : decode cX8_areThere 74 = .ok (.iload_n 1, 1) := by decide +kernel
theorem dX8_areThere_75 : decode cX8_areThere 75 = .ok (.ifCond .eq 7, 3) := by decide +kernel
theorem dX8_areThere_78 : decode cX8_areThere 78 = .ok (.iconst 1, 1) := by decide +kernel
theorem dX8_areThere_79 : decode cX8_areThere 79 = .ok (.goto 4, 3) := by decide +kernel
theorem dX8_areThere_82 : decode cX8_areThere 82 = .ok (.iconst 0, 1) := by decide +kernel
theorem dX8_areThere_83 : decode cX8_areThere 83 = .ok (.istore_n 1, 1) := by decide +kernel
theorem dX8_areThere_84 : decode cX8_areThere 84 = .ok (.aload_n 0, 1) := by decide +kernel
theorem dX8_areThere_85 : decode cX8_areThere 85 = .ok (.aload_n 0, 1) := by decide +kernel
theorem dX8_areThere_86 : decode cX8_areThere 86 = .ok (.getfield 16, 3) := by decide +kernel
theorem dX8_areThere_89 : decode cX8_areThere 89 = .ok (.iload_n 3, 1) := by decide +kernel
theorem dX8_areThere_90 : decode cX8_areThere 90 = .ok (.iaload, 1) := by decide +kernel
theorem dX8_areThere_91 : decode cX8_areThere 91 = .ok (.aload_n 0, 1) := by decide +kernel
theorem dX8_areThere_92 : decode cX8_areThere 92 = .ok (.getfield 13, 3) := by decide +kernel
theorem dX8_areThere_95 : decode cX8_areThere 95 = .ok (.iload_n 3, 1) := by decide +kernel
theorem dX8_areThere_96 : decode cX8_areThere 96 = .ok (.iaload, 1) := by decide +kernel
theorem dX8_areThere_97 : decode cX8_areThere 97 = .ok (.aload_n 0, 1) := by decide +kernel
theorem dX8_areThere_98 : decode cX8_areThere 98 = .ok (.getfield 64, 3) := by decide +kernel
theorem dX8_areThere_101 : decode cX8_areThere 101 = .ok (.iload_n 3, 1) := by decide +kernel
theorem dX8_areThere_102 : decode cX8_areThere 102 = .ok (.iaload, 1) := by decide +kernel
theorem dX8_areThere_103 : decode cX8_areThere 103 = .ok (.invokevirtual 196, 3) := by decide +kernel
theorem dX8_areThere_106 : decode cX8_areThere 106 = .ok (.ifCond .ne 7, 3) := by decide +kernel
theorem dX8_areThere_109 : decode cX8_areThere 109 = .ok (.iload_n 1, 1) := by decide +kernel
theorem dX8_areThere_110 : decode cX8_areThere 110 = .ok (.ifCond .eq 7, 3) := by decide +kernel
theorem dX8_areThere_113 : decode cX8_areThere 113 = .ok (.iconst 1, 1) := by decide +kernel
theorem dX8_areThere_114 : decode cX8_areThere 114 = .ok (.goto 4, 3) := by decide +kernel
theorem dX8_areThere_117 : decode cX8_areThere 117 = .ok (.iconst 0, 1) := by decide +kernel
theorem dX8_areThere_118 : decode cX8_areThere 118 = .ok (.istore_n 1, 1) := by decide +kernel
theorem dX8_areThere_119 : decode cX8_areThere 119 = .ok (.iinc 3 1, 3) := by decide +kernel
theorem dX8_areThere_122 : decode cX8_areThere 122 = .ok (.goto (-81), 3) := by decide +kernel
theorem dX8_areThere_125 : decode cX8_areThere 125 = .ok (.iinc 2 1, 3) := by decide +kernel
theorem dX8_areThere_128 : decode cX8_areThere 128 = .ok (.goto (-103), 3) := by decide +kernel
theorem dX8_areThere_131 : decode cX8_areThere 131 = .ok (.iload_n 1, 1) := by decide +kernel
theorem dX8_areThere_132 : decode cX8_areThere 132 = .ok (.ifCond .ne 7, 3) := by decide +kernel
theorem dX8_areThere_135 : decode cX8_areThere 135 = .ok (.iconst 1, 1) := by decide +kernel
theorem dX8_areThere_136 : decode cX8_areThere 136 = .ok (.goto 4, 3) := by decide +kernel
theorem dX8_areThere_139 : decode cX8_areThere 139 = .ok (.iconst 0, 1) := by decide +kernel
theorem dX8_areThere_140 : decode cX8_areThere 140 = .ok (.ireturn, 1) := by decide +kernel
theorem dX8_isFeasible_0 : decode cX8_isFeasible 0 = .ok (.aload_n 0, 1) := by decide +kernel
theorem dX8_isFeasible_1 : decode cX8_isFeasible 1 = .ok (.iload_n 1, 1) := by decide +kernel
theorem dX8_isFeasible_2 : decode cX8_isFeasible 2 = .ok (.iload_n 2, 1) := by decide +kernel
theorem dX8_isFeasible_3 : decode cX8_isFeasible 3 = .ok (.invokevirtual 199, 3) := by decide +kernel
theorem dX8_isFeasible_6 : decode cX8_isFeasible 6 = .ok (.aload_n 0, 1) := by decide +kernel
theorem dX8_isFeasible_7 : decode cX8_isFeasible 7 = .ok (.invokevirtual 202, 3) := by decide +kernel
theorem dX8_isFeasible_10 : decode cX8_isFeasible 10 = .ok (.ireturn, 1) := by decide +kernel
theorem dX8_feasible_0 : decode cX8_feasible 0 = .ok (.aload_n 0, 1) := by decide +kernel
theorem dX8_feasible_1 : decode cX8_feasible 1 = .ok (.aload_n 0, 1) := by decide +kernel
theorem dX8_feasible_2 : decode cX8_feasible 2 = .ok (.getfield 7, 3) := by decide +kernel
theorem dX8_feasible_5 : decode cX8_feasible 5 = .ok (.iconst 0, 1) := by decide +kernel
theorem dX8_feasible_6 : decode cX8_feasible 6 = .ok (.iaload, 1) := by decide +kernel
theorem dX8_feasible_7 : decode cX8_feasible 7 = .ok (.iconst 0, 1) := by decide +kernel
theorem dX8_feasible_8 : decode cX8_feasible 8 = .ok (.invokevirtual 205, 3) := by decide +kernel
theorem dX8_feasible_11 : decode cX8_feasible 11 = .ok (.ifCond .eq 7, 3) := by decide +kernel
theorem dX8_feasible_14 : decode cX8_feasible 14 = .ok (.iconst 1, 1) := by decide +kernel
theorem dX8_feasible_15 : decode cX8_feasible 15 = .ok (.goto 4, 3) := by decide +kernel
theorem dX8_feasible_18 : decode cX8_feasible 18 = .ok (.iconst 0, 1) := by decide +kernel
theorem dX8_feasible_19 : decode cX8_feasible 19 = .ok (.ireturn, 1) := by decide +kernel
theorem dX8_shift_0 : decode cX8_shift 0 = .ok (.aload_n 0, 1) := by decide +kernel
theorem dX8_shift_1 : decode cX8_shift 1 = .ok (.iload_n 1, 1) := by decide +kernel
theorem dX8_shift_2 : decode cX8_shift 2 = .ok (.invokevirtual 209, 3) := by decide +kernel
theorem dX8_shift_5 : decode cX8_shift 5 = .ok (.ifCond .ne 8, 3) := by decide +kernel
theorem dX8_shift_8 : decode cX8_shift 8 = .ok (.bipush (-2), 2) := by decide +kernel
theorem dX8_shift_10 : decode cX8_shift 10 = .ok (.goto 34, 3) := by decide +kernel
theorem dX8_shift_13 : decode cX8_shift 13 = .ok (.aload_n 0, 1) := by decide +kernel
theorem dX8_shift_14 : decode cX8_shift 14 = .ok (.aload_n 0, 1) := by decide +kernel
theorem dX8_shift_15 : decode cX8_shift 15 = .ok (.getfield 7, 3) := by decide +kernel
theorem dX8_shift_18 : decode cX8_shift 18 = .ok (.iconst 0, 1) := by decide +kernel
theorem dX8_shift_19 : decode cX8_shift 19 = .ok (.iaload, 1) := by decide +kernel
theorem dX8_shift_20 : decode cX8_shift 20 = .ok (.iconst 0, 1) := by decide +kernel
theorem dX8_shift_21 : decode cX8_shift 21 = .ok (.invokevirtual 205, 3) := by decide +kernel
theorem dX8_shift_24 : decode cX8_shift 24 = .ok (.ifCond .eq 18, 3) := by decide +kernel
theorem dX8_shift_27 : decode cX8_shift 27 = .ok (.aload_n 0, 1) := by decide +kernel
theorem dX8_shift_28 : decode cX8_shift 28 = .ok (.getfield 67, 3) := by decide +kernel
theorem dX8_shift_31 : decode cX8_shift 31 = .ok (.iload_n 1, 1) := by decide +kernel
theorem dX8_shift_32 : decode cX8_shift 32 = .ok (.iaload, 1) := by decide +kernel
theorem dX8_shift_33 : decode cX8_shift 33 = .ok (.ineg, 1) := by decide +kernel
theorem dX8_shift_34 : decode cX8_shift 34 = .ok (.aload_n 0, 1) := by decide +kernel
theorem dX8_shift_35 : decode cX8_shift 35 = .ok (.getfield 97, 3) := by decide +kernel
theorem dX8_shift_38 : decode cX8_shift 38 = .ok (.imul, 1) := by decide +kernel
theorem dX8_shift_39 : decode cX8_shift 39 = .ok (.goto 5, 3) := by decide +kernel
theorem dX8_shift_42 : decode cX8_shift 42 = .ok (.bipush (-4), 2) := by decide +kernel
theorem dX8_shift_44 : decode cX8_shift 44 = .ok (.ireturn, 1) := by decide +kernel
theorem dX8_leastOf_0 : decode cX8_leastOf 0 = .ok (.aload_n 0, 1) := by decide +kernel
theorem dX8_leastOf_1 : decode cX8_leastOf 1 = .ok (.sipush 999, 3) := by decide +kernel
theorem dX8_leastOf_4 : decode cX8_leastOf 4 = .ok (.iconst 0, 1) := by decide +kernel
theorem dX8_leastOf_5 : decode cX8_leastOf 5 = .ok (.invokevirtual 205, 3) := by decide +kernel
theorem dX8_leastOf_8 : decode cX8_leastOf 8 = .ok (.ifCond .ne 5, 3) := by decide +kernel
theorem dX8_leastOf_11 : decode cX8_leastOf 11 = .ok (.iconst (-1), 1) := by decide +kernel
theorem dX8_leastOf_12 : decode cX8_leastOf 12 = .ok (.ireturn, 1) := by decide +kernel
theorem dX8_leastOf_13 : decode cX8_leastOf 13 = .ok (.iconst 0, 1) := by decide +kernel
theorem dX8_leastOf_14 : decode cX8_leastOf 14 = .ok (.istore_n 1, 1) := by decide +kernel
theorem dX8_leastOf_15 : decode cX8_leastOf 15 = .ok (.sipush 999, 3) := by decide +kernel
theorem dX8_leastOf_18 : decode cX8_leastOf 18 = .ok (.istore_n 2, 1) := by decide +kernel
theorem dX8_leastOf_19 : decode cX8_leastOf 19 = .ok (.iload_n 1, 1) := by decide +kernel
theorem dX8_leastOf_20 : decode cX8_leastOf 20 = .ok (.iload_n 2, 1) := by decide +kernel
theorem dX8_leastOf_21 : decode cX8_leastOf 21 = .ok (.if_icmp .ge 44, 3) := by decide +kernel
theorem dX8_leastOf_24 : decode cX8_leastOf 24 = .ok (.iload_n 1, 1) := by decide +kernel
theorem dX8_leastOf_25 : decode cX8_leastOf 25 = .ok (.iload_n 2, 1) := by decide +kernel
theorem dX8_leastOf_26 : decode cX8_leastOf 26 = .ok (.iadd, 1) := by decide +kernel
theorem dX8_leastOf_27 : decode cX8_leastOf 27 = .ok (.iconst 2, 1) := by decide +kernel
theorem dX8_leastOf_28 : decode cX8_leastOf 28 = .ok (.idiv, 1) := by decide +kernel
theorem dX8_leastOf_29 : decode cX8_leastOf 29 = .ok (.istore_n 3, 1) := by decide +kernel
theorem dX8_leastOf_30 : decode cX8_leastOf 30 = .ok (.aload_n 0, 1) := by decide +kernel
theorem dX8_leastOf_31 : decode cX8_leastOf 31 = .ok (.iload_n 3, 1) := by decide +kernel
theorem dX8_leastOf_32 : decode cX8_leastOf 32 = .ok (.iconst 0, 1) := by decide +kernel
theorem dX8_leastOf_33 : decode cX8_leastOf 33 = .ok (.invokevirtual 205, 3) := by decide +kernel
theorem dX8_leastOf_36 : decode cX8_leastOf 36 = .ok (.istore 4, 2) := by decide +kernel
theorem dX8_leastOf_38 : decode cX8_leastOf 38 = .ok (.iload 4, 2) := by decide +kernel
theorem dX8_leastOf_40 : decode cX8_leastOf 40 = .ok (.ifCond .eq 7, 3) := by decide +kernel
theorem dX8_leastOf_43 : decode cX8_leastOf 43 = .ok (.iload_n 3, 1) := by decide +kernel
theorem dX8_leastOf_44 : decode cX8_leastOf 44 = .ok (.goto 4, 3) := by decide +kernel
theorem dX8_leastOf_47 : decode cX8_leastOf 47 = .ok (.iload_n 2, 1) := by decide +kernel
theorem dX8_leastOf_48 : decode cX8_leastOf 48 = .ok (.istore_n 2, 1) := by decide +kernel
theorem dX8_leastOf_49 : decode cX8_leastOf 49 = .ok (.iload 4, 2) := by decide +kernel
theorem dX8_leastOf_51 : decode cX8_leastOf 51 = .ok (.ifCond .eq 7, 3) := by decide +kernel
theorem dX8_leastOf_54 : decode cX8_leastOf 54 = .ok (.iload_n 1, 1) := by decide +kernel
theorem dX8_leastOf_55 : decode cX8_leastOf 55 = .ok (.goto 6, 3) := by decide +kernel
theorem dX8_leastOf_58 : decode cX8_leastOf 58 = .ok (.iload_n 3, 1) := by decide +kernel
theorem dX8_leastOf_59 : decode cX8_leastOf 59 = .ok (.iconst 1, 1) := by decide +kernel
theorem dX8_leastOf_60 : decode cX8_leastOf 60 = .ok (.iadd, 1) := by decide +kernel
theorem dX8_leastOf_61 : decode cX8_leastOf 61 = .ok (.istore_n 1, 1) := by decide +kernel
theorem dX8_leastOf_62 : decode cX8_leastOf 62 = .ok (.goto (-43), 3) := by decide +kernel
theorem dX8_leastOf_65 : decode cX8_leastOf 65 = .ok (.iload_n 1, 1) := by decide +kernel
theorem dX8_leastOf_66 : decode cX8_leastOf 66 = .ok (.ireturn, 1) := by decide +kernel
theorem dX8_least_0 : decode cX8_least 0 = .ok (.aload_n 0, 1) := by decide +kernel
theorem dX8_least_1 : decode cX8_least 1 = .ok (.invokevirtual 212, 3) := by decide +kernel
theorem dX8_least_4 : decode cX8_least 4 = .ok (.ireturn, 1) := by decide +kernel
theorem dX8_isFeasibleBy_0 : decode cX8_isFeasibleBy 0 = .ok (.iconst 0, 1) := by decide +kernel
theorem dX8_isFeasibleBy_1 : decode cX8_isFeasibleBy 1 = .ok (.istore_n 3, 1) := by decide +kernel
theorem dX8_isFeasibleBy_2 : decode cX8_isFeasibleBy 2 = .ok (.iload_n 3, 1) := by decide +kernel
theorem dX8_isFeasibleBy_3 : decode cX8_isFeasibleBy 3 = .ok (.aload_n 0, 1) := by decide +kernel
theorem dX8_isFeasibleBy_4 : decode cX8_isFeasibleBy 4 = .ok (.getfield 88, 3) := by decide +kernel
theorem dX8_isFeasibleBy_7 : decode cX8_isFeasibleBy 7 = .ok (.if_icmp .ge 45, 3) := by decide +kernel
theorem dX8_isFeasibleBy_10 : decode cX8_isFeasibleBy 10 = .ok (.aload_n 0, 1) := by decide +kernel
theorem dX8_isFeasibleBy_11 : decode cX8_isFeasibleBy 11 = .ok (.getfield 61, 3) := by decide +kernel
theorem dX8_isFeasibleBy_14 : decode cX8_isFeasibleBy 14 = .ok (.iload_n 3, 1) := by decide +kernel
theorem dX8_isFeasibleBy_15 : decode cX8_isFeasibleBy 15 = .ok (.iload_n 1, 1) := by decide +kernel
theorem dX8_isFeasibleBy_16 : decode cX8_isFeasibleBy 16 = .ok (.iload_n 2, 1) := by decide +kernel
theorem dX8_isFeasibleBy_17 : decode cX8_isFeasibleBy 17 = .ok (.aload_n 0, 1) := by decide +kernel
theorem dX8_isFeasibleBy_18 : decode cX8_isFeasibleBy 18 = .ok (.getfield 7, 3) := by decide +kernel
theorem dX8_isFeasibleBy_21 : decode cX8_isFeasibleBy 21 = .ok (.iconst 1, 1) := by decide +kernel
theorem dX8_isFeasibleBy_22 : decode cX8_isFeasibleBy 22 = .ok (.iload_n 3, 1) := by decide +kernel
theorem dX8_isFeasibleBy_23 : decode cX8_isFeasibleBy 23 = .ok (.iadd, 1) := by decide +kernel
theorem dX8_isFeasibleBy_24 : decode cX8_isFeasibleBy 24 = .ok (.iaload, 1) := by decide +kernel
theorem dX8_isFeasibleBy_25 : decode cX8_isFeasibleBy 25 = .ok (.aload_n 0, 1) := by decide +kernel
theorem dX8_isFeasibleBy_26 : decode cX8_isFeasibleBy 26 = .ok (.getfield 91, 3) := by decide +kernel
theorem dX8_isFeasibleBy_29 : decode cX8_isFeasibleBy 29 = .ok (.iadd, 1) := by decide +kernel
theorem dX8_isFeasibleBy_30 : decode cX8_isFeasibleBy 30 = .ok (.imul, 1) := by decide +kernel
theorem dX8_isFeasibleBy_31 : decode cX8_isFeasibleBy 31 = .ok (.isub, 1) := by decide +kernel
theorem dX8_isFeasibleBy_32 : decode cX8_isFeasibleBy 32 = .ok (.iastore, 1) := by decide +kernel
theorem dX8_isFeasibleBy_33 : decode cX8_isFeasibleBy 33 = .ok (.aload_n 0, 1) := by decide +kernel
theorem dX8_isFeasibleBy_34 : decode cX8_isFeasibleBy 34 = .ok (.getfield 64, 3) := by decide +kernel
theorem dX8_isFeasibleBy_37 : decode cX8_isFeasibleBy 37 = .ok (.iload_n 3, 1) := by decide +kernel
theorem dX8_isFeasibleBy_38 : decode cX8_isFeasibleBy 38 = .ok (.iload_n 2, 1) := by decide +kernel
theorem dX8_isFeasibleBy_39 : decode cX8_isFeasibleBy 39 = .ok (.aload_n 0, 1) := by decide +kernel
theorem dX8_isFeasibleBy_40 : decode cX8_isFeasibleBy 40 = .ok (.iload_n 3, 1) := by decide +kernel
theorem dX8_isFeasibleBy_41 : decode cX8_isFeasibleBy 41 = .ok (.invokevirtual 182, 3) := by decide +kernel
theorem dX8_isFeasibleBy_44 : decode cX8_isFeasibleBy 44 = .ok (.imul, 1) := by decide +kernel
theorem dX8_isFeasibleBy_45 : decode cX8_isFeasibleBy 45 = .ok (.iastore, 1) := by decide +kernel
theorem dX8_isFeasibleBy_46 : decode cX8_isFeasibleBy 46 = .ok (.iinc 3 1, 3) := by decide +kernel
theorem dX8_isFeasibleBy_49 : decode cX8_isFeasibleBy 49 = .ok (.goto (-47), 3) := by decide +kernel
theorem dX8_isFeasibleBy_52 : decode cX8_isFeasibleBy 52 = .ok (.aload_n 0, 1) := by decide +kernel
theorem dX8_isFeasibleBy_53 : decode cX8_isFeasibleBy 53 = .ok (.invokevirtual 202, 3) := by decide +kernel
theorem dX8_isFeasibleBy_56 : decode cX8_isFeasibleBy 56 = .ok (.ireturn, 1) := by decide +kernel
theorem dX8_rate_0 : decode cX8_rate 0 = .ok (.iload_n 1, 1) := by decide +kernel
theorem dX8_rate_1 : decode cX8_rate 1 = .ok (.i2l, 1) := by decide +kernel
theorem dX8_rate_2 : decode cX8_rate 2 = .ok (.lconst 0, 1) := by decide +kernel
theorem dX8_rate_3 : decode cX8_rate 3 = .ok (.lconst 1, 1) := by decide +kernel
theorem dX8_rate_4 : decode cX8_rate 4 = .ok (.invokestatic 102, 3) := by decide +kernel
theorem dX8_rate_7 : decode cX8_rate 7 = .ok (.ifCond .ne 6, 3) := by decide +kernel
theorem dX8_rate_10 : decode cX8_rate 10 = .ok (.bipush (-3), 2) := by decide +kernel
theorem dX8_rate_12 : decode cX8_rate 12 = .ok (.ireturn, 1) := by decide +kernel
theorem dX8_rate_13 : decode cX8_rate 13 = .ok (.aload_n 0, 1) := by decide +kernel
theorem dX8_rate_14 : decode cX8_rate 14 = .ok (.sipush 4000, 3) := by decide +kernel
theorem dX8_rate_17 : decode cX8_rate 17 = .ok (.iconst 1, 1) := by decide +kernel
theorem dX8_rate_18 : decode cX8_rate 18 = .ok (.invokevirtual 215, 3) := by decide +kernel
theorem dX8_rate_21 : decode cX8_rate 21 = .ok (.ifCond .ne 5, 3) := by decide +kernel
theorem dX8_rate_24 : decode cX8_rate 24 = .ok (.iconst (-1), 1) := by decide +kernel
theorem dX8_rate_25 : decode cX8_rate 25 = .ok (.ireturn, 1) := by decide +kernel
theorem dX8_rate_26 : decode cX8_rate 26 = .ok (.sipush 4000, 3) := by decide +kernel
theorem dX8_rate_29 : decode cX8_rate 29 = .ok (.istore_n 2, 1) := by decide +kernel
theorem dX8_rate_30 : decode cX8_rate 30 = .ok (.iconst 1, 1) := by decide +kernel
theorem dX8_rate_31 : decode cX8_rate 31 = .ok (.istore_n 3, 1) := by decide +kernel
theorem dX8_rate_32 : decode cX8_rate 32 = .ok (.iconst 1, 1) := by decide +kernel
theorem dX8_rate_33 : decode cX8_rate 33 = .ok (.istore 4, 2) := by decide +kernel
theorem dX8_rate_35 : decode cX8_rate 35 = .ok (.iload 4, 2) := by decide +kernel
theorem dX8_rate_37 : decode cX8_rate 37 = .ok (.aload_n 0, 1) := by decide +kernel
theorem dX8_rate_38 : decode cX8_rate 38 = .ok (.getfield 84, 3) := by decide +kernel
theorem dX8_rate_41 : decode cX8_rate 41 = .ok (.if_icmp .gt 96, 3) := by decide +kernel
theorem dX8_rate_44 : decode cX8_rate 44 = .ok (.iconst 0, 1) := by decide +kernel
theorem dX8_rate_45 : decode cX8_rate 45 = .ok (.istore 5, 2) := by decide +kernel
theorem dX8_rate_47 : decode cX8_rate 47 = .ok (.sipush 4000, 3) := by decide +kernel
theorem dX8_rate_50 : decode cX8_rate 50 = .ok (.iload 4, 2) := by decide +kernel
theorem dX8_rate_52 : decode cX8_rate 52 = .ok (.imul, 1) := by decide +kernel
theorem dX8_rate_53 : decode cX8_rate 53 = .ok (.istore 6, 2) := by decide +kernel
theorem dX8_rate_55 : decode cX8_rate 55 = .ok (.iload 5, 2) := by decide +kernel
theorem dX8_rate_57 : decode cX8_rate 57 = .ok (.iload 6, 2) := by decide +kernel
theorem dX8_rate_59 : decode cX8_rate 59 = .ok (.if_icmp .ge 55, 3) := by decide +kernel
theorem dX8_rate_62 : decode cX8_rate 62 = .ok (.iload 5, 2) := by decide +kernel
theorem dX8_rate_64 : decode cX8_rate 64 = .ok (.iload 6, 2) := by decide +kernel
theorem dX8_rate_66 : decode cX8_rate 66 = .ok (.iadd, 1) := by decide +kernel
theorem dX8_rate_67 : decode cX8_rate 67 = .ok (.iconst 2, 1) := by decide +kernel
theorem dX8_rate_68 : decode cX8_rate 68 = .ok (.idiv, 1) := by decide +kernel
theorem dX8_rate_69 : decode cX8_rate 69 = .ok (.istore 7, 2) := by decide +kernel
theorem dX8_rate_71 : decode cX8_rate 71 = .ok (.aload_n 0, 1) := by decide +kernel
theorem dX8_rate_72 : decode cX8_rate 72 = .ok (.iload 7, 2) := by decide +kernel
theorem dX8_rate_74 : decode cX8_rate 74 = .ok (.iload 4, 2) := by decide +kernel
theorem dX8_rate_76 : decode cX8_rate 76 = .ok (.invokevirtual 215, 3) := by decide +kernel
theorem dX8_rate_79 : decode cX8_rate 79 = .ok (.istore 8, 2) := by decide +kernel
theorem dX8_rate_81 : decode cX8_rate 81 = .ok (.iload 8, 2) := by decide +kernel
theorem dX8_rate_83 : decode cX8_rate 83 = .ok (.ifCond .eq 8, 3) := by decide +kernel
theorem dX8_rate_86 : decode cX8_rate 86 = .ok (.iload 7, 2) := by decide +kernel
theorem dX8_rate_88 : decode cX8_rate 88 = .ok (.goto 5, 3) := by decide +kernel
theorem dX8_rate_91 : decode cX8_rate 91 = .ok (.iload 6, 2) := by decide +kernel
theorem dX8_rate_93 : decode cX8_rate 93 = .ok (.istore 6, 2) := by decide +kernel
theorem dX8_rate_95 : decode cX8_rate 95 = .ok (.iload 8, 2) := by decide +kernel
theorem dX8_rate_97 : decode cX8_rate 97 = .ok (.ifCond .eq 8, 3) := by decide +kernel
theorem dX8_rate_100 : decode cX8_rate 100 = .ok (.iload 5, 2) := by decide +kernel
theorem dX8_rate_102 : decode cX8_rate 102 = .ok (.goto 7, 3) := by decide +kernel
theorem dX8_rate_105 : decode cX8_rate 105 = .ok (.iload 7, 2) := by decide +kernel
theorem dX8_rate_107 : decode cX8_rate 107 = .ok (.iconst 1, 1) := by decide +kernel
theorem dX8_rate_108 : decode cX8_rate 108 = .ok (.iadd, 1) := by decide +kernel
theorem dX8_rate_109 : decode cX8_rate 109 = .ok (.istore 5, 2) := by decide +kernel
theorem dX8_rate_111 : decode cX8_rate 111 = .ok (.goto (-56), 3) := by decide +kernel
theorem dX8_rate_114 : decode cX8_rate 114 = .ok (.iload 5, 2) := by decide +kernel
theorem dX8_rate_116 : decode cX8_rate 116 = .ok (.iload_n 3, 1) := by decide +kernel
theorem dX8_rate_117 : decode cX8_rate 117 = .ok (.imul, 1) := by decide +kernel
theorem dX8_rate_118 : decode cX8_rate 118 = .ok (.iload_n 2, 1) := by decide +kernel
theorem dX8_rate_119 : decode cX8_rate 119 = .ok (.iload 4, 2) := by decide +kernel
theorem dX8_rate_121 : decode cX8_rate 121 = .ok (.imul, 1) := by decide +kernel
theorem dX8_rate_122 : decode cX8_rate 122 = .ok (.if_icmp .ge 9, 3) := by decide +kernel
theorem dX8_rate_125 : decode cX8_rate 125 = .ok (.iload 5, 2) := by decide +kernel
theorem dX8_rate_127 : decode cX8_rate 127 = .ok (.istore_n 2, 1) := by decide +kernel
theorem dX8_rate_128 : decode cX8_rate 128 = .ok (.iload 4, 2) := by decide +kernel
theorem dX8_rate_130 : decode cX8_rate 130 = .ok (.istore_n 3, 1) := by decide +kernel
theorem dX8_rate_131 : decode cX8_rate 131 = .ok (.iinc 4 1, 3) := by decide +kernel
theorem dX8_rate_134 : decode cX8_rate 134 = .ok (.goto (-99), 3) := by decide +kernel
theorem dX8_rate_137 : decode cX8_rate 137 = .ok (.iload_n 2, 1) := by decide +kernel
theorem dX8_rate_138 : decode cX8_rate 138 = .ok (.istore 4, 2) := by decide +kernel
theorem dX8_rate_140 : decode cX8_rate 140 = .ok (.iload_n 3, 1) := by decide +kernel
theorem dX8_rate_141 : decode cX8_rate 141 = .ok (.istore 5, 2) := by decide +kernel
theorem dX8_rate_143 : decode cX8_rate 143 = .ok (.iload 5, 2) := by decide +kernel
theorem dX8_rate_145 : decode cX8_rate 145 = .ok (.ifCond .eq 21, 3) := by decide +kernel
theorem dX8_rate_148 : decode cX8_rate 148 = .ok (.iload 4, 2) := by decide +kernel
theorem dX8_rate_150 : decode cX8_rate 150 = .ok (.iload 5, 2) := by decide +kernel
theorem dX8_rate_152 : decode cX8_rate 152 = .ok (.irem, 1) := by decide +kernel
theorem dX8_rate_153 : decode cX8_rate 153 = .ok (.istore 6, 2) := by decide +kernel
theorem dX8_rate_155 : decode cX8_rate 155 = .ok (.iload 5, 2) := by decide +kernel
theorem dX8_rate_157 : decode cX8_rate 157 = .ok (.istore 4, 2) := by decide +kernel
theorem dX8_rate_159 : decode cX8_rate 159 = .ok (.iload 6, 2) := by decide +kernel
theorem dX8_rate_161 : decode cX8_rate 161 = .ok (.istore 5, 2) := by decide +kernel
theorem dX8_rate_163 : decode cX8_rate 163 = .ok (.goto (-20), 3) := by decide +kernel
theorem dX8_rate_166 : decode cX8_rate 166 = .ok (.iload_n 1, 1) := by decide +kernel
theorem dX8_rate_167 : decode cX8_rate 167 = .ok (.ifCond .ne 10, 3) := by decide +kernel
theorem dX8_rate_170 : decode cX8_rate 170 = .ok (.iload_n 2, 1) := by decide +kernel
theorem dX8_rate_171 : decode cX8_rate 171 = .ok (.iload 4, 2) := by decide +kernel
theorem dX8_rate_173 : decode cX8_rate 173 = .ok (.idiv, 1) := by decide +kernel
theorem dX8_rate_174 : decode cX8_rate 174 = .ok (.goto 7, 3) := by decide +kernel
theorem dX8_rate_177 : decode cX8_rate 177 = .ok (.iload_n 3, 1) := by decide +kernel
theorem dX8_rate_178 : decode cX8_rate 178 = .ok (.iload 4, 2) := by decide +kernel
theorem dX8_rate_180 : decode cX8_rate 180 = .ok (.idiv, 1) := by decide +kernel
theorem dX8_rate_181 : decode cX8_rate 181 = .ok (.ireturn, 1) := by decide +kernel
theorem dX8_margin_0 : decode cX8_margin 0 = .ok (.sipush (-1200), 3) := by decide +kernel
theorem dX8_margin_3 : decode cX8_margin 3 = .ok (.istore_n 1, 1) := by decide +kernel
theorem dX8_margin_4 : decode cX8_margin 4 = .ok (.sipush 1200, 3) := by decide +kernel
theorem dX8_margin_7 : decode cX8_margin 7 = .ok (.istore_n 2, 1) := by decide +kernel
theorem dX8_margin_8 : decode cX8_margin 8 = .ok (.iload_n 1, 1) := by decide +kernel
theorem dX8_margin_9 : decode cX8_margin 9 = .ok (.iload_n 2, 1) := by decide +kernel
theorem dX8_margin_10 : decode cX8_margin 10 = .ok (.if_icmp .ge 53, 3) := by decide +kernel
theorem dX8_margin_13 : decode cX8_margin 13 = .ok (.iload_n 1, 1) := by decide +kernel
theorem dX8_margin_14 : decode cX8_margin 14 = .ok (.iload_n 2, 1) := by decide +kernel
theorem dX8_margin_15 : decode cX8_margin 15 = .ok (.iload_n 1, 1) := by decide +kernel
theorem dX8_margin_16 : decode cX8_margin 16 = .ok (.isub, 1) := by decide +kernel
theorem dX8_margin_17 : decode cX8_margin 17 = .ok (.iconst 1, 1) := by decide +kernel
theorem dX8_margin_18 : decode cX8_margin 18 = .ok (.iadd, 1) := by decide +kernel
theorem dX8_margin_19 : decode cX8_margin 19 = .ok (.iconst 2, 1) := by decide +kernel
theorem dX8_margin_20 : decode cX8_margin 20 = .ok (.idiv, 1) := by decide +kernel
theorem dX8_margin_21 : decode cX8_margin 21 = .ok (.iadd, 1) := by decide +kernel
theorem dX8_margin_22 : decode cX8_margin 22 = .ok (.istore_n 3, 1) := by decide +kernel
theorem dX8_margin_23 : decode cX8_margin 23 = .ok (.aload_n 0, 1) := by decide +kernel
theorem dX8_margin_24 : decode cX8_margin 24 = .ok (.aload_n 0, 1) := by decide +kernel
theorem dX8_margin_25 : decode cX8_margin 25 = .ok (.getfield 7, 3) := by decide +kernel
theorem dX8_margin_28 : decode cX8_margin 28 = .ok (.iconst 0, 1) := by decide +kernel
theorem dX8_margin_29 : decode cX8_margin 29 = .ok (.iaload, 1) := by decide +kernel
theorem dX8_margin_30 : decode cX8_margin 30 = .ok (.iload_n 3, 1) := by decide +kernel
theorem dX8_margin_31 : decode cX8_margin 31 = .ok (.invokevirtual 205, 3) := by decide +kernel
theorem dX8_margin_34 : decode cX8_margin 34 = .ok (.istore 4, 2) := by decide +kernel
theorem dX8_margin_36 : decode cX8_margin 36 = .ok (.iload 4, 2) := by decide +kernel
theorem dX8_margin_38 : decode cX8_margin 38 = .ok (.ifCond .eq 7, 3) := by decide +kernel
theorem dX8_margin_41 : decode cX8_margin 41 = .ok (.iload_n 3, 1) := by decide +kernel
theorem dX8_margin_42 : decode cX8_margin 42 = .ok (.goto 4, 3) := by decide +kernel
theorem dX8_margin_45 : decode cX8_margin 45 = .ok (.iload_n 1, 1) := by decide +kernel
theorem dX8_margin_46 : decode cX8_margin 46 = .ok (.istore_n 1, 1) := by decide +kernel
theorem dX8_margin_47 : decode cX8_margin 47 = .ok (.iload 4, 2) := by decide +kernel
theorem dX8_margin_49 : decode cX8_margin 49 = .ok (.ifCond .eq 7, 3) := by decide +kernel
theorem dX8_margin_52 : decode cX8_margin 52 = .ok (.iload_n 2, 1) := by decide +kernel
theorem dX8_margin_53 : decode cX8_margin 53 = .ok (.goto 6, 3) := by decide +kernel
theorem dX8_margin_56 : decode cX8_margin 56 = .ok (.iload_n 3, 1) := by decide +kernel
theorem dX8_margin_57 : decode cX8_margin 57 = .ok (.iconst 1, 1) := by decide +kernel
theorem dX8_margin_58 : decode cX8_margin 58 = .ok (.isub, 1) := by decide +kernel
theorem dX8_margin_59 : decode cX8_margin 59 = .ok (.istore_n 2, 1) := by decide +kernel
theorem dX8_margin_60 : decode cX8_margin 60 = .ok (.goto (-52), 3) := by decide +kernel
theorem dX8_margin_63 : decode cX8_margin 63 = .ok (.iload_n 1, 1) := by decide +kernel
theorem dX8_margin_64 : decode cX8_margin 64 = .ok (.sipush 2000, 3) := by decide +kernel
theorem dX8_margin_67 : decode cX8_margin 67 = .ok (.iadd, 1) := by decide +kernel
theorem dX8_margin_68 : decode cX8_margin 68 = .ok (.ireturn, 1) := by decide +kernel
theorem dX8_spare_0 : decode cX8_spare 0 = .ok (.aload_n 0, 1) := by decide +kernel
theorem dX8_spare_1 : decode cX8_spare 1 = .ok (.iload_n 1, 1) := by decide +kernel
theorem dX8_spare_2 : decode cX8_spare 2 = .ok (.invokevirtual 175, 3) := by decide +kernel
theorem dX8_spare_5 : decode cX8_spare 5 = .ok (.ifCond .ne 6, 3) := by decide +kernel
theorem dX8_spare_8 : decode cX8_spare 8 = .ok (.bipush (-2), 2) := by decide +kernel
theorem dX8_spare_10 : decode cX8_spare 10 = .ok (.ireturn, 1) := by decide +kernel
theorem dX8_spare_11 : decode cX8_spare 11 = .ok (.iload_n 2, 1) := by decide +kernel
theorem dX8_spare_12 : decode cX8_spare 12 = .ok (.i2l, 1) := by decide +kernel
theorem dX8_spare_13 : decode cX8_spare 13 = .ok (.lconst 0, 1) := by decide +kernel
theorem dX8_spare_14 : decode cX8_spare 14 = .ok (.lconst 1, 1) := by decide +kernel
theorem dX8_spare_15 : decode cX8_spare 15 = .ok (.invokestatic 102, 3) := by decide +kernel
theorem dX8_spare_18 : decode cX8_spare 18 = .ok (.ifCond .ne 6, 3) := by decide +kernel
theorem dX8_spare_21 : decode cX8_spare 21 = .ok (.bipush (-3), 2) := by decide +kernel
theorem dX8_spare_23 : decode cX8_spare 23 = .ok (.ireturn, 1) := by decide +kernel
theorem dX8_spare_24 : decode cX8_spare 24 = .ok (.aload_n 0, 1) := by decide +kernel
theorem dX8_spare_25 : decode cX8_spare 25 = .ok (.aload_n 0, 1) := by decide +kernel
theorem dX8_spare_26 : decode cX8_spare 26 = .ok (.getfield 7, 3) := by decide +kernel
theorem dX8_spare_29 : decode cX8_spare 29 = .ok (.iconst 0, 1) := by decide +kernel
theorem dX8_spare_30 : decode cX8_spare 30 = .ok (.iaload, 1) := by decide +kernel
theorem dX8_spare_31 : decode cX8_spare 31 = .ok (.iconst 0, 1) := by decide +kernel
theorem dX8_spare_32 : decode cX8_spare 32 = .ok (.invokevirtual 205, 3) := by decide +kernel
theorem dX8_spare_35 : decode cX8_spare 35 = .ok (.ifCond .ne 6, 3) := by decide +kernel
theorem dX8_spare_38 : decode cX8_spare 38 = .ok (.bipush (-4), 2) := by decide +kernel
theorem dX8_spare_40 : decode cX8_spare 40 = .ok (.ireturn, 1) := by decide +kernel
theorem dX8_spare_41 : decode cX8_spare 41 = .ok (.aload_n 0, 1) := by decide +kernel
theorem dX8_spare_42 : decode cX8_spare 42 = .ok (.getfield 67, 3) := by decide +kernel
theorem dX8_spare_45 : decode cX8_spare 45 = .ok (.aload_n 0, 1) := by decide +kernel
theorem dX8_spare_46 : decode cX8_spare 46 = .ok (.getfield 13, 3) := by decide +kernel
theorem dX8_spare_49 : decode cX8_spare 49 = .ok (.iload_n 1, 1) := by decide +kernel
theorem dX8_spare_50 : decode cX8_spare 50 = .ok (.iaload, 1) := by decide +kernel
theorem dX8_spare_51 : decode cX8_spare 51 = .ok (.iaload, 1) := by decide +kernel
theorem dX8_spare_52 : decode cX8_spare 52 = .ok (.aload_n 0, 1) := by decide +kernel
theorem dX8_spare_53 : decode cX8_spare 53 = .ok (.getfield 67, 3) := by decide +kernel
theorem dX8_spare_56 : decode cX8_spare 56 = .ok (.aload_n 0, 1) := by decide +kernel
theorem dX8_spare_57 : decode cX8_spare 57 = .ok (.getfield 16, 3) := by decide +kernel
theorem dX8_spare_60 : decode cX8_spare 60 = .ok (.iload_n 1, 1) := by decide +kernel
theorem dX8_spare_61 : decode cX8_spare 61 = .ok (.iaload, 1) := by decide +kernel
theorem dX8_spare_62 : decode cX8_spare 62 = .ok (.iaload, 1) := by decide +kernel
theorem dX8_spare_63 : decode cX8_spare 63 = .ok (.isub, 1) := by decide +kernel
theorem dX8_spare_64 : decode cX8_spare 64 = .ok (.aload_n 0, 1) := by decide +kernel
theorem dX8_spare_65 : decode cX8_spare 65 = .ok (.getfield 97, 3) := by decide +kernel
theorem dX8_spare_68 : decode cX8_spare 68 = .ok (.imul, 1) := by decide +kernel
theorem dX8_spare_69 : decode cX8_spare 69 = .ok (.istore_n 3, 1) := by decide +kernel
theorem dX8_spare_70 : decode cX8_spare 70 = .ok (.iload_n 2, 1) := by decide +kernel
theorem dX8_spare_71 : decode cX8_spare 71 = .ok (.ifCond .ne 19, 3) := by decide +kernel
theorem dX8_spare_74 : decode cX8_spare 74 = .ok (.aload_n 0, 1) := by decide +kernel
theorem dX8_spare_75 : decode cX8_spare 75 = .ok (.iload_n 1, 1) := by decide +kernel
theorem dX8_spare_76 : decode cX8_spare 76 = .ok (.aload_n 0, 1) := by decide +kernel
theorem dX8_spare_77 : decode cX8_spare 77 = .ok (.getfield 7, 3) := by decide +kernel
theorem dX8_spare_80 : decode cX8_spare 80 = .ok (.iconst 0, 1) := by decide +kernel
theorem dX8_spare_81 : decode cX8_spare 81 = .ok (.iaload, 1) := by decide +kernel
theorem dX8_spare_82 : decode cX8_spare 82 = .ok (.invokevirtual 178, 3) := by decide +kernel
theorem dX8_spare_85 : decode cX8_spare 85 = .ok (.iload_n 3, 1) := by decide +kernel
theorem dX8_spare_86 : decode cX8_spare 86 = .ok (.isub, 1) := by decide +kernel
theorem dX8_spare_87 : decode cX8_spare 87 = .ok (.goto 10, 3) := by decide +kernel
theorem dX8_spare_90 : decode cX8_spare 90 = .ok (.aload_n 0, 1) := by decide +kernel
theorem dX8_spare_91 : decode cX8_spare 91 = .ok (.iload_n 1, 1) := by decide +kernel
theorem dX8_spare_92 : decode cX8_spare 92 = .ok (.invokevirtual 182, 3) := by decide +kernel
theorem dX8_spare_95 : decode cX8_spare 95 = .ok (.iload_n 3, 1) := by decide +kernel
theorem dX8_spare_96 : decode cX8_spare 96 = .ok (.iadd, 1) := by decide +kernel
theorem dX8_spare_97 : decode cX8_spare 97 = .ok (.ireturn, 1) := by decide +kernel
theorem dX8_layLeast_0 : decode cX8_layLeast 0 = .ok (.aload_n 0, 1) := by decide +kernel
theorem dX8_layLeast_1 : decode cX8_layLeast 1 = .ok (.aload_n 0, 1) := by decide +kernel
theorem dX8_layLeast_2 : decode cX8_layLeast 2 = .ok (.getfield 7, 3) := by decide +kernel
theorem dX8_layLeast_5 : decode cX8_layLeast 5 = .ok (.iconst 0, 1) := by decide +kernel
theorem dX8_layLeast_6 : decode cX8_layLeast 6 = .ok (.iaload, 1) := by decide +kernel
theorem dX8_layLeast_7 : decode cX8_layLeast 7 = .ok (.iconst 0, 1) := by decide +kernel
theorem dX8_layLeast_8 : decode cX8_layLeast 8 = .ok (.invokevirtual 199, 3) := by decide +kernel
theorem dX8_layLeast_11 : decode cX8_layLeast 11 = .ok (.iconst 0, 1) := by decide +kernel
theorem dX8_layLeast_12 : decode cX8_layLeast 12 = .ok (.istore_n 1, 1) := by decide +kernel
theorem dX8_layLeast_13 : decode cX8_layLeast 13 = .ok (.iload_n 1, 1) := by decide +kernel
theorem dX8_layLeast_14 : decode cX8_layLeast 14 = .ok (.bipush 64, 2) := by decide +kernel
theorem dX8_layLeast_16 : decode cX8_layLeast 16 = .ok (.if_icmp .ge 17, 3) := by decide +kernel
theorem dX8_layLeast_19 : decode cX8_layLeast 19 = .ok (.aload_n 0, 1) := by decide +kernel
theorem dX8_layLeast_20 : decode cX8_layLeast 20 = .ok (.getfield 70, 3) := by decide +kernel
theorem dX8_layLeast_23 : decode cX8_layLeast 23 = .ok (.iload_n 1, 1) := by decide +kernel
theorem dX8_layLeast_24 : decode cX8_layLeast 24 = .ok (.ldc 218, 2) := by decide +kernel
theorem dX8_layLeast_26 : decode cX8_layLeast 26 = .ok (.iastore, 1) := by decide +kernel
theorem dX8_layLeast_27 : decode cX8_layLeast 27 = .ok (.iinc 1 1, 3) := by decide +kernel
theorem dX8_layLeast_30 : decode cX8_layLeast 30 = .ok (.goto (-17), 3) := by decide +kernel
theorem dX8_layLeast_33 : decode cX8_layLeast 33 = .ok (.iconst 0, 1) := by decide +kernel
theorem dX8_layLeast_34 : decode cX8_layLeast 34 = .ok (.istore_n 1, 1) := by decide +kernel
theorem dX8_layLeast_35 : decode cX8_layLeast 35 = .ok (.iload_n 1, 1) := by decide +kernel
theorem dX8_layLeast_36 : decode cX8_layLeast 36 = .ok (.aload_n 0, 1) := by decide +kernel
theorem dX8_layLeast_37 : decode cX8_layLeast 37 = .ok (.getfield 88, 3) := by decide +kernel
theorem dX8_layLeast_40 : decode cX8_layLeast 40 = .ok (.if_icmp .ge 115, 3) := by decide +kernel
theorem dX8_layLeast_43 : decode cX8_layLeast 43 = .ok (.bipush 8, 2) := by decide +kernel
theorem dX8_layLeast_45 : decode cX8_layLeast 45 = .ok (.aload_n 0, 1) := by decide +kernel
theorem dX8_layLeast_46 : decode cX8_layLeast 46 = .ok (.getfield 13, 3) := by decide +kernel
theorem dX8_layLeast_49 : decode cX8_layLeast 49 = .ok (.iload_n 1, 1) := by decide +kernel
theorem dX8_layLeast_50 : decode cX8_layLeast 50 = .ok (.iaload, 1) := by decide +kernel
theorem dX8_layLeast_51 : decode cX8_layLeast 51 = .ok (.imul, 1) := by decide +kernel
theorem dX8_layLeast_52 : decode cX8_layLeast 52 = .ok (.aload_n 0, 1) := by decide +kernel
theorem dX8_layLeast_53 : decode cX8_layLeast 53 = .ok (.getfield 16, 3) := by decide +kernel
theorem dX8_layLeast_56 : decode cX8_layLeast 56 = .ok (.iload_n 1, 1) := by decide +kernel
theorem dX8_layLeast_57 : decode cX8_layLeast 57 = .ok (.iaload, 1) := by decide +kernel
theorem dX8_layLeast_58 : decode cX8_layLeast 58 = .ok (.iadd, 1) := by decide +kernel
theorem dX8_layLeast_59 : decode cX8_layLeast 59 = .ok (.istore_n 2, 1) := by decide +kernel
theorem dX8_layLeast_60 : decode cX8_layLeast 60 = .ok (.bipush 8, 2) := by decide +kernel
theorem dX8_layLeast_62 : decode cX8_layLeast 62 = .ok (.aload_n 0, 1) := by decide +kernel
theorem dX8_layLeast_63 : decode cX8_layLeast 63 = .ok (.getfield 16, 3) := by decide +kernel
theorem dX8_layLeast_66 : decode cX8_layLeast 66 = .ok (.iload_n 1, 1) := by decide +kernel
theorem dX8_layLeast_67 : decode cX8_layLeast 67 = .ok (.iaload, 1) := by decide +kernel
theorem dX8_layLeast_68 : decode cX8_layLeast 68 = .ok (.imul, 1) := by decide +kernel
theorem dX8_layLeast_69 : decode cX8_layLeast 69 = .ok (.aload_n 0, 1) := by decide +kernel
theorem dX8_layLeast_70 : decode cX8_layLeast 70 = .ok (.getfield 13, 3) := by decide +kernel
theorem dX8_layLeast_73 : decode cX8_layLeast 73 = .ok (.iload_n 1, 1) := by decide +kernel
theorem dX8_layLeast_74 : decode cX8_layLeast 74 = .ok (.iaload, 1) := by decide +kernel
theorem dX8_layLeast_75 : decode cX8_layLeast 75 = .ok (.iadd, 1) := by decide +kernel
theorem dX8_layLeast_76 : decode cX8_layLeast 76 = .ok (.istore_n 3, 1) := by decide +kernel
theorem dX8_layLeast_77 : decode cX8_layLeast 77 = .ok (.aload_n 0, 1) := by decide +kernel
theorem dX8_layLeast_78 : decode cX8_layLeast 78 = .ok (.getfield 70, 3) := by decide +kernel
theorem dX8_layLeast_81 : decode cX8_layLeast 81 = .ok (.iload_n 2, 1) := by decide +kernel
theorem dX8_layLeast_82 : decode cX8_layLeast 82 = .ok (.aload_n 0, 1) := by decide +kernel
theorem dX8_layLeast_83 : decode cX8_layLeast 83 = .ok (.getfield 61, 3) := by decide +kernel
theorem dX8_layLeast_86 : decode cX8_layLeast 86 = .ok (.iload_n 1, 1) := by decide +kernel
theorem dX8_layLeast_87 : decode cX8_layLeast 87 = .ok (.iaload, 1) := by decide +kernel
theorem dX8_layLeast_88 : decode cX8_layLeast 88 = .ok (.aload_n 0, 1) := by decide +kernel
theorem dX8_layLeast_89 : decode cX8_layLeast 89 = .ok (.getfield 70, 3) := by decide +kernel
theorem dX8_layLeast_92 : decode cX8_layLeast 92 = .ok (.iload_n 2, 1) := by decide +kernel
theorem dX8_layLeast_93 : decode cX8_layLeast 93 = .ok (.iaload, 1) := by decide +kernel
theorem dX8_layLeast_94 : decode cX8_layLeast 94 = .ok (.if_icmp .ge 12, 3) := by decide +kernel
theorem dX8_layLeast_97 : decode cX8_layLeast 97 = .ok (.aload_n 0, 1) := by decide +kernel
theorem dX8_layLeast_98 : decode cX8_layLeast 98 = .ok (.getfield 61, 3) := by decide +kernel
theorem dX8_layLeast_101 : decode cX8_layLeast 101 = .ok (.iload_n 1, 1) := by decide +kernel
theorem dX8_layLeast_102 : decode cX8_layLeast 102 = .ok (.iaload, 1) := by decide +kernel
theorem dX8_layLeast_103 : decode cX8_layLeast 103 = .ok (.goto 9, 3) := by decide +kernel
theorem dX8_layLeast_106 : decode cX8_layLeast 106 = .ok (.aload_n 0, 1) := by decide +kernel
theorem dX8_layLeast_107 : decode cX8_layLeast 107 = .ok (.getfield 70, 3) := by decide +kernel
theorem dX8_layLeast_110 : decode cX8_layLeast 110 = .ok (.iload_n 2, 1) := by decide +kernel
theorem dX8_layLeast_111 : decode cX8_layLeast 111 = .ok (.iaload, 1) := by decide +kernel
theorem dX8_layLeast_112 : decode cX8_layLeast 112 = .ok (.iastore, 1) := by decide +kernel
theorem dX8_layLeast_113 : decode cX8_layLeast 113 = .ok (.aload_n 0, 1) := by decide +kernel
theorem dX8_layLeast_114 : decode cX8_layLeast 114 = .ok (.getfield 70, 3) := by decide +kernel
theorem dX8_layLeast_117 : decode cX8_layLeast 117 = .ok (.iload_n 3, 1) := by decide +kernel
theorem dX8_layLeast_118 : decode cX8_layLeast 118 = .ok (.aload_n 0, 1) := by decide +kernel
theorem dX8_layLeast_119 : decode cX8_layLeast 119 = .ok (.getfield 64, 3) := by decide +kernel
theorem dX8_layLeast_122 : decode cX8_layLeast 122 = .ok (.iload_n 1, 1) := by decide +kernel
theorem dX8_layLeast_123 : decode cX8_layLeast 123 = .ok (.iaload, 1) := by decide +kernel
theorem dX8_layLeast_124 : decode cX8_layLeast 124 = .ok (.aload_n 0, 1) := by decide +kernel
theorem dX8_layLeast_125 : decode cX8_layLeast 125 = .ok (.getfield 70, 3) := by decide +kernel
theorem dX8_layLeast_128 : decode cX8_layLeast 128 = .ok (.iload_n 3, 1) := by decide +kernel
theorem dX8_layLeast_129 : decode cX8_layLeast 129 = .ok (.iaload, 1) := by decide +kernel
theorem dX8_layLeast_130 : decode cX8_layLeast 130 = .ok (.if_icmp .ge 12, 3) := by decide +kernel
theorem dX8_layLeast_133 : decode cX8_layLeast 133 = .ok (.aload_n 0, 1) := by decide +kernel
theorem dX8_layLeast_134 : decode cX8_layLeast 134 = .ok (.getfield 64, 3) := by decide +kernel
theorem dX8_layLeast_137 : decode cX8_layLeast 137 = .ok (.iload_n 1, 1) := by decide +kernel
theorem dX8_layLeast_138 : decode cX8_layLeast 138 = .ok (.iaload, 1) := by decide +kernel
theorem dX8_layLeast_139 : decode cX8_layLeast 139 = .ok (.goto 9, 3) := by decide +kernel
theorem dX8_layLeast_142 : decode cX8_layLeast 142 = .ok (.aload_n 0, 1) := by decide +kernel
theorem dX8_layLeast_143 : decode cX8_layLeast 143 = .ok (.getfield 70, 3) := by decide +kernel
theorem dX8_layLeast_146 : decode cX8_layLeast 146 = .ok (.iload_n 3, 1) := by decide +kernel
theorem dX8_layLeast_147 : decode cX8_layLeast 147 = .ok (.iaload, 1) := by decide +kernel
theorem dX8_layLeast_148 : decode cX8_layLeast 148 = .ok (.iastore, 1) := by decide +kernel
theorem dX8_layLeast_149 : decode cX8_layLeast 149 = .ok (.iinc 1 1, 3) := by decide +kernel
theorem dX8_layLeast_152 : decode cX8_layLeast 152 = .ok (.goto (-117), 3) := by decide +kernel
theorem dX8_layLeast_155 : decode cX8_layLeast 155 = .ok (.return_, 1) := by decide +kernel
theorem dX8_isInRing_0 : decode cX8_isInRing 0 = .ok (.iconst 0, 1) := by decide +kernel
theorem dX8_isInRing_1 : decode cX8_isInRing 1 = .ok (.istore_n 2, 1) := by decide +kernel
theorem dX8_isInRing_2 : decode cX8_isInRing 2 = .ok (.iconst 0, 1) := by decide +kernel
theorem dX8_isInRing_3 : decode cX8_isInRing 3 = .ok (.istore_n 3, 1) := by decide +kernel
theorem dX8_isInRing_4 : decode cX8_isInRing 4 = .ok (.iload_n 3, 1) := by decide +kernel
theorem dX8_isInRing_5 : decode cX8_isInRing 5 = .ok (.aload_n 0, 1) := by decide +kernel
theorem dX8_isInRing_6 : decode cX8_isInRing 6 = .ok (.getfield 219, 3) := by decide +kernel
theorem dX8_isInRing_9 : decode cX8_isInRing 9 = .ok (.if_icmp .ge 29, 3) := by decide +kernel
theorem dX8_isInRing_12 : decode cX8_isInRing 12 = .ok (.iload_n 2, 1) := by decide +kernel
theorem dX8_isInRing_13 : decode cX8_isInRing 13 = .ok (.ifCond .ne 13, 3) := by decide +kernel
theorem dX8_isInRing_16 : decode cX8_isInRing 16 = .ok (.aload_n 0, 1) := by decide +kernel
theorem dX8_isInRing_17 : decode cX8_isInRing 17 = .ok (.getfield 73, 3) := by decide +kernel
theorem dX8_isInRing_20 : decode cX8_isInRing 20 = .ok (.iload_n 3, 1) := by decide +kernel
theorem dX8_isInRing_21 : decode cX8_isInRing 21 = .ok (.iaload, 1) := by decide +kernel
theorem dX8_isInRing_22 : decode cX8_isInRing 22 = .ok (.iload_n 1, 1) := by decide +kernel
theorem dX8_isInRing_23 : decode cX8_isInRing 23 = .ok (.if_icmp .ne 7, 3) := by decide +kernel
theorem dX8_isInRing_26 : decode cX8_isInRing 26 = .ok (.iconst 1, 1) := by decide +kernel
theorem dX8_isInRing_27 : decode cX8_isInRing 27 = .ok (.goto 4, 3) := by decide +kernel
theorem dX8_isInRing_30 : decode cX8_isInRing 30 = .ok (.iconst 0, 1) := by decide +kernel
theorem dX8_isInRing_31 : decode cX8_isInRing 31 = .ok (.istore_n 2, 1) := by decide +kernel
theorem dX8_isInRing_32 : decode cX8_isInRing 32 = .ok (.iinc 3 1, 3) := by decide +kernel
theorem dX8_isInRing_35 : decode cX8_isInRing 35 = .ok (.goto (-31), 3) := by decide +kernel
theorem dX8_isInRing_38 : decode cX8_isInRing 38 = .ok (.iload_n 2, 1) := by decide +kernel
theorem dX8_isInRing_39 : decode cX8_isInRing 39 = .ok (.ireturn, 1) := by decide +kernel
theorem dX8_isBelow_0 : decode cX8_isBelow 0 = .ok (.iconst 0, 1) := by decide +kernel
theorem dX8_isBelow_1 : decode cX8_isBelow 1 = .ok (.istore_n 1, 1) := by decide +kernel
theorem dX8_isBelow_2 : decode cX8_isBelow 2 = .ok (.iconst 0, 1) := by decide +kernel
theorem dX8_isBelow_3 : decode cX8_isBelow 3 = .ok (.istore_n 2, 1) := by decide +kernel
theorem dX8_isBelow_4 : decode cX8_isBelow 4 = .ok (.iload_n 2, 1) := by decide +kernel
theorem dX8_isBelow_5 : decode cX8_isBelow 5 = .ok (.aload_n 0, 1) := by decide +kernel
theorem dX8_isBelow_6 : decode cX8_isBelow 6 = .ok (.getfield 219, 3) := by decide +kernel
theorem dX8_isBelow_9 : decode cX8_isBelow 9 = .ok (.if_icmp .ge 40, 3) := by decide +kernel
theorem dX8_isBelow_12 : decode cX8_isBelow 12 = .ok (.iload_n 1, 1) := by decide +kernel
theorem dX8_isBelow_13 : decode cX8_isBelow 13 = .ok (.aload_n 0, 1) := by decide +kernel
theorem dX8_isBelow_14 : decode cX8_isBelow 14 = .ok (.getfield 70, 3) := by decide +kernel
theorem dX8_isBelow_17 : decode cX8_isBelow 17 = .ok (.bipush 8, 2) := by decide +kernel
theorem dX8_isBelow_19 : decode cX8_isBelow 19 = .ok (.aload_n 0, 1) := by decide +kernel
theorem dX8_isBelow_20 : decode cX8_isBelow 20 = .ok (.getfield 73, 3) := by decide +kernel
theorem dX8_isBelow_23 : decode cX8_isBelow 23 = .ok (.iload_n 2, 1) := by decide +kernel
theorem dX8_isBelow_24 : decode cX8_isBelow 24 = .ok (.iaload, 1) := by decide +kernel
theorem dX8_isBelow_25 : decode cX8_isBelow 25 = .ok (.imul, 1) := by decide +kernel
theorem dX8_isBelow_26 : decode cX8_isBelow 26 = .ok (.aload_n 0, 1) := by decide +kernel
theorem dX8_isBelow_27 : decode cX8_isBelow 27 = .ok (.getfield 73, 3) := by decide +kernel
theorem dX8_isBelow_30 : decode cX8_isBelow 30 = .ok (.iload_n 2, 1) := by decide +kernel
theorem dX8_isBelow_31 : decode cX8_isBelow 31 = .ok (.iconst 1, 1) := by decide +kernel
theorem dX8_isBelow_32 : decode cX8_isBelow 32 = .ok (.iadd, 1) := by decide +kernel
theorem dX8_isBelow_33 : decode cX8_isBelow 33 = .ok (.aload_n 0, 1) := by decide +kernel
theorem dX8_isBelow_34 : decode cX8_isBelow 34 = .ok (.getfield 219, 3) := by decide +kernel
theorem dX8_isBelow_37 : decode cX8_isBelow 37 = .ok (.irem, 1) := by decide +kernel
theorem dX8_isBelow_38 : decode cX8_isBelow 38 = .ok (.iaload, 1) := by decide +kernel
theorem dX8_isBelow_39 : decode cX8_isBelow 39 = .ok (.iadd, 1) := by decide +kernel
theorem dX8_isBelow_40 : decode cX8_isBelow 40 = .ok (.iaload, 1) := by decide +kernel
theorem dX8_isBelow_41 : decode cX8_isBelow 41 = .ok (.iadd, 1) := by decide +kernel
theorem dX8_isBelow_42 : decode cX8_isBelow 42 = .ok (.istore_n 1, 1) := by decide +kernel
theorem dX8_isBelow_43 : decode cX8_isBelow 43 = .ok (.iinc 2 1, 3) := by decide +kernel
theorem dX8_isBelow_46 : decode cX8_isBelow 46 = .ok (.goto (-42), 3) := by decide +kernel
theorem dX8_isBelow_49 : decode cX8_isBelow 49 = .ok (.iload_n 1, 1) := by decide +kernel
theorem dX8_isBelow_50 : decode cX8_isBelow 50 = .ok (.ifCond .ge 7, 3) := by decide +kernel
theorem dX8_isBelow_53 : decode cX8_isBelow 53 = .ok (.iconst 1, 1) := by decide +kernel
theorem dX8_isBelow_54 : decode cX8_isBelow 54 = .ok (.goto 4, 3) := by decide +kernel
theorem dX8_isBelow_57 : decode cX8_isBelow 57 = .ok (.iconst 0, 1) := by decide +kernel
theorem dX8_isBelow_58 : decode cX8_isBelow 58 = .ok (.ireturn, 1) := by decide +kernel
theorem dX8_nextFrom_0 : decode cX8_nextFrom 0 = .ok (.iload_n 1, 1) := by decide +kernel
theorem dX8_nextFrom_1 : decode cX8_nextFrom 1 = .ok (.istore_n 2, 1) := by decide +kernel
theorem dX8_nextFrom_2 : decode cX8_nextFrom 2 = .ok (.iload_n 2, 1) := by decide +kernel
theorem dX8_nextFrom_3 : decode cX8_nextFrom 3 = .ok (.aload_n 0, 1) := by decide +kernel
theorem dX8_nextFrom_4 : decode cX8_nextFrom 4 = .ok (.getfield 84, 3) := by decide +kernel
theorem dX8_nextFrom_7 : decode cX8_nextFrom 7 = .ok (.if_icmp .ge 27, 3) := by decide +kernel
theorem dX8_nextFrom_10 : decode cX8_nextFrom 10 = .ok (.aload_n 0, 1) := by decide +kernel
theorem dX8_nextFrom_11 : decode cX8_nextFrom 11 = .ok (.iload_n 2, 1) := by decide +kernel
theorem dX8_nextFrom_12 : decode cX8_nextFrom 12 = .ok (.invokevirtual 222, 3) := by decide +kernel
theorem dX8_nextFrom_15 : decode cX8_nextFrom 15 = .ok (.ifCond .ne 13, 3) := by decide +kernel
theorem dX8_nextFrom_18 : decode cX8_nextFrom 18 = .ok (.iload_n 2, 1) := by decide +kernel
theorem dX8_nextFrom_19 : decode cX8_nextFrom 19 = .ok (.aload_n 0, 1) := by decide +kernel
theorem dX8_nextFrom_20 : decode cX8_nextFrom 20 = .ok (.getfield 73, 3) := by decide +kernel
theorem dX8_nextFrom_23 : decode cX8_nextFrom 23 = .ok (.iconst 0, 1) := by decide +kernel
theorem dX8_nextFrom_24 : decode cX8_nextFrom 24 = .ok (.iaload, 1) := by decide +kernel
theorem dX8_nextFrom_25 : decode cX8_nextFrom 25 = .ok (.if_icmp .ge 9, 3) := by decide +kernel
theorem dX8_nextFrom_28 : decode cX8_nextFrom 28 = .ok (.iinc 2 1, 3) := by decide +kernel
theorem dX8_nextFrom_31 : decode cX8_nextFrom 31 = .ok (.goto (-29), 3) := by decide +kernel
theorem dX8_nextFrom_34 : decode cX8_nextFrom 34 = .ok (.iload_n 2, 1) := by decide +kernel
theorem dX8_nextFrom_35 : decode cX8_nextFrom 35 = .ok (.aload_n 0, 1) := by decide +kernel
theorem dX8_nextFrom_36 : decode cX8_nextFrom 36 = .ok (.getfield 84, 3) := by decide +kernel
theorem dX8_nextFrom_39 : decode cX8_nextFrom 39 = .ok (.if_icmp .ge 7, 3) := by decide +kernel
theorem dX8_nextFrom_42 : decode cX8_nextFrom 42 = .ok (.iload_n 2, 1) := by decide +kernel
theorem dX8_nextFrom_43 : decode cX8_nextFrom 43 = .ok (.goto 4, 3) := by decide +kernel
theorem dX8_nextFrom_46 : decode cX8_nextFrom 46 = .ok (.iconst (-1), 1) := by decide +kernel
theorem dX8_nextFrom_47 : decode cX8_nextFrom 47 = .ok (.ireturn, 1) := by decide +kernel
theorem dX8_goOn_0 : decode cX8_goOn 0 = .ok (.aload_n 0, 1) := by decide +kernel
theorem dX8_goOn_1 : decode cX8_goOn 1 = .ok (.iconst 0, 1) := by decide +kernel
theorem dX8_goOn_2 : decode cX8_goOn 2 = .ok (.invokevirtual 225, 3) := by decide +kernel
theorem dX8_goOn_5 : decode cX8_goOn 5 = .ok (.istore_n 1, 1) := by decide +kernel
theorem dX8_goOn_6 : decode cX8_goOn 6 = .ok (.iload_n 1, 1) := by decide +kernel
theorem dX8_goOn_7 : decode cX8_goOn 7 = .ok (.iconst (-1), 1) := by decide +kernel
theorem dX8_goOn_8 : decode cX8_goOn 8 = .ok (.if_icmp .ne 40, 3) := by decide +kernel
theorem dX8_goOn_11 : decode cX8_goOn 11 = .ok (.aload_n 0, 1) := by decide +kernel
theorem dX8_goOn_12 : decode cX8_goOn 12 = .ok (.getfield 219, 3) := by decide +kernel
theorem dX8_goOn_15 : decode cX8_goOn 15 = .ok (.iconst 1, 1) := by decide +kernel
theorem dX8_goOn_16 : decode cX8_goOn 16 = .ok (.if_icmp .le 32, 3) := by decide +kernel
theorem dX8_goOn_19 : decode cX8_goOn 19 = .ok (.aload_n 0, 1) := by decide +kernel
theorem dX8_goOn_20 : decode cX8_goOn 20 = .ok (.dup, 1) := by decide +kernel
theorem dX8_goOn_21 : decode cX8_goOn 21 = .ok (.getfield 219, 3) := by decide +kernel
theorem dX8_goOn_24 : decode cX8_goOn 24 = .ok (.iconst 1, 1) := by decide +kernel
theorem dX8_goOn_25 : decode cX8_goOn 25 = .ok (.isub, 1) := by decide +kernel
theorem dX8_goOn_26 : decode cX8_goOn 26 = .ok (.putfield 219, 3) := by decide +kernel
theorem dX8_goOn_29 : decode cX8_goOn 29 = .ok (.aload_n 0, 1) := by decide +kernel
theorem dX8_goOn_30 : decode cX8_goOn 30 = .ok (.aload_n 0, 1) := by decide +kernel
theorem dX8_goOn_31 : decode cX8_goOn 31 = .ok (.getfield 73, 3) := by decide +kernel
theorem dX8_goOn_34 : decode cX8_goOn 34 = .ok (.aload_n 0, 1) := by decide +kernel
theorem dX8_goOn_35 : decode cX8_goOn 35 = .ok (.getfield 219, 3) := by decide +kernel
theorem dX8_goOn_38 : decode cX8_goOn 38 = .ok (.iaload, 1) := by decide +kernel
theorem dX8_goOn_39 : decode cX8_goOn 39 = .ok (.iconst 1, 1) := by decide +kernel
theorem dX8_goOn_40 : decode cX8_goOn 40 = .ok (.iadd, 1) := by decide +kernel
theorem dX8_goOn_41 : decode cX8_goOn 41 = .ok (.invokevirtual 225, 3) := by decide +kernel
theorem dX8_goOn_44 : decode cX8_goOn 44 = .ok (.istore_n 1, 1) := by decide +kernel
theorem dX8_goOn_45 : decode cX8_goOn 45 = .ok (.goto (-39), 3) := by decide +kernel
theorem dX8_goOn_48 : decode cX8_goOn 48 = .ok (.iload_n 1, 1) := by decide +kernel
theorem dX8_goOn_49 : decode cX8_goOn 49 = .ok (.iconst (-1), 1) := by decide +kernel
theorem dX8_goOn_50 : decode cX8_goOn 50 = .ok (.if_icmp .ne 38, 3) := by decide +kernel
theorem dX8_goOn_53 : decode cX8_goOn 53 = .ok (.aload_n 0, 1) := by decide +kernel
theorem dX8_goOn_54 : decode cX8_goOn 54 = .ok (.getfield 73, 3) := by decide +kernel
theorem dX8_goOn_57 : decode cX8_goOn 57 = .ok (.iconst 0, 1) := by decide +kernel
theorem dX8_goOn_58 : decode cX8_goOn 58 = .ok (.dup2, 1) := by decide +kernel
theorem dX8_goOn_59 : decode cX8_goOn 59 = .ok (.iaload, 1) := by decide +kernel
theorem dX8_goOn_60 : decode cX8_goOn 60 = .ok (.iconst 1, 1) := by decide +kernel
theorem dX8_goOn_61 : decode cX8_goOn 61 = .ok (.iadd, 1) := by decide +kernel
theorem dX8_goOn_62 : decode cX8_goOn 62 = .ok (.iastore, 1) := by decide +kernel
theorem dX8_goOn_63 : decode cX8_goOn 63 = .ok (.aload_n 0, 1) := by decide +kernel
theorem dX8_goOn_64 : decode cX8_goOn 64 = .ok (.aload_n 0, 1) := by decide +kernel
theorem dX8_goOn_65 : decode cX8_goOn 65 = .ok (.getfield 73, 3) := by decide +kernel
theorem dX8_goOn_68 : decode cX8_goOn 68 = .ok (.iconst 0, 1) := by decide +kernel
theorem dX8_goOn_69 : decode cX8_goOn 69 = .ok (.iaload, 1) := by decide +kernel
theorem dX8_goOn_70 : decode cX8_goOn 70 = .ok (.aload_n 0, 1) := by decide +kernel
theorem dX8_goOn_71 : decode cX8_goOn 71 = .ok (.getfield 84, 3) := by decide +kernel
theorem dX8_goOn_74 : decode cX8_goOn 74 = .ok (.if_icmp .ge 7, 3) := by decide +kernel
theorem dX8_goOn_77 : decode cX8_goOn 77 = .ok (.iconst 1, 1) := by decide +kernel
theorem dX8_goOn_78 : decode cX8_goOn 78 = .ok (.goto 4, 3) := by decide +kernel
theorem dX8_goOn_81 : decode cX8_goOn 81 = .ok (.iconst 0, 1) := by decide +kernel
theorem dX8_goOn_82 : decode cX8_goOn 82 = .ok (.putfield 219, 3) := by decide +kernel
theorem dX8_goOn_85 : decode cX8_goOn 85 = .ok (.goto 23, 3) := by decide +kernel
theorem dX8_goOn_88 : decode cX8_goOn 88 = .ok (.aload_n 0, 1) := by decide +kernel
theorem dX8_goOn_89 : decode cX8_goOn 89 = .ok (.getfield 73, 3) := by decide +kernel
theorem dX8_goOn_92 : decode cX8_goOn 92 = .ok (.aload_n 0, 1) := by decide +kernel
theorem dX8_goOn_93 : decode cX8_goOn 93 = .ok (.getfield 219, 3) := by decide +kernel
theorem dX8_goOn_96 : decode cX8_goOn 96 = .ok (.iload_n 1, 1) := by decide +kernel
theorem dX8_goOn_97 : decode cX8_goOn 97 = .ok (.iastore, 1) := by decide +kernel
theorem dX8_goOn_98 : decode cX8_goOn 98 = .ok (.aload_n 0, 1) := by decide +kernel
theorem dX8_goOn_99 : decode cX8_goOn 99 = .ok (.dup, 1) := by decide +kernel
theorem dX8_goOn_100 : decode cX8_goOn 100 = .ok (.getfield 219, 3) := by decide +kernel
theorem dX8_goOn_103 : decode cX8_goOn 103 = .ok (.iconst 1, 1) := by decide +kernel
theorem dX8_goOn_104 : decode cX8_goOn 104 = .ok (.iadd, 1) := by decide +kernel
theorem dX8_goOn_105 : decode cX8_goOn 105 = .ok (.putfield 219, 3) := by decide +kernel
theorem dX8_goOn_108 : decode cX8_goOn 108 = .ok (.return_, 1) := by decide +kernel
theorem dX8_cycle_0 : decode cX8_cycle 0 = .ok (.iload_n 1, 1) := by decide +kernel
theorem dX8_cycle_1 : decode cX8_cycle 1 = .ok (.ifCond .ge 6, 3) := by decide +kernel
theorem dX8_cycle_4 : decode cX8_cycle 4 = .ok (.bipush (-3), 2) := by decide +kernel
theorem dX8_cycle_6 : decode cX8_cycle 6 = .ok (.ireturn, 1) := by decide +kernel
theorem dX8_cycle_7 : decode cX8_cycle 7 = .ok (.aload_n 0, 1) := by decide +kernel
theorem dX8_cycle_8 : decode cX8_cycle 8 = .ok (.aload_n 0, 1) := by decide +kernel
theorem dX8_cycle_9 : decode cX8_cycle 9 = .ok (.getfield 7, 3) := by decide +kernel
theorem dX8_cycle_12 : decode cX8_cycle 12 = .ok (.iconst 0, 1) := by decide +kernel
theorem dX8_cycle_13 : decode cX8_cycle 13 = .ok (.iaload, 1) := by decide +kernel
theorem dX8_cycle_14 : decode cX8_cycle 14 = .ok (.iconst 0, 1) := by decide +kernel
theorem dX8_cycle_15 : decode cX8_cycle 15 = .ok (.invokevirtual 205, 3) := by decide +kernel
theorem dX8_cycle_18 : decode cX8_cycle 18 = .ok (.ifCond .eq 5, 3) := by decide +kernel
theorem dX8_cycle_21 : decode cX8_cycle 21 = .ok (.iconst (-1), 1) := by decide +kernel
theorem dX8_cycle_22 : decode cX8_cycle 22 = .ok (.ireturn, 1) := by decide +kernel
theorem dX8_cycle_23 : decode cX8_cycle 23 = .ok (.aload_n 0, 1) := by decide +kernel
theorem dX8_cycle_24 : decode cX8_cycle 24 = .ok (.invokevirtual 228, 3) := by decide +kernel
theorem dX8_cycle_27 : decode cX8_cycle 27 = .ok (.aload_n 0, 1) := by decide +kernel
theorem dX8_cycle_28 : decode cX8_cycle 28 = .ok (.getfield 73, 3) := by decide +kernel
theorem dX8_cycle_31 : decode cX8_cycle 31 = .ok (.iconst 0, 1) := by decide +kernel
theorem dX8_cycle_32 : decode cX8_cycle 32 = .ok (.iconst 0, 1) := by decide +kernel
theorem dX8_cycle_33 : decode cX8_cycle 33 = .ok (.iastore, 1) := by decide +kernel
theorem dX8_cycle_34 : decode cX8_cycle 34 = .ok (.aload_n 0, 1) := by decide +kernel
theorem dX8_cycle_35 : decode cX8_cycle 35 = .ok (.iconst 1, 1) := by decide +kernel
theorem dX8_cycle_36 : decode cX8_cycle 36 = .ok (.putfield 219, 3) := by decide +kernel
theorem dX8_cycle_39 : decode cX8_cycle 39 = .ok (.aload_n 0, 1) := by decide +kernel
theorem dX8_cycle_40 : decode cX8_cycle 40 = .ok (.getfield 219, 3) := by decide +kernel
theorem dX8_cycle_43 : decode cX8_cycle 43 = .ok (.ifCond .le 17, 3) := by decide +kernel
theorem dX8_cycle_46 : decode cX8_cycle 46 = .ok (.aload_n 0, 1) := by decide +kernel
theorem dX8_cycle_47 : decode cX8_cycle 47 = .ok (.invokevirtual 231, 3) := by decide +kernel
theorem dX8_cycle_50 : decode cX8_cycle 50 = .ok (.ifCond .ne 10, 3) := by decide +kernel
theorem dX8_cycle_53 : decode cX8_cycle 53 = .ok (.aload_n 0, 1) := by decide +kernel
theorem dX8_cycle_54 : decode cX8_cycle 54 = .ok (.invokevirtual 234, 3) := by decide +kernel
theorem dX8_cycle_57 : decode cX8_cycle 57 = .ok (.goto (-18), 3) := by decide +kernel
theorem dX8_cycle_60 : decode cX8_cycle 60 = .ok (.iload_n 1, 1) := by decide +kernel
theorem dX8_cycle_61 : decode cX8_cycle 61 = .ok (.aload_n 0, 1) := by decide +kernel
theorem dX8_cycle_62 : decode cX8_cycle 62 = .ok (.getfield 219, 3) := by decide +kernel
theorem dX8_cycle_65 : decode cX8_cycle 65 = .ok (.if_icmp .ge 12, 3) := by decide +kernel
theorem dX8_cycle_68 : decode cX8_cycle 68 = .ok (.aload_n 0, 1) := by decide +kernel
theorem dX8_cycle_69 : decode cX8_cycle 69 = .ok (.getfield 73, 3) := by decide +kernel
theorem dX8_cycle_72 : decode cX8_cycle 72 = .ok (.iload_n 1, 1) := by decide +kernel
theorem dX8_cycle_73 : decode cX8_cycle 73 = .ok (.iaload, 1) := by decide +kernel
theorem dX8_cycle_74 : decode cX8_cycle 74 = .ok (.goto 4, 3) := by decide +kernel
theorem dX8_cycle_77 : decode cX8_cycle 77 = .ok (.iconst (-1), 1) := by decide +kernel
theorem dX8_cycle_78 : decode cX8_cycle 78 = .ok (.ireturn, 1) := by decide +kernel
theorem dX8_buffer_0 : decode cX8_buffer 0 = .ok (.iload_n 1, 1) := by decide +kernel
theorem dX8_buffer_1 : decode cX8_buffer 1 = .ok (.i2l, 1) := by decide +kernel
theorem dX8_buffer_2 : decode cX8_buffer 2 = .ok (.lconst 1, 1) := by decide +kernel
theorem dX8_buffer_3 : decode cX8_buffer 3 = .ok (.ldc2_w 191, 3) := by decide +kernel
theorem dX8_buffer_6 : decode cX8_buffer 6 = .ok (.invokestatic 102, 3) := by decide +kernel
theorem dX8_buffer_9 : decode cX8_buffer 9 = .ok (.ifCond .ne 6, 3) := by decide +kernel
theorem dX8_buffer_12 : decode cX8_buffer 12 = .ok (.bipush (-3), 2) := by decide +kernel
theorem dX8_buffer_14 : decode cX8_buffer 14 = .ok (.ireturn, 1) := by decide +kernel
theorem dX8_buffer_15 : decode cX8_buffer 15 = .ok (.iconst (-1), 1) := by decide +kernel
theorem dX8_buffer_16 : decode cX8_buffer 16 = .ok (.istore_n 2, 1) := by decide +kernel
theorem dX8_buffer_17 : decode cX8_buffer 17 = .ok (.aload_n 0, 1) := by decide +kernel
theorem dX8_buffer_18 : decode cX8_buffer 18 = .ok (.invokevirtual 212, 3) := by decide +kernel
theorem dX8_buffer_21 : decode cX8_buffer 21 = .ok (.istore_n 3, 1) := by decide +kernel
theorem dX8_buffer_22 : decode cX8_buffer 22 = .ok (.iload_n 3, 1) := by decide +kernel
theorem dX8_buffer_23 : decode cX8_buffer 23 = .ok (.iconst (-1), 1) := by decide +kernel
theorem dX8_buffer_24 : decode cX8_buffer 24 = .ok (.if_icmp .ne 8, 3) := by decide +kernel
theorem dX8_buffer_27 : decode cX8_buffer 27 = .ok (.ldc 218, 2) := by decide +kernel
theorem dX8_buffer_29 : decode cX8_buffer 29 = .ok (.goto 4, 3) := by decide +kernel
theorem dX8_buffer_32 : decode cX8_buffer 32 = .ok (.iload_n 3, 1) := by decide +kernel
theorem dX8_buffer_33 : decode cX8_buffer 33 = .ok (.istore 4, 2) := by decide +kernel
theorem dX8_buffer_35 : decode cX8_buffer 35 = .ok (.iconst 0, 1) := by decide +kernel
theorem dX8_buffer_36 : decode cX8_buffer 36 = .ok (.istore 5, 2) := by decide +kernel
theorem dX8_buffer_38 : decode cX8_buffer 38 = .ok (.iload 5, 2) := by decide +kernel
theorem dX8_buffer_40 : decode cX8_buffer 40 = .ok (.aload_n 0, 1) := by decide +kernel
theorem dX8_buffer_41 : decode cX8_buffer 41 = .ok (.getfield 88, 3) := by decide +kernel
theorem dX8_buffer_44 : decode cX8_buffer 44 = .ok (.if_icmp .ge 132, 3) := by decide +kernel
theorem dX8_buffer_47 : decode cX8_buffer 47 = .ok (.aload_n 0, 1) := by decide +kernel
theorem dX8_buffer_48 : decode cX8_buffer 48 = .ok (.getfield 7, 3) := by decide +kernel
theorem dX8_buffer_51 : decode cX8_buffer 51 = .ok (.iconst 1, 1) := by decide +kernel
theorem dX8_buffer_52 : decode cX8_buffer 52 = .ok (.iload 5, 2) := by decide +kernel
theorem dX8_buffer_54 : decode cX8_buffer 54 = .ok (.iadd, 1) := by decide +kernel
theorem dX8_buffer_55 : decode cX8_buffer 55 = .ok (.iaload, 1) := by decide +kernel
theorem dX8_buffer_56 : decode cX8_buffer 56 = .ok (.iload_n 1, 1) := by decide +kernel
theorem dX8_buffer_57 : decode cX8_buffer 57 = .ok (.iadd, 1) := by decide +kernel
theorem dX8_buffer_58 : decode cX8_buffer 58 = .ok (.sipush 200, 3) := by decide +kernel
theorem dX8_buffer_61 : decode cX8_buffer 61 = .ok (.if_icmp .ge 109, 3) := by decide +kernel
theorem dX8_buffer_64 : decode cX8_buffer 64 = .ok (.aload_n 0, 1) := by decide +kernel
theorem dX8_buffer_65 : decode cX8_buffer 65 = .ok (.getfield 7, 3) := by decide +kernel
theorem dX8_buffer_68 : decode cX8_buffer 68 = .ok (.iconst 1, 1) := by decide +kernel
theorem dX8_buffer_69 : decode cX8_buffer 69 = .ok (.iload 5, 2) := by decide +kernel
theorem dX8_buffer_71 : decode cX8_buffer 71 = .ok (.iadd, 1) := by decide +kernel
theorem dX8_buffer_72 : decode cX8_buffer 72 = .ok (.dup2, 1) := by decide +kernel
theorem dX8_buffer_73 : decode cX8_buffer 73 = .ok (.iaload, 1) := by decide +kernel
theorem dX8_buffer_74 : decode cX8_buffer 74 = .ok (.iload_n 1, 1) := by decide +kernel
theorem dX8_buffer_75 : decode cX8_buffer 75 = .ok (.iadd, 1) := by decide +kernel
theorem dX8_buffer_76 : decode cX8_buffer 76 = .ok (.iastore, 1) := by decide +kernel
theorem dX8_buffer_77 : decode cX8_buffer 77 = .ok (.aload_n 0, 1) := by decide +kernel
theorem dX8_buffer_78 : decode cX8_buffer 78 = .ok (.getfield 7, 3) := by decide +kernel
theorem dX8_buffer_81 : decode cX8_buffer 81 = .ok (.bipush 17, 2) := by decide +kernel
theorem dX8_buffer_83 : decode cX8_buffer 83 = .ok (.iload 5, 2) := by decide +kernel
theorem dX8_buffer_85 : decode cX8_buffer 85 = .ok (.iadd, 1) := by decide +kernel
theorem dX8_buffer_86 : decode cX8_buffer 86 = .ok (.dup2, 1) := by decide +kernel
theorem dX8_buffer_87 : decode cX8_buffer 87 = .ok (.iaload, 1) := by decide +kernel
theorem dX8_buffer_88 : decode cX8_buffer 88 = .ok (.iload_n 1, 1) := by decide +kernel
theorem dX8_buffer_89 : decode cX8_buffer 89 = .ok (.iadd, 1) := by decide +kernel
theorem dX8_buffer_90 : decode cX8_buffer 90 = .ok (.iastore, 1) := by decide +kernel
theorem dX8_buffer_91 : decode cX8_buffer 91 = .ok (.aload_n 0, 1) := by decide +kernel
theorem dX8_buffer_92 : decode cX8_buffer 92 = .ok (.invokevirtual 212, 3) := by decide +kernel
theorem dX8_buffer_95 : decode cX8_buffer 95 = .ok (.istore 6, 2) := by decide +kernel
theorem dX8_buffer_97 : decode cX8_buffer 97 = .ok (.aload_n 0, 1) := by decide +kernel
theorem dX8_buffer_98 : decode cX8_buffer 98 = .ok (.getfield 7, 3) := by decide +kernel
theorem dX8_buffer_101 : decode cX8_buffer 101 = .ok (.iconst 1, 1) := by decide +kernel
theorem dX8_buffer_102 : decode cX8_buffer 102 = .ok (.iload 5, 2) := by decide +kernel
theorem dX8_buffer_104 : decode cX8_buffer 104 = .ok (.iadd, 1) := by decide +kernel
theorem dX8_buffer_105 : decode cX8_buffer 105 = .ok (.dup2, 1) := by decide +kernel
theorem dX8_buffer_106 : decode cX8_buffer 106 = .ok (.iaload, 1) := by decide +kernel
theorem dX8_buffer_107 : decode cX8_buffer 107 = .ok (.iload_n 1, 1) := by decide +kernel
theorem dX8_buffer_108 : decode cX8_buffer 108 = .ok (.isub, 1) := by decide +kernel
theorem dX8_buffer_109 : decode cX8_buffer 109 = .ok (.iastore, 1) := by decide +kernel
theorem dX8_buffer_110 : decode cX8_buffer 110 = .ok (.aload_n 0, 1) := by decide +kernel
theorem dX8_buffer_111 : decode cX8_buffer 111 = .ok (.getfield 7, 3) := by decide +kernel
theorem dX8_buffer_114 : decode cX8_buffer 114 = .ok (.bipush 17, 2) := by decide +kernel
theorem dX8_buffer_116 : decode cX8_buffer 116 = .ok (.iload 5, 2) := by decide +kernel
theorem dX8_buffer_118 : decode cX8_buffer 118 = .ok (.iadd, 1) := by decide +kernel
theorem dX8_buffer_119 : decode cX8_buffer 119 = .ok (.dup2, 1) := by decide +kernel
theorem dX8_buffer_120 : decode cX8_buffer 120 = .ok (.iaload, 1) := by decide +kernel
theorem dX8_buffer_121 : decode cX8_buffer 121 = .ok (.iload_n 1, 1) := by decide +kernel
theorem dX8_buffer_122 : decode cX8_buffer 122 = .ok (.isub, 1) := by decide +kernel
theorem dX8_buffer_123 : decode cX8_buffer 123 = .ok (.iastore, 1) := by decide +kernel
theorem dX8_buffer_124 : decode cX8_buffer 124 = .ok (.iload 6, 2) := by decide +kernel
theorem dX8_buffer_126 : decode cX8_buffer 126 = .ok (.iconst (-1), 1) := by decide +kernel
theorem dX8_buffer_127 : decode cX8_buffer 127 = .ok (.if_icmp .eq 14, 3) := by decide +kernel
theorem dX8_buffer_130 : decode cX8_buffer 130 = .ok (.iload 6, 2) := by decide +kernel
theorem dX8_buffer_132 : decode cX8_buffer 132 = .ok (.iload 4, 2) := by decide +kernel
theorem dX8_buffer_134 : decode cX8_buffer 134 = .ok (.if_icmp .ge 7, 3) := by decide +kernel
theorem dX8_buffer_137 : decode cX8_buffer 137 = .ok (.iconst 1, 1) := by decide +kernel
theorem dX8_buffer_138 : decode cX8_buffer 138 = .ok (.goto 4, 3) := by decide +kernel
theorem dX8_buffer_141 : decode cX8_buffer 141 = .ok (.iconst 0, 1) := by decide +kernel
theorem dX8_buffer_142 : decode cX8_buffer 142 = .ok (.istore 7, 2) := by decide +kernel
theorem dX8_buffer_144 : decode cX8_buffer 144 = .ok (.iload 7, 2) := by decide +kernel
theorem dX8_buffer_146 : decode cX8_buffer 146 = .ok (.ifCond .eq 8, 3) := by decide +kernel
theorem dX8_buffer_149 : decode cX8_buffer 149 = .ok (.iload 5, 2) := by decide +kernel
theorem dX8_buffer_151 : decode cX8_buffer 151 = .ok (.goto 4, 3) := by decide +kernel
theorem dX8_buffer_154 : decode cX8_buffer 154 = .ok (.iload_n 2, 1) := by decide +kernel
theorem dX8_buffer_155 : decode cX8_buffer 155 = .ok (.istore_n 2, 1) := by decide +kernel
theorem dX8_buffer_156 : decode cX8_buffer 156 = .ok (.iload 7, 2) := by decide +kernel
theorem dX8_buffer_158 : decode cX8_buffer 158 = .ok (.ifCond .eq 8, 3) := by decide +kernel
theorem dX8_buffer_161 : decode cX8_buffer 161 = .ok (.iload 6, 2) := by decide +kernel
theorem dX8_buffer_163 : decode cX8_buffer 163 = .ok (.goto 5, 3) := by decide +kernel
theorem dX8_buffer_166 : decode cX8_buffer 166 = .ok (.iload 4, 2) := by decide +kernel
theorem dX8_buffer_168 : decode cX8_buffer 168 = .ok (.istore 4, 2) := by decide +kernel
theorem dX8_buffer_170 : decode cX8_buffer 170 = .ok (.iinc 5 1, 3) := by decide +kernel
theorem dX8_buffer_173 : decode cX8_buffer 173 = .ok (.goto (-135), 3) := by decide +kernel
theorem dX8_buffer_176 : decode cX8_buffer 176 = .ok (.iload_n 2, 1) := by decide +kernel
theorem dX8_buffer_177 : decode cX8_buffer 177 = .ok (.ireturn, 1) := by decide +kernel
theorem dX8_isTrace_0 : decode cX8_isTrace 0 = .ok (.iload_n 0, 1) := by decide +kernel
theorem dX8_isTrace_1 : decode cX8_isTrace 1 = .ok (.i2l, 1) := by decide +kernel
theorem dX8_isTrace_2 : decode cX8_isTrace 2 = .ok (.lconst 0, 1) := by decide +kernel
theorem dX8_isTrace_3 : decode cX8_isTrace 3 = .ok (.ldc2_w 237, 3) := by decide +kernel
theorem dX8_isTrace_6 : decode cX8_isTrace 6 = .ok (.invokestatic 102, 3) := by decide +kernel
theorem dX8_isTrace_9 : decode cX8_isTrace 9 = .ok (.ireturn, 1) := by decide +kernel
theorem dX8_trace_0 : decode cX8_trace 0 = .ok (.iload_n 1, 1) := by decide +kernel
theorem dX8_trace_1 : decode cX8_trace 1 = .ok (.invokestatic 239, 3) := by decide +kernel
theorem dX8_trace_4 : decode cX8_trace 4 = .ok (.ifCond .ne 6, 3) := by decide +kernel
theorem dX8_trace_7 : decode cX8_trace 7 = .ok (.bipush (-2), 2) := by decide +kernel
theorem dX8_trace_9 : decode cX8_trace 9 = .ok (.ireturn, 1) := by decide +kernel
theorem dX8_trace_10 : decode cX8_trace 10 = .ok (.iload_n 2, 1) := by decide +kernel
theorem dX8_trace_11 : decode cX8_trace 11 = .ok (.i2l, 1) := by decide +kernel
theorem dX8_trace_12 : decode cX8_trace 12 = .ok (.lconst 0, 1) := by decide +kernel
theorem dX8_trace_13 : decode cX8_trace 13 = .ok (.lconst 1, 1) := by decide +kernel
theorem dX8_trace_14 : decode cX8_trace 14 = .ok (.invokestatic 102, 3) := by decide +kernel
theorem dX8_trace_17 : decode cX8_trace 17 = .ok (.ifCond .eq 9, 3) := by decide +kernel
theorem dX8_trace_20 : decode cX8_trace 20 = .ok (.iload_n 3, 1) := by decide +kernel
theorem dX8_trace_21 : decode cX8_trace 21 = .ok (.bipush 8, 2) := by decide +kernel
theorem dX8_trace_23 : decode cX8_trace 23 = .ok (.if_icmp .le 6, 3) := by decide +kernel
theorem dX8_trace_26 : decode cX8_trace 26 = .ok (.bipush (-3), 2) := by decide +kernel
theorem dX8_trace_28 : decode cX8_trace 28 = .ok (.ireturn, 1) := by decide +kernel
theorem dX8_trace_29 : decode cX8_trace 29 = .ok (.iload_n 3, 1) := by decide +kernel
theorem dX8_trace_30 : decode cX8_trace 30 = .ok (.ifCond .ge 6, 3) := by decide +kernel
theorem dX8_trace_33 : decode cX8_trace 33 = .ok (.bipush (-12), 2) := by decide +kernel
theorem dX8_trace_35 : decode cX8_trace 35 = .ok (.ireturn, 1) := by decide +kernel
theorem dX8_trace_36 : decode cX8_trace 36 = .ok (.aload_n 0, 1) := by decide +kernel
theorem dX8_trace_37 : decode cX8_trace 37 = .ok (.getfield 26, 3) := by decide +kernel
theorem dX8_trace_40 : decode cX8_trace 40 = .ok (.iload_n 1, 1) := by decide +kernel
theorem dX8_trace_41 : decode cX8_trace 41 = .ok (.iload_n 2, 1) := by decide +kernel
theorem dX8_trace_42 : decode cX8_trace 42 = .ok (.iastore, 1) := by decide +kernel
theorem dX8_trace_43 : decode cX8_trace 43 = .ok (.aload_n 0, 1) := by decide +kernel
theorem dX8_trace_44 : decode cX8_trace 44 = .ok (.getfield 29, 3) := by decide +kernel
theorem dX8_trace_47 : decode cX8_trace 47 = .ok (.iload_n 1, 1) := by decide +kernel
theorem dX8_trace_48 : decode cX8_trace 48 = .ok (.iload_n 3, 1) := by decide +kernel
theorem dX8_trace_49 : decode cX8_trace 49 = .ok (.iastore, 1) := by decide +kernel
theorem dX8_trace_50 : decode cX8_trace 50 = .ok (.iconst 0, 1) := by decide +kernel
theorem dX8_trace_51 : decode cX8_trace 51 = .ok (.istore 4, 2) := by decide +kernel
theorem dX8_trace_53 : decode cX8_trace 53 = .ok (.iload 4, 2) := by decide +kernel
theorem dX8_trace_55 : decode cX8_trace 55 = .ok (.bipush 8, 2) := by decide +kernel
theorem dX8_trace_57 : decode cX8_trace 57 = .ok (.if_icmp .ge 35, 3) := by decide +kernel
theorem dX8_trace_60 : decode cX8_trace 60 = .ok (.aload_n 0, 1) := by decide +kernel
theorem dX8_trace_61 : decode cX8_trace 61 = .ok (.getfield 32, 3) := by decide +kernel
theorem dX8_trace_64 : decode cX8_trace 64 = .ok (.bipush 8, 2) := by decide +kernel
theorem dX8_trace_66 : decode cX8_trace 66 = .ok (.iload_n 1, 1) := by decide +kernel
theorem dX8_trace_67 : decode cX8_trace 67 = .ok (.imul, 1) := by decide +kernel
theorem dX8_trace_68 : decode cX8_trace 68 = .ok (.iload 4, 2) := by decide +kernel
theorem dX8_trace_70 : decode cX8_trace 70 = .ok (.iadd, 1) := by decide +kernel
theorem dX8_trace_71 : decode cX8_trace 71 = .ok (.fconst 0, 1) := by decide +kernel
theorem dX8_trace_72 : decode cX8_trace 72 = .ok (.fastore, 1) := by decide +kernel
theorem dX8_trace_73 : decode cX8_trace 73 = .ok (.aload_n 0, 1) := by decide +kernel
theorem dX8_trace_74 : decode cX8_trace 74 = .ok (.getfield 36, 3) := by decide +kernel
theorem dX8_trace_77 : decode cX8_trace 77 = .ok (.bipush 8, 2) := by decide +kernel
theorem dX8_trace_79 : decode cX8_trace 79 = .ok (.iload_n 1, 1) := by decide +kernel
theorem dX8_trace_80 : decode cX8_trace 80 = .ok (.imul, 1) := by decide +kernel
theorem dX8_trace_81 : decode cX8_trace 81 = .ok (.iload 4, 2) := by decide +kernel
theorem dX8_trace_83 : decode cX8_trace 83 = .ok (.iadd, 1) := by decide +kernel
theorem dX8_trace_84 : decode cX8_trace 84 = .ok (.dconst 0, 1) := by decide +kernel
theorem dX8_trace_85 : decode cX8_trace 85 = .ok (.dastore, 1) := by decide +kernel
theorem dX8_trace_86 : decode cX8_trace 86 = .ok (.iinc 4 1, 3) := by decide +kernel
theorem dX8_trace_89 : decode cX8_trace 89 = .ok (.goto (-36), 3) := by decide +kernel
theorem dX8_trace_92 : decode cX8_trace 92 = .ok (.iload_n 3, 1) := by decide +kernel
theorem dX8_trace_93 : decode cX8_trace 93 = .ok (.ireturn, 1) := by decide +kernel
theorem dX8_cut_0 : decode cX8_cut 0 = .ok (.dload_n 0, 1) := by decide +kernel
theorem dX8_cut_1 : decode cX8_cut 1 = .ok (.dload_n 0, 1) := by decide +kernel
theorem dX8_cut_2 : decode cX8_cut 2 = .ok (.dcmp .l, 1) := by decide +kernel
theorem dX8_cut_3 : decode cX8_cut 3 = .ok (.ifCond .eq 8, 3) := by decide +kernel
theorem dX8_cut_6 : decode cX8_cut 6 = .ok (.ldc 242, 2) := by decide +kernel
theorem dX8_cut_8 : decode cX8_cut 8 = .ok (.goto 34, 3) := by decide +kernel
theorem dX8_cut_11 : decode cX8_cut 11 = .ok (.dload_n 0, 1) := by decide +kernel
theorem dX8_cut_12 : decode cX8_cut 12 = .ok (.ldc2_w 243, 3) := by decide +kernel
theorem dX8_cut_15 : decode cX8_cut 15 = .ok (.dcmp .l, 1) := by decide +kernel
theorem dX8_cut_16 : decode cX8_cut 16 = .ok (.ifCond .lt 8, 3) := by decide +kernel
theorem dX8_cut_19 : decode cX8_cut 19 = .ok (.ldc 245, 2) := by decide +kernel
theorem dX8_cut_21 : decode cX8_cut 21 = .ok (.goto 21, 3) := by decide +kernel
theorem dX8_cut_24 : decode cX8_cut 24 = .ok (.dload_n 0, 1) := by decide +kernel
theorem dX8_cut_25 : decode cX8_cut 25 = .ok (.ldc2_w 246, 3) := by decide +kernel
theorem dX8_cut_28 : decode cX8_cut 28 = .ok (.dcmp .g, 1) := by decide +kernel
theorem dX8_cut_29 : decode cX8_cut 29 = .ok (.ifCond .gt 8, 3) := by decide +kernel
theorem dX8_cut_32 : decode cX8_cut 32 = .ok (.ldc 248, 2) := by decide +kernel
theorem dX8_cut_34 : decode cX8_cut 34 = .ok (.goto 8, 3) := by decide +kernel
theorem dX8_cut_37 : decode cX8_cut 37 = .ok (.dload_n 0, 1) := by decide +kernel
theorem dX8_cut_38 : decode cX8_cut 38 = .ok (.d2i, 1) := by decide +kernel
theorem dX8_cut_39 : decode cX8_cut 39 = .ok (.ldc 242, 2) := by decide +kernel
theorem dX8_cut_41 : decode cX8_cut 41 = .ok (.iadd, 1) := by decide +kernel
theorem dX8_cut_42 : decode cX8_cut 42 = .ok (.ireturn, 1) := by decide +kernel
theorem dX8_thousand_0 : decode cX8_thousand 0 = .ok (.aload_n 0, 1) := by decide +kernel
theorem dX8_thousand_1 : decode cX8_thousand 1 = .ok (.getfield 26, 3) := by decide +kernel
theorem dX8_thousand_4 : decode cX8_thousand 4 = .ok (.iload_n 1, 1) := by decide +kernel
theorem dX8_thousand_5 : decode cX8_thousand 5 = .ok (.iaload, 1) := by decide +kernel
theorem dX8_thousand_6 : decode cX8_thousand 6 = .ok (.ifCond .ne 24, 3) := by decide +kernel
theorem dX8_thousand_9 : decode cX8_thousand 9 = .ok (.ldc 249, 2) := by decide +kernel
theorem dX8_thousand_11 : decode cX8_thousand 11 = .ok (.aload_n 0, 1) := by decide +kernel
theorem dX8_thousand_12 : decode cX8_thousand 12 = .ok (.getfield 32, 3) := by decide +kernel
theorem dX8_thousand_15 : decode cX8_thousand 15 = .ok (.bipush 8, 2) := by decide +kernel
theorem dX8_thousand_17 : decode cX8_thousand 17 = .ok (.iload_n 1, 1) := by decide +kernel
theorem dX8_thousand_18 : decode cX8_thousand 18 = .ok (.imul, 1) := by decide +kernel
theorem dX8_thousand_19 : decode cX8_thousand 19 = .ok (.iload_n 2, 1) := by decide +kernel
theorem dX8_thousand_20 : decode cX8_thousand 20 = .ok (.iadd, 1) := by decide +kernel
theorem dX8_thousand_21 : decode cX8_thousand 21 = .ok (.faload, 1) := by decide +kernel
theorem dX8_thousand_22 : decode cX8_thousand 22 = .ok (.fmul, 1) := by decide +kernel
theorem dX8_thousand_23 : decode cX8_thousand 23 = .ok (.f2d, 1) := by decide +kernel
theorem dX8_thousand_24 : decode cX8_thousand 24 = .ok (.invokestatic 250, 3) := by decide +kernel
theorem dX8_thousand_27 : decode cX8_thousand 27 = .ok (.goto 21, 3) := by decide +kernel
theorem dX8_thousand_30 : decode cX8_thousand 30 = .ok (.ldc2_w 254, 3) := by decide +kernel
theorem dX8_thousand_33 : decode cX8_thousand 33 = .ok (.aload_n 0, 1) := by decide +kernel
theorem dX8_thousand_34 : decode cX8_thousand 34 = .ok (.getfield 36, 3) := by decide +kernel
theorem dX8_thousand_37 : decode cX8_thousand 37 = .ok (.bipush 8, 2) := by decide +kernel
theorem dX8_thousand_39 : decode cX8_thousand 39 = .ok (.iload_n 1, 1) := by decide +kernel
theorem dX8_thousand_40 : decode cX8_thousand 40 = .ok (.imul, 1) := by decide +kernel
theorem dX8_thousand_41 : decode cX8_thousand 41 = .ok (.iload_n 2, 1) := by decide +kernel
theorem dX8_thousand_42 : decode cX8_thousand 42 = .ok (.iadd, 1) := by decide +kernel
theorem dX8_thousand_43 : decode cX8_thousand 43 = .ok (.daload, 1) := by decide +kernel
theorem dX8_thousand_44 : decode cX8_thousand 44 = .ok (.dmul, 1) := by decide +kernel
theorem dX8_thousand_45 : decode cX8_thousand 45 = .ok (.invokestatic 250, 3) := by decide +kernel
theorem dX8_thousand_48 : decode cX8_thousand 48 = .ok (.ireturn, 1) := by decide +kernel
theorem dX8_noPlace_0 : decode cX8_noPlace 0 = .ok (.aload_n 0, 1) := by decide +kernel
theorem dX8_noPlace_1 : decode cX8_noPlace 1 = .ok (.getfield 29, 3) := by decide +kernel
theorem dX8_noPlace_4 : decode cX8_noPlace 4 = .ok (.iload_n 1, 1) := by decide +kernel
theorem dX8_noPlace_5 : decode cX8_noPlace 5 = .ok (.iaload, 1) := by decide +kernel
theorem dX8_noPlace_6 : decode cX8_noPlace 6 = .ok (.ifCond .ge 8, 3) := by decide +kernel
theorem dX8_noPlace_9 : decode cX8_noPlace 9 = .ok (.bipush (-11), 2) := by decide +kernel
theorem dX8_noPlace_11 : decode cX8_noPlace 11 = .ok (.goto 61, 3) := by decide +kernel
theorem dX8_noPlace_14 : decode cX8_noPlace 14 = .ok (.aload_n 0, 1) := by decide +kernel
theorem dX8_noPlace_15 : decode cX8_noPlace 15 = .ok (.getfield 26, 3) := by decide +kernel
theorem dX8_noPlace_18 : decode cX8_noPlace 18 = .ok (.iload_n 1, 1) := by decide +kernel
theorem dX8_noPlace_19 : decode cX8_noPlace 19 = .ok (.iaload, 1) := by decide +kernel
theorem dX8_noPlace_20 : decode cX8_noPlace 20 = .ok (.iload_n 2, 1) := by decide +kernel
theorem dX8_noPlace_21 : decode cX8_noPlace 21 = .ok (.if_icmp .eq 8, 3) := by decide +kernel
theorem dX8_noPlace_24 : decode cX8_noPlace 24 = .ok (.bipush (-13), 2) := by decide +kernel
theorem dX8_noPlace_26 : decode cX8_noPlace 26 = .ok (.goto 46, 3) := by decide +kernel
theorem dX8_noPlace_29 : decode cX8_noPlace 29 = .ok (.iload_n 3, 1) := by decide +kernel
theorem dX8_noPlace_30 : decode cX8_noPlace 30 = .ok (.i2l, 1) := by decide +kernel
theorem dX8_noPlace_31 : decode cX8_noPlace 31 = .ok (.lconst 0, 1) := by decide +kernel
theorem dX8_noPlace_32 : decode cX8_noPlace 32 = .ok (.aload_n 0, 1) := by decide +kernel
theorem dX8_noPlace_33 : decode cX8_noPlace 33 = .ok (.getfield 29, 3) := by decide +kernel
theorem dX8_noPlace_36 : decode cX8_noPlace 36 = .ok (.iload_n 1, 1) := by decide +kernel
theorem dX8_noPlace_37 : decode cX8_noPlace 37 = .ok (.iaload, 1) := by decide +kernel
theorem dX8_noPlace_38 : decode cX8_noPlace 38 = .ok (.iconst 1, 1) := by decide +kernel
theorem dX8_noPlace_39 : decode cX8_noPlace 39 = .ok (.isub, 1) := by decide +kernel
theorem dX8_noPlace_40 : decode cX8_noPlace 40 = .ok (.i2l, 1) := by decide +kernel
theorem dX8_noPlace_41 : decode cX8_noPlace 41 = .ok (.invokestatic 102, 3) := by decide +kernel
theorem dX8_noPlace_44 : decode cX8_noPlace 44 = .ok (.ifCond .eq 26, 3) := by decide +kernel
theorem dX8_noPlace_47 : decode cX8_noPlace 47 = .ok (.iload 4, 2) := by decide +kernel
theorem dX8_noPlace_49 : decode cX8_noPlace 49 = .ok (.i2l, 1) := by decide +kernel
theorem dX8_noPlace_50 : decode cX8_noPlace 50 = .ok (.lconst 0, 1) := by decide +kernel
theorem dX8_noPlace_51 : decode cX8_noPlace 51 = .ok (.aload_n 0, 1) := by decide +kernel
theorem dX8_noPlace_52 : decode cX8_noPlace 52 = .ok (.getfield 29, 3) := by decide +kernel
theorem dX8_noPlace_55 : decode cX8_noPlace 55 = .ok (.iload_n 1, 1) := by decide +kernel
theorem dX8_noPlace_56 : decode cX8_noPlace 56 = .ok (.iaload, 1) := by decide +kernel
theorem dX8_noPlace_57 : decode cX8_noPlace 57 = .ok (.iconst 1, 1) := by decide +kernel
theorem dX8_noPlace_58 : decode cX8_noPlace 58 = .ok (.isub, 1) := by decide +kernel
theorem dX8_noPlace_59 : decode cX8_noPlace 59 = .ok (.i2l, 1) := by decide +kernel
theorem dX8_noPlace_60 : decode cX8_noPlace 60 = .ok (.invokestatic 102, 3) := by decide +kernel
theorem dX8_noPlace_63 : decode cX8_noPlace 63 = .ok (.ifCond .eq 7, 3) := by decide +kernel
theorem dX8_noPlace_66 : decode cX8_noPlace 66 = .ok (.iconst 0, 1) := by decide +kernel
theorem dX8_noPlace_67 : decode cX8_noPlace 67 = .ok (.goto 5, 3) := by decide +kernel
theorem dX8_noPlace_70 : decode cX8_noPlace 70 = .ok (.bipush (-14), 2) := by decide +kernel
theorem dX8_noPlace_72 : decode cX8_noPlace 72 = .ok (.ireturn, 1) := by decide +kernel
theorem dX8_set_0 : decode cX8_set 0 = .ok (.iload_n 1, 1) := by decide +kernel
theorem dX8_set_1 : decode cX8_set 1 = .ok (.invokestatic 239, 3) := by decide +kernel
theorem dX8_set_4 : decode cX8_set 4 = .ok (.ifCond .ne 6, 3) := by decide +kernel
theorem dX8_set_7 : decode cX8_set 7 = .ok (.bipush (-2), 2) := by decide +kernel
theorem dX8_set_9 : decode cX8_set 9 = .ok (.ireturn, 1) := by decide +kernel
theorem dX8_set_10 : decode cX8_set 10 = .ok (.iload_n 2, 1) := by decide +kernel
theorem dX8_set_11 : decode cX8_set 11 = .ok (.i2l, 1) := by decide +kernel
theorem dX8_set_12 : decode cX8_set 12 = .ok (.lconst 0, 1) := by decide +kernel
theorem dX8_set_13 : decode cX8_set 13 = .ok (.lconst 1, 1) := by decide +kernel
theorem dX8_set_14 : decode cX8_set 14 = .ok (.invokestatic 102, 3) := by decide +kernel
theorem dX8_set_17 : decode cX8_set 17 = .ok (.ifCond .eq 33, 3) := by decide +kernel
theorem dX8_set_20 : decode cX8_set 20 = .ok (.iload 4, 2) := by decide +kernel
theorem dX8_set_22 : decode cX8_set 22 = .ok (.i2l, 1) := by decide +kernel
theorem dX8_set_23 : decode cX8_set 23 = .ok (.ldc2_w 256, 3) := by decide +kernel
theorem dX8_set_26 : decode cX8_set 26 = .ok (.ldc2_w 258, 3) := by decide +kernel
theorem dX8_set_29 : decode cX8_set 29 = .ok (.invokestatic 102, 3) := by decide +kernel
theorem dX8_set_32 : decode cX8_set 32 = .ok (.ifCond .eq 18, 3) := by decide +kernel
theorem dX8_set_35 : decode cX8_set 35 = .ok (.iload 5, 2) := by decide +kernel
theorem dX8_set_37 : decode cX8_set 37 = .ok (.i2l, 1) := by decide +kernel
theorem dX8_set_38 : decode cX8_set 38 = .ok (.ldc2_w 256, 3) := by decide +kernel
theorem dX8_set_41 : decode cX8_set 41 = .ok (.ldc2_w 258, 3) := by decide +kernel
theorem dX8_set_44 : decode cX8_set 44 = .ok (.invokestatic 102, 3) := by decide +kernel
theorem dX8_set_47 : decode cX8_set 47 = .ok (.ifCond .ne 6, 3) := by decide +kernel
theorem dX8_set_50 : decode cX8_set 50 = .ok (.bipush (-3), 2) := by decide +kernel
theorem dX8_set_52 : decode cX8_set 52 = .ok (.ireturn, 1) := by decide +kernel
theorem dX8_set_53 : decode cX8_set 53 = .ok (.aload_n 0, 1) := by decide +kernel
theorem dX8_set_54 : decode cX8_set 54 = .ok (.iload_n 1, 1) := by decide +kernel
theorem dX8_set_55 : decode cX8_set 55 = .ok (.iload_n 2, 1) := by decide +kernel
theorem dX8_set_56 : decode cX8_set 56 = .ok (.iload_n 3, 1) := by decide +kernel
theorem dX8_set_57 : decode cX8_set 57 = .ok (.iload_n 3, 1) := by decide +kernel
theorem dX8_set_58 : decode cX8_set 58 = .ok (.invokevirtual 260, 3) := by decide +kernel
theorem dX8_set_61 : decode cX8_set 61 = .ok (.istore 6, 2) := by decide +kernel
theorem dX8_set_63 : decode cX8_set 63 = .ok (.iload 6, 2) := by decide +kernel
theorem dX8_set_65 : decode cX8_set 65 = .ok (.ifCond .eq 6, 3) := by decide +kernel
theorem dX8_set_68 : decode cX8_set 68 = .ok (.iload 6, 2) := by decide +kernel
theorem dX8_set_70 : decode cX8_set 70 = .ok (.ireturn, 1) := by decide +kernel
theorem dX8_set_71 : decode cX8_set 71 = .ok (.iload_n 2, 1) := by decide +kernel
theorem dX8_set_72 : decode cX8_set 72 = .ok (.ifCond .ne 24, 3) := by decide +kernel
theorem dX8_set_75 : decode cX8_set 75 = .ok (.aload_n 0, 1) := by decide +kernel
theorem dX8_set_76 : decode cX8_set 76 = .ok (.getfield 32, 3) := by decide +kernel
theorem dX8_set_79 : decode cX8_set 79 = .ok (.bipush 8, 2) := by decide +kernel
theorem dX8_set_81 : decode cX8_set 81 = .ok (.iload_n 1, 1) := by decide +kernel
theorem dX8_set_82 : decode cX8_set 82 = .ok (.imul, 1) := by decide +kernel
theorem dX8_set_83 : decode cX8_set 83 = .ok (.iload_n 3, 1) := by decide +kernel
theorem dX8_set_84 : decode cX8_set 84 = .ok (.iadd, 1) := by decide +kernel
theorem dX8_set_85 : decode cX8_set 85 = .ok (.iload 4, 2) := by decide +kernel
theorem dX8_set_87 : decode cX8_set 87 = .ok (.i2f, 1) := by decide +kernel
theorem dX8_set_88 : decode cX8_set 88 = .ok (.iload 5, 2) := by decide +kernel
theorem dX8_set_90 : decode cX8_set 90 = .ok (.i2f, 1) := by decide +kernel
theorem dX8_set_91 : decode cX8_set 91 = .ok (.fdiv, 1) := by decide +kernel
theorem dX8_set_92 : decode cX8_set 92 = .ok (.fastore, 1) := by decide +kernel
theorem dX8_set_93 : decode cX8_set 93 = .ok (.goto 21, 3) := by decide +kernel
theorem dX8_set_96 : decode cX8_set 96 = .ok (.aload_n 0, 1) := by decide +kernel
theorem dX8_set_97 : decode cX8_set 97 = .ok (.getfield 36, 3) := by decide +kernel
theorem dX8_set_100 : decode cX8_set 100 = .ok (.bipush 8, 2) := by decide +kernel
theorem dX8_set_102 : decode cX8_set 102 = .ok (.iload_n 1, 1) := by decide +kernel
theorem dX8_set_103 : decode cX8_set 103 = .ok (.imul, 1) := by decide +kernel
theorem dX8_set_104 : decode cX8_set 104 = .ok (.iload_n 3, 1) := by decide +kernel
theorem dX8_set_105 : decode cX8_set 105 = .ok (.iadd, 1) := by decide +kernel
theorem dX8_set_106 : decode cX8_set 106 = .ok (.iload 4, 2) := by decide +kernel
theorem dX8_set_108 : decode cX8_set 108 = .ok (.i2d, 1) := by decide +kernel
theorem dX8_set_109 : decode cX8_set 109 = .ok (.iload 5, 2) := by decide +kernel
theorem dX8_set_111 : decode cX8_set 111 = .ok (.i2d, 1) := by decide +kernel
theorem dX8_set_112 : decode cX8_set 112 = .ok (.ddiv, 1) := by decide +kernel
theorem dX8_set_113 : decode cX8_set 113 = .ok (.dastore, 1) := by decide +kernel
theorem dX8_set_114 : decode cX8_set 114 = .ok (.aload_n 0, 1) := by decide +kernel
theorem dX8_set_115 : decode cX8_set 115 = .ok (.iload_n 1, 1) := by decide +kernel
theorem dX8_set_116 : decode cX8_set 116 = .ok (.iload_n 3, 1) := by decide +kernel
theorem dX8_set_117 : decode cX8_set 117 = .ok (.invokevirtual 264, 3) := by decide +kernel
theorem dX8_set_120 : decode cX8_set 120 = .ok (.ireturn, 1) := by decide +kernel
theorem dX8_get_0 : decode cX8_get 0 = .ok (.iload_n 1, 1) := by decide +kernel
theorem dX8_get_1 : decode cX8_get 1 = .ok (.invokestatic 239, 3) := by decide +kernel
theorem dX8_get_4 : decode cX8_get 4 = .ok (.ifCond .ne 6, 3) := by decide +kernel
theorem dX8_get_7 : decode cX8_get 7 = .ok (.bipush (-2), 2) := by decide +kernel
theorem dX8_get_9 : decode cX8_get 9 = .ok (.ireturn, 1) := by decide +kernel
theorem dX8_get_10 : decode cX8_get 10 = .ok (.iload_n 2, 1) := by decide +kernel
theorem dX8_get_11 : decode cX8_get 11 = .ok (.i2l, 1) := by decide +kernel
theorem dX8_get_12 : decode cX8_get 12 = .ok (.lconst 0, 1) := by decide +kernel
theorem dX8_get_13 : decode cX8_get 13 = .ok (.lconst 1, 1) := by decide +kernel
theorem dX8_get_14 : decode cX8_get 14 = .ok (.invokestatic 102, 3) := by decide +kernel
theorem dX8_get_17 : decode cX8_get 17 = .ok (.ifCond .ne 6, 3) := by decide +kernel
theorem dX8_get_20 : decode cX8_get 20 = .ok (.bipush (-3), 2) := by decide +kernel
theorem dX8_get_22 : decode cX8_get 22 = .ok (.ireturn, 1) := by decide +kernel
theorem dX8_get_23 : decode cX8_get 23 = .ok (.aload_n 0, 1) := by decide +kernel
theorem dX8_get_24 : decode cX8_get 24 = .ok (.iload_n 1, 1) := by decide +kernel
theorem dX8_get_25 : decode cX8_get 25 = .ok (.iload_n 2, 1) := by decide +kernel
theorem dX8_get_26 : decode cX8_get 26 = .ok (.iload_n 3, 1) := by decide +kernel
theorem dX8_get_27 : decode cX8_get 27 = .ok (.iload_n 3, 1) := by decide +kernel
theorem dX8_get_28 : decode cX8_get 28 = .ok (.invokevirtual 260, 3) := by decide +kernel
theorem dX8_get_31 : decode cX8_get 31 = .ok (.istore 4, 2) := by decide +kernel
theorem dX8_get_33 : decode cX8_get 33 = .ok (.iload 4, 2) := by decide +kernel
theorem dX8_get_35 : decode cX8_get 35 = .ok (.ifCond .eq 8, 3) := by decide +kernel
theorem dX8_get_38 : decode cX8_get 38 = .ok (.iload 4, 2) := by decide +kernel
theorem dX8_get_40 : decode cX8_get 40 = .ok (.goto 9, 3) := by decide +kernel
theorem dX8_get_43 : decode cX8_get 43 = .ok (.aload_n 0, 1) := by decide +kernel
theorem dX8_get_44 : decode cX8_get 44 = .ok (.iload_n 1, 1) := by decide +kernel
theorem dX8_get_45 : decode cX8_get 45 = .ok (.iload_n 3, 1) := by decide +kernel
theorem dX8_get_46 : decode cX8_get 46 = .ok (.invokevirtual 264, 3) := by decide +kernel
theorem dX8_get_49 : decode cX8_get 49 = .ok (.ireturn, 1) := by decide +kernel
theorem dX8_rest_0 : decode cX8_rest 0 = .ok (.iload_n 1, 1) := by decide +kernel
theorem dX8_rest_1 : decode cX8_rest 1 = .ok (.invokestatic 239, 3) := by decide +kernel
theorem dX8_rest_4 : decode cX8_rest 4 = .ok (.ifCond .ne 6, 3) := by decide +kernel
theorem dX8_rest_7 : decode cX8_rest 7 = .ok (.bipush (-2), 2) := by decide +kernel
theorem dX8_rest_9 : decode cX8_rest 9 = .ok (.ireturn, 1) := by decide +kernel
theorem dX8_rest_10 : decode cX8_rest 10 = .ok (.iload_n 2, 1) := by decide +kernel
theorem dX8_rest_11 : decode cX8_rest 11 = .ok (.i2l, 1) := by decide +kernel
theorem dX8_rest_12 : decode cX8_rest 12 = .ok (.lconst 0, 1) := by decide +kernel
theorem dX8_rest_13 : decode cX8_rest 13 = .ok (.lconst 1, 1) := by decide +kernel
theorem dX8_rest_14 : decode cX8_rest 14 = .ok (.invokestatic 102, 3) := by decide +kernel
theorem dX8_rest_17 : decode cX8_rest 17 = .ok (.ifCond .ne 6, 3) := by decide +kernel
theorem dX8_rest_20 : decode cX8_rest 20 = .ok (.bipush (-3), 2) := by decide +kernel
theorem dX8_rest_22 : decode cX8_rest 22 = .ok (.ireturn, 1) := by decide +kernel
theorem dX8_rest_23 : decode cX8_rest 23 = .ok (.aload_n 0, 1) := by decide +kernel
theorem dX8_rest_24 : decode cX8_rest 24 = .ok (.iload_n 1, 1) := by decide +kernel
theorem dX8_rest_25 : decode cX8_rest 25 = .ok (.iload_n 2, 1) := by decide +kernel
theorem dX8_rest_26 : decode cX8_rest 26 = .ok (.iload_n 3, 1) := by decide +kernel
theorem dX8_rest_27 : decode cX8_rest 27 = .ok (.iload 4, 2) := by decide +kernel
theorem dX8_rest_29 : decode cX8_rest 29 = .ok (.invokevirtual 260, 3) := by decide +kernel
theorem dX8_rest_32 : decode cX8_rest 32 = .ok (.istore 5, 2) := by decide +kernel
theorem dX8_rest_34 : decode cX8_rest 34 = .ok (.iload 5, 2) := by decide +kernel
theorem dX8_rest_36 : decode cX8_rest 36 = .ok (.ifCond .eq 6, 3) := by decide +kernel
theorem dX8_rest_39 : decode cX8_rest 39 = .ok (.iload 5, 2) := by decide +kernel
theorem dX8_rest_41 : decode cX8_rest 41 = .ok (.ireturn, 1) := by decide +kernel
theorem dX8_rest_42 : decode cX8_rest 42 = .ok (.iload_n 2, 1) := by decide +kernel
theorem dX8_rest_43 : decode cX8_rest 43 = .ok (.ifCond .ne 41, 3) := by decide +kernel
theorem dX8_rest_46 : decode cX8_rest 46 = .ok (.aload_n 0, 1) := by decide +kernel
theorem dX8_rest_47 : decode cX8_rest 47 = .ok (.getfield 32, 3) := by decide +kernel
theorem dX8_rest_50 : decode cX8_rest 50 = .ok (.bipush 8, 2) := by decide +kernel
theorem dX8_rest_52 : decode cX8_rest 52 = .ok (.iload_n 1, 1) := by decide +kernel
theorem dX8_rest_53 : decode cX8_rest 53 = .ok (.imul, 1) := by decide +kernel
theorem dX8_rest_54 : decode cX8_rest 54 = .ok (.iload_n 3, 1) := by decide +kernel
theorem dX8_rest_55 : decode cX8_rest 55 = .ok (.iadd, 1) := by decide +kernel
theorem dX8_rest_56 : decode cX8_rest 56 = .ok (.aload_n 0, 1) := by decide +kernel
theorem dX8_rest_57 : decode cX8_rest 57 = .ok (.getfield 32, 3) := by decide +kernel
theorem dX8_rest_60 : decode cX8_rest 60 = .ok (.bipush 8, 2) := by decide +kernel
theorem dX8_rest_62 : decode cX8_rest 62 = .ok (.iload_n 1, 1) := by decide +kernel
theorem dX8_rest_63 : decode cX8_rest 63 = .ok (.imul, 1) := by decide +kernel
theorem dX8_rest_64 : decode cX8_rest 64 = .ok (.iload_n 3, 1) := by decide +kernel
theorem dX8_rest_65 : decode cX8_rest 65 = .ok (.iadd, 1) := by decide +kernel
theorem dX8_rest_66 : decode cX8_rest 66 = .ok (.faload, 1) := by decide +kernel
theorem dX8_rest_67 : decode cX8_rest 67 = .ok (.aload_n 0, 1) := by decide +kernel
theorem dX8_rest_68 : decode cX8_rest 68 = .ok (.getfield 32, 3) := by decide +kernel
theorem dX8_rest_71 : decode cX8_rest 71 = .ok (.bipush 8, 2) := by decide +kernel
theorem dX8_rest_73 : decode cX8_rest 73 = .ok (.iload_n 1, 1) := by decide +kernel
theorem dX8_rest_74 : decode cX8_rest 74 = .ok (.imul, 1) := by decide +kernel
theorem dX8_rest_75 : decode cX8_rest 75 = .ok (.iload 4, 2) := by decide +kernel
theorem dX8_rest_77 : decode cX8_rest 77 = .ok (.iadd, 1) := by decide +kernel
theorem dX8_rest_78 : decode cX8_rest 78 = .ok (.faload, 1) := by decide +kernel
theorem dX8_rest_79 : decode cX8_rest 79 = .ok (.frem, 1) := by decide +kernel
theorem dX8_rest_80 : decode cX8_rest 80 = .ok (.fastore, 1) := by decide +kernel
theorem dX8_rest_81 : decode cX8_rest 81 = .ok (.goto 38, 3) := by decide +kernel
theorem dX8_rest_84 : decode cX8_rest 84 = .ok (.aload_n 0, 1) := by decide +kernel
theorem dX8_rest_85 : decode cX8_rest 85 = .ok (.getfield 36, 3) := by decide +kernel
theorem dX8_rest_88 : decode cX8_rest 88 = .ok (.bipush 8, 2) := by decide +kernel
theorem dX8_rest_90 : decode cX8_rest 90 = .ok (.iload_n 1, 1) := by decide +kernel
theorem dX8_rest_91 : decode cX8_rest 91 = .ok (.imul, 1) := by decide +kernel
theorem dX8_rest_92 : decode cX8_rest 92 = .ok (.iload_n 3, 1) := by decide +kernel
theorem dX8_rest_93 : decode cX8_rest 93 = .ok (.iadd, 1) := by decide +kernel
theorem dX8_rest_94 : decode cX8_rest 94 = .ok (.aload_n 0, 1) := by decide +kernel
theorem dX8_rest_95 : decode cX8_rest 95 = .ok (.getfield 36, 3) := by decide +kernel
theorem dX8_rest_98 : decode cX8_rest 98 = .ok (.bipush 8, 2) := by decide +kernel
theorem dX8_rest_100 : decode cX8_rest 100 = .ok (.iload_n 1, 1) := by decide +kernel
theorem dX8_rest_101 : decode cX8_rest 101 = .ok (.imul, 1) := by decide +kernel
theorem dX8_rest_102 : decode cX8_rest 102 = .ok (.iload_n 3, 1) := by decide +kernel
theorem dX8_rest_103 : decode cX8_rest 103 = .ok (.iadd, 1) := by decide +kernel
theorem dX8_rest_104 : decode cX8_rest 104 = .ok (.daload, 1) := by decide +kernel
theorem dX8_rest_105 : decode cX8_rest 105 = .ok (.aload_n 0, 1) := by decide +kernel
theorem dX8_rest_106 : decode cX8_rest 106 = .ok (.getfield 36, 3) := by decide +kernel
theorem dX8_rest_109 : decode cX8_rest 109 = .ok (.bipush 8, 2) := by decide +kernel
theorem dX8_rest_111 : decode cX8_rest 111 = .ok (.iload_n 1, 1) := by decide +kernel
theorem dX8_rest_112 : decode cX8_rest 112 = .ok (.imul, 1) := by decide +kernel
theorem dX8_rest_113 : decode cX8_rest 113 = .ok (.iload 4, 2) := by decide +kernel
theorem dX8_rest_115 : decode cX8_rest 115 = .ok (.iadd, 1) := by decide +kernel
theorem dX8_rest_116 : decode cX8_rest 116 = .ok (.daload, 1) := by decide +kernel
theorem dX8_rest_117 : decode cX8_rest 117 = .ok (.drem, 1) := by decide +kernel
theorem dX8_rest_118 : decode cX8_rest 118 = .ok (.dastore, 1) := by decide +kernel
theorem dX8_rest_119 : decode cX8_rest 119 = .ok (.aload_n 0, 1) := by decide +kernel
theorem dX8_rest_120 : decode cX8_rest 120 = .ok (.iload_n 1, 1) := by decide +kernel
theorem dX8_rest_121 : decode cX8_rest 121 = .ok (.iload_n 3, 1) := by decide +kernel
theorem dX8_rest_122 : decode cX8_rest 122 = .ok (.invokevirtual 264, 3) := by decide +kernel
theorem dX8_rest_125 : decode cX8_rest 125 = .ok (.ireturn, 1) := by decide +kernel
theorem dX8_valueOf_0 : decode cX8_valueOf 0 = .ok (.aload_n 0, 1) := by decide +kernel
theorem dX8_valueOf_1 : decode cX8_valueOf 1 = .ok (.getfield 26, 3) := by decide +kernel
theorem dX8_valueOf_4 : decode cX8_valueOf 4 = .ok (.iload_n 1, 1) := by decide +kernel
theorem dX8_valueOf_5 : decode cX8_valueOf 5 = .ok (.iaload, 1) := by decide +kernel
theorem dX8_valueOf_6 : decode cX8_valueOf 6 = .ok (.ifCond .ne 18, 3) := by decide +kernel
theorem dX8_valueOf_9 : decode cX8_valueOf 9 = .ok (.aload_n 0, 1) := by decide +kernel
theorem dX8_valueOf_10 : decode cX8_valueOf 10 = .ok (.getfield 32, 3) := by decide +kernel
theorem dX8_valueOf_13 : decode cX8_valueOf 13 = .ok (.bipush 8, 2) := by decide +kernel
theorem dX8_valueOf_15 : decode cX8_valueOf 15 = .ok (.iload_n 1, 1) := by decide +kernel
theorem dX8_valueOf_16 : decode cX8_valueOf 16 = .ok (.imul, 1) := by decide +kernel
theorem dX8_valueOf_17 : decode cX8_valueOf 17 = .ok (.iload_n 2, 1) := by decide +kernel
theorem dX8_valueOf_18 : decode cX8_valueOf 18 = .ok (.iadd, 1) := by decide +kernel
theorem dX8_valueOf_19 : decode cX8_valueOf 19 = .ok (.faload, 1) := by decide +kernel
theorem dX8_valueOf_20 : decode cX8_valueOf 20 = .ok (.f2d, 1) := by decide +kernel
theorem dX8_valueOf_21 : decode cX8_valueOf 21 = .ok (.goto 14, 3) := by decide +kernel
theorem dX8_valueOf_24 : decode cX8_valueOf 24 = .ok (.aload_n 0, 1) := by decide +kernel
theorem dX8_valueOf_25 : decode cX8_valueOf 25 = .ok (.getfield 36, 3) := by decide +kernel
theorem dX8_valueOf_28 : decode cX8_valueOf 28 = .ok (.bipush 8, 2) := by decide +kernel
theorem dX8_valueOf_30 : decode cX8_valueOf 30 = .ok (.iload_n 1, 1) := by decide +kernel
theorem dX8_valueOf_31 : decode cX8_valueOf 31 = .ok (.imul, 1) := by decide +kernel
theorem dX8_valueOf_32 : decode cX8_valueOf 32 = .ok (.iload_n 2, 1) := by decide +kernel
theorem dX8_valueOf_33 : decode cX8_valueOf 33 = .ok (.iadd, 1) := by decide +kernel
theorem dX8_valueOf_34 : decode cX8_valueOf 34 = .ok (.daload, 1) := by decide +kernel
theorem dX8_valueOf_35 : decode cX8_valueOf 35 = .ok (.dreturn, 1) := by decide +kernel
theorem dX8_compare_0 : decode cX8_compare 0 = .ok (.iload_n 1, 1) := by decide +kernel
theorem dX8_compare_1 : decode cX8_compare 1 = .ok (.invokestatic 239, 3) := by decide +kernel
theorem dX8_compare_4 : decode cX8_compare 4 = .ok (.ifCond .ne 6, 3) := by decide +kernel
theorem dX8_compare_7 : decode cX8_compare 7 = .ok (.bipush (-2), 2) := by decide +kernel
theorem dX8_compare_9 : decode cX8_compare 9 = .ok (.ireturn, 1) := by decide +kernel
theorem dX8_compare_10 : decode cX8_compare 10 = .ok (.iload_n 2, 1) := by decide +kernel
theorem dX8_compare_11 : decode cX8_compare 11 = .ok (.i2l, 1) := by decide +kernel
theorem dX8_compare_12 : decode cX8_compare 12 = .ok (.lconst 0, 1) := by decide +kernel
theorem dX8_compare_13 : decode cX8_compare 13 = .ok (.lconst 1, 1) := by decide +kernel
theorem dX8_compare_14 : decode cX8_compare 14 = .ok (.invokestatic 102, 3) := by decide +kernel
theorem dX8_compare_17 : decode cX8_compare 17 = .ok (.ifCond .ne 6, 3) := by decide +kernel
theorem dX8_compare_20 : decode cX8_compare 20 = .ok (.bipush (-3), 2) := by decide +kernel
theorem dX8_compare_22 : decode cX8_compare 22 = .ok (.ireturn, 1) := by decide +kernel
theorem dX8_compare_23 : decode cX8_compare 23 = .ok (.aload_n 0, 1) := by decide +kernel
theorem dX8_compare_24 : decode cX8_compare 24 = .ok (.iload_n 1, 1) := by decide +kernel
theorem dX8_compare_25 : decode cX8_compare 25 = .ok (.iload_n 2, 1) := by decide +kernel
theorem dX8_compare_26 : decode cX8_compare 26 = .ok (.iload_n 3, 1) := by decide +kernel
theorem dX8_compare_27 : decode cX8_compare 27 = .ok (.iload 4, 2) := by decide +kernel
theorem dX8_compare_29 : decode cX8_compare 29 = .ok (.invokevirtual 260, 3) := by decide +kernel
theorem dX8_compare_32 : decode cX8_compare 32 = .ok (.istore 5, 2) := by decide +kernel
theorem dX8_compare_34 : decode cX8_compare 34 = .ok (.iload 5, 2) := by decide +kernel
theorem dX8_compare_36 : decode cX8_compare 36 = .ok (.ifCond .eq 6, 3) := by decide +kernel
theorem dX8_compare_39 : decode cX8_compare 39 = .ok (.iload 5, 2) := by decide +kernel
theorem dX8_compare_41 : decode cX8_compare 41 = .ok (.ireturn, 1) := by decide +kernel
theorem dX8_compare_42 : decode cX8_compare 42 = .ok (.aload_n 0, 1) := by decide +kernel
theorem dX8_compare_43 : decode cX8_compare 43 = .ok (.iload_n 1, 1) := by decide +kernel
theorem dX8_compare_44 : decode cX8_compare 44 = .ok (.iload_n 3, 1) := by decide +kernel
theorem dX8_compare_45 : decode cX8_compare 45 = .ok (.invokevirtual 267, 3) := by decide +kernel
theorem dX8_compare_48 : decode cX8_compare 48 = .ok (.dstore 6, 2) := by decide +kernel
theorem dX8_compare_50 : decode cX8_compare 50 = .ok (.aload_n 0, 1) := by decide +kernel
theorem dX8_compare_51 : decode cX8_compare 51 = .ok (.iload_n 1, 1) := by decide +kernel
theorem dX8_compare_52 : decode cX8_compare 52 = .ok (.iload 4, 2) := by decide +kernel
theorem dX8_compare_54 : decode cX8_compare 54 = .ok (.invokevirtual 267, 3) := by decide +kernel
theorem dX8_compare_57 : decode cX8_compare 57 = .ok (.dstore 8, 2) := by decide +kernel
theorem dX8_compare_59 : decode cX8_compare 59 = .ok (.dload 6, 2) := by decide +kernel
theorem dX8_compare_61 : decode cX8_compare 61 = .ok (.dload 8, 2) := by decide +kernel
theorem dX8_compare_63 : decode cX8_compare 63 = .ok (.dcmp .g, 1) := by decide +kernel
theorem dX8_compare_64 : decode cX8_compare 64 = .ok (.ifCond .ge 7, 3) := by decide +kernel
theorem dX8_compare_67 : decode cX8_compare 67 = .ok (.iconst 2, 1) := by decide +kernel
theorem dX8_compare_68 : decode cX8_compare 68 = .ok (.goto 16, 3) := by decide +kernel
theorem dX8_compare_71 : decode cX8_compare 71 = .ok (.dload 6, 2) := by decide +kernel
theorem dX8_compare_73 : decode cX8_compare 73 = .ok (.dload 8, 2) := by decide +kernel
theorem dX8_compare_75 : decode cX8_compare 75 = .ok (.dcmp .l, 1) := by decide +kernel
theorem dX8_compare_76 : decode cX8_compare 76 = .ok (.ifCond .ne 7, 3) := by decide +kernel
theorem dX8_compare_79 : decode cX8_compare 79 = .ok (.iconst 1, 1) := by decide +kernel
theorem dX8_compare_80 : decode cX8_compare 80 = .ok (.goto 4, 3) := by decide +kernel
theorem dX8_compare_83 : decode cX8_compare 83 = .ok (.iconst 0, 1) := by decide +kernel
theorem dX8_compare_84 : decode cX8_compare 84 = .ok (.ireturn, 1) := by decide +kernel
theorem dX8_sum_0 : decode cX8_sum 0 = .ok (.iload_n 1, 1) := by decide +kernel
theorem dX8_sum_1 : decode cX8_sum 1 = .ok (.invokestatic 239, 3) := by decide +kernel
theorem dX8_sum_4 : decode cX8_sum 4 = .ok (.ifCond .ne 6, 3) := by decide +kernel
theorem dX8_sum_7 : decode cX8_sum 7 = .ok (.bipush (-2), 2) := by decide +kernel
theorem dX8_sum_9 : decode cX8_sum 9 = .ok (.ireturn, 1) := by decide +kernel
theorem dX8_sum_10 : decode cX8_sum 10 = .ok (.iload_n 2, 1) := by decide +kernel
theorem dX8_sum_11 : decode cX8_sum 11 = .ok (.i2l, 1) := by decide +kernel
theorem dX8_sum_12 : decode cX8_sum 12 = .ok (.lconst 0, 1) := by decide +kernel
theorem dX8_sum_13 : decode cX8_sum 13 = .ok (.lconst 1, 1) := by decide +kernel
theorem dX8_sum_14 : decode cX8_sum 14 = .ok (.invokestatic 102, 3) := by decide +kernel
theorem dX8_sum_17 : decode cX8_sum 17 = .ok (.ifCond .ne 6, 3) := by decide +kernel
theorem dX8_sum_20 : decode cX8_sum 20 = .ok (.bipush (-3), 2) := by decide +kernel
theorem dX8_sum_22 : decode cX8_sum 22 = .ok (.ireturn, 1) := by decide +kernel
theorem dX8_sum_23 : decode cX8_sum 23 = .ok (.aload_n 0, 1) := by decide +kernel
theorem dX8_sum_24 : decode cX8_sum 24 = .ok (.getfield 29, 3) := by decide +kernel
theorem dX8_sum_27 : decode cX8_sum 27 = .ok (.iload_n 1, 1) := by decide +kernel
theorem dX8_sum_28 : decode cX8_sum 28 = .ok (.iaload, 1) := by decide +kernel
theorem dX8_sum_29 : decode cX8_sum 29 = .ok (.ifCond .ge 6, 3) := by decide +kernel
theorem dX8_sum_32 : decode cX8_sum 32 = .ok (.bipush (-11), 2) := by decide +kernel
theorem dX8_sum_34 : decode cX8_sum 34 = .ok (.ireturn, 1) := by decide +kernel
theorem dX8_sum_35 : decode cX8_sum 35 = .ok (.dconst 0, 1) := by decide +kernel
theorem dX8_sum_36 : decode cX8_sum 36 = .ok (.dstore_n 3, 1) := by decide +kernel
theorem dX8_sum_37 : decode cX8_sum 37 = .ok (.iconst 0, 1) := by decide +kernel
theorem dX8_sum_38 : decode cX8_sum 38 = .ok (.istore 5, 2) := by decide +kernel
theorem dX8_sum_40 : decode cX8_sum 40 = .ok (.iconst 0, 1) := by decide +kernel
theorem dX8_sum_41 : decode cX8_sum 41 = .ok (.istore 6, 2) := by decide +kernel
theorem dX8_sum_43 : decode cX8_sum 43 = .ok (.iload 6, 2) := by decide +kernel
theorem dX8_sum_45 : decode cX8_sum 45 = .ok (.aload_n 0, 1) := by decide +kernel
theorem dX8_sum_46 : decode cX8_sum 46 = .ok (.getfield 29, 3) := by decide +kernel
theorem dX8_sum_49 : decode cX8_sum 49 = .ok (.iload_n 1, 1) := by decide +kernel
theorem dX8_sum_50 : decode cX8_sum 50 = .ok (.iaload, 1) := by decide +kernel
theorem dX8_sum_51 : decode cX8_sum 51 = .ok (.if_icmp .ge 41, 3) := by decide +kernel
theorem dX8_sum_54 : decode cX8_sum 54 = .ok (.aload_n 0, 1) := by decide +kernel
theorem dX8_sum_55 : decode cX8_sum 55 = .ok (.iload_n 1, 1) := by decide +kernel
theorem dX8_sum_56 : decode cX8_sum 56 = .ok (.iload 6, 2) := by decide +kernel
theorem dX8_sum_58 : decode cX8_sum 58 = .ok (.invokevirtual 267, 3) := by decide +kernel
theorem dX8_sum_61 : decode cX8_sum 61 = .ok (.dstore 7, 2) := by decide +kernel
theorem dX8_sum_63 : decode cX8_sum 63 = .ok (.dload_n 3, 1) := by decide +kernel
theorem dX8_sum_64 : decode cX8_sum 64 = .ok (.dload 7, 2) := by decide +kernel
theorem dX8_sum_66 : decode cX8_sum 66 = .ok (.dadd, 1) := by decide +kernel
theorem dX8_sum_67 : decode cX8_sum 67 = .ok (.dstore_n 3, 1) := by decide +kernel
theorem dX8_sum_68 : decode cX8_sum 68 = .ok (.iload 5, 2) := by decide +kernel
theorem dX8_sum_70 : decode cX8_sum 70 = .ok (.dload 7, 2) := by decide +kernel
theorem dX8_sum_72 : decode cX8_sum 72 = .ok (.dload 7, 2) := by decide +kernel
theorem dX8_sum_74 : decode cX8_sum 74 = .ok (.dcmp .l, 1) := by decide +kernel
theorem dX8_sum_75 : decode cX8_sum 75 = .ok (.ifCond .eq 7, 3) := by decide +kernel
theorem dX8_sum_78 : decode cX8_sum 78 = .ok (.iconst 1, 1) := by decide +kernel
theorem dX8_sum_79 : decode cX8_sum 79 = .ok (.goto 4, 3) := by decide +kernel
theorem dX8_sum_82 : decode cX8_sum 82 = .ok (.iconst 0, 1) := by decide +kernel
theorem dX8_sum_83 : decode cX8_sum 83 = .ok (.iadd, 1) := by decide +kernel
theorem dX8_sum_84 : decode cX8_sum 84 = .ok (.istore 5, 2) := by decide +kernel
theorem dX8_sum_86 : decode cX8_sum 86 = .ok (.iinc 6 1, 3) := by decide +kernel
theorem dX8_sum_89 : decode cX8_sum 89 = .ok (.goto (-46), 3) := by decide +kernel
theorem dX8_sum_92 : decode cX8_sum 92 = .ok (.iload_n 2, 1) := by decide +kernel
theorem dX8_sum_93 : decode cX8_sum 93 = .ok (.ifCond .ne 14, 3) := by decide +kernel
theorem dX8_sum_96 : decode cX8_sum 96 = .ok (.ldc2_w 254, 3) := by decide +kernel
theorem dX8_sum_99 : decode cX8_sum 99 = .ok (.dload_n 3, 1) := by decide +kernel
theorem dX8_sum_100 : decode cX8_sum 100 = .ok (.dmul, 1) := by decide +kernel
theorem dX8_sum_101 : decode cX8_sum 101 = .ok (.invokestatic 250, 3) := by decide +kernel
theorem dX8_sum_104 : decode cX8_sum 104 = .ok (.goto 5, 3) := by decide +kernel
theorem dX8_sum_107 : decode cX8_sum 107 = .ok (.iload 5, 2) := by decide +kernel
theorem dX8_sum_109 : decode cX8_sum 109 = .ok (.ireturn, 1) := by decide +kernel
theorem dX8_drop_0 : decode cX8_drop 0 = .ok (.iload_n 1, 1) := by decide +kernel
theorem dX8_drop_1 : decode cX8_drop 1 = .ok (.invokestatic 239, 3) := by decide +kernel
theorem dX8_drop_4 : decode cX8_drop 4 = .ok (.ifCond .ne 6, 3) := by decide +kernel
theorem dX8_drop_7 : decode cX8_drop 7 = .ok (.bipush (-2), 2) := by decide +kernel
theorem dX8_drop_9 : decode cX8_drop 9 = .ok (.ireturn, 1) := by decide +kernel
theorem dX8_drop_10 : decode cX8_drop 10 = .ok (.aload_n 0, 1) := by decide +kernel
theorem dX8_drop_11 : decode cX8_drop 11 = .ok (.getfield 29, 3) := by decide +kernel
theorem dX8_drop_14 : decode cX8_drop 14 = .ok (.iload_n 1, 1) := by decide +kernel
theorem dX8_drop_15 : decode cX8_drop 15 = .ok (.iaload, 1) := by decide +kernel
theorem dX8_drop_16 : decode cX8_drop 16 = .ok (.istore_n 2, 1) := by decide +kernel
theorem dX8_drop_17 : decode cX8_drop 17 = .ok (.aload_n 0, 1) := by decide +kernel
theorem dX8_drop_18 : decode cX8_drop 18 = .ok (.getfield 29, 3) := by decide +kernel
theorem dX8_drop_21 : decode cX8_drop 21 = .ok (.iload_n 1, 1) := by decide +kernel
theorem dX8_drop_22 : decode cX8_drop 22 = .ok (.iconst (-1), 1) := by decide +kernel
theorem dX8_drop_23 : decode cX8_drop 23 = .ok (.iastore, 1) := by decide +kernel
theorem dX8_drop_24 : decode cX8_drop 24 = .ok (.iload_n 2, 1) := by decide +kernel
theorem dX8_drop_25 : decode cX8_drop 25 = .ok (.ifCond .ge 8, 3) := by decide +kernel
theorem dX8_drop_28 : decode cX8_drop 28 = .ok (.bipush (-11), 2) := by decide +kernel
theorem dX8_drop_30 : decode cX8_drop 30 = .ok (.goto 4, 3) := by decide +kernel
theorem dX8_drop_33 : decode cX8_drop 33 = .ok (.iload_n 2, 1) := by decide +kernel
theorem dX8_drop_34 : decode cX8_drop 34 = .ok (.ireturn, 1) := by decide +kernel
theorem dX8_allPlaces_0 : decode cX8_allPlaces 0 = .ok (.iconst 0, 1) := by decide +kernel
theorem dX8_allPlaces_1 : decode cX8_allPlaces 1 = .ok (.istore_n 1, 1) := by decide +kernel
theorem dX8_allPlaces_2 : decode cX8_allPlaces 2 = .ok (.iconst 0, 1) := by decide +kernel
theorem dX8_allPlaces_3 : decode cX8_allPlaces 3 = .ok (.istore_n 2, 1) := by decide +kernel
theorem dX8_allPlaces_4 : decode cX8_allPlaces 4 = .ok (.iload_n 2, 1) := by decide +kernel
theorem dX8_allPlaces_5 : decode cX8_allPlaces 5 = .ok (.iconst 3, 1) := by decide +kernel
theorem dX8_allPlaces_6 : decode cX8_allPlaces 6 = .ok (.if_icmp .ge 31, 3) := by decide +kernel
theorem dX8_allPlaces_9 : decode cX8_allPlaces 9 = .ok (.iload_n 1, 1) := by decide +kernel
theorem dX8_allPlaces_10 : decode cX8_allPlaces 10 = .ok (.aload_n 0, 1) := by decide +kernel
theorem dX8_allPlaces_11 : decode cX8_allPlaces 11 = .ok (.getfield 29, 3) := by decide +kernel
theorem dX8_allPlaces_14 : decode cX8_allPlaces 14 = .ok (.iload_n 2, 1) := by decide +kernel
theorem dX8_allPlaces_15 : decode cX8_allPlaces 15 = .ok (.iaload, 1) := by decide +kernel
theorem dX8_allPlaces_16 : decode cX8_allPlaces 16 = .ok (.ifCond .ge 7, 3) := by decide +kernel
theorem dX8_allPlaces_19 : decode cX8_allPlaces 19 = .ok (.iconst 0, 1) := by decide +kernel
theorem dX8_allPlaces_20 : decode cX8_allPlaces 20 = .ok (.goto 9, 3) := by decide +kernel
theorem dX8_allPlaces_23 : decode cX8_allPlaces 23 = .ok (.aload_n 0, 1) := by decide +kernel
theorem dX8_allPlaces_24 : decode cX8_allPlaces 24 = .ok (.getfield 29, 3) := by decide +kernel
theorem dX8_allPlaces_27 : decode cX8_allPlaces 27 = .ok (.iload_n 2, 1) := by decide +kernel
theorem dX8_allPlaces_28 : decode cX8_allPlaces 28 = .ok (.iaload, 1) := by decide +kernel
theorem dX8_allPlaces_29 : decode cX8_allPlaces 29 = .ok (.iadd, 1) := by decide +kernel
theorem dX8_allPlaces_30 : decode cX8_allPlaces 30 = .ok (.istore_n 1, 1) := by decide +kernel
theorem dX8_allPlaces_31 : decode cX8_allPlaces 31 = .ok (.iinc 2 1, 3) := by decide +kernel
theorem dX8_allPlaces_34 : decode cX8_allPlaces 34 = .ok (.goto (-30), 3) := by decide +kernel
theorem dX8_allPlaces_37 : decode cX8_allPlaces 37 = .ok (.iload_n 1, 1) := by decide +kernel
theorem dX8_allPlaces_38 : decode cX8_allPlaces 38 = .ok (.ireturn, 1) := by decide +kernel
theorem dX8_tooSoon_0 : decode cX8_tooSoon 0 = .ok (.iconst 0, 1) := by decide +kernel
theorem dX8_tooSoon_1 : decode cX8_tooSoon 1 = .ok (.istore_n 1, 1) := by decide +kernel
theorem dX8_tooSoon_2 : decode cX8_tooSoon 2 = .ok (.iconst 0, 1) := by decide +kernel
theorem dX8_tooSoon_3 : decode cX8_tooSoon 3 = .ok (.istore_n 2, 1) := by decide +kernel
theorem dX8_tooSoon_4 : decode cX8_tooSoon 4 = .ok (.iload_n 2, 1) := by decide +kernel
theorem dX8_tooSoon_5 : decode cX8_tooSoon 5 = .ok (.aload_n 0, 1) := by decide +kernel
theorem dX8_tooSoon_6 : decode cX8_tooSoon 6 = .ok (.getfield 88, 3) := by decide +kernel
theorem dX8_tooSoon_9 : decode cX8_tooSoon 9 = .ok (.if_icmp .ge 25, 3) := by decide +kernel
theorem dX8_tooSoon_12 : decode cX8_tooSoon 12 = .ok (.iload_n 1, 1) := by decide +kernel
theorem dX8_tooSoon_13 : decode cX8_tooSoon 13 = .ok (.aload_n 0, 1) := by decide +kernel
theorem dX8_tooSoon_14 : decode cX8_tooSoon 14 = .ok (.iload_n 2, 1) := by decide +kernel
theorem dX8_tooSoon_15 : decode cX8_tooSoon 15 = .ok (.invokevirtual 182, 3) := by decide +kernel
theorem dX8_tooSoon_18 : decode cX8_tooSoon 18 = .ok (.ifCond .ge 7, 3) := by decide +kernel
theorem dX8_tooSoon_21 : decode cX8_tooSoon 21 = .ok (.iconst 1, 1) := by decide +kernel
theorem dX8_tooSoon_22 : decode cX8_tooSoon 22 = .ok (.goto 4, 3) := by decide +kernel
theorem dX8_tooSoon_25 : decode cX8_tooSoon 25 = .ok (.iconst 0, 1) := by decide +kernel
theorem dX8_tooSoon_26 : decode cX8_tooSoon 26 = .ok (.iadd, 1) := by decide +kernel
theorem dX8_tooSoon_27 : decode cX8_tooSoon 27 = .ok (.istore_n 1, 1) := by decide +kernel
theorem dX8_tooSoon_28 : decode cX8_tooSoon 28 = .ok (.iinc 2 1, 3) := by decide +kernel
theorem dX8_tooSoon_31 : decode cX8_tooSoon 31 = .ok (.goto (-27), 3) := by decide +kernel
theorem dX8_tooSoon_34 : decode cX8_tooSoon 34 = .ok (.iload_n 1, 1) := by decide +kernel
theorem dX8_tooSoon_35 : decode cX8_tooSoon 35 = .ok (.ireturn, 1) := by decide +kernel
theorem dX8_count_0 : decode cX8_count 0 = .ok (.iload_n 1, 1) := by decide +kernel
theorem dX8_count_1 : decode cX8_count 1 = .ok (.tableswitch 107 0 9 #[55, 60, 65, 70, 75, 80, 87, 92, 97, 102], 55) := by decide +kernel
theorem dX8_count_56 : decode cX8_count 56 = .ok (.aload_n 0, 1) := by decide +kernel
theorem dX8_count_57 : decode cX8_count 57 = .ok (.getfield 84, 3) := by decide +kernel
theorem dX8_count_60 : decode cX8_count 60 = .ok (.ireturn, 1) := by decide +kernel
theorem dX8_count_61 : decode cX8_count 61 = .ok (.aload_n 0, 1) := by decide +kernel
theorem dX8_count_62 : decode cX8_count 62 = .ok (.getfield 88, 3) := by decide +kernel
theorem dX8_count_65 : decode cX8_count 65 = .ok (.ireturn, 1) := by decide +kernel
theorem dX8_count_66 : decode cX8_count 66 = .ok (.aload_n 0, 1) := by decide +kernel
theorem dX8_count_67 : decode cX8_count 67 = .ok (.getfield 91, 3) := by decide +kernel
theorem dX8_count_70 : decode cX8_count 70 = .ok (.ireturn, 1) := by decide +kernel
theorem dX8_count_71 : decode cX8_count 71 = .ok (.aload_n 0, 1) := by decide +kernel
theorem dX8_count_72 : decode cX8_count 72 = .ok (.getfield 94, 3) := by decide +kernel
theorem dX8_count_75 : decode cX8_count 75 = .ok (.ireturn, 1) := by decide +kernel
theorem dX8_count_76 : decode cX8_count 76 = .ok (.aload_n 0, 1) := by decide +kernel
theorem dX8_count_77 : decode cX8_count 77 = .ok (.getfield 97, 3) := by decide +kernel
theorem dX8_count_80 : decode cX8_count 80 = .ok (.ireturn, 1) := by decide +kernel
theorem dX8_count_81 : decode cX8_count 81 = .ok (.aload_n 0, 1) := by decide +kernel
theorem dX8_count_82 : decode cX8_count 82 = .ok (.getfield 7, 3) := by decide +kernel
theorem dX8_count_85 : decode cX8_count 85 = .ok (.iconst 0, 1) := by decide +kernel
theorem dX8_count_86 : decode cX8_count 86 = .ok (.iaload, 1) := by decide +kernel
theorem dX8_count_87 : decode cX8_count 87 = .ok (.ireturn, 1) := by decide +kernel
theorem dX8_count_88 : decode cX8_count 88 = .ok (.aload_n 0, 1) := by decide +kernel
theorem dX8_count_89 : decode cX8_count 89 = .ok (.invokevirtual 271, 3) := by decide +kernel
theorem dX8_count_92 : decode cX8_count 92 = .ok (.ireturn, 1) := by decide +kernel
theorem dX8_count_93 : decode cX8_count 93 = .ok (.aload_n 0, 1) := by decide +kernel
theorem dX8_count_94 : decode cX8_count 94 = .ok (.getfield 172, 3) := by decide +kernel
theorem dX8_count_97 : decode cX8_count 97 = .ok (.ireturn, 1) := by decide +kernel
theorem dX8_count_98 : decode cX8_count 98 = .ok (.aload_n 0, 1) := by decide +kernel
theorem dX8_count_99 : decode cX8_count 99 = .ok (.getfield 106, 3) := by decide +kernel
theorem dX8_count_102 : decode cX8_count 102 = .ok (.ireturn, 1) := by decide +kernel
theorem dX8_count_103 : decode cX8_count 103 = .ok (.aload_n 0, 1) := by decide +kernel
theorem dX8_count_104 : decode cX8_count 104 = .ok (.invokevirtual 274, 3) := by decide +kernel
theorem dX8_count_107 : decode cX8_count 107 = .ok (.ireturn, 1) := by decide +kernel
theorem dX8_count_108 : decode cX8_count 108 = .ok (.bipush (-3), 2) := by decide +kernel
theorem dX8_count_110 : decode cX8_count 110 = .ok (.ireturn, 1) := by decide +kernel
end
section
/-! the worlds: the cells of each object, its state as functions of the slot and of the index -/
abbrev tysY (Y : Nat → ClassId) : List (ClassId × FieldType) := [(Y 0, .int), (Y 1, .char), (Y 2, .boolean), (Y 3, .double), (Y 4, .float), (Y 5, .object RX2), (Y 6, .object RX5), (Y 7, .array .int)]
def smI (I : Nat → Int) : Prop := ∀ k : Nat, -1000000 ≤ I k ∧ I k ≤ 1000000
def smA (A : Nat → Nat → Int) : Prop := ∀ s k : Nat, -1000000 ≤ A s k ∧ A s k ≤ 1000000
def wNet (q : Nat → Nat) (Y : Nat → ClassId) (I : Nat → Int) (A : Nat → Nat → Int) : va_W := [(q 99, .inr (1, [.int (iI (I 0)), .int (iI (I 1)), .int (iI (I 2)), .int (iI (I 3)), .int (iI (I 4)), .int (iI (I 5)), .ref (q 6), .ref (q 7), .ref (q 8), .ref (q 9)])), (q 6, .inl (Y 0, 16, .inl (iA (A 6)))), (q 7, .inl (Y 0, 16, .inl (iA (A 7)))), (q 8, .inl (Y 0, 16, .inl (iA (A 8)))), (q 9, .inl (Y 0, 16, .inl (iA (A 9))))]
def wHist (q : Nat → Nat) (Y : Nat → ClassId) (I : Nat → Int) (A : Nat → Nat → Int) : va_W := [(q 99, .inr (0, [.ref (q 0), .ref (q 1), .int (iI (I 2)), .int (iI (I 3))])), (q 0, .inl (Y 0, 8, .inl (iA (A 0)))), (q 1, .inl (Y 0, 8, .inl (iA (A 1))))]
def wText (q : Nat → Nat) (Y : Nat → ClassId) (I : Nat → Int) (L : Nat → Int) : va_W := [(q 99, .inr (3, [.ref (q 0), .int (iI (I 1)), .int (iI (I 2)), .int (iI (I 3)), .int (iI (I 4))])), (q 0, .inl (Y 1, 200, .inl (iA L)))]
def wTrace (q : Nat → Nat) (Y : Nat → ClassId) (I : Nat → Int) (V : Nat → UInt64) (N : Nat → Int) : va_W := [(q 99, .inr (4, [.ref (q 0), .ref (q 1), .int (iI (I 2)), .int (iI (I 3)), .int (iI (I 4))])), (q 0, .inl (Y 3, 8, .inr (.inr (.inr (.inl V))))), (q 1, .inl (Y 2, 8, .inl (iA N)))]
def wMod (q : Nat → Nat) (Y : Nat → ClassId) (I : Nat → Int) (A : Nat → Nat → Int) (F : Nat → UInt32) (Dd : Nat → UInt64) : va_W := [(q 99, .inr (6, [.ref (q 0), .int (iI (I 1)), .int (iI (I 2)), .ref (q 3), .ref (q 4), .int (iI (I 5)), .int (iI (I 6)), .int (iI (I 7)), .int (iI (I 8)), .ref (q 9), .ref (q 10), .int (iI (I 11)), .ref (q 12), .ref (q 13), .ref (q 14), .ref (q 15), .int (iI (I 16)), .int (iI (I 17)), .int (iI (I 18)), .int (iI (I 19)), .int (iI (I 20)), .int (iI (I 21)), .ref (q 22), .ref (q 23), .ref (q 24), .ref (q 25), .ref (q 26), .ref (q 27), .ref (q 28), .ref (q 29), .ref (q 30), .ref (q 31), .ref (q 32), .ref (q 33), .int (iI (I 34))])), (q 0, .inl (Y 0, 396, .inl (iA (A 0)))), (q 3, .inl (Y 0, 16, .inl (iA (A 3)))), (q 4, .inl (Y 0, 16, .inl (iA (A 4)))), (q 9, .inl (Y 2, 2, .inl (iA (A 9)))), (q 10, .inl (Y 0, 200, .inl (iA (A 10)))), (q 12, .inl (Y 0, 3, .inl (iA (A 12)))), (q 13, .inl (Y 0, 3, .inl (iA (A 13)))), (q 14, .inl (Y 4, 24, .inr (.inr (.inl F)))), (q 15, .inl (Y 3, 24, .inr (.inr (.inr (.inl Dd))))), (q 22, .inl (Y 0, 4, .inl (iA (A 22)))), (q 23, .inl (Y 0, 3, .inl (iA (A 23)))), (q 24, .inl (Y 0, 4, .inl (iA (A 24)))), (q 25, .inl (Y 0, 5, .inl (iA (A 25)))), (q 26, .inl (Y 0, 4, .inl (iA (A 26)))), (q 27, .inl (Y 0, 4, .inl (iA (A 27)))), (q 28, .inl (Y 0, 6, .inl (iA (A 28)))), (q 29, .inl (Y 0, 16, .inl (iA (A 29)))), (q 30, .inl (Y 0, 16, .inl (iA (A 30)))), (q 31, .inl (Y 0, 8, .inl (iA (A 31)))), (q 32, .inl (Y 0, 64, .inl (iA (A 32)))), (q 33, .inl (Y 0, 8, .inl (iA (A 33))))]
/-! what the tables say of each method that is called -/
theorem pm_s {P w x w1 : va_W} (h : w.Perm (x ++ w1)) : (P ++ w).Perm (x ++ (P ++ w1)) := (List.Perm.append_left P h).trans (List.perm_append_comm_assoc P x w1)
theorem kc_X2_begin : g_cee RX2 yX2_begin cX2_begin 2 none := ⟨kw_57, kw_56, ks_0, kw_3⟩
theorem kc_X7_write : g_cee RX7 yX7_write cX7_write 2 (some FieldType.int) := ⟨kw_216, kw_214, kw_215, kw_1⟩
theorem kc_X7_isWithin : g_sta yX7_isWithin cX7_isWithin 3 (some FieldType.boolean) := ⟨kw_219, kw_218, kw_1⟩
theorem kc_X4_append : g_cee RX4 yX4_append cX4_append 2 (some FieldType.boolean) := ⟨kw_223, kw_221, kw_222, kw_2⟩
theorem kc_X4_letterCount : g_cee RX4 yX4_letterCount cX4_letterCount 1 (some FieldType.int) := ⟨kw_227, kw_225, kw_226, kw_2⟩
theorem kc_X7_erase : g_cee RX7 yX7_erase cX7_erase 2 (some FieldType.int) := ⟨kw_231, kw_229, kw_230, kw_1⟩
theorem kc_X4_clear : g_cee RX4 yX4_clear cX4_clear 1 none := ⟨kw_235, kw_233, kw_234, kw_2⟩
theorem kc_X7_fault : g_cee RX7 yX7_fault cX7_fault 1 (some FieldType.int) := ⟨kw_239, kw_237, kw_238, kw_1⟩
theorem kc_X4_read : g_cee RX4 yX4_read cX4_read 4 (some FieldType.int) := ⟨kw_243, kw_241, kw_242, kw_2⟩
theorem kc_X2_copyFrom : g_cee RX2 yX2_copyFrom cX2_copyFrom 2 none := ⟨kw_247, kw_245, kw_246, kw_3⟩
theorem kc_X4_advance : g_cee RX4 yX4_advance cX4_advance 2 none := ⟨kw_254, kw_253, ks_1, kw_2⟩
theorem kc_X4_isAtEnd : g_cee RX4 yX4_isAtEnd cX4_isAtEnd 1 (some FieldType.boolean) := ⟨kw_258, kw_257, ks_2, kw_2⟩
theorem kc_X4_isSmall : g_sta yX4_isSmall cX4_isSmall 1 (some FieldType.boolean) := ⟨kw_261, kw_260, kw_2⟩
theorem kc_X4_isDigit : g_sta yX4_isDigit cX4_isDigit 1 (some FieldType.boolean) := ⟨kw_264, kw_263, kw_2⟩
theorem kc_X4_readClause : g_cee RX4 yX4_readClause cX4_readClause 5 (some FieldType.boolean) := ⟨kw_268, kw_267, ks_3, kw_2⟩
theorem kc_X4_wordHere : g_cee RX4 yX4_wordHere cX4_wordHere 2 (some FieldType.int) := ⟨kw_272, kw_271, ks_4, kw_2⟩
theorem kc_X4_isSpelled : g_cee RX4 yX4_isSpelled cX4_isSpelled 3 (some FieldType.boolean) := ⟨kw_278, kw_277, ks_5, kw_2⟩
theorem kc_J0_length_8abf5 : g_cee RJ0 yJ0_length_8abf5 cJ0_length_8abf5 1 (some FieldType.int) := ⟨kw_282, kw_280, kw_281, kw_9⟩
theorem kc_J0_coder_7d493 : g_cee RJ0 yJ0_coder_7d493 cJ0_coder_7d493 1 (some FieldType.byte) := ⟨kw_286, kw_284, kw_285, kw_9⟩
theorem kc_J0_charAt_5068e : g_cee RJ0 yJ0_charAt_5068e cJ0_charAt_5068e 2 (some FieldType.char) := ⟨kw_292, kw_290, kw_291, kw_9⟩
theorem kc_J0_isLatin1_aae02 : g_cee RJ0 yJ0_isLatin1_aae02 cJ0_isLatin1_aae02 1 (some FieldType.boolean) := ⟨kw_296, kw_294, kw_295, kw_9⟩
theorem kc_J1_charAt_3b067 : g_sta yJ1_charAt_3b067 cJ1_charAt_3b067 2 (some FieldType.char) := ⟨kw_299, kw_298, kw_10⟩
theorem kc_J0_checkIndex_df160 : g_sta yJ0_checkIndex_df160 cJ0_checkIndex_df160 2 none := ⟨kw_302, kw_301, kw_9⟩
theorem kc_J3_checkIndex_8e157 : g_sta yJ3_checkIndex_8e157 cJ3_checkIndex_8e157 3 (some FieldType.int) := ⟨kw_307, kw_306, kw_11⟩
theorem kc_J2_charAt_3b067 : g_sta yJ2_charAt_3b067 cJ2_charAt_3b067 2 (some FieldType.char) := ⟨kw_310, kw_309, kw_12⟩
theorem kc_J2_checkIndex_2214a : g_sta yJ2_checkIndex_2214a cJ2_checkIndex_2214a 2 none := ⟨kw_313, kw_312, kw_12⟩
theorem kc_J2_length_9d52b : g_sta yJ2_length_9d52b cJ2_length_9d52b 1 (some FieldType.int) := ⟨kw_316, kw_315, kw_12⟩
theorem kc_J2_getChar_3b067 : g_sta yJ2_getChar_3b067 cJ2_getChar_3b067 2 (some FieldType.char) := ⟨kw_320, kw_319, kw_12⟩
theorem kc_X2_hasAllPaths : g_cee RX2 yX2_hasAllPaths cX2_hasAllPaths 1 (some FieldType.boolean) := ⟨kw_332, kw_330, kw_331, kw_3⟩
theorem kc_X4_readPath : g_cee RX4 yX4_readPath cX4_readPath 6 (some FieldType.boolean) := ⟨kw_336, kw_335, ks_6, kw_2⟩
theorem kc_X4_readNumber : g_cee RX4 yX4_readNumber cX4_readNumber 5 (some FieldType.int) := ⟨kw_340, kw_339, ks_7, kw_2⟩
theorem kc_X2_addPath : g_cee RX2 yX2_addPath cX2_addPath 5 none := ⟨kw_345, kw_343, kw_344, kw_3⟩
theorem kc_X2_tell : g_cee RX2 yX2_tell cX2_tell 3 none := ⟨kw_350, kw_348, kw_349, kw_3⟩
theorem kc_X7_net : g_cee RX7 yX7_net cX7_net 2 (some FieldType.int) := ⟨kw_362, kw_360, kw_361, kw_1⟩
theorem kc_X1_clear : g_cee RX1 yX1_clear cX1_clear 1 none := ⟨kw_367, kw_365, kw_366, kw_4⟩
theorem kc_X5_lose : g_cee RX5 yX5_lose cX5_lose 1 none := ⟨kw_371, kw_369, kw_370, kw_6⟩
theorem kc_X4_clauseCount : g_cee RX4 yX4_clauseCount cX4_clauseCount 1 (some FieldType.int) := ⟨kw_375, kw_373, kw_374, kw_2⟩
theorem kc_X7_path : g_cee RX7 yX7_path cX7_path 3 (some FieldType.int) := ⟨kw_379, kw_377, kw_378, kw_1⟩
theorem kc_X7_isPath : g_cee RX7 yX7_isPath cX7_isPath 2 (some FieldType.boolean) := ⟨kw_383, kw_382, ks_8, kw_1⟩
theorem kc_X2_lateBound : g_cee RX2 yX2_lateBound cX2_lateBound 2 (some FieldType.int) := ⟨kw_387, kw_385, kw_386, kw_3⟩
theorem kc_X2_soonBound : g_cee RX2 yX2_soonBound cX2_soonBound 2 (some FieldType.int) := ⟨kw_391, kw_389, kw_390, kw_3⟩
theorem kc_X7_period : g_cee RX7 yX7_period cX7_period 3 (some FieldType.int) := ⟨kw_395, kw_393, kw_394, kw_1⟩
theorem kc_X1_push : g_cee RX1 yX1_push cX1_push 3 none := ⟨kw_399, kw_397, kw_398, kw_4⟩
theorem kc_J9_min_7cf53 : g_sta yJ9_min_7cf53 cJ9_min_7cf53 2 (some FieldType.int) := ⟨kw_402, kw_401, kw_16⟩
theorem kc_X7_slower : g_cee RX7 yX7_slower cX7_slower 3 (some FieldType.int) := ⟨kw_406, kw_404, kw_405, kw_1⟩
theorem kc_X2_canBeSlower : g_cee RX2 yX2_canBeSlower cX2_canBeSlower 3 (some FieldType.boolean) := ⟨kw_410, kw_408, kw_409, kw_3⟩
theorem kc_X2_delay : g_cee RX2 yX2_delay cX2_delay 3 none := ⟨kw_414, kw_412, kw_413, kw_3⟩
theorem kc_X7_undo : g_cee RX7 yX7_undo cX7_undo 1 (some FieldType.int) := ⟨kw_418, kw_416, kw_417, kw_1⟩
theorem kc_X1_size : g_cee RX1 yX1_size cX1_size 1 (some FieldType.int) := ⟨kw_422, kw_420, kw_421, kw_4⟩
theorem kc_X1_revertLatest : g_cee RX1 yX1_revertLatest cX1_revertLatest 2 none := ⟨kw_426, kw_424, kw_425, kw_4⟩
theorem kc_X7_keep : g_cee RX7 yX7_keep cX7_keep 2 (some FieldType.int) := ⟨kw_431, kw_429, kw_430, kw_1⟩
theorem kc_X7_isKeptPlace : g_sta yX7_isKeptPlace cX7_isKeptPlace 1 (some FieldType.boolean) := ⟨kw_434, kw_433, kw_1⟩
theorem kc_X7_back : g_cee RX7 yX7_back cX7_back 2 (some FieldType.int) := ⟨kw_438, kw_436, kw_437, kw_1⟩
theorem kc_X7_feasible : g_cee RX7 yX7_feasible cX7_feasible 1 (some FieldType.int) := ⟨kw_442, kw_440, kw_441, kw_1⟩
theorem kc_X3_settlesNow : g_cee RX3 yX3_settlesNow cX3_settlesNow 2 (some FieldType.boolean) := ⟨kw_446, kw_444, kw_445, kw_5⟩
theorem kc_X3_settlesWithMargin : g_cee RX3 yX3_settlesWithMargin cX3_settlesWithMargin 3 (some FieldType.boolean) := ⟨kw_450, kw_449, ks_9, kw_5⟩
theorem kc_X3_layBounds : g_cee RX3 yX3_layBounds cX3_layBounds 11 none := ⟨kw_454, kw_453, ks_10, kw_5⟩
theorem kc_X3_tighten : g_cee RX3 yX3_tighten cX3_tighten 5 none := ⟨kw_460, kw_459, ks_11, kw_5⟩
theorem kc_J9_floorDiv_7cf53 : g_sta yJ9_floorDiv_7cf53 cJ9_floorDiv_7cf53 3 (some FieldType.int) := ⟨kw_463, kw_462, kw_16⟩
theorem kc_X3_settle : g_cee RX3 yX3_settle cX3_settle 2 (some FieldType.boolean) := ⟨kw_468, kw_467, ks_12, kw_5⟩
theorem kc_X3_lowerOnce : g_cee RX3 yX3_lowerOnce cX3_lowerOnce 5 (some FieldType.boolean) := ⟨kw_472, kw_471, ks_13, kw_5⟩
theorem kc_X7_shift : g_cee RX7 yX7_shift cX7_shift 2 (some FieldType.int) := ⟨kw_476, kw_474, kw_475, kw_1⟩
theorem kc_X3_shiftOf : g_cee RX3 yX3_shiftOf cX3_shiftOf 2 (some FieldType.int) := ⟨kw_480, kw_478, kw_479, kw_5⟩
theorem kc_X7_least : g_cee RX7 yX7_least cX7_least 1 (some FieldType.int) := ⟨kw_484, kw_482, kw_483, kw_1⟩
theorem kc_X3_leastPeriod : g_cee RX3 yX3_leastPeriod cX3_leastPeriod 2 (some FieldType.int) := ⟨kw_488, kw_486, kw_487, kw_5⟩
theorem kc_X3_leastPeriodAbove : g_cee RX3 yX3_leastPeriodAbove cX3_leastPeriodAbove 8 (some FieldType.int) := ⟨kw_492, kw_491, ks_14, kw_5⟩
theorem kc_X3_settlesAtPeriod : g_cee RX3 yX3_settlesAtPeriod cX3_settlesAtPeriod 5 (some FieldType.boolean) := ⟨kw_496, kw_495, ks_15, kw_5⟩
theorem kc_X7_rate : g_cee RX7 yX7_rate cX7_rate 2 (some FieldType.int) := ⟨kw_500, kw_498, kw_499, kw_1⟩
theorem kc_X3_findRate : g_cee RX3 yX3_findRate cX3_findRate 4 (some FieldType.boolean) := ⟨kw_504, kw_502, kw_503, kw_5⟩
theorem kc_X3_rateAbove : g_cee RX3 yX3_rateAbove cX3_rateAbove 1 (some FieldType.int) := ⟨kw_508, kw_506, kw_507, kw_5⟩
theorem kc_X3_rateBelow : g_cee RX3 yX3_rateBelow cX3_rateBelow 1 (some FieldType.int) := ⟨kw_512, kw_510, kw_511, kw_5⟩
theorem kc_X7_margin : g_cee RX7 yX7_margin cX7_margin 1 (some FieldType.int) := ⟨kw_516, kw_514, kw_515, kw_1⟩
theorem kc_X3_greatestMargin : g_cee RX3 yX3_greatestMargin cX3_greatestMargin 6 (some FieldType.int) := ⟨kw_520, kw_518, kw_519, kw_5⟩
theorem kc_X7_spare : g_cee RX7 yX7_spare cX7_spare 5 (some FieldType.int) := ⟨kw_524, kw_522, kw_523, kw_1⟩
theorem kc_X7_cycle : g_cee RX7 yX7_cycle cX7_cycle 2 (some FieldType.int) := ⟨kw_528, kw_526, kw_527, kw_1⟩
theorem kc_X3_findRing : g_cee RX3 yX3_findRing cX3_findRing 2 (some FieldType.boolean) := ⟨kw_532, kw_530, kw_531, kw_5⟩
theorem kc_X3_closesFrom : g_cee RX3 yX3_closesFrom cX3_closesFrom 8 (some FieldType.boolean) := ⟨kw_536, kw_535, ks_16, kw_5⟩
theorem kc_X3_isInRing : g_cee RX3 yX3_isInRing cX3_isInRing 4 (some FieldType.boolean) := ⟨kw_540, kw_539, ks_17, kw_5⟩
theorem kc_X3_ringLength : g_cee RX3 yX3_ringLength cX3_ringLength 1 (some FieldType.int) := ⟨kw_544, kw_542, kw_543, kw_5⟩
theorem kc_X3_ringRegister : g_cee RX3 yX3_ringRegister cX3_ringRegister 2 (some FieldType.int) := ⟨kw_548, kw_546, kw_547, kw_5⟩
theorem kc_X7_buffer : g_cee RX7 yX7_buffer cX7_buffer 6 (some FieldType.int) := ⟨kw_552, kw_550, kw_551, kw_1⟩
theorem kc_X7_orAboveAll : g_sta yX7_orAboveAll cX7_orAboveAll 1 (some FieldType.int) := ⟨kw_555, kw_554, kw_1⟩
theorem kc_X7_trace : g_cee RX7 yX7_trace cX7_trace 4 (some FieldType.int) := ⟨kw_559, kw_557, kw_558, kw_1⟩
theorem kc_X7_isTrace : g_sta yX7_isTrace cX7_isTrace 1 (some FieldType.boolean) := ⟨kw_562, kw_561, kw_1⟩
theorem kc_X7_isSort : g_sta yX7_isSort cX7_isSort 1 (some FieldType.boolean) := ⟨kw_565, kw_564, kw_1⟩
theorem kc_X5_renew : g_cee RX5 yX5_renew cX5_renew 4 none := ⟨kw_569, kw_567, kw_568, kw_6⟩
theorem kc_X5_putNumber : g_cee RX5 yX5_putNumber cX5_putNumber 4 none := ⟨kw_573, kw_572, ks_18, kw_6⟩
theorem kc_X7_set : g_cee RX7 yX7_set cX7_set 8 (some FieldType.int) := ⟨kw_577, kw_575, kw_576, kw_1⟩
theorem kc_X7_isQuotientPart : g_sta yX7_isQuotientPart cX7_isQuotientPart 1 (some FieldType.boolean) := ⟨kw_580, kw_579, kw_1⟩
theorem kc_X5_finding : g_cee RX5 yX5_finding cX5_finding 4 (some FieldType.int) := ⟨kw_584, kw_582, kw_583, kw_6⟩
theorem kc_X5_putQuotient : g_cee RX5 yX5_putQuotient cX5_putQuotient 4 none := ⟨kw_589, kw_587, kw_588, kw_6⟩
theorem kc_X5_putNoNumber : g_cee RX5 yX5_putNoNumber cX5_putNoNumber 2 none := ⟨kw_593, kw_592, ks_19, kw_6⟩
theorem kc_X5_thousandAt : g_cee RX5 yX5_thousandAt cX5_thousandAt 2 (some FieldType.int) := ⟨kw_597, kw_595, kw_596, kw_6⟩
theorem kc_X5_cutThousand : g_sta yX5_cutThousand cX5_cutThousand 2 (some FieldType.int) := ⟨kw_602, kw_601, kw_6⟩
theorem kc_X7_get : g_cee RX7 yX7_get cX7_get 5 (some FieldType.int) := ⟨kw_611, kw_609, kw_610, kw_1⟩
theorem kc_X7_traceRefusal : g_cee RX7 yX7_traceRefusal cX7_traceRefusal 5 (some FieldType.int) := ⟨kw_615, kw_614, ks_20, kw_1⟩
theorem kc_X7_rest : g_cee RX7 yX7_rest cX7_rest 6 (some FieldType.int) := ⟨kw_619, kw_617, kw_618, kw_1⟩
theorem kc_X5_putRemainder : g_cee RX5 yX5_putRemainder cX5_putRemainder 3 none := ⟨kw_623, kw_621, kw_622, kw_6⟩
theorem kc_X5_isEndless : g_sta yX5_isEndless cX5_isEndless 2 (some FieldType.boolean) := ⟨kw_626, kw_625, kw_6⟩
theorem kc_X5_remainder : g_sta yX5_remainder cX5_remainder 10 (some FieldType.double) := ⟨kw_629, kw_628, kw_6⟩
theorem kc_X7_compare : g_cee RX7 yX7_compare cX7_compare 6 (some FieldType.int) := ⟨kw_634, kw_632, kw_633, kw_1⟩
theorem kc_X5_order : g_cee RX5 yX5_order cX5_order 3 (some FieldType.int) := ⟨kw_638, kw_636, kw_637, kw_6⟩
theorem kc_X7_sum : g_cee RX7 yX7_sum cX7_sum 4 (some FieldType.int) := ⟨kw_642, kw_640, kw_641, kw_1⟩
theorem kc_X5_isMissing : g_cee RX5 yX5_isMissing cX5_isMissing 1 (some FieldType.boolean) := ⟨kw_646, kw_644, kw_645, kw_6⟩
theorem kc_X5_thousandOfAll : g_cee RX5 yX5_thousandOfAll cX5_thousandOfAll 7 (some FieldType.int) := ⟨kw_650, kw_648, kw_649, kw_6⟩
theorem kc_X5_noNumberCount : g_cee RX5 yX5_noNumberCount cX5_noNumberCount 3 (some FieldType.int) := ⟨kw_654, kw_652, kw_653, kw_6⟩
theorem kc_X7_drop : g_cee RX7 yX7_drop cX7_drop 4 (some FieldType.int) := ⟨kw_658, kw_656, kw_657, kw_1⟩
theorem kc_X5_placeCount : g_cee RX5 yX5_placeCount cX5_placeCount 1 (some FieldType.int) := ⟨kw_662, kw_660, kw_661, kw_6⟩
theorem kc_X7_count : g_cee RX7 yX7_count cX7_count 2 (some FieldType.int) := ⟨kw_666, kw_664, kw_665, kw_1⟩
theorem kc_X7_placesOfAllTraces : g_cee RX7 yX7_placesOfAllTraces cX7_placesOfAllTraces 3 (some FieldType.int) := ⟨kw_670, kw_669, ks_21, kw_1⟩
theorem kc_X2_tooSoonCount : g_cee RX2 yX2_tooSoonCount cX2_tooSoonCount 3 (some FieldType.int) := ⟨kw_674, kw_672, kw_673, kw_3⟩
theorem kc_X8_anew : g_cee RX8 yX8_anew cX8_anew 2 none := ⟨kw_685, kw_684, ks_22, kw_7⟩
theorem kc_X8_copyRow : g_cee RX8 yX8_copyRow cX8_copyRow 4 none := ⟨kw_689, kw_688, ks_23, kw_7⟩
theorem kc_X8_write : g_cee RX8 yX8_write cX8_write 2 (some FieldType.int) := ⟨kw_800, kw_798, kw_799, kw_7⟩
theorem kc_X8_in : g_sta yX8_in cX8_in 6 (some FieldType.boolean) := ⟨kw_804, kw_803, kw_7⟩
theorem kc_X8_erase : g_cee RX8 yX8_erase cX8_erase 2 (some FieldType.int) := ⟨kw_808, kw_806, kw_807, kw_7⟩
theorem kc_X8_fault : g_cee RX8 yX8_fault cX8_fault 1 (some FieldType.int) := ⟨kw_812, kw_810, kw_811, kw_7⟩
theorem kc_X8_reads : g_cee RX8 yX8_reads cX8_reads 3 (some FieldType.boolean) := ⟨kw_816, kw_815, ks_24, kw_7⟩
theorem kc_X8_nextToken : g_cee RX8 yX8_nextToken cX8_nextToken 1 none := ⟨kw_820, kw_819, ks_25, kw_7⟩
theorem kc_X8_isLetter : g_sta yX8_isLetter cX8_isLetter 1 (some FieldType.boolean) := ⟨kw_823, kw_822, kw_7⟩
theorem kc_X8_isDigit : g_sta yX8_isDigit cX8_isDigit 1 (some FieldType.boolean) := ⟨kw_828, kw_827, kw_7⟩
theorem kc_X8_readsClause : g_cee RX8 yX8_readsClause cX8_readsClause 2 (some FieldType.boolean) := ⟨kw_834, kw_833, ks_26, kw_7⟩
theorem kc_X8_wordHere : g_cee RX8 yX8_wordHere cX8_wordHere 1 (some FieldType.int) := ⟨kw_838, kw_837, ks_27, kw_7⟩
theorem kc_X8_isWord : g_cee RX8 yX8_isWord cX8_isWord 4 (some FieldType.boolean) := ⟨kw_842, kw_841, ks_28, kw_7⟩
theorem kc_X8_readsNumbers : g_cee RX8 yX8_readsNumbers cX8_readsNumbers 2 (some FieldType.boolean) := ⟨kw_846, kw_845, ks_29, kw_7⟩
theorem kc_X8_number : g_cee RX8 yX8_number cX8_number 6 (some FieldType.boolean) := ⟨kw_850, kw_849, ks_30, kw_7⟩
theorem kc_X8_does : g_cee RX8 yX8_does cX8_does 2 none := ⟨kw_854, kw_853, ks_31, kw_7⟩
theorem kc_X8_net : g_cee RX8 yX8_net cX8_net 2 (some FieldType.int) := ⟨kw_858, kw_856, kw_857, kw_7⟩
theorem kc_X8_path : g_cee RX8 yX8_path cX8_path 3 (some FieldType.int) := ⟨kw_862, kw_860, kw_861, kw_7⟩
theorem kc_X8_isPath : g_cee RX8 yX8_isPath cX8_isPath 2 (some FieldType.boolean) := ⟨kw_866, kw_865, ks_32, kw_7⟩
theorem kc_X8_lateOf : g_cee RX8 yX8_lateOf cX8_lateOf 3 (some FieldType.int) := ⟨kw_870, kw_869, ks_33, kw_7⟩
theorem kc_X8_soonOf : g_cee RX8 yX8_soonOf cX8_soonOf 2 (some FieldType.int) := ⟨kw_874, kw_873, ks_34, kw_7⟩
theorem kc_X8_period : g_cee RX8 yX8_period cX8_period 3 (some FieldType.int) := ⟨kw_878, kw_876, kw_877, kw_7⟩
theorem kc_X8_keepPast : g_cee RX8 yX8_keepPast cX8_keepPast 2 none := ⟨kw_883, kw_882, ks_35, kw_7⟩
theorem kc_X8_slower : g_cee RX8 yX8_slower cX8_slower 3 (some FieldType.int) := ⟨kw_887, kw_885, kw_886, kw_7⟩
theorem kc_X8_undo : g_cee RX8 yX8_undo cX8_undo 1 (some FieldType.int) := ⟨kw_892, kw_890, kw_891, kw_7⟩
theorem kc_X8_keep : g_cee RX8 yX8_keep cX8_keep 2 (some FieldType.int) := ⟨kw_896, kw_894, kw_895, kw_7⟩
theorem kc_X8_back : g_cee RX8 yX8_back cX8_back 2 (some FieldType.int) := ⟨kw_900, kw_898, kw_899, kw_7⟩
theorem kc_X8_feasible : g_cee RX8 yX8_feasible cX8_feasible 1 (some FieldType.int) := ⟨kw_904, kw_902, kw_903, kw_7⟩
theorem kc_X8_isFeasible : g_cee RX8 yX8_isFeasible cX8_isFeasible 3 (some FieldType.boolean) := ⟨kw_908, kw_907, ks_36, kw_7⟩
theorem kc_X8_layBounds : g_cee RX8 yX8_layBounds cX8_layBounds 4 none := ⟨kw_912, kw_911, ks_37, kw_7⟩
theorem kc_X8_floor : g_sta yX8_floor cX8_floor 2 (some FieldType.int) := ⟨kw_915, kw_914, kw_7⟩
theorem kc_X8_areThere : g_cee RX8 yX8_areThere cX8_areThere 4 (some FieldType.boolean) := ⟨kw_919, kw_918, ks_38, kw_7⟩
theorem kc_X8_makesLess : g_cee RX8 yX8_makesLess cX8_makesLess 5 (some FieldType.boolean) := ⟨kw_923, kw_922, ks_39, kw_7⟩
theorem kc_X8_shift : g_cee RX8 yX8_shift cX8_shift 2 (some FieldType.int) := ⟨kw_927, kw_925, kw_926, kw_7⟩
theorem kc_X8_isRegister : g_cee RX8 yX8_isRegister cX8_isRegister 2 (some FieldType.boolean) := ⟨kw_931, kw_930, ks_40, kw_7⟩
theorem kc_X8_least : g_cee RX8 yX8_least cX8_least 1 (some FieldType.int) := ⟨kw_935, kw_933, kw_934, kw_7⟩
theorem kc_X8_leastOf : g_cee RX8 yX8_leastOf cX8_leastOf 5 (some FieldType.int) := ⟨kw_939, kw_938, ks_41, kw_7⟩
theorem kc_X8_rate : g_cee RX8 yX8_rate cX8_rate 9 (some FieldType.int) := ⟨kw_943, kw_941, kw_942, kw_7⟩
theorem kc_X8_isFeasibleBy : g_cee RX8 yX8_isFeasibleBy cX8_isFeasibleBy 4 (some FieldType.boolean) := ⟨kw_947, kw_946, ks_42, kw_7⟩
theorem kc_X8_margin : g_cee RX8 yX8_margin cX8_margin 5 (some FieldType.int) := ⟨kw_951, kw_949, kw_950, kw_7⟩
theorem kc_X8_spare : g_cee RX8 yX8_spare cX8_spare 4 (some FieldType.int) := ⟨kw_955, kw_953, kw_954, kw_7⟩
theorem kc_X8_cycle : g_cee RX8 yX8_cycle cX8_cycle 2 (some FieldType.int) := ⟨kw_959, kw_957, kw_958, kw_7⟩
theorem kc_X8_layLeast : g_cee RX8 yX8_layLeast cX8_layLeast 4 none := ⟨kw_963, kw_962, ks_43, kw_7⟩
theorem kc_X8_isBelow : g_cee RX8 yX8_isBelow cX8_isBelow 3 (some FieldType.boolean) := ⟨kw_968, kw_967, ks_44, kw_7⟩
theorem kc_X8_goOn : g_cee RX8 yX8_goOn cX8_goOn 2 none := ⟨kw_972, kw_971, ks_45, kw_7⟩
theorem kc_X8_nextFrom : g_cee RX8 yX8_nextFrom cX8_nextFrom 3 (some FieldType.int) := ⟨kw_976, kw_975, ks_46, kw_7⟩
theorem kc_X8_isInRing : g_cee RX8 yX8_isInRing cX8_isInRing 4 (some FieldType.boolean) := ⟨kw_980, kw_979, ks_47, kw_7⟩
theorem kc_X8_buffer : g_cee RX8 yX8_buffer cX8_buffer 8 (some FieldType.int) := ⟨kw_984, kw_982, kw_983, kw_7⟩
theorem kc_X8_trace : g_cee RX8 yX8_trace cX8_trace 5 (some FieldType.int) := ⟨kw_988, kw_986, kw_987, kw_7⟩
theorem kc_X8_isTrace : g_sta yX8_isTrace cX8_isTrace 1 (some FieldType.boolean) := ⟨kw_991, kw_990, kw_7⟩
theorem kc_X8_set : g_cee RX8 yX8_set cX8_set 7 (some FieldType.int) := ⟨kw_996, kw_994, kw_995, kw_7⟩
theorem kc_X8_noPlace : g_cee RX8 yX8_noPlace cX8_noPlace 5 (some FieldType.int) := ⟨kw_1002, kw_1001, ks_48, kw_7⟩
theorem kc_X8_thousand : g_cee RX8 yX8_thousand cX8_thousand 3 (some FieldType.int) := ⟨kw_1006, kw_1005, ks_49, kw_7⟩
theorem kc_X8_cut : g_sta yX8_cut cX8_cut 2 (some FieldType.int) := ⟨kw_1010, kw_1009, kw_7⟩
theorem kc_X8_get : g_cee RX8 yX8_get cX8_get 5 (some FieldType.int) := ⟨kw_1020, kw_1018, kw_1019, kw_7⟩
theorem kc_X8_rest : g_cee RX8 yX8_rest cX8_rest 6 (some FieldType.int) := ⟨kw_1024, kw_1022, kw_1023, kw_7⟩
theorem kc_X8_compare : g_cee RX8 yX8_compare cX8_compare 10 (some FieldType.int) := ⟨kw_1028, kw_1026, kw_1027, kw_7⟩
theorem kc_X8_valueOf : g_cee RX8 yX8_valueOf cX8_valueOf 3 (some FieldType.double) := ⟨kw_1032, kw_1031, ks_50, kw_7⟩
theorem kc_X8_sum : g_cee RX8 yX8_sum cX8_sum 9 (some FieldType.int) := ⟨kw_1036, kw_1034, kw_1035, kw_7⟩
theorem kc_X8_drop : g_cee RX8 yX8_drop cX8_drop 3 (some FieldType.int) := ⟨kw_1040, kw_1038, kw_1039, kw_7⟩
theorem kc_X8_count : g_cee RX8 yX8_count cX8_count 2 (some FieldType.int) := ⟨kw_1044, kw_1042, kw_1043, kw_7⟩
theorem kc_X8_allPlaces : g_cee RX8 yX8_allPlaces cX8_allPlaces 3 (some FieldType.int) := ⟨kw_1048, kw_1047, ks_51, kw_7⟩
theorem kc_X8_tooSoon : g_cee RX8 yX8_tooSoon cX8_tooSoon 3 (some FieldType.int) := ⟨kw_1052, kw_1051, ks_52, kw_7⟩
end
section
/-! more rows -/
def sC {α : Type} (f g : Nat → α) (n : Nat) : Nat → α := fun k => if k < n then f k else g k
theorem iA_cpy (f g : Nat → Int) (n : Nat) : va_cpy (iA f) (iA g) 0 0 n = iA (sC f g n) := by
  funext j
  unfold iA sC
  by_cases h : j < n
  · rw [pk_cpy_in (Nat.zero_le j) (by omega), if_pos h]
    simp
  · rw [pk_cpy_out (Or.inr (by omega)), if_neg h]
theorem g_ofGF {l : Launch} {y : MethodName} {own : String} {rm : Room} {D : va_G} {tys : List (ClassId × FieldType)} {E : (Nat → Prop) → State → Heap → Prop} (hE : g_Stab E) {av : List Value} {w : va_W} {mc ms : Nat} {post : Option Value → va_W → Prop} {cc : ByteArray} {maxL : Nat} {ret : Option FieldType} (hy : plainFor y = true) (ho : y.cls = own) (hlen : (lg_sl av).length ≤ maxL) (lv0 : List (Nat × Value)) (hlv : lv_args 0 av = lv0)
    (body : ∀ (p : Program) (e : Env) (s : State) (m : MethodId) (below : List Frame) (meth : Method) (c : Code) (A : Nat → Prop), g_Cx p s m av.toArray c cc maxL own D tys A E → meth.sig.returnType = ret → meth.locks = false → meth.name = y.name → g_G p l e rm s m av.toArray below meth c maxL D A (MQD lw_cs below (g_Q post D A) av.toArray s mc ms A) 0 0 w lv0 0 []) : g_Ct l y cc maxL ret rm D tys E av w mc ms post := by
  intro sz
  subst ho
  refine Jvm.Free.MetFree.of_bodySF (code := cc) (maxLocals := maxL) (ret := ret) hy ?_ ?_
  · intro args s m h hn
    obtain ⟨meth, c, h1, h2, h3, h4, h5, h6, -, -⟩ := Cond.code_spec hn (atoms_spec (ws := Cond.code y cc maxL ret :: g_all) h _ List.mem_cons_self)
    exact ⟨meth, c, h1, h2, h3, h4, h5, h6⟩
  · intro p e s m args below meth c s₁ B hml hv _
    have hh0 : s₁.heap = s.heap := by rw [B.state]; rfl
    have X0 : Stand p l e rm (s.setDrawn s.drawn) m args below meth c s₁ [] 0 0 := Stand.of_body B
    obtain ⟨rfl, hsz, hP, hK, hD0, hN, hE0⟩ := hv
    have hown : s.vm.findClass y.cls = some m.cls := findClass_of_methodNamed B.named
    subst hsz
    have hD := hD0.self (sz := s.heap.size)
    have hl := lv_entry av hlen
    rw [hlv] at hl
    have K := body p e s m below meth c (va_A w s.heap.size) ⟨B.exec, B.bytes, hml, hown, fun w h => atoms_spec (ws := Cond.code y cc maxL ret :: g_all) B.pre w (List.mem_cons_of_mem _ h), hK, fun q h => Or.inr h, hN, hE, hE0⟩ B.returns B.notSynchronized (name_of_methodNamed B.named B.method).1 s.drawn s.heap [] _ (Drawn.sameBut.refl _ _) hP hD va_S.rf hl
    rw [← lg_entry_eq] at K
    obtain ⟨t, a1, d, hd, o, b1, b2, b3, b4⟩ := K s₁ hh0 X0
    exact ⟨t, o, a1, b1, b2, d, hd, b3, b4⟩
section GM
variable {p : Program} {l : Launch} {e : Env} {R : Room} {s : State} {m : MethodId} {args : Array Value} {below : List Frame} {meth : Method} {c : Code} {Q : State → Prop}
variable {cc : ByteArray} {nL : Nat} {own : String} {D : va_G} {tys : List (ClassId × FieldType)} {A : Nat → Prop} {ce sl pc : Nat} {w : va_W} {lv : List (Nat × Value)} {st : List Value} {E : (Nat → Prop) → State → Heap → Prop}
theorem g_copyi (C : g_Cx p s m args c cc nL own D tys A E) (q0 q1 t0 : Nat) {a a0 : Nat} {c0 : ClassId} {n0 n1 index : Nat} {f g : Nat → Int} (he0 : w[q0]? = some (a0, .inl (c0, n0, .inl (iA f)))) (he1 : w[q1]? = some (a, .inl (c0, n1, .inl (iA g)))) (ht0 : tys[t0]? = some (c0, .int)) (hlk : Cond.methodLink own index arraycopyName ∈ g_all) (hnat : Cond.native arraycopyName ∈ g_all) (hst : Cond.static arraycopyName ∈ g_all) (hini : Cond.initialized "java/lang/System" ∈ g_all) {n : Int} (h0 : 0 ≤ n) (h1 : n ≤ n0) (h2 : n ≤ n1) (hs : n < 2147483648) (hfr : 1 ≤ R.frames) (hlo : (st.map fun v => v.category).sum + (nativeFrameWords "java/lang/System" "arraycopy" 5 + 11) ≤ R.locals) (hdg : decode cc pc = .ok (.invokestatic index, 3)) {n' : Nat} (hn : pc + 3 = n') (w' : va_W) (hw : w.set q1 (a, .inl (c0, n1, .inl (iA (sC f g n.toNat)))) = w') (k : g_G p l e R s m args below meth c nL D A Q ce sl w' lv n' st) : g_G p l e R s m args below meth c nL D A Q ce sl w lv pc (.int (iI n) :: .int (iI 0) :: .ref a :: .int (iI 0) :: .ref a0 :: st) := by
  subst hn
  subst hw
  intro d0 H locs ls hd hP hD hS hl
  have hr : inR n := ⟨by omega, by omega⟩
  have z0 : (iI 0).toNatClampNeg = 0 := rfl
  refine va_copyi (s := s.setDrawn d0) C.1 C.2.1 (C.2.2.1.trans hl.1.symm) C.2.2.2.1 (dr_words C.2.2.2.2.1 _ _ hlk) (dr_words C.2.2.2.2.1 _ _ hnat) (dr_words C.2.2.2.2.1 _ _ hst) (dr_words C.2.2.2.2.1 _ _ hini) C.2.2.2.2.2.1 hP hD hS q0 q1 t0 t0 he0 he1 ht0 ht0 rfl (by decide) (by decide) (fun q => absurd ((iI_lt hr (b := 0) ⟨by omega, by omega⟩).mp q) (by omega)) (by rw [iI_clamp hr, z0]; omega) (by rw [iI_clamp hr, z0]; omega) (fun _ _ => rfl) hfr hlo hdg (fun H1 locs1 g1 g2 g3 => ?_)
  rw [iI_clamp hr, z0, iA_cpy] at g1 g2
  exact k d0 H1 locs1 ls hd g1 g2 g3 hl
theorem g_aalA (C : g_Cx p s m args c cc nL own D tys A E) (q0 t0 : Nat) {a : Nat} {cA : ClassId} {n : Nat} {f : Nat → Option Nat} (he : w[q0]? = some (a, .inl (cA, n, .inr (.inr (.inr (.inr f)))))) (ht : tys[t0]? = some (cA, .array .int)) {i : Int} (h0 : 0 ≤ i) (h1 : i < n) (hs : (n : Int) < 2147483648) {v : Nat} (hv : f i.toNat = some v) (hdg : decode cc pc = .ok (.aaload, 1)) {n' : Nat} (hn : pc + 1 = n') (k : g_G p l e R s m args below meth c nL D A Q ce sl w lv n' (.ref v :: st)) : g_G p l e R s m args below meth c nL D A Q ce sl w lv pc (.int (iI i) :: .ref a :: st) := by
  subst hn
  intro d0 H locs ls hd hP hD hS hl
  have hin : vp_in (iI i) n := iI_in h0 h1 (by omega)
  have hlt : (iI i).toNatClampNeg < n := Nat.not_le.mp fun q => hin (Or.inr q)
  refine W.aald (s := s.setDrawn d0) (v := va_rf (f (iI i).toNatClampNeg)) (ty := .array .int) C.1 C.2.1 (hP q0 _ he) ((C.2.2.2.2.2.1.2 t0 _ ht).1 n (fun j => va_rf (f j))) rfl (fun q => by cases q) (by show ¬ (iI i < 0 ∨ (arrV _ _ _).slots.size ≤ _); rw [arrV_size]; exact hin) (by show (arrV _ _ _).slots[_]? = _; rw [arrV_read _ _ hlt]) rfl rfl hdg ?_
  rw [iI_clamp ⟨by omega, by omega⟩, hv]
  exact k d0 H locs ls hd hP hD hS hl
theorem g_ldcf (C : g_Cx p s m args c cc nL own D tys A E) {index : Nat} {v : UInt32} (hc : Cond.constantFloat own index v ∈ g_all) (hdg : decode cc pc = .ok (.ldc index, 2)) {n' : Nat} (hn : pc + 2 = n') (k : g_G p l e R s m args below meth c nL D A Q ce sl w lv n' (.float v :: st)) : g_G p l e R s m args below meth c nL D A Q ce sl w lv pc st := by
  subst hn
  intro d0 H locs ls hd hP hD hS hl
  exact lv_ldcf (s := s.setDrawn d0) C.1 C.2.1 C.2.2.2.1 (dr_words C.2.2.2.2.1 _ _ hc) hdg (k d0 H locs ls hd hP hD hS hl)
end GM
section GN
variable {p : Program} {l : Launch} {e : Env} {R : Room} {s : State} {m : MethodId} {args : Array Value} {below : List Frame} {meth : Method} {c : Code} {Q : State → Prop}
variable {cc : ByteArray} {nL : Nat} {own : String} {D : va_G} {tys : List (ClassId × FieldType)} {A : Nat → Prop} {ce sl pc : Nat} {w : va_W} {lv : List (Nat × Value)} {st : List Value} {E : (Nat → Prop) → State → Heap → Prop}
theorem g_ialdN (C : g_Cx p s m args c cc nL own D tys A E) (q0 t0 : Nat) {a : Nat} {cA : ClassId} {n : Nat} {f : Nat → Int} (he : w[q0]? = some (a, .inl (cA, n, .inl (iA f)))) (ht : tys[t0]? = some (cA, .int)) {j : Nat} (h1 : j < n) (hs : (n : Int) < 2147483648) {ins : Instr} (hi : ins = .iaload) (hdg : decode cc pc = .ok (ins, 1)) {n' : Nat} (hn : pc + 1 = n') (k : g_G p l e R s m args below meth c nL D A Q ce sl w lv n' (.int (iI (f j)) :: st)) : g_G p l e R s m args below meth c nL D A Q ce sl w lv pc (.int (iI (j : Int)) :: .ref a :: st) := g_iald C q0 t0 he ht (by omega) (by omega) hs hi hdg hn k
theorem g_caldN (C : g_Cx p s m args c cc nL own D tys A E) (q0 t0 : Nat) {a : Nat} {cA : ClassId} {n : Nat} {f : Nat → Int} (he : w[q0]? = some (a, .inl (cA, n, .inl (iA f)))) (ht : tys[t0]? = some (cA, .char)) {j : Nat} (h1 : j < n) (hs : (n : Int) < 2147483648) {ins : Instr} (hi : ins = .caload) (hdg : decode cc pc = .ok (ins, 1)) {n' : Nat} (hn : pc + 1 = n') (k : g_G p l e R s m args below meth c nL D A Q ce sl w lv n' (.int (iI (f j)) :: st)) : g_G p l e R s m args below meth c nL D A Q ce sl w lv pc (.int (iI (j : Int)) :: .ref a :: st) := g_cald C q0 t0 he ht (by omega) (by omega) hs hi hdg hn k
theorem g_zaldN (C : g_Cx p s m args c cc nL own D tys A E) (q0 t0 : Nat) {a : Nat} {cA : ClassId} {n : Nat} {f : Nat → Int} (he : w[q0]? = some (a, .inl (cA, n, .inl (iA f)))) (ht : tys[t0]? = some (cA, .boolean)) {j : Nat} (h1 : j < n) (hs : (n : Int) < 2147483648) {ins : Instr} (hi : ins = .baload) (hdg : decode cc pc = .ok (ins, 1)) {n' : Nat} (hn : pc + 1 = n') (k : g_G p l e R s m args below meth c nL D A Q ce sl w lv n' (.int (iI (f j)) :: st)) : g_G p l e R s m args below meth c nL D A Q ce sl w lv pc (.int (iI (j : Int)) :: .ref a :: st) := g_zald C q0 t0 he ht (by omega) (by omega) hs hi hdg hn k
theorem g_daldN (C : g_Cx p s m args c cc nL own D tys A E) (q0 t0 : Nat) {a : Nat} {cA : ClassId} {n : Nat} {f : Nat → UInt64} (he : w[q0]? = some (a, .inl (cA, n, (.inr (.inr (.inr (.inl f))))))) (ht : tys[t0]? = some (cA, .double)) {j : Nat} (h1 : j < n) (hs : (n : Int) < 2147483648) (hdg : decode cc pc = .ok (.daload, 1)) {n' : Nat} (hn : pc + 1 = n') (k : g_G p l e R s m args below meth c nL D A Q ce sl w lv n' (.double (f j) :: st)) : g_G p l e R s m args below meth c nL D A Q ce sl w lv pc (.int (iI (j : Int)) :: .ref a :: st) := g_dald C q0 t0 he ht (by omega) (by omega) hs hdg hn k
theorem g_faldN (C : g_Cx p s m args c cc nL own D tys A E) (q0 t0 : Nat) {a : Nat} {cA : ClassId} {n : Nat} {f : Nat → UInt32} (he : w[q0]? = some (a, .inl (cA, n, (.inr (.inr (.inl f)))))) (ht : tys[t0]? = some (cA, .float)) {j : Nat} (h1 : j < n) (hs : (n : Int) < 2147483648) (hdg : decode cc pc = .ok (.faload, 1)) {n' : Nat} (hn : pc + 1 = n') (k : g_G p l e R s m args below meth c nL D A Q ce sl w lv n' (.float (f j) :: st)) : g_G p l e R s m args below meth c nL D A Q ce sl w lv pc (.int (iI (j : Int)) :: .ref a :: st) := g_fald C q0 t0 he ht (by omega) (by omega) hs hdg hn k
theorem g_iastN (C : g_Cx p s m args c cc nL own D tys A E) (q0 t0 : Nat) {a : Nat} {cA : ClassId} {n : Nat} {f : Nat → Int} (he : w[q0]? = some (a, .inl (cA, n, .inl (iA f)))) (ht : tys[t0]? = some (cA, .int)) {j : Nat} {x : Int} (h1 : j < n) (hs : (n : Int) < 2147483648) {ins : Instr} (hi : ins = .iastore) (hdg : decode cc pc = .ok (ins, 1)) {n' : Nat} (hn : pc + 1 = n') (w' : va_W) (hw : w.set q0 (a, .inl (cA, n, .inl (iA (sU f j x)))) = w') (k : g_G p l e R s m args below meth c nL D A Q ce sl w' lv n' st) : g_G p l e R s m args below meth c nL D A Q ce sl w lv pc (.int (iI x) :: .int (iI (j : Int)) :: .ref a :: st) := g_iast C q0 t0 he ht (by omega) (by omega) hs hi hdg hn w' hw k
theorem g_castN (C : g_Cx p s m args c cc nL own D tys A E) (q0 t0 : Nat) {a : Nat} {cA : ClassId} {n : Nat} {f : Nat → Int} (he : w[q0]? = some (a, .inl (cA, n, .inl (iA f)))) (ht : tys[t0]? = some (cA, .char)) {j : Nat} {x : Int} (h1 : j < n) (hs : (n : Int) < 2147483648) (hv0 : 0 ≤ x) (hv1 : x < 65536) {ins : Instr} (hi : ins = .castore) (hdg : decode cc pc = .ok (ins, 1)) {n' : Nat} (hn : pc + 1 = n') (w' : va_W) (hw : w.set q0 (a, .inl (cA, n, .inl (iA (sU f j x)))) = w') (k : g_G p l e R s m args below meth c nL D A Q ce sl w' lv n' st) : g_G p l e R s m args below meth c nL D A Q ce sl w lv pc (.int (iI x) :: .int (iI (j : Int)) :: .ref a :: st) := g_cast C q0 t0 he ht (by omega) (by omega) hs hv0 hv1 hi hdg hn w' hw k
theorem g_zastN (C : g_Cx p s m args c cc nL own D tys A E) (q0 t0 : Nat) {a : Nat} {cA : ClassId} {n : Nat} {f : Nat → Int} (he : w[q0]? = some (a, .inl (cA, n, .inl (iA f)))) (ht : tys[t0]? = some (cA, .boolean)) {j : Nat} {x : Int} (h1 : j < n) (hs : (n : Int) < 2147483648) (hv0 : x = 0 ∨ x = 1) {ins : Instr} (hi : ins = .bastore) (hdg : decode cc pc = .ok (ins, 1)) {n' : Nat} (hn : pc + 1 = n') (w' : va_W) (hw : w.set q0 (a, .inl (cA, n, .inl (iA (sU f j x)))) = w') (k : g_G p l e R s m args below meth c nL D A Q ce sl w' lv n' st) : g_G p l e R s m args below meth c nL D A Q ce sl w lv pc (.int (iI x) :: .int (iI (j : Int)) :: .ref a :: st) := g_zast C q0 t0 he ht (by omega) (by omega) hs hv0 hi hdg hn w' hw k
theorem g_dastN (C : g_Cx p s m args c cc nL own D tys A E) (q0 t0 : Nat) {a : Nat} {cA : ClassId} {n : Nat} {f : Nat → UInt64} (he : w[q0]? = some (a, .inl (cA, n, (.inr (.inr (.inr (.inl f))))))) (ht : tys[t0]? = some (cA, .double)) {j : Nat} {x : UInt64} (h1 : j < n) (hs : (n : Int) < 2147483648) (hdg : decode cc pc = .ok (.dastore, 1)) {n' : Nat} (hn : pc + 1 = n') (w' : va_W) (hw : w.set q0 (a, .inl (cA, n, (.inr (.inr (.inr (.inl (sU f j x))))))) = w') (k : g_G p l e R s m args below meth c nL D A Q ce sl w' lv n' st) : g_G p l e R s m args below meth c nL D A Q ce sl w lv pc (.double x :: .int (iI (j : Int)) :: .ref a :: st) := g_dast C q0 t0 he ht (by omega) (by omega) hs hdg hn w' hw k
theorem g_fastN (C : g_Cx p s m args c cc nL own D tys A E) (q0 t0 : Nat) {a : Nat} {cA : ClassId} {n : Nat} {f : Nat → UInt32} (he : w[q0]? = some (a, .inl (cA, n, (.inr (.inr (.inl f)))))) (ht : tys[t0]? = some (cA, .float)) {j : Nat} {x : UInt32} (h1 : j < n) (hs : (n : Int) < 2147483648) (hdg : decode cc pc = .ok (.fastore, 1)) {n' : Nat} (hn : pc + 1 = n') (w' : va_W) (hw : w.set q0 (a, .inl (cA, n, (.inr (.inr (.inl (sU f j x)))))) = w') (k : g_G p l e R s m args below meth c nL D A Q ce sl w' lv n' st) : g_G p l e R s m args below meth c nL D A Q ce sl w lv pc (.float x :: .int (iI (j : Int)) :: .ref a :: st) := g_fast C q0 t0 he ht (by omega) (by omega) hs hdg hn w' hw k
theorem g_aalAN (C : g_Cx p s m args c cc nL own D tys A E) (q0 t0 : Nat) {a : Nat} {cA : ClassId} {n : Nat} {f : Nat → Option Nat} (he : w[q0]? = some (a, .inl (cA, n, .inr (.inr (.inr (.inr f)))))) (ht : tys[t0]? = some (cA, .array .int)) {j : Nat} (h1 : j < n) (hs : (n : Int) < 2147483648) {v : Nat} (hv : f j = some v) (hdg : decode cc pc = .ok (.aaload, 1)) {n' : Nat} (hn : pc + 1 = n') (k : g_G p l e R s m args below meth c nL D A Q ce sl w lv n' (.ref v :: st)) : g_G p l e R s m args below meth c nL D A Q ce sl w lv pc (.int (iI (j : Int)) :: .ref a :: st) := g_aalA C q0 t0 he ht (by omega) (by omega) hs hv hdg hn k
end GN
end
section
/-! static helpers -/
theorem lc_r {a b : Int} : inR (if a < b then -1 else if a = b then 0 else 1) := by
  unfold inR
  (repeat' split) <;> omega
theorem sm_put {I : Nat → Int} {k : Nat} {v : Int} (h : smI I) (hv : -1000000 ≤ v ∧ v ≤ 1000000) : smI (sU I k v) := fun j => by
  unfold sU
  split
  · exact hv
  · exact h j
def smR (f : Nat → Int) : Prop := ∀ k : Nat, -1000000 ≤ f k ∧ f k ≤ 1000000
theorem sm_putR {f : Nat → Int} {k : Nat} {v : Int} (h : smR f) (hv : -1000000 ≤ v ∧ v ≤ 1000000) : smR (sU f k v) := fun j => by
  unfold sU
  split
  · exact hv
  · exact h j
theorem sm_putA {A : Nat → Nat → Int} {k : Nat} {f : Nat → Int} (h : smA A) (hv : smR f) : smA (sU A k f) := fun j => by
  unfold sU
  split
  · exact hv
  · exact h j
theorem hf_of {I : Nat → Int} (h : smI I) : ∀ k : Nat, -1000000 ≤ I k ∧ I k ≤ 1000000 := h
theorem bz_r {c : Prop} [Decidable c] : inR (if c then 1 else 0) := by
  unfold inR
  split <;> omega
theorem bz_01 {c : Prop} [Decidable c] : (if c then 1 else 0 : Int) = 0 ∨ (if c then 1 else 0 : Int) = 1 := by
  split <;> omega
theorem bz_iff {c d : Prop} [Decidable c] [Decidable d] : (if c then 1 else 0 : Int) = (if d then 1 else 0) ↔ (c ↔ d) := by
  by_cases h : c <;> by_cases k : d <;> simp [h, k]
theorem bz_eq {c : Prop} [Decidable c] : (if c then 1 else 0 : Int) = 0 ↔ ¬ c := by
  split <;> simp_all
theorem bz_neq {c : Prop} [Decidable c] : ¬ (if c then 1 else 0 : Int) = 0 ↔ c := by
  split <;> simp_all
theorem bz_ne {c : Prop} [Decidable c] : (if c then 1 else 0 : Int) ≠ 0 ↔ c := by
  split <;> simp_all
theorem bz_nne {c : Prop} [Decidable c] : ¬ (if c then 1 else 0 : Int) ≠ 0 ↔ ¬ c := by
  split <;> simp_all
theorem lc_lt {a b : Int} : (if a < b then -1 else if a = b then 0 else 1 : Int) < 0 ↔ a < b := by
  (repeat' split) <;> omega
theorem lc_le {a b : Int} : (if a < b then -1 else if a = b then 0 else 1 : Int) ≤ 0 ↔ a ≤ b := by
  (repeat' split) <;> omega
theorem lc_eq {a b : Int} : (if a < b then -1 else if a = b then 0 else 1 : Int) = 0 ↔ a = b := by
  (repeat' split) <;> omega
theorem lc_ne {a b : Int} : (if a < b then -1 else if a = b then 0 else 1 : Int) ≠ 0 ↔ a ≠ b := by
  (repeat' split) <;> omega
theorem lc_ge {a b : Int} : 0 ≤ (if a < b then -1 else if a = b then 0 else 1 : Int) ↔ b ≤ a := by
  (repeat' split) <;> omega
theorem lc_gt {a b : Int} : 0 < (if a < b then -1 else if a = b then 0 else 1 : Int) ↔ b < a := by
  (repeat' split) <;> omega
set_option maxRecDepth 100000 in
set_option maxHeartbeats 4000000 in
theorem c_X7_isWithin (l : Launch) (D : va_G) (Y : Nat → ClassId) {E : (Nat → Prop) → State → Heap → Prop} (hE : g_Stab E) (n : Int) (lo : Int) (hi : Int) (hn : inR n) (hlo : inR lo) (hhi : inR hi) : g_Ct l yX7_isWithin cX7_isWithin 3 (some FieldType.boolean) ({ frames := 0, cells := 0, slots := 0, locals := 0 } : Room) D (tysY Y) E [.int (iI n), .int (iI lo), .int (iI hi)] [] 0 0 (g_det (some (.int (iI (if lo ≤ n ∧ n ≤ hi then 1 else 0)))) []) := by
  refine g_ofG (own := RX7) hE (by decide) rfl (Nat.le_of_ble_eq_true rfl) [(0, .int (iI n)), (1, .int (iI lo)), (2, .int (iI hi))] rfl ?_
  intro p9 e9 s9 m9 b9 t9 c9 A9 C hr hlk hnm
  unfold inR at *
  refine g_iload_n C (n' := 1) 0 rfl dX7_isWithin_0 rfl rfl ?_
  refine g_iload_n C (n' := 2) 1 rfl dX7_isWithin_1 rfl rfl ?_
  refine g_icmp_lt C (n' := 5) 14 dX7_isWithin_2 (by decide) rfl (by unfold inR; omega) (by unfold inR; omega) (fun c1 => ?_) (fun c1 => ?_)
  · skip
    refine g_iconst C (n' := 15) dX7_isWithin_14 rfl ?_
    refine g_iret C hr hlk (nar_z (by omega)) ⟨congrArg (fun z : Int => some (Value.int (iI z))) ?_, ?_⟩ dX7_isWithin_15
    · first | rfl | omega | ((repeat' split) <;> first | rfl | omega | (exfalso; omega))
    · first | rfl | omega | ((repeat' split) <;> first | rfl | omega | (exfalso; omega))
  · skip
    refine g_iload_n C (n' := 6) 0 rfl dX7_isWithin_5 rfl rfl ?_
    refine g_iload_n C (n' := 7) 2 rfl dX7_isWithin_6 rfl rfl ?_
    refine g_icmp_gt C (n' := 10) 14 dX7_isWithin_7 (by decide) rfl (by unfold inR; omega) (by unfold inR; omega) (fun c2 => ?_) (fun c2 => ?_)
    · skip
      refine g_iconst C (n' := 15) dX7_isWithin_14 rfl ?_
      refine g_iret C hr hlk (nar_z (by omega)) ⟨congrArg (fun z : Int => some (Value.int (iI z))) ?_, ?_⟩ dX7_isWithin_15
      · first | rfl | omega | ((repeat' split) <;> first | rfl | omega | (exfalso; omega))
      · first | rfl | omega | ((repeat' split) <;> first | rfl | omega | (exfalso; omega))
    · skip
      refine g_iconst C (n' := 11) dX7_isWithin_10 rfl ?_
      refine g_goto C 15 dX7_isWithin_11 (by decide) ?_
      refine g_iret C hr hlk (nar_z (by omega)) ⟨congrArg (fun z : Int => some (Value.int (iI z))) ?_, ?_⟩ dX7_isWithin_15
      · first | rfl | omega | ((repeat' split) <;> first | rfl | omega | (exfalso; omega))
      · first | rfl | omega | ((repeat' split) <;> first | rfl | omega | (exfalso; omega))
set_option maxRecDepth 100000 in
set_option maxHeartbeats 4000000 in
theorem c_X7_isKeptPlace (l : Launch) (D : va_G) (Y : Nat → ClassId) {E : (Nat → Prop) → State → Heap → Prop} (hE : g_Stab E) (k : Int) (hk : inR k) : g_Ct l yX7_isKeptPlace cX7_isKeptPlace 1 (some FieldType.boolean) ({ frames := 1, cells := 0, slots := 0, locals := 22 } : Room) D (tysY Y) E [.int (iI k)] [] 0 0 (g_det (some (.int (iI (if 0 ≤ k ∧ k ≤ 1 then 1 else 0)))) []) := by
  refine g_ofG (own := RX7) hE (by decide) rfl (Nat.le_of_ble_eq_true rfl) [(0, .int (iI k))] rfl ?_
  intro p9 e9 s9 m9 b9 t9 c9 A9 C hr hlk hnm
  unfold inR at *
  refine g_iload_n C (n' := 1) 0 rfl dX7_isKeptPlace_0 rfl rfl ?_
  refine g_iconst C (n' := 2) dX7_isKeptPlace_1 rfl ?_
  refine g_iconst C (n' := 3) dX7_isKeptPlace_2 rfl ?_
  refine g_cSv C (n' := 6) (v := .int (iI (if 0 ≤ k ∧ k ≤ 1 then 1 else 0))) (c_X7_isWithin l D Y C.2.2.2.2.2.2.2.2.1 k 0 1 hk (by unfold inR at *; omega) (by unfold inR at *; omega)) 3 kw_217 kc_X7_isWithin (by decide +kernel) (pm0 _) rfl ⟨Nat.le_of_ble_eq_true rfl, Nat.le_of_ble_eq_true rfl⟩ ⟨rfl, rfl⟩ ⟨Nat.le_of_ble_eq_true rfl, Nat.le_of_ble_eq_true rfl⟩ (Nat.le_of_ble_eq_true rfl) dX7_isKeptPlace_3 rfl rfl [] (pm0' _) ?_
  refine g_iret C hr hlk (nar_z bz_01) ⟨congrArg (fun z : Int => some (Value.int (iI z))) ?_, ?_⟩ dX7_isKeptPlace_6
  · first | rfl | omega | ((repeat' split) <;> first | rfl | omega | (exfalso; omega))
  · first | rfl | omega | ((repeat' split) <;> first | rfl | omega | (exfalso; omega))
set_option maxRecDepth 100000 in
set_option maxHeartbeats 4000000 in
theorem c_X7_isTrace (l : Launch) (D : va_G) (Y : Nat → ClassId) {E : (Nat → Prop) → State → Heap → Prop} (hE : g_Stab E) (k : Int) (hk : inR k) : g_Ct l yX7_isTrace cX7_isTrace 1 (some FieldType.boolean) ({ frames := 1, cells := 0, slots := 0, locals := 22 } : Room) D (tysY Y) E [.int (iI k)] [] 0 0 (g_det (some (.int (iI (if 0 ≤ k ∧ k ≤ 2 then 1 else 0)))) []) := by
  refine g_ofG (own := RX7) hE (by decide) rfl (Nat.le_of_ble_eq_true rfl) [(0, .int (iI k))] rfl ?_
  intro p9 e9 s9 m9 b9 t9 c9 A9 C hr hlk hnm
  unfold inR at *
  refine g_iload_n C (n' := 1) 0 rfl dX7_isTrace_0 rfl rfl ?_
  refine g_iconst C (n' := 2) dX7_isTrace_1 rfl ?_
  refine g_iconst C (n' := 3) dX7_isTrace_2 rfl ?_
  refine g_cSv C (n' := 6) (v := .int (iI (if 0 ≤ k ∧ k ≤ 2 then 1 else 0))) (c_X7_isWithin l D Y C.2.2.2.2.2.2.2.2.1 k 0 2 hk (by unfold inR at *; omega) (by unfold inR at *; omega)) 3 kw_217 kc_X7_isWithin (by decide +kernel) (pm0 _) rfl ⟨Nat.le_of_ble_eq_true rfl, Nat.le_of_ble_eq_true rfl⟩ ⟨rfl, rfl⟩ ⟨Nat.le_of_ble_eq_true rfl, Nat.le_of_ble_eq_true rfl⟩ (Nat.le_of_ble_eq_true rfl) dX7_isTrace_3 rfl rfl [] (pm0' _) ?_
  refine g_iret C hr hlk (nar_z bz_01) ⟨congrArg (fun z : Int => some (Value.int (iI z))) ?_, ?_⟩ dX7_isTrace_6
  · first | rfl | omega | ((repeat' split) <;> first | rfl | omega | (exfalso; omega))
  · first | rfl | omega | ((repeat' split) <;> first | rfl | omega | (exfalso; omega))
set_option maxRecDepth 100000 in
set_option maxHeartbeats 4000000 in
theorem c_X7_isSort (l : Launch) (D : va_G) (Y : Nat → ClassId) {E : (Nat → Prop) → State → Heap → Prop} (hE : g_Stab E) (k : Int) (hk : inR k) : g_Ct l yX7_isSort cX7_isSort 1 (some FieldType.boolean) ({ frames := 0, cells := 0, slots := 0, locals := 0 } : Room) D (tysY Y) E [.int (iI k)] [] 0 0 (g_det (some (.int (iI (if k = 0 ∨ k = 1 then 1 else 0)))) []) := by
  refine g_ofG (own := RX7) hE (by decide) rfl (Nat.le_of_ble_eq_true rfl) [(0, .int (iI k))] rfl ?_
  intro p9 e9 s9 m9 b9 t9 c9 A9 C hr hlk hnm
  unfold inR at *
  refine g_iload_n C (n' := 1) 0 rfl dX7_isSort_0 rfl rfl ?_
  refine g_if_eq C (n' := 4) 9 dX7_isSort_1 (by decide) rfl (by unfold inR; omega) (fun c1 => ?_) (fun c1 => ?_)
  · skip
    refine g_iconst C (n' := 10) dX7_isSort_9 rfl ?_
    refine g_goto C 14 dX7_isSort_10 (by decide) ?_
    refine g_iret C hr hlk (nar_z (by omega)) ⟨congrArg (fun z : Int => some (Value.int (iI z))) ?_, ?_⟩ dX7_isSort_14
    · first | rfl | omega | ((repeat' split) <;> first | rfl | omega | (exfalso; omega))
    · first | rfl | omega | ((repeat' split) <;> first | rfl | omega | (exfalso; omega))
  · skip
    refine g_iload_n C (n' := 5) 0 rfl dX7_isSort_4 rfl rfl ?_
    refine g_iconst C (n' := 6) dX7_isSort_5 rfl ?_
    refine g_icmp_ne C (n' := 9) 13 dX7_isSort_6 (by decide) rfl (by unfold inR; omega) (by unfold inR; omega) (fun c2 => ?_) (fun c2 => ?_)
    · skip
      refine g_iconst C (n' := 14) dX7_isSort_13 rfl ?_
      refine g_iret C hr hlk (nar_z (by omega)) ⟨congrArg (fun z : Int => some (Value.int (iI z))) ?_, ?_⟩ dX7_isSort_14
      · first | rfl | omega | ((repeat' split) <;> first | rfl | omega | (exfalso; omega))
      · first | rfl | omega | ((repeat' split) <;> first | rfl | omega | (exfalso; omega))
    · skip
      refine g_iconst C (n' := 10) dX7_isSort_9 rfl ?_
      refine g_goto C 14 dX7_isSort_10 (by decide) ?_
      refine g_iret C hr hlk (nar_z (by omega)) ⟨congrArg (fun z : Int => some (Value.int (iI z))) ?_, ?_⟩ dX7_isSort_14
      · first | rfl | omega | ((repeat' split) <;> first | rfl | omega | (exfalso; omega))
      · first | rfl | omega | ((repeat' split) <;> first | rfl | omega | (exfalso; omega))
set_option maxRecDepth 100000 in
set_option maxHeartbeats 4000000 in
theorem c_X7_isQuotientPart (l : Launch) (D : va_G) (Y : Nat → ClassId) {E : (Nat → Prop) → State → Heap → Prop} (hE : g_Stab E) (k : Int) (hk : inR k) : g_Ct l yX7_isQuotientPart cX7_isQuotientPart 1 (some FieldType.boolean) ({ frames := 1, cells := 0, slots := 0, locals := 22 } : Room) D (tysY Y) E [.int (iI k)] [] 0 0 (g_det (some (.int (iI (if -9999 ≤ k ∧ k ≤ 9999 then 1 else 0)))) []) := by
  refine g_ofG (own := RX7) hE (by decide) rfl (Nat.le_of_ble_eq_true rfl) [(0, .int (iI k))] rfl ?_
  intro p9 e9 s9 m9 b9 t9 c9 A9 C hr hlk hnm
  unfold inR at *
  refine g_iload_n C (n' := 1) 0 rfl dX7_isQuotientPart_0 rfl rfl ?_
  refine g_sipush C (n' := 4) (by decide) dX7_isQuotientPart_1 rfl ?_
  refine g_sipush C (n' := 7) (by decide) dX7_isQuotientPart_4 rfl ?_
  refine g_cSv C (n' := 10) (v := .int (iI (if (-9999) ≤ k ∧ k ≤ 9999 then 1 else 0))) (c_X7_isWithin l D Y C.2.2.2.2.2.2.2.2.1 k (-9999) 9999 hk (by unfold inR at *; omega) (by unfold inR at *; omega)) 3 kw_217 kc_X7_isWithin (by decide +kernel) (pm0 _) rfl ⟨Nat.le_of_ble_eq_true rfl, Nat.le_of_ble_eq_true rfl⟩ ⟨rfl, rfl⟩ ⟨Nat.le_of_ble_eq_true rfl, Nat.le_of_ble_eq_true rfl⟩ (Nat.le_of_ble_eq_true rfl) dX7_isQuotientPart_7 rfl rfl [] (pm0' _) ?_
  refine g_iret C hr hlk (nar_z bz_01) ⟨congrArg (fun z : Int => some (Value.int (iI z))) ?_, ?_⟩ dX7_isQuotientPart_10
  · first | rfl | omega | ((repeat' split) <;> first | rfl | omega | (exfalso; omega))
  · first | rfl | omega | ((repeat' split) <;> first | rfl | omega | (exfalso; omega))
set_option maxRecDepth 100000 in
set_option maxHeartbeats 4000000 in
theorem c_X7_orAboveAll (l : Launch) (D : va_G) (Y : Nat → ClassId) {E : (Nat → Prop) → State → Heap → Prop} (hE : g_Stab E) (k : Int) (hk : inR k) : g_Ct l yX7_orAboveAll cX7_orAboveAll 1 (some FieldType.int) ({ frames := 0, cells := 0, slots := 0, locals := 0 } : Room) D (tysY Y) E [.int (iI k)] [] 0 0 (g_det (some (.int (iI (if k = -1 then 1000 else k)))) []) := by
  refine g_ofG (own := RX7) hE (by decide) rfl (Nat.le_of_ble_eq_true rfl) [(0, .int (iI k))] rfl ?_
  intro p9 e9 s9 m9 b9 t9 c9 A9 C hr hlk hnm
  unfold inR at *
  refine g_iload_n C (n' := 1) 0 rfl dX7_orAboveAll_0 rfl rfl ?_
  refine g_iconst C (n' := 2) dX7_orAboveAll_1 rfl ?_
  refine g_icmp_ne C (n' := 5) 11 dX7_orAboveAll_2 (by decide) rfl (by unfold inR; omega) (by unfold inR; omega) (fun c1 => ?_) (fun c1 => ?_)
  · skip
    refine g_iload_n C (n' := 12) 0 rfl dX7_orAboveAll_11 rfl rfl ?_
    refine g_iret C hr hlk rfl ⟨congrArg (fun z : Int => some (Value.int (iI z))) ?_, ?_⟩ dX7_orAboveAll_12
    · first | rfl | omega | ((repeat' split) <;> first | rfl | omega | (exfalso; omega))
    · first | rfl | omega | ((repeat' split) <;> first | rfl | omega | (exfalso; omega))
  · skip
    refine g_sipush C (n' := 8) (by decide) dX7_orAboveAll_5 rfl ?_
    refine g_goto C 12 dX7_orAboveAll_8 (by decide) ?_
    refine g_iret C hr hlk rfl ⟨congrArg (fun z : Int => some (Value.int (iI z))) ?_, ?_⟩ dX7_orAboveAll_12
    · first | rfl | omega | ((repeat' split) <;> first | rfl | omega | (exfalso; omega))
    · first | rfl | omega | ((repeat' split) <;> first | rfl | omega | (exfalso; omega))
set_option maxRecDepth 100000 in
set_option maxHeartbeats 4000000 in
theorem c_X8_in (l : Launch) (D : va_G) (Y : Nat → ClassId) {E : (Nat → Prop) → State → Heap → Prop} (hE : g_Stab E) (n : Int) (lo : Int) (hi : Int) (hn : inR n) (hlo : inR lo) (hhi : inR hi) : g_Ct l yX8_in cX8_in 6 (some FieldType.boolean) ({ frames := 0, cells := 0, slots := 0, locals := 0 } : Room) D (tysY Y) E [.long (lL n), .long (lL lo), .long (lL hi)] [] 0 0 (g_det (some (.int (iI (if lo ≤ n ∧ n ≤ hi then 1 else 0)))) []) := by
  refine g_ofG (own := RX8) hE (by decide) rfl (Nat.le_of_ble_eq_true rfl) [(0, .long (lL n)), (2, .long (lL lo)), (4, .long (lL hi))] rfl ?_
  intro p9 e9 s9 m9 b9 t9 c9 A9 C hr hlk hnm
  unfold inR at *
  refine g_lload_n C (n' := 1) 0 rfl dX8_in_0 rfl rfl ?_
  refine g_lload_n C (n' := 2) 1 rfl dX8_in_1 rfl rfl ?_
  refine g_lcmp C (n' := 3) (by unfold inR; omega) (by unfold inR; omega) dX8_in_2 rfl ?_
  refine g_if_lt C (n' := 6) 17 dX8_in_3 (by decide) rfl lc_r (fun c2 => ?_) (fun c2 => ?_)
  · skip
    replace c2 := lc_lt.mp c2
    refine g_iconst C (n' := 18) dX8_in_17 rfl ?_
    refine g_iret C hr hlk (nar_z (by omega)) ⟨congrArg (fun z : Int => some (Value.int (iI z))) ?_, ?_⟩ dX8_in_18
    · first | rfl | omega | ((repeat' split) <;> first | rfl | omega | (exfalso; omega))
    · first | rfl | omega | ((repeat' split) <;> first | rfl | omega | (exfalso; omega))
  · skip
    replace c2 := (not_congr lc_lt).mp c2
    refine g_lload_n C (n' := 7) 0 rfl dX8_in_6 rfl rfl ?_
    refine g_lload C (n' := 9) 2 rfl dX8_in_7 rfl ?_
    refine g_lcmp C (n' := 10) (by unfold inR; omega) (by unfold inR; omega) dX8_in_9 rfl ?_
    refine g_if_gt C (n' := 13) 17 dX8_in_10 (by decide) rfl lc_r (fun c4 => ?_) (fun c4 => ?_)
    · skip
      replace c4 := lc_gt.mp c4
      refine g_iconst C (n' := 18) dX8_in_17 rfl ?_
      refine g_iret C hr hlk (nar_z (by omega)) ⟨congrArg (fun z : Int => some (Value.int (iI z))) ?_, ?_⟩ dX8_in_18
      · first | rfl | omega | ((repeat' split) <;> first | rfl | omega | (exfalso; omega))
      · first | rfl | omega | ((repeat' split) <;> first | rfl | omega | (exfalso; omega))
    · skip
      replace c4 := (not_congr lc_gt).mp c4
      refine g_iconst C (n' := 14) dX8_in_13 rfl ?_
      refine g_goto C 18 dX8_in_14 (by decide) ?_
      refine g_iret C hr hlk (nar_z (by omega)) ⟨congrArg (fun z : Int => some (Value.int (iI z))) ?_, ?_⟩ dX8_in_18
      · first | rfl | omega | ((repeat' split) <;> first | rfl | omega | (exfalso; omega))
      · first | rfl | omega | ((repeat' split) <;> first | rfl | omega | (exfalso; omega))
set_option maxRecDepth 100000 in
set_option maxHeartbeats 4000000 in
theorem c_X8_isLetter (l : Launch) (D : va_G) (Y : Nat → ClassId) {E : (Nat → Prop) → State → Heap → Prop} (hE : g_Stab E) (k : Int) (hk : inR k) : g_Ct l yX8_isLetter cX8_isLetter 1 (some FieldType.boolean) ({ frames := 1, cells := 0, slots := 0, locals := 25 } : Room) D (tysY Y) E [.int (iI k)] [] 0 0 (g_det (some (.int (iI (if 97 ≤ k ∧ k ≤ 122 then 1 else 0)))) []) := by
  refine g_ofG (own := RX8) hE (by decide) rfl (Nat.le_of_ble_eq_true rfl) [(0, .int (iI k))] rfl ?_
  intro p9 e9 s9 m9 b9 t9 c9 A9 C hr hlk hnm
  unfold inR at *
  refine g_iload_n C (n' := 1) 0 rfl dX8_isLetter_0 rfl rfl ?_
  refine g_i2l C (n' := 2) (by unfold inR; omega) dX8_isLetter_1 rfl ?_
  refine g_ldc2l C (n' := 5) 97 (by decide) kw_824 dX8_isLetter_2 rfl ?_
  refine g_ldc2l C (n' := 8) 122 (by decide) kw_825 dX8_isLetter_5 rfl ?_
  refine g_cSv C (n' := 11) (v := .int (iI (if 97 ≤ k ∧ k ≤ 122 then 1 else 0))) (c_X8_in l D Y C.2.2.2.2.2.2.2.2.1 k 97 122 hk (by unfold inR at *; omega) (by unfold inR at *; omega)) 3 kw_802 kc_X8_in (by decide +kernel) (pm0 _) rfl ⟨Nat.le_of_ble_eq_true rfl, Nat.le_of_ble_eq_true rfl⟩ ⟨rfl, rfl⟩ ⟨Nat.le_of_ble_eq_true rfl, Nat.le_of_ble_eq_true rfl⟩ (Nat.le_of_ble_eq_true rfl) dX8_isLetter_8 rfl rfl [] (pm0' _) ?_
  refine g_iret C hr hlk (nar_z bz_01) ⟨congrArg (fun z : Int => some (Value.int (iI z))) ?_, ?_⟩ dX8_isLetter_11
  · first | rfl | omega | ((repeat' split) <;> first | rfl | omega | (exfalso; omega))
  · first | rfl | omega | ((repeat' split) <;> first | rfl | omega | (exfalso; omega))
set_option maxRecDepth 100000 in
set_option maxHeartbeats 4000000 in
theorem c_X8_isDigit (l : Launch) (D : va_G) (Y : Nat → ClassId) {E : (Nat → Prop) → State → Heap → Prop} (hE : g_Stab E) (k : Int) (hk : inR k) : g_Ct l yX8_isDigit cX8_isDigit 1 (some FieldType.boolean) ({ frames := 1, cells := 0, slots := 0, locals := 25 } : Room) D (tysY Y) E [.int (iI k)] [] 0 0 (g_det (some (.int (iI (if 48 ≤ k ∧ k ≤ 57 then 1 else 0)))) []) := by
  refine g_ofG (own := RX8) hE (by decide) rfl (Nat.le_of_ble_eq_true rfl) [(0, .int (iI k))] rfl ?_
  intro p9 e9 s9 m9 b9 t9 c9 A9 C hr hlk hnm
  unfold inR at *
  refine g_iload_n C (n' := 1) 0 rfl dX8_isDigit_0 rfl rfl ?_
  refine g_i2l C (n' := 2) (by unfold inR; omega) dX8_isDigit_1 rfl ?_
  refine g_ldc2l C (n' := 5) 48 (by decide) kw_829 dX8_isDigit_2 rfl ?_
  refine g_ldc2l C (n' := 8) 57 (by decide) kw_830 dX8_isDigit_5 rfl ?_
  refine g_cSv C (n' := 11) (v := .int (iI (if 48 ≤ k ∧ k ≤ 57 then 1 else 0))) (c_X8_in l D Y C.2.2.2.2.2.2.2.2.1 k 48 57 hk (by unfold inR at *; omega) (by unfold inR at *; omega)) 3 kw_802 kc_X8_in (by decide +kernel) (pm0 _) rfl ⟨Nat.le_of_ble_eq_true rfl, Nat.le_of_ble_eq_true rfl⟩ ⟨rfl, rfl⟩ ⟨Nat.le_of_ble_eq_true rfl, Nat.le_of_ble_eq_true rfl⟩ (Nat.le_of_ble_eq_true rfl) dX8_isDigit_8 rfl rfl [] (pm0' _) ?_
  refine g_iret C hr hlk (nar_z bz_01) ⟨congrArg (fun z : Int => some (Value.int (iI z))) ?_, ?_⟩ dX8_isDigit_11
  · first | rfl | omega | ((repeat' split) <;> first | rfl | omega | (exfalso; omega))
  · first | rfl | omega | ((repeat' split) <;> first | rfl | omega | (exfalso; omega))
set_option maxRecDepth 100000 in
set_option maxHeartbeats 4000000 in
theorem c_X8_isTrace (l : Launch) (D : va_G) (Y : Nat → ClassId) {E : (Nat → Prop) → State → Heap → Prop} (hE : g_Stab E) (k : Int) (hk : inR k) : g_Ct l yX8_isTrace cX8_isTrace 1 (some FieldType.boolean) ({ frames := 1, cells := 0, slots := 0, locals := 25 } : Room) D (tysY Y) E [.int (iI k)] [] 0 0 (g_det (some (.int (iI (if 0 ≤ k ∧ k ≤ 2 then 1 else 0)))) []) := by
  refine g_ofG (own := RX8) hE (by decide) rfl (Nat.le_of_ble_eq_true rfl) [(0, .int (iI k))] rfl ?_
  intro p9 e9 s9 m9 b9 t9 c9 A9 C hr hlk hnm
  unfold inR at *
  refine g_iload_n C (n' := 1) 0 rfl dX8_isTrace_0 rfl rfl ?_
  refine g_i2l C (n' := 2) (by unfold inR; omega) dX8_isTrace_1 rfl ?_
  refine g_lconst C (n' := 3) 0 (by decide) dX8_isTrace_2 rfl ?_
  refine g_ldc2l C (n' := 6) 2 (by decide) kw_992 dX8_isTrace_3 rfl ?_
  refine g_cSv C (n' := 9) (v := .int (iI (if 0 ≤ k ∧ k ≤ 2 then 1 else 0))) (c_X8_in l D Y C.2.2.2.2.2.2.2.2.1 k 0 2 hk (by unfold inR at *; omega) (by unfold inR at *; omega)) 3 kw_802 kc_X8_in (by decide +kernel) (pm0 _) rfl ⟨Nat.le_of_ble_eq_true rfl, Nat.le_of_ble_eq_true rfl⟩ ⟨rfl, rfl⟩ ⟨Nat.le_of_ble_eq_true rfl, Nat.le_of_ble_eq_true rfl⟩ (Nat.le_of_ble_eq_true rfl) dX8_isTrace_6 rfl rfl [] (pm0' _) ?_
  refine g_iret C hr hlk (nar_z bz_01) ⟨congrArg (fun z : Int => some (Value.int (iI z))) ?_, ?_⟩ dX8_isTrace_9
  · first | rfl | omega | ((repeat' split) <;> first | rfl | omega | (exfalso; omega))
  · first | rfl | omega | ((repeat' split) <;> first | rfl | omega | (exfalso; omega))
set_option maxRecDepth 100000 in
set_option maxHeartbeats 4000000 in
theorem c_X4_isSmall (l : Launch) (D : va_G) (Y : Nat → ClassId) {E : (Nat → Prop) → State → Heap → Prop} (hE : g_Stab E) (k : Int) (hk : inR k) : g_Ct l yX4_isSmall cX4_isSmall 1 (some FieldType.boolean) ({ frames := 0, cells := 0, slots := 0, locals := 0 } : Room) D (tysY Y) E [.int (iI k)] [] 0 0 (g_det (some (.int (iI (if 97 ≤ k ∧ k ≤ 122 then 1 else 0)))) []) := by
  refine g_ofG (own := RX4) hE (by decide) rfl (Nat.le_of_ble_eq_true rfl) [(0, .int (iI k))] rfl ?_
  intro p9 e9 s9 m9 b9 t9 c9 A9 C hr hlk hnm
  unfold inR at *
  refine g_iload_n C (n' := 1) 0 rfl dX4_isSmall_0 rfl rfl ?_
  refine g_bipush C (n' := 3) (by decide) dX4_isSmall_1 rfl ?_
  refine g_icmp_lt C (n' := 6) 16 dX4_isSmall_3 (by decide) rfl (by unfold inR; omega) (by unfold inR; omega) (fun c1 => ?_) (fun c1 => ?_)
  · skip
    refine g_iconst C (n' := 17) dX4_isSmall_16 rfl ?_
    refine g_iret C hr hlk (nar_z (by omega)) ⟨congrArg (fun z : Int => some (Value.int (iI z))) ?_, ?_⟩ dX4_isSmall_17
    · first | rfl | omega | ((repeat' split) <;> first | rfl | omega | (exfalso; omega))
    · first | rfl | omega | ((repeat' split) <;> first | rfl | omega | (exfalso; omega))
  · skip
    refine g_iload_n C (n' := 7) 0 rfl dX4_isSmall_6 rfl rfl ?_
    refine g_bipush C (n' := 9) (by decide) dX4_isSmall_7 rfl ?_
    refine g_icmp_gt C (n' := 12) 16 dX4_isSmall_9 (by decide) rfl (by unfold inR; omega) (by unfold inR; omega) (fun c2 => ?_) (fun c2 => ?_)
    · skip
      refine g_iconst C (n' := 17) dX4_isSmall_16 rfl ?_
      refine g_iret C hr hlk (nar_z (by omega)) ⟨congrArg (fun z : Int => some (Value.int (iI z))) ?_, ?_⟩ dX4_isSmall_17
      · first | rfl | omega | ((repeat' split) <;> first | rfl | omega | (exfalso; omega))
      · first | rfl | omega | ((repeat' split) <;> first | rfl | omega | (exfalso; omega))
    · skip
      refine g_iconst C (n' := 13) dX4_isSmall_12 rfl ?_
      refine g_goto C 17 dX4_isSmall_13 (by decide) ?_
      refine g_iret C hr hlk (nar_z (by omega)) ⟨congrArg (fun z : Int => some (Value.int (iI z))) ?_, ?_⟩ dX4_isSmall_17
      · first | rfl | omega | ((repeat' split) <;> first | rfl | omega | (exfalso; omega))
      · first | rfl | omega | ((repeat' split) <;> first | rfl | omega | (exfalso; omega))
set_option maxRecDepth 100000 in
set_option maxHeartbeats 4000000 in
theorem c_X4_isDigit (l : Launch) (D : va_G) (Y : Nat → ClassId) {E : (Nat → Prop) → State → Heap → Prop} (hE : g_Stab E) (k : Int) (hk : inR k) : g_Ct l yX4_isDigit cX4_isDigit 1 (some FieldType.boolean) ({ frames := 0, cells := 0, slots := 0, locals := 0 } : Room) D (tysY Y) E [.int (iI k)] [] 0 0 (g_det (some (.int (iI (if 48 ≤ k ∧ k ≤ 57 then 1 else 0)))) []) := by
  refine g_ofG (own := RX4) hE (by decide) rfl (Nat.le_of_ble_eq_true rfl) [(0, .int (iI k))] rfl ?_
  intro p9 e9 s9 m9 b9 t9 c9 A9 C hr hlk hnm
  unfold inR at *
  refine g_iload_n C (n' := 1) 0 rfl dX4_isDigit_0 rfl rfl ?_
  refine g_bipush C (n' := 3) (by decide) dX4_isDigit_1 rfl ?_
  refine g_icmp_lt C (n' := 6) 16 dX4_isDigit_3 (by decide) rfl (by unfold inR; omega) (by unfold inR; omega) (fun c1 => ?_) (fun c1 => ?_)
  · skip
    refine g_iconst C (n' := 17) dX4_isDigit_16 rfl ?_
    refine g_iret C hr hlk (nar_z (by omega)) ⟨congrArg (fun z : Int => some (Value.int (iI z))) ?_, ?_⟩ dX4_isDigit_17
    · first | rfl | omega | ((repeat' split) <;> first | rfl | omega | (exfalso; omega))
    · first | rfl | omega | ((repeat' split) <;> first | rfl | omega | (exfalso; omega))
  · skip
    refine g_iload_n C (n' := 7) 0 rfl dX4_isDigit_6 rfl rfl ?_
    refine g_bipush C (n' := 9) (by decide) dX4_isDigit_7 rfl ?_
    refine g_icmp_gt C (n' := 12) 16 dX4_isDigit_9 (by decide) rfl (by unfold inR; omega) (by unfold inR; omega) (fun c2 => ?_) (fun c2 => ?_)
    · skip
      refine g_iconst C (n' := 17) dX4_isDigit_16 rfl ?_
      refine g_iret C hr hlk (nar_z (by omega)) ⟨congrArg (fun z : Int => some (Value.int (iI z))) ?_, ?_⟩ dX4_isDigit_17
      · first | rfl | omega | ((repeat' split) <;> first | rfl | omega | (exfalso; omega))
      · first | rfl | omega | ((repeat' split) <;> first | rfl | omega | (exfalso; omega))
    · skip
      refine g_iconst C (n' := 13) dX4_isDigit_12 rfl ?_
      refine g_goto C 17 dX4_isDigit_13 (by decide) ?_
      refine g_iret C hr hlk (nar_z (by omega)) ⟨congrArg (fun z : Int => some (Value.int (iI z))) ?_, ?_⟩ dX4_isDigit_17
      · first | rfl | omega | ((repeat' split) <;> first | rfl | omega | (exfalso; omega))
      · first | rfl | omega | ((repeat' split) <;> first | rfl | omega | (exfalso; omega))
end
section
/-! Math -/
theorem xr_neg {x y : Int} (hx : inR x) (hy : inR y) : (iI x ^^^ iI y).toInt < 0 ↔ (x < 0 ↔ ¬ y < 0) := by
  have h : ∀ a : Int32, a.toInt < 0 ↔ a.toBitVec.msb = true := fun a => by
    rw [← Int32.toInt_toBitVec, BitVec.msb_eq_toInt]
    simp
  have h1 := h (iI x ^^^ iI y)
  have h2 := h (iI x)
  have h3 := h (iI y)
  rw [iI_toInt hx] at h2
  rw [iI_toInt hy] at h3
  rw [h1, h2, h3, Int32.toBitVec_xor, BitVec.msb_xor]
  cases (iI x).toBitVec.msb <;> cases (iI y).toBitVec.msb <;> simp
theorem fd_1 {x y : Int} (hy : 0 < y) (h : ¬ (x < 0 ↔ ¬ y < 0)) : x.tdiv y = x / y := by
  have hx : 0 ≤ x := by
    by_cases q : x < 0
    · exact absurd ⟨fun _ => by omega, fun _ => q⟩ h
    · omega
  rw [Int.tdiv_eq_ediv, if_pos (Or.inl hx), Int.add_zero]
theorem fd_2 {x y : Int} (h : x.tdiv y * y = x) (hy : 0 < y) : x.tdiv y = x / y := by
  rw [Int.tdiv_eq_ediv, if_pos (Or.inr ⟨x.tdiv y, by rw [Int.mul_comm]; exact h.symm⟩), Int.add_zero]
theorem fd_3 {x y : Int} (h : ¬ x.tdiv y * y = x) (hy : 0 < y) (hx : x < 0) : x.tdiv y - 1 = x / y := by
  have hn : ¬ (0 ≤ x ∨ y ∣ x) := by
    rintro (q | q)
    · omega
    · exact h (Int.tdiv_mul_cancel q)
  rw [Int.tdiv_eq_ediv, if_neg hn, Int.sign_eq_one_of_pos hy]
  omega
theorem fd_n {x y : Int} (hx : ¬ 0 ≤ x) (hy : 0 < y) : x.tdiv y ≤ 0 := by
  have h := Int.ediv_neg_of_neg_of_pos (show x < 0 by omega) hy
  rw [Int.tdiv_eq_ediv, Int.sign_eq_one_of_pos hy]
  split <;> omega
theorem fd_r {x y : Int} (hx : inR x) (hy : 0 < y) : inR (x.tdiv y) := by
  have a := Int.natAbs_tdiv_le_natAbs x y
  by_cases q : 0 ≤ x
  · have b := Int.tdiv_nonneg q (show 0 ≤ y by omega)
    unfold inR at *
    omega
  · have b := fd_n q hy
    unfold inR at *
    omega
theorem fd_m {x y : Int} (hx : inR x) (hy : 0 < y) : inR (x.tdiv y * y) := by
  have a : (x.tdiv y * y).natAbs ≤ x.natAbs := by
    rw [Int.natAbs_mul, Int.natAbs_tdiv]
    exact Nat.div_mul_le_self _ _
  by_cases q : 0 ≤ x
  · have b := Int.mul_nonneg (Int.tdiv_nonneg q (show 0 ≤ y by omega)) (show 0 ≤ y by omega)
    unfold inR at *
    omega
  · have b := Int.mul_nonneg (show 0 ≤ -(x.tdiv y) by have := fd_n q hy; omega) (show 0 ≤ y by omega)
    rw [Int.neg_mul] at b
    unfold inR at *
    omega
set_option maxRecDepth 100000 in
set_option maxHeartbeats 4000000 in
theorem c_J9_min_7cf53 (l : Launch) (D : va_G) (Y : Nat → ClassId) {E : (Nat → Prop) → State → Heap → Prop} (hE : g_Stab E) (x : Int) (y : Int) (hx : inR x) (hy : inR y) : g_Ct l yJ9_min_7cf53 cJ9_min_7cf53 2 (some FieldType.int) ({ frames := 0, cells := 0, slots := 0, locals := 0 } : Room) D (tysY Y) E [.int (iI x), .int (iI y)] [] 0 0 (g_det (some (.int (iI (if x ≤ y then x else y)))) []) := by
  refine g_ofGF (own := RJ9) hE (by decide +kernel) rfl (Nat.le_of_ble_eq_true rfl) [(0, .int (iI x)), (1, .int (iI y))] rfl ?_
  intro p9 e9 s9 m9 b9 t9 c9 A9 C hr hlk hnm
  unfold inR at *
  refine g_iload_n C (n' := 1) 0 rfl dJ9_min_7cf53_0 rfl rfl ?_
  refine g_iload_n C (n' := 2) 1 rfl dJ9_min_7cf53_1 rfl rfl ?_
  refine g_icmp_gt C (n' := 5) 9 dJ9_min_7cf53_2 (by decide) rfl (by unfold inR; omega) (by unfold inR; omega) (fun c1 => ?_) (fun c1 => ?_)
  · skip
    refine g_iload_n C (n' := 10) 1 rfl dJ9_min_7cf53_9 rfl rfl ?_
    refine g_iret C hr hlk rfl ⟨congrArg (fun z : Int => some (Value.int (iI z))) ?_, ?_⟩ dJ9_min_7cf53_10
    · first | rfl | omega | ((repeat' split) <;> first | rfl | omega | (exfalso; omega))
    · first | rfl | omega | ((repeat' split) <;> first | rfl | omega | (exfalso; omega))
  · skip
    refine g_iload_n C (n' := 6) 0 rfl dJ9_min_7cf53_5 rfl rfl ?_
    refine g_goto C 10 dJ9_min_7cf53_6 (by decide) ?_
    refine g_iret C hr hlk rfl ⟨congrArg (fun z : Int => some (Value.int (iI z))) ?_, ?_⟩ dJ9_min_7cf53_10
    · first | rfl | omega | ((repeat' split) <;> first | rfl | omega | (exfalso; omega))
    · first | rfl | omega | ((repeat' split) <;> first | rfl | omega | (exfalso; omega))
set_option maxRecDepth 100000 in
set_option maxHeartbeats 4000000 in
theorem c_J9_floorDiv_7cf53 (l : Launch) (D : va_G) (Y : Nat → ClassId) {E : (Nat → Prop) → State → Heap → Prop} (hE : g_Stab E) (x : Int) (y : Int) (hx : inR x) (hy : 0 < y) (hy1 : y < 2147483648) : g_Ct l yJ9_floorDiv_7cf53 cJ9_floorDiv_7cf53 3 (some FieldType.int) ({ frames := 0, cells := 0, slots := 0, locals := 0 } : Room) D (tysY Y) E [.int (iI x), .int (iI y)] [] 0 0 (g_det (some (.int (iI (x / y)))) []) := by
  refine g_ofGF (own := RJ9) hE (by decide +kernel) rfl (Nat.le_of_ble_eq_true rfl) [(0, .int (iI x)), (1, .int (iI y))] rfl ?_
  intro p9 e9 s9 m9 b9 t9 c9 A9 C hr hlk hnm
  have hy2 : inR y := ⟨by omega, by omega⟩
  have hx9 := hx
  unfold inR at hx9
  refine g_iload_n C (n' := 1) 0 rfl dJ9_floorDiv_7cf53_0 rfl rfl ?_
  refine g_iload_n C (n' := 2) 1 rfl dJ9_floorDiv_7cf53_1 rfl rfl ?_
  refine g_idiv C (n' := 3) (by unfold inR; omega) (by unfold inR; omega) (by omega) (fd_r hx hy) dJ9_floorDiv_7cf53_2 rfl ?_
  refine g_istore_n C (n' := 4) [(2, .int (iI (x.tdiv y))), (0, .int (iI x)), (1, .int (iI y))] dJ9_floorDiv_7cf53_3 rfl rfl (by decide) rfl ?_
  refine g_iload_n C (n' := 5) 1 rfl dJ9_floorDiv_7cf53_4 rfl rfl ?_
  refine g_iload_n C (n' := 6) 2 rfl dJ9_floorDiv_7cf53_5 rfl rfl ?_
  refine g_ixor C (n' := 7) (iI x ^^^ iI y).toInt (iI_of _) dJ9_floorDiv_7cf53_6 rfl ?_
  have hq := inR_of (iI x ^^^ iI y)
  unfold inR at hq
  refine g_if_ge C (n' := 10) 21 dJ9_floorDiv_7cf53_7 (by decide) rfl (by unfold inR; omega) (fun c1 => ?_) (fun c1 => ?_)
  · skip
    refine g_iload_n C (n' := 22) 0 rfl dJ9_floorDiv_7cf53_21 rfl rfl ?_
    refine g_iret C hr hlk rfl ⟨congrArg (fun z : Int => some (Value.int (iI z))) ?_, rfl⟩ dJ9_floorDiv_7cf53_22
    exact fd_1 hy (fun q => absurd ((xr_neg hx hy2).mpr q) (by omega))
  · skip
    refine g_iload_n C (n' := 11) 0 rfl dJ9_floorDiv_7cf53_10 rfl rfl ?_
    refine g_iload_n C (n' := 12) 2 rfl dJ9_floorDiv_7cf53_11 rfl rfl ?_
    refine g_imul C (n' := 13) dJ9_floorDiv_7cf53_12 rfl ?_
    refine g_iload_n C (n' := 14) 1 rfl dJ9_floorDiv_7cf53_13 rfl rfl ?_
    have hm := fd_m hx hy
    unfold inR at hm
    refine g_icmp_eq C (n' := 17) 21 dJ9_floorDiv_7cf53_14 (by decide) rfl (by unfold inR; omega) (by unfold inR; omega) (fun c2 => ?_) (fun c2 => ?_)
    · skip
      refine g_iload_n C (n' := 22) 0 rfl dJ9_floorDiv_7cf53_21 rfl rfl ?_
      refine g_iret C hr hlk rfl ⟨congrArg (fun z : Int => some (Value.int (iI z))) ?_, rfl⟩ dJ9_floorDiv_7cf53_22
      exact fd_2 c2 hy
    · skip
      refine g_iload_n C (n' := 18) 0 rfl dJ9_floorDiv_7cf53_17 rfl rfl ?_
      refine g_iconst C (n' := 19) dJ9_floorDiv_7cf53_18 rfl ?_
      refine g_isub C (n' := 20) dJ9_floorDiv_7cf53_19 rfl ?_
      refine g_iret C hr hlk rfl ⟨congrArg (fun z : Int => some (Value.int (iI z))) ?_, rfl⟩ dJ9_floorDiv_7cf53_20
      exact fd_3 c2 hy (((xr_neg hx hy2).mp (by omega)).mpr (by omega))
end
section
/-! Net -/
def n_begin (I : Nat → Int) (n : Int) : Nat → Int := sU (sU (sU (sU (sU (sU I 0 n) 1 0) 2 0) 3 1) 4 99) 5 0
def n_slow (A : Nat → Nat → Int) (p n : Int) : Nat → Nat → Int := sU (sU A 8 (sU (A 8) p.toNat (A 8 p.toNat + n))) 9 (sU (A 9) p.toNat (A 9 p.toNat + n))
def n_late (I : Nat → Int) (A : Nat → Nat → Int) (p : Int) : Int := I 4 - A 8 p.toNat - I 1
def n_soon (I : Nat → Int) (A : Nat → Nat → Int) (p : Int) : Int := A 9 p.toNat - I 2
def n_ts (I : Nat → Int) (A : Nat → Nat → Int) : Nat → Int
  | 0 => 0
  | k + 1 => n_ts I A k + (if A 9 k - I 2 < 0 then 1 else 0)
theorem n_ts_r (I : Nat → Int) (A : Nat → Nat → Int) : ∀ k : Nat, 0 ≤ n_ts I A k ∧ n_ts I A k ≤ k
  | 0 => by simp [n_ts]
  | k + 1 => by
    have := n_ts_r I A k
    rw [n_ts]
    split <;> omega
theorem n_soon_r {I : Nat → Int} {A : Nat → Nat → Int} (hsI : smI I) (hsA : smA A) (p : Int) : -2000000 ≤ n_soon I A p ∧ n_soon I A p ≤ 2000000 := by
  have := hsI 2
  have := hsA 9 p.toNat
  unfold n_soon
  omega
theorem n_late_r {I : Nat → Int} {A : Nat → Nat → Int} (hsI : smI I) (hsA : smA A) (p : Int) : -3000000 ≤ n_late I A p ∧ n_late I A p ≤ 3000000 := by
  have := hsI 1
  have := hsI 4
  have := hsA 8 p.toNat
  unfold n_late
  omega
def n_addI (I : Nat → Int) : Nat → Int := if 16 ≤ I 5 then I else sU I 5 (I 5 + 1)
def n_addA (I : Nat → Int) (A : Nat → Nat → Int) (a b u v : Int) : Nat → Nat → Int := if 16 ≤ I 5 then A else sU (sU (sU (sU A 6 (sU (A 6) (I 5).toNat a)) 7 (sU (A 7) (I 5).toNat b)) 8 (sU (A 8) (I 5).toNat u)) 9 (sU (A 9) (I 5).toNat v)
def n_cpI (I J : Nat → Int) : Nat → Int := sU (sU (sU (sU (sU (sU I 0 (J 0)) 1 (J 1)) 2 (J 2)) 3 (J 3)) 4 (J 4)) 5 (J 5)
def n_cpA (A B : Nat → Nat → Int) : Nat → Nat → Int := sU (sU (sU (sU A 6 (sC (B 6) (A 6) 16)) 7 (sC (B 7) (A 7) 16)) 8 (sC (B 8) (A 8) 16)) 9 (sC (B 9) (A 9) 16)
set_option maxRecDepth 100000 in
set_option maxHeartbeats 4000000 in
theorem c_X2_begin (l : Launch) (D : va_G) (Y : Nat → ClassId) {E : (Nat → Prop) → State → Heap → Prop} (hE : g_Stab E) (q : Nat → Nat) (I : Nat → Int) (A : Nat → Nat → Int) (n : Int) : g_Ct l yX2_begin cX2_begin 2 none ({ frames := 0, cells := 0, slots := 0, locals := 0 } : Room) D (tysY Y) E [.ref (q 99), .int (iI n)] (wNet q Y I A) 0 0 (g_det none (wNet q Y (n_begin I n) A)) := by
  refine g_ofG (own := RX2) hE (by decide) rfl (Nat.le_of_ble_eq_true rfl) [(0, .ref (q 99)), (1, .int (iI n))] rfl ?_
  intro p9 e9 s9 m9 b9 t9 c9 A9 C hr hlk hnm
  refine g_aload_n C (n' := 1) 0 rfl dX2_begin_0 rfl rfl ?_
  refine g_iload_n C (n' := 2) 1 rfl dX2_begin_1 rfl rfl ?_
  refine g_put C (n' := 5) (Cn := RX2) (T := TX2) (N := 10) (ci := 1) (v := .int (iI n)) ga_X2 0 rfl rfl 0 (by decide) kw_58 rfl tyX2 tyX2_ok nmX2 rfl rfl rfl rfl (Nat.le_of_ble_eq_true rfl) (wNet q Y (sU I 0 n) A) rfl dX2_begin_2 rfl ?_
  refine g_aload_n C (n' := 6) 0 rfl dX2_begin_5 rfl rfl ?_
  refine g_iconst C (n' := 7) dX2_begin_6 rfl ?_
  refine g_put C (n' := 10) (Cn := RX2) (T := TX2) (N := 10) (ci := 1) (v := .int (iI 0)) ga_X2 0 rfl rfl 1 (by decide) kw_62 rfl tyX2 tyX2_ok nmX2 rfl rfl rfl rfl (Nat.le_of_ble_eq_true rfl) (wNet q Y (sU (sU I 0 n) 1 0) A) rfl dX2_begin_7 rfl ?_
  refine g_aload_n C (n' := 11) 0 rfl dX2_begin_10 rfl rfl ?_
  refine g_iconst C (n' := 12) dX2_begin_11 rfl ?_
  refine g_put C (n' := 15) (Cn := RX2) (T := TX2) (N := 10) (ci := 1) (v := .int (iI 0)) ga_X2 0 rfl rfl 2 (by decide) kw_65 rfl tyX2 tyX2_ok nmX2 rfl rfl rfl rfl (Nat.le_of_ble_eq_true rfl) (wNet q Y (sU (sU (sU I 0 n) 1 0) 2 0) A) rfl dX2_begin_12 rfl ?_
  refine g_aload_n C (n' := 16) 0 rfl dX2_begin_15 rfl rfl ?_
  refine g_iconst C (n' := 17) dX2_begin_16 rfl ?_
  refine g_put C (n' := 20) (Cn := RX2) (T := TX2) (N := 10) (ci := 1) (v := .int (iI 1)) ga_X2 0 rfl rfl 3 (by decide) kw_67 rfl tyX2 tyX2_ok nmX2 rfl rfl rfl rfl (Nat.le_of_ble_eq_true rfl) (wNet q Y (sU (sU (sU (sU I 0 n) 1 0) 2 0) 3 1) A) rfl dX2_begin_17 rfl ?_
  refine g_aload_n C (n' := 21) 0 rfl dX2_begin_20 rfl rfl ?_
  refine g_bipush C (n' := 23) (by decide) dX2_begin_21 rfl ?_
  refine g_put C (n' := 26) (Cn := RX2) (T := TX2) (N := 10) (ci := 1) (v := .int (iI 99)) ga_X2 0 rfl rfl 4 (by decide) kw_70 rfl tyX2 tyX2_ok nmX2 rfl rfl rfl rfl (Nat.le_of_ble_eq_true rfl) (wNet q Y (sU (sU (sU (sU (sU I 0 n) 1 0) 2 0) 3 1) 4 99) A) rfl dX2_begin_23 rfl ?_
  refine g_aload_n C (n' := 27) 0 rfl dX2_begin_26 rfl rfl ?_
  refine g_iconst C (n' := 28) dX2_begin_27 rfl ?_
  refine g_put C (n' := 31) (Cn := RX2) (T := TX2) (N := 10) (ci := 1) (v := .int (iI 0)) ga_X2 0 rfl rfl 5 (by decide) kw_74 rfl tyX2 tyX2_ok nmX2 rfl rfl rfl rfl (Nat.le_of_ble_eq_true rfl) (wNet q Y (sU (sU (sU (sU (sU (sU I 0 n) 1 0) 2 0) 3 1) 4 99) 5 0) A) rfl dX2_begin_28 rfl ?_
  refine g_vret C hr hlk ⟨rfl, ?_⟩ dX2_begin_31
  first | rfl | omega | ((repeat' split) <;> first | rfl | omega | (exfalso; omega))
set_option maxRecDepth 100000 in
set_option maxHeartbeats 4000000 in
theorem c_X2_hasAllPaths (l : Launch) (D : va_G) (Y : Nat → ClassId) {E : (Nat → Prop) → State → Heap → Prop} (hE : g_Stab E) (q : Nat → Nat) (I : Nat → Int) (A : Nat → Nat → Int) (hsI : smI I) (hsA : smA A) : g_Ct l yX2_hasAllPaths cX2_hasAllPaths 1 (some FieldType.boolean) ({ frames := 0, cells := 0, slots := 0, locals := 0 } : Room) D (tysY Y) E [.ref (q 99)] (wNet q Y I A) 0 0 (g_det (some (.int (iI (if 16 ≤ I 5 then 1 else 0)))) (wNet q Y I A)) := by
  refine g_ofG (own := RX2) hE (by decide) rfl (Nat.le_of_ble_eq_true rfl) [(0, .ref (q 99))] rfl ?_
  intro p9 e9 s9 m9 b9 t9 c9 A9 C hr hlk hnm
  have hI := hsI
  have hA := hsA
  unfold smI at hI
  unfold smA at hA
  refine g_aload_n C (n' := 1) 0 rfl dX2_hasAllPaths_0 rfl rfl ?_
  refine g_get C (n' := 4) (Cn := RX2) (T := TX2) (N := 10) (ci := 1) (v := .int (iI (I 5))) ga_X2 0 rfl rfl 5 (by decide) kw_74 rfl rfl dX2_hasAllPaths_1 rfl ?_
  have h_1 := hI 5
  refine g_bipush C (n' := 6) (by decide) dX2_hasAllPaths_4 rfl ?_
  refine g_icmp_lt C (n' := 9) 13 dX2_hasAllPaths_6 (by decide) rfl (by unfold inR; omega) (by unfold inR; omega) (fun c1 => ?_) (fun c1 => ?_)
  · skip
    refine g_iconst C (n' := 14) dX2_hasAllPaths_13 rfl ?_
    refine g_iret C hr hlk (nar_z (by omega)) ⟨congrArg (fun z : Int => some (Value.int (iI z))) ?_, ?_⟩ dX2_hasAllPaths_14
    · first | rfl | omega | ((repeat' split) <;> first | rfl | omega | (exfalso; omega))
    · first | rfl | omega | ((repeat' split) <;> first | rfl | omega | (exfalso; omega))
  · skip
    refine g_iconst C (n' := 10) dX2_hasAllPaths_9 rfl ?_
    refine g_goto C 14 dX2_hasAllPaths_10 (by decide) ?_
    refine g_iret C hr hlk (nar_z (by omega)) ⟨congrArg (fun z : Int => some (Value.int (iI z))) ?_, ?_⟩ dX2_hasAllPaths_14
    · first | rfl | omega | ((repeat' split) <;> first | rfl | omega | (exfalso; omega))
    · first | rfl | omega | ((repeat' split) <;> first | rfl | omega | (exfalso; omega))
set_option maxRecDepth 100000 in
set_option maxHeartbeats 4000000 in
theorem c_X2_canBeSlower (l : Launch) (D : va_G) (Y : Nat → ClassId) {E : (Nat → Prop) → State → Heap → Prop} (hE : g_Stab E) (q : Nat → Nat) (I : Nat → Int) (A : Nat → Nat → Int) (p : Int) (n : Int) (hsI : smI I) (hsA : smA A) (hp0 : 0 ≤ p) (hp1 : p < 16) (hn : -100 ≤ n ∧ n ≤ 100) : g_Ct l yX2_canBeSlower cX2_canBeSlower 3 (some FieldType.boolean) ({ frames := 0, cells := 0, slots := 0, locals := 0 } : Room) D (tysY Y) E [.ref (q 99), .int (iI p), .int (iI n)] (wNet q Y I A) 0 0 (g_det (some (.int (iI (if A 8 p.toNat + n ≤ 199 then 1 else 0)))) (wNet q Y I A)) := by
  refine g_ofG (own := RX2) hE (by decide) rfl (Nat.le_of_ble_eq_true rfl) [(0, .ref (q 99)), (1, .int (iI p)), (2, .int (iI n))] rfl ?_
  intro p9 e9 s9 m9 b9 t9 c9 A9 C hr hlk hnm
  have hI := hsI
  have hA := hsA
  unfold smI at hI
  unfold smA at hA
  refine g_aload_n C (n' := 1) 0 rfl dX2_canBeSlower_0 rfl rfl ?_
  refine g_get C (n' := 4) (Cn := RX2) (T := TX2) (N := 10) (ci := 1) (v := .ref (q 8)) ga_X2 0 rfl rfl 8 (by decide) kw_83 rfl rfl dX2_canBeSlower_1 rfl ?_
  refine g_iload_n C (n' := 5) 1 rfl dX2_canBeSlower_4 rfl rfl ?_
  refine g_iald C (n' := 6) (f := (A 8)) 3 0 rfl rfl (by omega) (by omega) (by decide) rfl dX2_canBeSlower_5 rfl ?_
  have h_5 := hA 8 p.toNat
  refine g_iload_n C (n' := 7) 2 rfl dX2_canBeSlower_6 rfl rfl ?_
  refine g_iadd C (n' := 8) dX2_canBeSlower_7 rfl ?_
  refine g_sipush C (n' := 11) (by decide) dX2_canBeSlower_8 rfl ?_
  refine g_icmp_gt C (n' := 14) 18 dX2_canBeSlower_11 (by decide) rfl (by unfold inR; omega) (by unfold inR; omega) (fun c1 => ?_) (fun c1 => ?_)
  · skip
    refine g_iconst C (n' := 19) dX2_canBeSlower_18 rfl ?_
    refine g_iret C hr hlk (nar_z (by omega)) ⟨congrArg (fun z : Int => some (Value.int (iI z))) ?_, ?_⟩ dX2_canBeSlower_19
    · first | rfl | omega | ((repeat' split) <;> first | rfl | omega | (exfalso; omega))
    · first | rfl | omega | ((repeat' split) <;> first | rfl | omega | (exfalso; omega))
  · skip
    refine g_iconst C (n' := 15) dX2_canBeSlower_14 rfl ?_
    refine g_goto C 19 dX2_canBeSlower_15 (by decide) ?_
    refine g_iret C hr hlk (nar_z (by omega)) ⟨congrArg (fun z : Int => some (Value.int (iI z))) ?_, ?_⟩ dX2_canBeSlower_19
    · first | rfl | omega | ((repeat' split) <;> first | rfl | omega | (exfalso; omega))
    · first | rfl | omega | ((repeat' split) <;> first | rfl | omega | (exfalso; omega))
set_option maxRecDepth 100000 in
set_option maxHeartbeats 4000000 in
theorem c_X2_delay (l : Launch) (D : va_G) (Y : Nat → ClassId) {E : (Nat → Prop) → State → Heap → Prop} (hE : g_Stab E) (q : Nat → Nat) (I : Nat → Int) (A : Nat → Nat → Int) (p : Int) (n : Int) (hp0 : 0 ≤ p) (hp1 : p < 16) : g_Ct l yX2_delay cX2_delay 3 none ({ frames := 0, cells := 0, slots := 0, locals := 0 } : Room) D (tysY Y) E [.ref (q 99), .int (iI p), .int (iI n)] (wNet q Y I A) 0 0 (g_det none (wNet q Y I (n_slow A p n))) := by
  refine g_ofG (own := RX2) hE (by decide) rfl (Nat.le_of_ble_eq_true rfl) [(0, .ref (q 99)), (1, .int (iI p)), (2, .int (iI n))] rfl ?_
  intro p9 e9 s9 m9 b9 t9 c9 A9 C hr hlk hnm
  refine g_aload_n C (n' := 1) 0 rfl dX2_delay_0 rfl rfl ?_
  refine g_get C (n' := 4) (Cn := RX2) (T := TX2) (N := 10) (ci := 1) (v := .ref (q 8)) ga_X2 0 rfl rfl 8 (by decide) kw_83 rfl rfl dX2_delay_1 rfl ?_
  refine g_iload_n C (n' := 5) 1 rfl dX2_delay_4 rfl rfl ?_
  refine g_dup2 C (n' := 6) rfl rfl dX2_delay_5 rfl ?_
  refine g_iald C (n' := 7) (f := (A 8)) 3 0 rfl rfl (by omega) (by omega) (by decide) rfl dX2_delay_6 rfl ?_
  refine g_iload_n C (n' := 8) 2 rfl dX2_delay_7 rfl rfl ?_
  refine g_iadd C (n' := 9) dX2_delay_8 rfl ?_
  refine g_iast C (n' := 10) (f := (A 8)) 3 0 rfl rfl (by omega) (by omega) (by decide) rfl dX2_delay_9 rfl (wNet q Y I (sU A 8 (sU (A 8) p.toNat (((A 8) p.toNat) + n)))) rfl ?_
  refine g_aload_n C (n' := 11) 0 rfl dX2_delay_10 rfl rfl ?_
  refine g_get C (n' := 14) (Cn := RX2) (T := TX2) (N := 10) (ci := 1) (v := .ref (q 9)) ga_X2 0 rfl rfl 9 (by decide) kw_86 rfl rfl dX2_delay_11 rfl ?_
  refine g_iload_n C (n' := 15) 1 rfl dX2_delay_14 rfl rfl ?_
  refine g_dup2 C (n' := 16) rfl rfl dX2_delay_15 rfl ?_
  refine g_iald C (n' := 17) (f := (A 9)) 4 0 rfl rfl (by omega) (by omega) (by decide) rfl dX2_delay_16 rfl ?_
  refine g_iload_n C (n' := 18) 2 rfl dX2_delay_17 rfl rfl ?_
  refine g_iadd C (n' := 19) dX2_delay_18 rfl ?_
  refine g_iast C (n' := 20) (f := (A 9)) 4 0 rfl rfl (by omega) (by omega) (by decide) rfl dX2_delay_19 rfl (wNet q Y I (sU (sU A 8 (sU (A 8) p.toNat (((A 8) p.toNat) + n))) 9 (sU (A 9) p.toNat (((A 9) p.toNat) + n)))) rfl ?_
  refine g_vret C hr hlk ⟨rfl, ?_⟩ dX2_delay_20
  first | rfl | omega | ((repeat' split) <;> first | rfl | omega | (exfalso; omega))
set_option maxRecDepth 100000 in
set_option maxHeartbeats 4000000 in
theorem c_X2_lateBound (l : Launch) (D : va_G) (Y : Nat → ClassId) {E : (Nat → Prop) → State → Heap → Prop} (hE : g_Stab E) (q : Nat → Nat) (I : Nat → Int) (A : Nat → Nat → Int) (p : Int) (hp0 : 0 ≤ p) (hp1 : p < 16) : g_Ct l yX2_lateBound cX2_lateBound 2 (some FieldType.int) ({ frames := 0, cells := 0, slots := 0, locals := 0 } : Room) D (tysY Y) E [.ref (q 99), .int (iI p)] (wNet q Y I A) 0 0 (g_det (some (.int (iI (n_late I A p)))) (wNet q Y I A)) := by
  refine g_ofG (own := RX2) hE (by decide) rfl (Nat.le_of_ble_eq_true rfl) [(0, .ref (q 99)), (1, .int (iI p))] rfl ?_
  intro p9 e9 s9 m9 b9 t9 c9 A9 C hr hlk hnm
  refine g_aload_n C (n' := 1) 0 rfl dX2_lateBound_0 rfl rfl ?_
  refine g_get C (n' := 4) (Cn := RX2) (T := TX2) (N := 10) (ci := 1) (v := .int (iI (I 4))) ga_X2 0 rfl rfl 4 (by decide) kw_70 rfl rfl dX2_lateBound_1 rfl ?_
  refine g_aload_n C (n' := 5) 0 rfl dX2_lateBound_4 rfl rfl ?_
  refine g_get C (n' := 8) (Cn := RX2) (T := TX2) (N := 10) (ci := 1) (v := .ref (q 8)) ga_X2 0 rfl rfl 8 (by decide) kw_83 rfl rfl dX2_lateBound_5 rfl ?_
  refine g_iload_n C (n' := 9) 1 rfl dX2_lateBound_8 rfl rfl ?_
  refine g_iald C (n' := 10) (f := (A 8)) 3 0 rfl rfl (by omega) (by omega) (by decide) rfl dX2_lateBound_9 rfl ?_
  refine g_isub C (n' := 11) dX2_lateBound_10 rfl ?_
  refine g_aload_n C (n' := 12) 0 rfl dX2_lateBound_11 rfl rfl ?_
  refine g_get C (n' := 15) (Cn := RX2) (T := TX2) (N := 10) (ci := 1) (v := .int (iI (I 1))) ga_X2 0 rfl rfl 1 (by decide) kw_62 rfl rfl dX2_lateBound_12 rfl ?_
  refine g_isub C (n' := 16) dX2_lateBound_15 rfl ?_
  refine g_iret C hr hlk rfl ⟨congrArg (fun z : Int => some (Value.int (iI z))) ?_, ?_⟩ dX2_lateBound_16
  · first | rfl | omega | ((repeat' split) <;> first | rfl | omega | (exfalso; omega))
  · first | rfl | omega | ((repeat' split) <;> first | rfl | omega | (exfalso; omega))
set_option maxRecDepth 100000 in
set_option maxHeartbeats 4000000 in
theorem c_X2_soonBound (l : Launch) (D : va_G) (Y : Nat → ClassId) {E : (Nat → Prop) → State → Heap → Prop} (hE : g_Stab E) (q : Nat → Nat) (I : Nat → Int) (A : Nat → Nat → Int) (p : Int) (hp0 : 0 ≤ p) (hp1 : p < 16) : g_Ct l yX2_soonBound cX2_soonBound 2 (some FieldType.int) ({ frames := 0, cells := 0, slots := 0, locals := 0 } : Room) D (tysY Y) E [.ref (q 99), .int (iI p)] (wNet q Y I A) 0 0 (g_det (some (.int (iI (n_soon I A p)))) (wNet q Y I A)) := by
  refine g_ofG (own := RX2) hE (by decide) rfl (Nat.le_of_ble_eq_true rfl) [(0, .ref (q 99)), (1, .int (iI p))] rfl ?_
  intro p9 e9 s9 m9 b9 t9 c9 A9 C hr hlk hnm
  refine g_aload_n C (n' := 1) 0 rfl dX2_soonBound_0 rfl rfl ?_
  refine g_get C (n' := 4) (Cn := RX2) (T := TX2) (N := 10) (ci := 1) (v := .ref (q 9)) ga_X2 0 rfl rfl 9 (by decide) kw_86 rfl rfl dX2_soonBound_1 rfl ?_
  refine g_iload_n C (n' := 5) 1 rfl dX2_soonBound_4 rfl rfl ?_
  refine g_iald C (n' := 6) (f := (A 9)) 4 0 rfl rfl (by omega) (by omega) (by decide) rfl dX2_soonBound_5 rfl ?_
  refine g_aload_n C (n' := 7) 0 rfl dX2_soonBound_6 rfl rfl ?_
  refine g_get C (n' := 10) (Cn := RX2) (T := TX2) (N := 10) (ci := 1) (v := .int (iI (I 2))) ga_X2 0 rfl rfl 2 (by decide) kw_65 rfl rfl dX2_soonBound_7 rfl ?_
  refine g_isub C (n' := 11) dX2_soonBound_10 rfl ?_
  refine g_iret C hr hlk rfl ⟨congrArg (fun z : Int => some (Value.int (iI z))) ?_, ?_⟩ dX2_soonBound_11
  · first | rfl | omega | ((repeat' split) <;> first | rfl | omega | (exfalso; omega))
  · first | rfl | omega | ((repeat' split) <;> first | rfl | omega | (exfalso; omega))
set_option maxRecDepth 100000 in
set_option maxHeartbeats 4000000 in
theorem lp_X2_ts {p9 : Program} {l : Launch} {e9 : Env} {s9 : State} {m9 : MethodId} {a9 : Array Value} {b9 : List Frame} {t9 : Method} {c9 : Code} {D : va_G} {A9 : Nat → Prop} {Q9 : State → Prop} {E : (Nat → Prop) → State → Heap → Prop} {Y : Nat → ClassId} (C : g_Cx p9 s9 m9 a9 c9 cX2_tooSoonCount 3 RX2 D (tysY Y) A9 E) (q : Nat → Nat) (I : Nat → Int) (A : Nat → Nat → Int) (hsI : smI I) (hsA : smA A) (hP : 0 ≤ I 5 ∧ I 5 ≤ 16) : ∀ (n9 : Nat) (i : Nat), (i : Int) + n9 = I 5 → (g_G p9 l e9 ({ frames := 1, cells := 0, slots := 0, locals := 21 } : Room) s9 m9 a9 b9 t9 c9 3 D A9 Q9 0 0 (wNet q Y I A) [(2, .int (iI (((I 5).toNat : Nat) : Int))), (1, .int (iI (n_ts I A ((I 5).toNat)))), (0, .ref (q 99))] 29 []) → g_G p9 l e9 ({ frames := 1, cells := 0, slots := 0, locals := 21 } : Room) s9 m9 a9 b9 t9 c9 3 D A9 Q9 0 0 (wNet q Y I A) [(2, .int (iI ((i : Nat) : Int))), (1, .int (iI (n_ts I A i))), (0, .ref (q 99))] 4 [] := by
  have hE := C.2.2.2.2.2.2.2.2.1
  intro n9
  induction n9 with
  | zero =>
    intro i hi K
    have hI := hsI
    have hA := hsA
    unfold smI at hI
    unfold smA at hA
    have hts := n_ts_r I A i
    refine g_iload_n C (n' := 5) 0 rfl dX2_tooSoonCount_4 rfl rfl ?_
    refine g_aload_n C (n' := 6) 2 rfl dX2_tooSoonCount_5 rfl rfl ?_
    refine g_get C (n' := 9) (Cn := RX2) (T := TX2) (N := 10) (ci := 1) (v := .int (iI (I 5))) ga_X2 0 rfl rfl 5 (by decide) kw_74 rfl rfl dX2_tooSoonCount_6 rfl ?_
    have h_6 := hI 5
    refine g_icmp_ge C (n' := 12) 29 dX2_tooSoonCount_9 (by decide) rfl (by unfold inR; omega) (by unfold inR; omega) (fun c1 => ?_) (fun c1 => ?_)
    · skip
      have e5 : (I 5).toNat = i := by omega
      rw [e5] at K
      exact K
    · skip
      exfalso
      omega
  | succ n9 ih =>
    intro i hi K
    have hI := hsI
    have hA := hsA
    unfold smI at hI
    unfold smA at hA
    have hts := n_ts_r I A i
    have h5 := hI 5
    refine g_iload_n C (n' := 5) 0 rfl dX2_tooSoonCount_4 rfl rfl ?_
    refine g_aload_n C (n' := 6) 2 rfl dX2_tooSoonCount_5 rfl rfl ?_
    refine g_get C (n' := 9) (Cn := RX2) (T := TX2) (N := 10) (ci := 1) (v := .int (iI (I 5))) ga_X2 0 rfl rfl 5 (by decide) kw_74 rfl rfl dX2_tooSoonCount_6 rfl ?_
    have h_6 := hI 5
    refine g_icmp_ge C (n' := 12) 29 dX2_tooSoonCount_9 (by decide) rfl (by unfold inR; omega) (by unfold inR; omega) (fun c1 => ?_) (fun c1 => ?_)
    · skip
      exfalso
      omega
    · skip
      refine g_aload_n C (n' := 13) 2 rfl dX2_tooSoonCount_12 rfl rfl ?_
      refine g_iload_n C (n' := 14) 0 rfl dX2_tooSoonCount_13 rfl rfl ?_
      refine g_cVv C (n' := 17) (v := .int (iI (n_soon I A ((i : Nat) : Int)))) (c_X2_soonBound l D Y C.2.2.2.2.2.2.2.2.1 q I A ((i : Nat) : Int) (by omega) (by omega)) 1 kw_675 kc_X2_soonBound (by decide +kernel) (pm0 _) 0 (ci := 1) rfl rfl rfl rfl ⟨Nat.le_of_ble_eq_true rfl, Nat.le_of_ble_eq_true rfl⟩ ⟨rfl, rfl⟩ ⟨Nat.le_of_ble_eq_true rfl, Nat.le_of_ble_eq_true rfl⟩ (Nat.le_of_ble_eq_true rfl) dX2_tooSoonCount_14 rfl rfl (wNet q Y I A) (pm0' _) ?_
      have hs := n_soon_r hsI hsA (i : Int)
      refine g_if_ge C (n' := 20) 23 dX2_tooSoonCount_17 (by decide) rfl (by unfold inR; omega) (fun c2 => ?_) (fun c2 => ?_)
      · skip
        refine g_iinc C (n' := 26) 0 [(2, .int (iI (((i : Nat) : Int) + 1))), (1, .int (iI (n_ts I A i))), (0, .ref (q 99))] rfl dX2_tooSoonCount_23 rfl (by decide) rfl ?_
        refine g_goto C 4 dX2_tooSoonCount_26 (by decide) ?_
        rw [show ((n_ts I A i) : Int) = n_ts I A (i + 1) from by rw [n_ts, if_neg (by unfold n_soon at c2; simp only [Int.toNat_natCast] at c2; omega), Int.add_zero]]
        rw [show (((i : Nat) : Int) + 1 : Int) = ((i + 1 : Nat) : Int) from rfl]
        refine g_lv [0, 1, 2] rfl ?_
        exact ih (i + 1) (by omega) K
      · skip
        refine g_iinc C (n' := 23) 1 [(1, .int (iI ((n_ts I A i) + 1))), (2, .int (iI ((i : Nat) : Int))), (0, .ref (q 99))] rfl dX2_tooSoonCount_20 rfl (by decide) rfl ?_
        refine g_iinc C (n' := 26) 1 [(2, .int (iI (((i : Nat) : Int) + 1))), (1, .int (iI ((n_ts I A i) + 1))), (0, .ref (q 99))] rfl dX2_tooSoonCount_23 rfl (by decide) rfl ?_
        refine g_goto C 4 dX2_tooSoonCount_26 (by decide) ?_
        rw [show (((n_ts I A i) + 1) : Int) = n_ts I A (i + 1) from by rw [n_ts, if_pos (by unfold n_soon at c2; simp only [Int.toNat_natCast] at c2; omega)]]
        rw [show (((i : Nat) : Int) + 1 : Int) = ((i + 1 : Nat) : Int) from rfl]
        refine g_lv [0, 1, 2] rfl ?_
        exact ih (i + 1) (by omega) K
set_option maxRecDepth 100000 in
set_option maxHeartbeats 4000000 in
theorem c_X2_tooSoonCount (l : Launch) (D : va_G) (Y : Nat → ClassId) {E : (Nat → Prop) → State → Heap → Prop} (hE : g_Stab E) (q : Nat → Nat) (I : Nat → Int) (A : Nat → Nat → Int) (hsI : smI I) (hsA : smA A) (hP : 0 ≤ I 5 ∧ I 5 ≤ 16) : g_Ct l yX2_tooSoonCount cX2_tooSoonCount 3 (some FieldType.int) ({ frames := 1, cells := 0, slots := 0, locals := 21 } : Room) D (tysY Y) E [.ref (q 99)] (wNet q Y I A) 0 0 (g_det (some (.int (iI (n_ts I A (I 5).toNat)))) (wNet q Y I A)) := by
  refine g_ofG (own := RX2) hE (by decide) rfl (Nat.le_of_ble_eq_true rfl) [(0, .ref (q 99))] rfl ?_
  intro p9 e9 s9 m9 b9 t9 c9 A9 C hr hlk hnm
  have hI := hsI
  have hA := hsA
  unfold smI at hI
  unfold smA at hA
  refine g_iconst C (n' := 1) dX2_tooSoonCount_0 rfl ?_
  refine g_istore_n C (n' := 2) [(1, .int (iI 0)), (0, .ref (q 99))] dX2_tooSoonCount_1 rfl rfl (by decide) rfl ?_
  refine g_iconst C (n' := 3) dX2_tooSoonCount_2 rfl ?_
  refine g_istore_n C (n' := 4) [(2, .int (iI 0)), (1, .int (iI 0)), (0, .ref (q 99))] dX2_tooSoonCount_3 rfl rfl (by decide) rfl ?_
  refine g_lv [0, 1, 2] rfl ?_
  refine lp_X2_ts C q I A hsI hsA hP (I 5).toNat 0 (by omega) ?_
  refine g_iload_n C (n' := 30) 1 rfl dX2_tooSoonCount_29 rfl rfl ?_
  refine g_iret C hr hlk rfl ⟨congrArg (fun z : Int => some (Value.int (iI z))) ?_, ?_⟩ dX2_tooSoonCount_30
  · first | rfl | omega | ((repeat' split) <;> first | rfl | omega | (exfalso; omega))
  · first | rfl | omega | ((repeat' split) <;> first | rfl | omega | (exfalso; omega))
set_option maxRecDepth 100000 in
set_option maxHeartbeats 4000000 in
theorem c_X2_addPath (l : Launch) (D : va_G) (Y : Nat → ClassId) {E : (Nat → Prop) → State → Heap → Prop} (hE : g_Stab E) (q : Nat → Nat) (I : Nat → Int) (A : Nat → Nat → Int) (a : Int) (b : Int) (u : Int) (v : Int) (hsI : smI I) (hsA : smA A) (hP : 0 ≤ I 5 ∧ I 5 ≤ 16) : g_Ct l yX2_addPath cX2_addPath 5 none ({ frames := 1, cells := 0, slots := 0, locals := 20 } : Room) D (tysY Y) E [.ref (q 99), .int (iI a), .int (iI b), .int (iI u), .int (iI v)] (wNet q Y I A) 0 0 (g_det none (wNet q Y (n_addI I) (n_addA I A a b u v))) := by
  refine g_ofG (own := RX2) hE (by decide) rfl (Nat.le_of_ble_eq_true rfl) [(0, .ref (q 99)), (1, .int (iI a)), (2, .int (iI b)), (3, .int (iI u)), (4, .int (iI v))] rfl ?_
  intro p9 e9 s9 m9 b9 t9 c9 A9 C hr hlk hnm
  have hI := hsI
  have hA := hsA
  unfold smI at hI
  unfold smA at hA
  refine g_aload_n C (n' := 1) 0 rfl dX2_addPath_0 rfl rfl ?_
  refine g_cVv C (n' := 4) (v := .int (iI (if 16 ≤ (I 5) then 1 else 0))) (c_X2_hasAllPaths l D Y C.2.2.2.2.2.2.2.2.1 q I A hsI hsA) 0 kw_346 kc_X2_hasAllPaths (by decide +kernel) (pm0 _) 0 (ci := 1) rfl rfl rfl rfl ⟨Nat.le_of_ble_eq_true rfl, Nat.le_of_ble_eq_true rfl⟩ ⟨rfl, rfl⟩ ⟨Nat.le_of_ble_eq_true rfl, Nat.le_of_ble_eq_true rfl⟩ (Nat.le_of_ble_eq_true rfl) dX2_addPath_1 rfl rfl (wNet q Y I A) (pm0' _) ?_
  refine g_if_eq C (n' := 7) 8 dX2_addPath_4 (by decide) rfl bz_r (fun c1 => ?_) (fun c1 => ?_)
  · skip
    replace c1 := bz_eq.mp c1
    refine g_aload_n C (n' := 9) 0 rfl dX2_addPath_8 rfl rfl ?_
    refine g_get C (n' := 12) (Cn := RX2) (T := TX2) (N := 10) (ci := 1) (v := .ref (q 6)) ga_X2 0 rfl rfl 6 (by decide) kw_77 rfl rfl dX2_addPath_9 rfl ?_
    refine g_aload_n C (n' := 13) 0 rfl dX2_addPath_12 rfl rfl ?_
    refine g_get C (n' := 16) (Cn := RX2) (T := TX2) (N := 10) (ci := 1) (v := .int (iI (I 5))) ga_X2 0 rfl rfl 5 (by decide) kw_74 rfl rfl dX2_addPath_13 rfl ?_
    have h_13 := hI 5
    refine g_iload_n C (n' := 17) 1 rfl dX2_addPath_16 rfl rfl ?_
    refine g_iast C (n' := 18) (f := (A 6)) 1 0 rfl rfl (by omega) (by omega) (by decide) rfl dX2_addPath_17 rfl (wNet q Y I (sU A 6 (sU (A 6) (I 5).toNat a))) rfl ?_
    refine g_aload_n C (n' := 19) 0 rfl dX2_addPath_18 rfl rfl ?_
    refine g_get C (n' := 22) (Cn := RX2) (T := TX2) (N := 10) (ci := 1) (v := .ref (q 7)) ga_X2 0 rfl rfl 7 (by decide) kw_80 rfl rfl dX2_addPath_19 rfl ?_
    refine g_aload_n C (n' := 23) 0 rfl dX2_addPath_22 rfl rfl ?_
    refine g_get C (n' := 26) (Cn := RX2) (T := TX2) (N := 10) (ci := 1) (v := .int (iI (I 5))) ga_X2 0 rfl rfl 5 (by decide) kw_74 rfl rfl dX2_addPath_23 rfl ?_
    have h_23 := hI 5
    refine g_iload_n C (n' := 27) 2 rfl dX2_addPath_26 rfl rfl ?_
    refine g_iast C (n' := 28) (f := (A 7)) 2 0 rfl rfl (by omega) (by omega) (by decide) rfl dX2_addPath_27 rfl (wNet q Y I (sU (sU A 6 (sU (A 6) (I 5).toNat a)) 7 (sU (A 7) (I 5).toNat b))) rfl ?_
    refine g_aload_n C (n' := 29) 0 rfl dX2_addPath_28 rfl rfl ?_
    refine g_get C (n' := 32) (Cn := RX2) (T := TX2) (N := 10) (ci := 1) (v := .ref (q 8)) ga_X2 0 rfl rfl 8 (by decide) kw_83 rfl rfl dX2_addPath_29 rfl ?_
    refine g_aload_n C (n' := 33) 0 rfl dX2_addPath_32 rfl rfl ?_
    refine g_get C (n' := 36) (Cn := RX2) (T := TX2) (N := 10) (ci := 1) (v := .int (iI (I 5))) ga_X2 0 rfl rfl 5 (by decide) kw_74 rfl rfl dX2_addPath_33 rfl ?_
    have h_33 := hI 5
    refine g_iload_n C (n' := 37) 3 rfl dX2_addPath_36 rfl rfl ?_
    refine g_iast C (n' := 38) (f := (A 8)) 3 0 rfl rfl (by omega) (by omega) (by decide) rfl dX2_addPath_37 rfl (wNet q Y I (sU (sU (sU A 6 (sU (A 6) (I 5).toNat a)) 7 (sU (A 7) (I 5).toNat b)) 8 (sU (A 8) (I 5).toNat u))) rfl ?_
    refine g_aload_n C (n' := 39) 0 rfl dX2_addPath_38 rfl rfl ?_
    refine g_get C (n' := 42) (Cn := RX2) (T := TX2) (N := 10) (ci := 1) (v := .ref (q 9)) ga_X2 0 rfl rfl 9 (by decide) kw_86 rfl rfl dX2_addPath_39 rfl ?_
    refine g_aload_n C (n' := 43) 0 rfl dX2_addPath_42 rfl rfl ?_
    refine g_get C (n' := 46) (Cn := RX2) (T := TX2) (N := 10) (ci := 1) (v := .int (iI (I 5))) ga_X2 0 rfl rfl 5 (by decide) kw_74 rfl rfl dX2_addPath_43 rfl ?_
    have h_43 := hI 5
    refine g_iload C (n' := 48) 4 rfl dX2_addPath_46 rfl ?_
    refine g_iast C (n' := 49) (f := (A 9)) 4 0 rfl rfl (by omega) (by omega) (by decide) rfl dX2_addPath_48 rfl (wNet q Y I (sU (sU (sU (sU A 6 (sU (A 6) (I 5).toNat a)) 7 (sU (A 7) (I 5).toNat b)) 8 (sU (A 8) (I 5).toNat u)) 9 (sU (A 9) (I 5).toNat v))) rfl ?_
    refine g_aload_n C (n' := 50) 0 rfl dX2_addPath_49 rfl rfl ?_
    refine g_dup C (n' := 51) rfl dX2_addPath_50 rfl ?_
    refine g_get C (n' := 54) (Cn := RX2) (T := TX2) (N := 10) (ci := 1) (v := .int (iI (I 5))) ga_X2 0 rfl rfl 5 (by decide) kw_74 rfl rfl dX2_addPath_51 rfl ?_
    have h_51 := hI 5
    refine g_iconst C (n' := 55) dX2_addPath_54 rfl ?_
    refine g_iadd C (n' := 56) dX2_addPath_55 rfl ?_
    refine g_put C (n' := 59) (Cn := RX2) (T := TX2) (N := 10) (ci := 1) (v := .int (iI ((I 5) + 1))) ga_X2 0 rfl rfl 5 (by decide) kw_74 rfl tyX2 tyX2_ok nmX2 rfl rfl rfl rfl (Nat.le_of_ble_eq_true rfl) (wNet q Y (sU I 5 ((I 5) + 1)) (sU (sU (sU (sU A 6 (sU (A 6) (I 5).toNat a)) 7 (sU (A 7) (I 5).toNat b)) 8 (sU (A 8) (I 5).toNat u)) 9 (sU (A 9) (I 5).toNat v))) rfl dX2_addPath_56 rfl ?_
    refine g_vret C hr hlk ⟨rfl, ?_⟩ dX2_addPath_59
    (unfold n_addI n_addA; (repeat' split) <;> first | rfl | omega)
  · skip
    replace c1 := bz_neq.mp c1
    refine g_vret C hr hlk ⟨rfl, ?_⟩ dX2_addPath_7
    (unfold n_addI n_addA; (repeat' split) <;> first | rfl | omega)
set_option maxRecDepth 100000 in
set_option maxHeartbeats 4000000 in
theorem c_X2_copyFrom (l : Launch) (D : va_G) (Y : Nat → ClassId) {E : (Nat → Prop) → State → Heap → Prop} (hE : g_Stab E) (q : Nat → Nat) (I : Nat → Int) (A : Nat → Nat → Int) (q2 : Nat → Nat) (J : Nat → Int) (B : Nat → Nat → Int) : g_Ct l yX2_copyFrom cX2_copyFrom 2 none ({ frames := 2, cells := 0, slots := 0, locals := 60 } : Room) D (tysY Y) E [.ref (q 99), .ref (q2 99)] ((wNet q Y I A) ++ (wNet q2 Y J B)) 0 0 (g_det none ((wNet q Y (n_cpI I J) (n_cpA A B)) ++ (wNet q2 Y J B))) := by
  refine g_ofG (own := RX2) hE (by decide) rfl (Nat.le_of_ble_eq_true rfl) [(0, .ref (q 99)), (1, .ref (q2 99))] rfl ?_
  intro p9 e9 s9 m9 b9 t9 c9 A9 C hr hlk hnm
  refine g_aload_n C (n' := 1) 0 rfl dX2_copyFrom_0 rfl rfl ?_
  refine g_aload_n C (n' := 2) 1 rfl dX2_copyFrom_1 rfl rfl ?_
  refine g_get C (n' := 5) (Cn := RX2) (T := TX2) (N := 10) (ci := 1) (v := .int (iI (J 0))) ga_X2 5 rfl rfl 0 (by decide) kw_58 rfl rfl dX2_copyFrom_2 rfl ?_
  refine g_put C (n' := 8) (Cn := RX2) (T := TX2) (N := 10) (ci := 1) (v := .int (iI (J 0))) ga_X2 0 rfl rfl 0 (by decide) kw_58 rfl tyX2 tyX2_ok nmX2 rfl rfl rfl rfl (Nat.le_of_ble_eq_true rfl) ((wNet q Y (sU I 0 (J 0)) A) ++ (wNet q2 Y J B)) rfl dX2_copyFrom_5 rfl ?_
  refine g_aload_n C (n' := 9) 0 rfl dX2_copyFrom_8 rfl rfl ?_
  refine g_aload_n C (n' := 10) 1 rfl dX2_copyFrom_9 rfl rfl ?_
  refine g_get C (n' := 13) (Cn := RX2) (T := TX2) (N := 10) (ci := 1) (v := .int (iI (J 1))) ga_X2 5 rfl rfl 1 (by decide) kw_62 rfl rfl dX2_copyFrom_10 rfl ?_
  refine g_put C (n' := 16) (Cn := RX2) (T := TX2) (N := 10) (ci := 1) (v := .int (iI (J 1))) ga_X2 0 rfl rfl 1 (by decide) kw_62 rfl tyX2 tyX2_ok nmX2 rfl rfl rfl rfl (Nat.le_of_ble_eq_true rfl) ((wNet q Y (sU (sU I 0 (J 0)) 1 (J 1)) A) ++ (wNet q2 Y J B)) rfl dX2_copyFrom_13 rfl ?_
  refine g_aload_n C (n' := 17) 0 rfl dX2_copyFrom_16 rfl rfl ?_
  refine g_aload_n C (n' := 18) 1 rfl dX2_copyFrom_17 rfl rfl ?_
  refine g_get C (n' := 21) (Cn := RX2) (T := TX2) (N := 10) (ci := 1) (v := .int (iI (J 2))) ga_X2 5 rfl rfl 2 (by decide) kw_65 rfl rfl dX2_copyFrom_18 rfl ?_
  refine g_put C (n' := 24) (Cn := RX2) (T := TX2) (N := 10) (ci := 1) (v := .int (iI (J 2))) ga_X2 0 rfl rfl 2 (by decide) kw_65 rfl tyX2 tyX2_ok nmX2 rfl rfl rfl rfl (Nat.le_of_ble_eq_true rfl) ((wNet q Y (sU (sU (sU I 0 (J 0)) 1 (J 1)) 2 (J 2)) A) ++ (wNet q2 Y J B)) rfl dX2_copyFrom_21 rfl ?_
  refine g_aload_n C (n' := 25) 0 rfl dX2_copyFrom_24 rfl rfl ?_
  refine g_aload_n C (n' := 26) 1 rfl dX2_copyFrom_25 rfl rfl ?_
  refine g_get C (n' := 29) (Cn := RX2) (T := TX2) (N := 10) (ci := 1) (v := .int (iI (J 3))) ga_X2 5 rfl rfl 3 (by decide) kw_67 rfl rfl dX2_copyFrom_26 rfl ?_
  refine g_put C (n' := 32) (Cn := RX2) (T := TX2) (N := 10) (ci := 1) (v := .int (iI (J 3))) ga_X2 0 rfl rfl 3 (by decide) kw_67 rfl tyX2 tyX2_ok nmX2 rfl rfl rfl rfl (Nat.le_of_ble_eq_true rfl) ((wNet q Y (sU (sU (sU (sU I 0 (J 0)) 1 (J 1)) 2 (J 2)) 3 (J 3)) A) ++ (wNet q2 Y J B)) rfl dX2_copyFrom_29 rfl ?_
  refine g_aload_n C (n' := 33) 0 rfl dX2_copyFrom_32 rfl rfl ?_
  refine g_aload_n C (n' := 34) 1 rfl dX2_copyFrom_33 rfl rfl ?_
  refine g_get C (n' := 37) (Cn := RX2) (T := TX2) (N := 10) (ci := 1) (v := .int (iI (J 4))) ga_X2 5 rfl rfl 4 (by decide) kw_70 rfl rfl dX2_copyFrom_34 rfl ?_
  refine g_put C (n' := 40) (Cn := RX2) (T := TX2) (N := 10) (ci := 1) (v := .int (iI (J 4))) ga_X2 0 rfl rfl 4 (by decide) kw_70 rfl tyX2 tyX2_ok nmX2 rfl rfl rfl rfl (Nat.le_of_ble_eq_true rfl) ((wNet q Y (sU (sU (sU (sU (sU I 0 (J 0)) 1 (J 1)) 2 (J 2)) 3 (J 3)) 4 (J 4)) A) ++ (wNet q2 Y J B)) rfl dX2_copyFrom_37 rfl ?_
  refine g_aload_n C (n' := 41) 0 rfl dX2_copyFrom_40 rfl rfl ?_
  refine g_aload_n C (n' := 42) 1 rfl dX2_copyFrom_41 rfl rfl ?_
  refine g_get C (n' := 45) (Cn := RX2) (T := TX2) (N := 10) (ci := 1) (v := .int (iI (J 5))) ga_X2 5 rfl rfl 5 (by decide) kw_74 rfl rfl dX2_copyFrom_42 rfl ?_
  refine g_put C (n' := 48) (Cn := RX2) (T := TX2) (N := 10) (ci := 1) (v := .int (iI (J 5))) ga_X2 0 rfl rfl 5 (by decide) kw_74 rfl tyX2 tyX2_ok nmX2 rfl rfl rfl rfl (Nat.le_of_ble_eq_true rfl) ((wNet q Y (sU (sU (sU (sU (sU (sU I 0 (J 0)) 1 (J 1)) 2 (J 2)) 3 (J 3)) 4 (J 4)) 5 (J 5)) A) ++ (wNet q2 Y J B)) rfl dX2_copyFrom_45 rfl ?_
  refine g_aload_n C (n' := 49) 1 rfl dX2_copyFrom_48 rfl rfl ?_
  refine g_get C (n' := 52) (Cn := RX2) (T := TX2) (N := 10) (ci := 1) (v := .ref (q2 6)) ga_X2 5 rfl rfl 6 (by decide) kw_77 rfl rfl dX2_copyFrom_49 rfl ?_
  refine g_iconst C (n' := 53) dX2_copyFrom_52 rfl ?_
  refine g_aload_n C (n' := 54) 0 rfl dX2_copyFrom_53 rfl rfl ?_
  refine g_get C (n' := 57) (Cn := RX2) (T := TX2) (N := 10) (ci := 1) (v := .ref (q 6)) ga_X2 0 rfl rfl 6 (by decide) kw_77 rfl rfl dX2_copyFrom_54 rfl ?_
  refine g_iconst C (n' := 58) dX2_copyFrom_57 rfl ?_
  refine g_bipush C (n' := 60) (by decide) dX2_copyFrom_58 rfl ?_
  refine g_copyi C (n' := 63) 6 1 0 rfl rfl rfl kw_248 kw_250 kw_249 kw_8 (by omega) (by omega) (by omega) (by omega) (Nat.le_of_ble_eq_true rfl) (Nat.le_of_ble_eq_true rfl) dX2_copyFrom_60 rfl ((wNet q Y (sU (sU (sU (sU (sU (sU I 0 (J 0)) 1 (J 1)) 2 (J 2)) 3 (J 3)) 4 (J 4)) 5 (J 5)) (sU A 6 (sC (B 6) (A 6) 16))) ++ (wNet q2 Y J B)) rfl ?_
  refine g_aload_n C (n' := 64) 1 rfl dX2_copyFrom_63 rfl rfl ?_
  refine g_get C (n' := 67) (Cn := RX2) (T := TX2) (N := 10) (ci := 1) (v := .ref (q2 7)) ga_X2 5 rfl rfl 7 (by decide) kw_80 rfl rfl dX2_copyFrom_64 rfl ?_
  refine g_iconst C (n' := 68) dX2_copyFrom_67 rfl ?_
  refine g_aload_n C (n' := 69) 0 rfl dX2_copyFrom_68 rfl rfl ?_
  refine g_get C (n' := 72) (Cn := RX2) (T := TX2) (N := 10) (ci := 1) (v := .ref (q 7)) ga_X2 0 rfl rfl 7 (by decide) kw_80 rfl rfl dX2_copyFrom_69 rfl ?_
  refine g_iconst C (n' := 73) dX2_copyFrom_72 rfl ?_
  refine g_bipush C (n' := 75) (by decide) dX2_copyFrom_73 rfl ?_
  refine g_copyi C (n' := 78) 7 2 0 rfl rfl rfl kw_248 kw_250 kw_249 kw_8 (by omega) (by omega) (by omega) (by omega) (Nat.le_of_ble_eq_true rfl) (Nat.le_of_ble_eq_true rfl) dX2_copyFrom_75 rfl ((wNet q Y (sU (sU (sU (sU (sU (sU I 0 (J 0)) 1 (J 1)) 2 (J 2)) 3 (J 3)) 4 (J 4)) 5 (J 5)) (sU (sU A 6 (sC (B 6) (A 6) 16)) 7 (sC (B 7) (A 7) 16))) ++ (wNet q2 Y J B)) rfl ?_
  refine g_aload_n C (n' := 79) 1 rfl dX2_copyFrom_78 rfl rfl ?_
  refine g_get C (n' := 82) (Cn := RX2) (T := TX2) (N := 10) (ci := 1) (v := .ref (q2 8)) ga_X2 5 rfl rfl 8 (by decide) kw_83 rfl rfl dX2_copyFrom_79 rfl ?_
  refine g_iconst C (n' := 83) dX2_copyFrom_82 rfl ?_
  refine g_aload_n C (n' := 84) 0 rfl dX2_copyFrom_83 rfl rfl ?_
  refine g_get C (n' := 87) (Cn := RX2) (T := TX2) (N := 10) (ci := 1) (v := .ref (q 8)) ga_X2 0 rfl rfl 8 (by decide) kw_83 rfl rfl dX2_copyFrom_84 rfl ?_
  refine g_iconst C (n' := 88) dX2_copyFrom_87 rfl ?_
  refine g_bipush C (n' := 90) (by decide) dX2_copyFrom_88 rfl ?_
  refine g_copyi C (n' := 93) 8 3 0 rfl rfl rfl kw_248 kw_250 kw_249 kw_8 (by omega) (by omega) (by omega) (by omega) (Nat.le_of_ble_eq_true rfl) (Nat.le_of_ble_eq_true rfl) dX2_copyFrom_90 rfl ((wNet q Y (sU (sU (sU (sU (sU (sU I 0 (J 0)) 1 (J 1)) 2 (J 2)) 3 (J 3)) 4 (J 4)) 5 (J 5)) (sU (sU (sU A 6 (sC (B 6) (A 6) 16)) 7 (sC (B 7) (A 7) 16)) 8 (sC (B 8) (A 8) 16))) ++ (wNet q2 Y J B)) rfl ?_
  refine g_aload_n C (n' := 94) 1 rfl dX2_copyFrom_93 rfl rfl ?_
  refine g_get C (n' := 97) (Cn := RX2) (T := TX2) (N := 10) (ci := 1) (v := .ref (q2 9)) ga_X2 5 rfl rfl 9 (by decide) kw_86 rfl rfl dX2_copyFrom_94 rfl ?_
  refine g_iconst C (n' := 98) dX2_copyFrom_97 rfl ?_
  refine g_aload_n C (n' := 99) 0 rfl dX2_copyFrom_98 rfl rfl ?_
  refine g_get C (n' := 102) (Cn := RX2) (T := TX2) (N := 10) (ci := 1) (v := .ref (q 9)) ga_X2 0 rfl rfl 9 (by decide) kw_86 rfl rfl dX2_copyFrom_99 rfl ?_
  refine g_iconst C (n' := 103) dX2_copyFrom_102 rfl ?_
  refine g_bipush C (n' := 105) (by decide) dX2_copyFrom_103 rfl ?_
  refine g_copyi C (n' := 108) 9 4 0 rfl rfl rfl kw_248 kw_250 kw_249 kw_8 (by omega) (by omega) (by omega) (by omega) (Nat.le_of_ble_eq_true rfl) (Nat.le_of_ble_eq_true rfl) dX2_copyFrom_105 rfl ((wNet q Y (sU (sU (sU (sU (sU (sU I 0 (J 0)) 1 (J 1)) 2 (J 2)) 3 (J 3)) 4 (J 4)) 5 (J 5)) (sU (sU (sU (sU A 6 (sC (B 6) (A 6) 16)) 7 (sC (B 7) (A 7) 16)) 8 (sC (B 8) (A 8) 16)) 9 (sC (B 9) (A 9) 16))) ++ (wNet q2 Y J B)) rfl ?_
  refine g_vret C hr hlk ⟨rfl, ?_⟩ dX2_copyFrom_108
  first | rfl | omega | ((repeat' split) <;> first | rfl | omega | (exfalso; omega))
end
section
/-! History -/
def h_pushI (I : Nat → Int) : Nat → Int := sU (sU I 2 ((I 2 + 1).tmod 8)) 3 (if I 3 + 1 ≤ 8 then I 3 + 1 else 8)
def h_pushA (I : Nat → Int) (A : Nat → Nat → Int) (x y : Int) : Nat → Nat → Int := sU (sU A 0 (sU (A 0) (I 2).toNat x)) 1 (sU (A 1) (I 2).toNat y)
def h_nx (I : Nat → Int) : Int := (I 2 + 8 - 1).tmod 8
def h_revI (I : Nat → Int) : Nat → Int := if I 3 = 0 then I else sU (sU I 3 (I 3 - 1)) 2 (h_nx I)
def h_revN (I : Nat → Int) (A : Nat → Nat → Int) (J : Nat → Int) : Nat → Int := if I 3 = 0 then J else if A 0 (h_nx I).toNat = -1 then sU J 4 (A 1 (h_nx I).toNat) else J
def h_revB (I : Nat → Int) (A B : Nat → Nat → Int) : Nat → Nat → Int := if I 3 = 0 then B else if A 0 (h_nx I).toNat = -1 then B else n_slow B (A 0 (h_nx I).toNat) (-(A 1 (h_nx I).toNat))
set_option maxRecDepth 100000 in
set_option maxHeartbeats 4000000 in
theorem c_X1_size (l : Launch) (D : va_G) (Y : Nat → ClassId) {E : (Nat → Prop) → State → Heap → Prop} (hE : g_Stab E) (q : Nat → Nat) (I : Nat → Int) (A : Nat → Nat → Int) : g_Ct l yX1_size cX1_size 1 (some FieldType.int) ({ frames := 0, cells := 0, slots := 0, locals := 0 } : Room) D (tysY Y) E [.ref (q 99)] (wHist q Y I A) 0 0 (g_det (some (.int (iI (I 3)))) (wHist q Y I A)) := by
  refine g_ofG (own := RX1) hE (by decide) rfl (Nat.le_of_ble_eq_true rfl) [(0, .ref (q 99))] rfl ?_
  intro p9 e9 s9 m9 b9 t9 c9 A9 C hr hlk hnm
  refine g_aload_n C (n' := 1) 0 rfl dX1_size_0 rfl rfl ?_
  refine g_get C (n' := 4) (Cn := RX1) (T := TX1) (N := 4) (ci := 0) (v := .int (iI (I 3))) ga_X1 0 rfl rfl 3 (by decide) kw_120 rfl rfl dX1_size_1 rfl ?_
  refine g_iret C hr hlk rfl ⟨congrArg (fun z : Int => some (Value.int (iI z))) ?_, ?_⟩ dX1_size_4
  · first | rfl | omega | ((repeat' split) <;> first | rfl | omega | (exfalso; omega))
  · first | rfl | omega | ((repeat' split) <;> first | rfl | omega | (exfalso; omega))
set_option maxRecDepth 100000 in
set_option maxHeartbeats 4000000 in
theorem c_X1_clear (l : Launch) (D : va_G) (Y : Nat → ClassId) {E : (Nat → Prop) → State → Heap → Prop} (hE : g_Stab E) (q : Nat → Nat) (I : Nat → Int) (A : Nat → Nat → Int) : g_Ct l yX1_clear cX1_clear 1 none ({ frames := 0, cells := 0, slots := 0, locals := 0 } : Room) D (tysY Y) E [.ref (q 99)] (wHist q Y I A) 0 0 (g_det none (wHist q Y (sU I 3 0) A)) := by
  refine g_ofG (own := RX1) hE (by decide) rfl (Nat.le_of_ble_eq_true rfl) [(0, .ref (q 99))] rfl ?_
  intro p9 e9 s9 m9 b9 t9 c9 A9 C hr hlk hnm
  refine g_aload_n C (n' := 1) 0 rfl dX1_clear_0 rfl rfl ?_
  refine g_iconst C (n' := 2) dX1_clear_1 rfl ?_
  refine g_put C (n' := 5) (Cn := RX1) (T := TX1) (N := 4) (ci := 0) (v := .int (iI 0)) ga_X1 0 rfl rfl 3 (by decide) kw_120 rfl tyX1 tyX1_ok nmX1 rfl rfl rfl rfl (Nat.le_of_ble_eq_true rfl) (wHist q Y (sU I 3 0) A) rfl dX1_clear_2 rfl ?_
  refine g_vret C hr hlk ⟨rfl, ?_⟩ dX1_clear_5
  first | rfl | omega | ((repeat' split) <;> first | rfl | omega | (exfalso; omega))
set_option maxRecDepth 100000 in
set_option maxHeartbeats 4000000 in
theorem c_X1_push (l : Launch) (D : va_G) (Y : Nat → ClassId) {E : (Nat → Prop) → State → Heap → Prop} (hE : g_Stab E) (q : Nat → Nat) (I : Nat → Int) (A : Nat → Nat → Int) (x : Int) (y : Int) (hsI : smI I) (hsA : smA A) (h2 : 0 ≤ I 2 ∧ I 2 < 8) (h3 : 0 ≤ I 3 ∧ I 3 ≤ 8) : g_Ct l yX1_push cX1_push 3 none ({ frames := 1, cells := 0, slots := 0, locals := 21 } : Room) D (tysY Y) E [.ref (q 99), .int (iI x), .int (iI y)] (wHist q Y I A) 0 0 (g_det none (wHist q Y (h_pushI I) (h_pushA I A x y))) := by
  refine g_ofG (own := RX1) hE (by decide) rfl (Nat.le_of_ble_eq_true rfl) [(0, .ref (q 99)), (1, .int (iI x)), (2, .int (iI y))] rfl ?_
  intro p9 e9 s9 m9 b9 t9 c9 A9 C hr hlk hnm
  have hI := hsI
  have hA := hsA
  unfold smI at hI
  unfold smA at hA
  refine g_aload_n C (n' := 1) 0 rfl dX1_push_0 rfl rfl ?_
  refine g_get C (n' := 4) (Cn := RX1) (T := TX1) (N := 4) (ci := 0) (v := .ref (q 0)) ga_X1 0 rfl rfl 0 (by decide) kw_117 rfl rfl dX1_push_1 rfl ?_
  refine g_aload_n C (n' := 5) 0 rfl dX1_push_4 rfl rfl ?_
  refine g_get C (n' := 8) (Cn := RX1) (T := TX1) (N := 4) (ci := 0) (v := .int (iI (I 2))) ga_X1 0 rfl rfl 2 (by decide) kw_119 rfl rfl dX1_push_5 rfl ?_
  have h_5 := hI 2
  refine g_iload_n C (n' := 9) 1 rfl dX1_push_8 rfl rfl ?_
  refine g_iast C (n' := 10) (f := (A 0)) 1 0 rfl rfl (by omega) (by omega) (by decide) rfl dX1_push_9 rfl (wHist q Y I (sU A 0 (sU (A 0) (I 2).toNat x))) rfl ?_
  refine g_aload_n C (n' := 11) 0 rfl dX1_push_10 rfl rfl ?_
  refine g_get C (n' := 14) (Cn := RX1) (T := TX1) (N := 4) (ci := 0) (v := .ref (q 1)) ga_X1 0 rfl rfl 1 (by decide) kw_118 rfl rfl dX1_push_11 rfl ?_
  refine g_aload_n C (n' := 15) 0 rfl dX1_push_14 rfl rfl ?_
  refine g_get C (n' := 18) (Cn := RX1) (T := TX1) (N := 4) (ci := 0) (v := .int (iI (I 2))) ga_X1 0 rfl rfl 2 (by decide) kw_119 rfl rfl dX1_push_15 rfl ?_
  have h_15 := hI 2
  refine g_iload_n C (n' := 19) 2 rfl dX1_push_18 rfl rfl ?_
  refine g_iast C (n' := 20) (f := (A 1)) 2 0 rfl rfl (by omega) (by omega) (by decide) rfl dX1_push_19 rfl (wHist q Y I (sU (sU A 0 (sU (A 0) (I 2).toNat x)) 1 (sU (A 1) (I 2).toNat y))) rfl ?_
  refine g_aload_n C (n' := 21) 0 rfl dX1_push_20 rfl rfl ?_
  refine g_aload_n C (n' := 22) 0 rfl dX1_push_21 rfl rfl ?_
  refine g_get C (n' := 25) (Cn := RX1) (T := TX1) (N := 4) (ci := 0) (v := .int (iI (I 2))) ga_X1 0 rfl rfl 2 (by decide) kw_119 rfl rfl dX1_push_22 rfl ?_
  have h_22 := hI 2
  refine g_iconst C (n' := 26) dX1_push_25 rfl ?_
  refine g_iadd C (n' := 27) dX1_push_26 rfl ?_
  refine g_bipush C (n' := 29) (by decide) dX1_push_27 rfl ?_
  refine g_irem C (n' := 30) (by unfold inR; omega) (by unfold inR; omega) (by omega) (fd_r (by unfold inR; omega) (by omega)) dX1_push_29 rfl ?_
  refine g_put C (n' := 33) (Cn := RX1) (T := TX1) (N := 4) (ci := 0) (v := .int (iI (((I 2) + 1).tmod 8))) ga_X1 0 rfl rfl 2 (by decide) kw_119 rfl tyX1 tyX1_ok nmX1 rfl rfl rfl rfl (Nat.le_of_ble_eq_true rfl) (wHist q Y (sU I 2 (((I 2) + 1).tmod 8)) (sU (sU A 0 (sU (A 0) (I 2).toNat x)) 1 (sU (A 1) (I 2).toNat y))) rfl dX1_push_30 rfl ?_
  refine g_aload_n C (n' := 34) 0 rfl dX1_push_33 rfl rfl ?_
  refine g_aload_n C (n' := 35) 0 rfl dX1_push_34 rfl rfl ?_
  refine g_get C (n' := 38) (Cn := RX1) (T := TX1) (N := 4) (ci := 0) (v := .int (iI (I 3))) ga_X1 0 rfl rfl 3 (by decide) kw_120 rfl rfl dX1_push_35 rfl ?_
  have h_35 := hI 3
  refine g_iconst C (n' := 39) dX1_push_38 rfl ?_
  refine g_iadd C (n' := 40) dX1_push_39 rfl ?_
  refine g_bipush C (n' := 42) (by decide) dX1_push_40 rfl ?_
  refine g_cSv C (n' := 45) (v := .int (iI (if ((I 3) + 1) ≤ 8 then ((I 3) + 1) else 8))) (c_J9_min_7cf53 l D Y C.2.2.2.2.2.2.2.2.1 ((I 3) + 1) 8 (by unfold inR at *; omega) (by unfold inR at *; omega)) 2 kw_400 kc_J9_min_7cf53 (by decide +kernel) (pm_n _) rfl ⟨Nat.le_of_ble_eq_true rfl, Nat.le_of_ble_eq_true rfl⟩ ⟨rfl, rfl⟩ ⟨Nat.le_of_ble_eq_true rfl, Nat.le_of_ble_eq_true rfl⟩ (Nat.le_of_ble_eq_true rfl) dX1_push_42 rfl rfl (wHist q Y (sU I 2 (((I 2) + 1).tmod 8)) (sU (sU A 0 (sU (A 0) (I 2).toNat x)) 1 (sU (A 1) (I 2).toNat y))) (pm_n _) ?_
  refine g_put C (n' := 48) (Cn := RX1) (T := TX1) (N := 4) (ci := 0) (v := .int (iI (if ((I 3) + 1) ≤ 8 then ((I 3) + 1) else 8))) ga_X1 0 rfl rfl 3 (by decide) kw_120 rfl tyX1 tyX1_ok nmX1 rfl rfl rfl rfl (Nat.le_of_ble_eq_true rfl) (wHist q Y (sU (sU I 2 (((I 2) + 1).tmod 8)) 3 (if ((I 3) + 1) ≤ 8 then ((I 3) + 1) else 8)) (sU (sU A 0 (sU (A 0) (I 2).toNat x)) 1 (sU (A 1) (I 2).toNat y))) rfl dX1_push_45 rfl ?_
  refine g_vret C hr hlk ⟨rfl, ?_⟩ dX1_push_48
  first | rfl | omega | ((repeat' split) <;> first | rfl | omega | (exfalso; omega))
set_option maxRecDepth 100000 in
set_option maxHeartbeats 4000000 in
theorem c_X1_revertLatest (l : Launch) (D : va_G) (Y : Nat → ClassId) {E : (Nat → Prop) → State → Heap → Prop} (hE : g_Stab E) (q : Nat → Nat) (I : Nat → Int) (A : Nat → Nat → Int) (q2 : Nat → Nat) (J : Nat → Int) (B : Nat → Nat → Int) (hsI : smI I) (hsA : smA A) (h2 : 0 ≤ I 2 ∧ I 2 < 8) (h3 : 0 ≤ I 3 ∧ I 3 ≤ 8) (hq : ∀ k : Nat, A 0 k = -1 ∨ (0 ≤ A 0 k ∧ A 0 k < 16)) : g_Ct l yX1_revertLatest cX1_revertLatest 2 none ({ frames := 1, cells := 0, slots := 0, locals := 22 } : Room) D (tysY Y) E [.ref (q 99), .ref (q2 99)] ((wHist q Y I A) ++ (wNet q2 Y J B)) 0 0 (g_det none ((wHist q Y (h_revI I) A) ++ (wNet q2 Y (h_revN I A J) (h_revB I A B)))) := by
  refine g_ofG (own := RX1) hE (by decide) rfl (Nat.le_of_ble_eq_true rfl) [(0, .ref (q 99)), (1, .ref (q2 99))] rfl ?_
  intro p9 e9 s9 m9 b9 t9 c9 A9 C hr hlk hnm
  have hI := hsI
  have hA := hsA
  unfold smI at hI
  unfold smA at hA
  refine g_aload_n C (n' := 1) 0 rfl dX1_revertLatest_0 rfl rfl ?_
  refine g_get C (n' := 4) (Cn := RX1) (T := TX1) (N := 4) (ci := 0) (v := .int (iI (I 3))) ga_X1 0 rfl rfl 3 (by decide) kw_120 rfl rfl dX1_revertLatest_1 rfl ?_
  have h_1 := hI 3
  refine g_if_ne C (n' := 7) 8 dX1_revertLatest_4 (by decide) rfl (by unfold inR; omega) (fun c1 => ?_) (fun c1 => ?_)
  · skip
    refine g_aload_n C (n' := 9) 0 rfl dX1_revertLatest_8 rfl rfl ?_
    refine g_dup C (n' := 10) rfl dX1_revertLatest_9 rfl ?_
    refine g_get C (n' := 13) (Cn := RX1) (T := TX1) (N := 4) (ci := 0) (v := .int (iI (I 3))) ga_X1 0 rfl rfl 3 (by decide) kw_120 rfl rfl dX1_revertLatest_10 rfl ?_
    have h_10 := hI 3
    refine g_iconst C (n' := 14) dX1_revertLatest_13 rfl ?_
    refine g_isub C (n' := 15) dX1_revertLatest_14 rfl ?_
    refine g_put C (n' := 18) (Cn := RX1) (T := TX1) (N := 4) (ci := 0) (v := .int (iI ((I 3) - 1))) ga_X1 0 rfl rfl 3 (by decide) kw_120 rfl tyX1 tyX1_ok nmX1 rfl rfl rfl rfl (Nat.le_of_ble_eq_true rfl) ((wHist q Y (sU I 3 ((I 3) - 1)) A) ++ (wNet q2 Y J B)) rfl dX1_revertLatest_15 rfl ?_
    refine g_aload_n C (n' := 19) 0 rfl dX1_revertLatest_18 rfl rfl ?_
    refine g_aload_n C (n' := 20) 0 rfl dX1_revertLatest_19 rfl rfl ?_
    refine g_get C (n' := 23) (Cn := RX1) (T := TX1) (N := 4) (ci := 0) (v := .int (iI (I 2))) ga_X1 0 rfl rfl 2 (by decide) kw_119 rfl rfl dX1_revertLatest_20 rfl ?_
    have h_20 := hI 2
    refine g_bipush C (n' := 25) (by decide) dX1_revertLatest_23 rfl ?_
    refine g_iadd C (n' := 26) dX1_revertLatest_25 rfl ?_
    refine g_iconst C (n' := 27) dX1_revertLatest_26 rfl ?_
    refine g_isub C (n' := 28) dX1_revertLatest_27 rfl ?_
    refine g_bipush C (n' := 30) (by decide) dX1_revertLatest_28 rfl ?_
    refine g_irem C (n' := 31) (by unfold inR; omega) (by unfold inR; omega) (by omega) (fd_r (by unfold inR; omega) (by omega)) dX1_revertLatest_30 rfl ?_
    have ht1 := Int.tmod_nonneg 8 (show 0 ≤ I 2 + 8 - 1 by omega)
    have ht2 := Int.tmod_lt_of_pos (I 2 + 8 - 1) (show (0 : Int) < 8 by omega)
    have hq1 := hq ((I 2 + 8 - 1).tmod 8).toNat
    refine g_put C (n' := 34) (Cn := RX1) (T := TX1) (N := 4) (ci := 0) (v := .int (iI ((((I 2) + 8) - 1).tmod 8))) ga_X1 0 rfl rfl 2 (by decide) kw_119 rfl tyX1 tyX1_ok nmX1 rfl rfl rfl rfl (Nat.le_of_ble_eq_true rfl) ((wHist q Y (sU (sU I 3 ((I 3) - 1)) 2 ((((I 2) + 8) - 1).tmod 8)) A) ++ (wNet q2 Y J B)) rfl dX1_revertLatest_31 rfl ?_
    refine g_aload_n C (n' := 35) 0 rfl dX1_revertLatest_34 rfl rfl ?_
    refine g_get C (n' := 38) (Cn := RX1) (T := TX1) (N := 4) (ci := 0) (v := .ref (q 0)) ga_X1 0 rfl rfl 0 (by decide) kw_117 rfl rfl dX1_revertLatest_35 rfl ?_
    refine g_aload_n C (n' := 39) 0 rfl dX1_revertLatest_38 rfl rfl ?_
    refine g_get C (n' := 42) (Cn := RX1) (T := TX1) (N := 4) (ci := 0) (v := .int (iI ((((I 2) + 8) - 1).tmod 8))) ga_X1 0 rfl rfl 2 (by decide) kw_119 rfl rfl dX1_revertLatest_39 rfl ?_
    refine g_iald C (n' := 43) (f := (A 0)) 1 0 rfl rfl (by omega) (by omega) (by decide) rfl dX1_revertLatest_42 rfl ?_
    have h_42 := hA 0 (((((I 2) + 8) - 1).tmod 8).toNat)
    refine g_iconst C (n' := 44) dX1_revertLatest_43 rfl ?_
    refine g_icmp_ne C (n' := 47) 63 dX1_revertLatest_44 (by decide) rfl (by unfold inR; omega) (by unfold inR; omega) (fun c2 => ?_) (fun c2 => ?_)
    · skip
      refine g_aload_n C (n' := 64) 1 rfl dX1_revertLatest_63 rfl rfl ?_
      refine g_aload_n C (n' := 65) 0 rfl dX1_revertLatest_64 rfl rfl ?_
      refine g_get C (n' := 68) (Cn := RX1) (T := TX1) (N := 4) (ci := 0) (v := .ref (q 0)) ga_X1 0 rfl rfl 0 (by decide) kw_117 rfl rfl dX1_revertLatest_65 rfl ?_
      refine g_aload_n C (n' := 69) 0 rfl dX1_revertLatest_68 rfl rfl ?_
      refine g_get C (n' := 72) (Cn := RX1) (T := TX1) (N := 4) (ci := 0) (v := .int (iI ((((I 2) + 8) - 1).tmod 8))) ga_X1 0 rfl rfl 2 (by decide) kw_119 rfl rfl dX1_revertLatest_69 rfl ?_
      refine g_iald C (n' := 73) (f := (A 0)) 1 0 rfl rfl (by omega) (by omega) (by decide) rfl dX1_revertLatest_72 rfl ?_
      have h_72 := hA 0 (((((I 2) + 8) - 1).tmod 8).toNat)
      refine g_aload_n C (n' := 74) 0 rfl dX1_revertLatest_73 rfl rfl ?_
      refine g_get C (n' := 77) (Cn := RX1) (T := TX1) (N := 4) (ci := 0) (v := .ref (q 1)) ga_X1 0 rfl rfl 1 (by decide) kw_118 rfl rfl dX1_revertLatest_74 rfl ?_
      refine g_aload_n C (n' := 78) 0 rfl dX1_revertLatest_77 rfl rfl ?_
      refine g_get C (n' := 81) (Cn := RX1) (T := TX1) (N := 4) (ci := 0) (v := .int (iI ((((I 2) + 8) - 1).tmod 8))) ga_X1 0 rfl rfl 2 (by decide) kw_119 rfl rfl dX1_revertLatest_78 rfl ?_
      refine g_iald C (n' := 82) (f := (A 1)) 2 0 rfl rfl (by omega) (by omega) (by decide) rfl dX1_revertLatest_81 rfl ?_
      have h_81 := hA 1 (((((I 2) + 8) - 1).tmod 8).toNat)
      refine g_ineg C (n' := 83) dX1_revertLatest_82 rfl ?_
      refine g_cVn C (n' := 86) (c_X2_delay l D Y C.2.2.2.2.2.2.2.2.1 q2 J B ((A 0) ((((I 2) + 8) - 1).tmod 8).toNat) (-((A 1) ((((I 2) + 8) - 1).tmod 8).toNat)) (by omega) (by omega)) 2 kw_427 kc_X2_delay (by decide +kernel) List.perm_append_comm 0 (ci := 1) rfl rfl rfl rfl ⟨Nat.le_of_ble_eq_true rfl, Nat.le_of_ble_eq_true rfl⟩ ⟨rfl, rfl⟩ ⟨Nat.le_of_ble_eq_true rfl, Nat.le_of_ble_eq_true rfl⟩ (Nat.le_of_ble_eq_true rfl) dX1_revertLatest_83 rfl rfl ((wHist q Y (sU (sU I 3 ((I 3) - 1)) 2 ((((I 2) + 8) - 1).tmod 8)) A) ++ (wNet q2 Y J (n_slow B ((A 0) ((((I 2) + 8) - 1).tmod 8).toNat) (-((A 1) ((((I 2) + 8) - 1).tmod 8).toNat))))) List.perm_append_comm.symm ?_
      refine g_vret C hr hlk ⟨rfl, ?_⟩ dX1_revertLatest_86
      unfold h_revI h_revN h_revB h_nx
      (repeat' split) <;> first | rfl | omega
    · skip
      refine g_aload_n C (n' := 48) 1 rfl dX1_revertLatest_47 rfl rfl ?_
      refine g_aload_n C (n' := 49) 0 rfl dX1_revertLatest_48 rfl rfl ?_
      refine g_get C (n' := 52) (Cn := RX1) (T := TX1) (N := 4) (ci := 0) (v := .ref (q 1)) ga_X1 0 rfl rfl 1 (by decide) kw_118 rfl rfl dX1_revertLatest_49 rfl ?_
      refine g_aload_n C (n' := 53) 0 rfl dX1_revertLatest_52 rfl rfl ?_
      refine g_get C (n' := 56) (Cn := RX1) (T := TX1) (N := 4) (ci := 0) (v := .int (iI ((((I 2) + 8) - 1).tmod 8))) ga_X1 0 rfl rfl 2 (by decide) kw_119 rfl rfl dX1_revertLatest_53 rfl ?_
      refine g_iald C (n' := 57) (f := (A 1)) 2 0 rfl rfl (by omega) (by omega) (by decide) rfl dX1_revertLatest_56 rfl ?_
      have h_56 := hA 1 (((((I 2) + 8) - 1).tmod 8).toNat)
      refine g_putN C (n' := 60) (Cn := RX2) (T := TX2) (N := 10) (ci := 1) (v := .int (iI ((A 1) ((((I 2) + 8) - 1).tmod 8).toNat))) ga_X2 3 rfl rfl 4 (by decide) (List.mem_of_getElem? (i := 9) rfl) rfl tyX2 tyX2_ok nmX2 rfl rfl rfl rfl (Nat.le_of_ble_eq_true rfl) ((wHist q Y (sU (sU I 3 ((I 3) - 1)) 2 ((((I 2) + 8) - 1).tmod 8)) A) ++ (wNet q2 Y (sU J 4 ((A 1) ((((I 2) + 8) - 1).tmod 8).toNat)) B)) rfl dX1_revertLatest_57 rfl ?_
      refine g_goto C 86 dX1_revertLatest_60 (by decide) ?_
      refine g_vret C hr hlk ⟨rfl, ?_⟩ dX1_revertLatest_86
      unfold h_revI h_revN h_revB h_nx
      (repeat' split) <;> first | rfl | omega
  · skip
    refine g_vret C hr hlk ⟨rfl, ?_⟩ dX1_revertLatest_7
    unfold h_revI h_revN h_revB h_nx
    (repeat' split) <;> first | rfl | omega
end
section
/-! Text: letters, tokens -/
def smL (L : Nat → Int) : Prop := ∀ k : Nat, 0 ≤ L k ∧ L k < 65536
/-- the first place from i on, before n, that is no blank -/
def t_skip (L : Nat → Int) (n : Int) : Nat → Int → Int
  | 0, i => i
  | f + 1, i => if i < n ∧ L i.toNat = 32 then t_skip L n f (i + 1) else i
def t_cls (x : Int) : Int := if 97 ≤ x ∧ x ≤ 122 then 1 else if 48 ≤ x ∧ x ≤ 57 then 2 else 0
def t_run (L : Nat → Int) (n k : Int) : Nat → Int → Int
  | 0, i => i
  | f + 1, i => if i < n ∧ t_cls (L i.toNat) = k then t_run L n k f (i + 1) else i
def t_end (L : Nat → Int) (n s : Int) : Int := if n ≤ s then s else if t_cls (L s.toNat) = 0 then s + 1 else t_run L n (t_cls (L s.toNat)) 200 (s + 1)
def t_adv (I L : Nat → Int) : Nat → Int := sU (sU I 3 (t_skip L (I 1) 200 (I 4))) 4 (t_end L (I 1) (t_skip L (I 1) 200 (I 4)))
def t_val (L : Nat → Int) (s : Nat) : Nat → Int
  | 0 => 0
  | k + 1 => t_val L s k * 10 + (L (s + k) - 48)
def t_num (L : Nat → Int) (n s e lo hi : Int) : Int := if n ≤ s then -1 else if ¬ (48 ≤ L s.toNat ∧ L s.toNat ≤ 57) then -1 else if 3 < e - s then -1 else if lo ≤ t_val L s.toNat (e - s).toNat ∧ t_val L s.toNat (e - s).toNat ≤ hi then t_val L s.toNat (e - s).toNat else -1
theorem t_cls_iff {x y : Int} : t_cls x = t_cls y ↔ (((97 ≤ x ∧ x ≤ 122) ↔ (97 ≤ y ∧ y ≤ 122)) ∧ ((48 ≤ x ∧ x ≤ 57) ↔ (48 ≤ y ∧ y ≤ 57))) := by
  unfold t_cls
  (repeat' split) <;> omega
theorem t_cls_0 {x : Int} (h1 : ¬ (97 ≤ x ∧ x ≤ 122)) (h2 : ¬ (48 ≤ x ∧ x ≤ 57)) : t_cls x = 0 := by
  unfold t_cls
  rw [if_neg h1, if_neg h2]
theorem t_cls_n0 {x : Int} (h : (97 ≤ x ∧ x ≤ 122) ∨ (48 ≤ x ∧ x ≤ 57)) : ¬ t_cls x = 0 := by
  unfold t_cls
  (repeat' split) <;> omega
theorem t_skip_r (L : Nat → Int) (n : Int) : ∀ (f : Nat) (i : Int), i ≤ t_skip L n f i ∧ (t_skip L n f i ≤ n ∨ t_skip L n f i = i)
  | 0, i => by simp [t_skip]
  | f + 1, i => by
    have h := t_skip_r L n f (i + 1)
    unfold t_skip
    split <;> omega
theorem t_run_r (L : Nat → Int) (n k : Int) : ∀ (f : Nat) (i : Int), i ≤ t_run L n k f i ∧ (t_run L n k f i ≤ n ∨ t_run L n k f i = i)
  | 0, i => by simp [t_run]
  | f + 1, i => by
    have h := t_run_r L n k f (i + 1)
    unfold t_run
    split <;> omega
theorem t_end_r (L : Nat → Int) (n s : Int) : s ≤ t_end L n s ∧ (t_end L n s ≤ n ∨ t_end L n s = s) := by
  have h := t_run_r L n (t_cls (L s.toNat)) 200 (s + 1)
  unfold t_end
  (repeat' split) <;> omega
def tokOK (I : Nat → Int) : Prop := 0 ≤ I 3 ∧ I 3 ≤ I 4 ∧ I 4 ≤ 200 ∧ 0 ≤ I 1 ∧ I 1 ≤ 200
theorem t_adv_ok {I L : Nat → Int} (h : tokOK I) : tokOK (t_adv I L) := by
  unfold tokOK at *
  have h1 := t_skip_r L (I 1) 200 (I 4)
  have h2 := t_end_r L (I 1) (t_skip L (I 1) 200 (I 4))
  show 0 ≤ t_skip L (I 1) 200 (I 4) ∧ t_skip L (I 1) 200 (I 4) ≤ t_end L (I 1) (t_skip L (I 1) 200 (I 4)) ∧ t_end L (I 1) (t_skip L (I 1) 200 (I 4)) ≤ 200 ∧ 0 ≤ I 1 ∧ I 1 ≤ 200
  omega
theorem t_adv_sm {I L : Nat → Int} (hs : smI I) (h : tokOK I) : smI (t_adv I L) := by
  have h1 := t_adv_ok (L := L) h
  unfold tokOK at h1
  intro k
  have h2 := hs k
  by_cases a : k = 4
  · subst a; omega
  · by_cases b : k = 3
    · subst b; omega
    · unfold t_adv
      rw [sU_n _ _ a, sU_n _ _ b]
      exact h2
theorem t_val_r {L : Nat → Int} (hL : smL L) (s : Nat) : ∀ k : Nat, k ≤ 3 → -10000000 ≤ t_val L s k ∧ t_val L s k ≤ 10000000 := by
  intro k hk
  have h0 := hL s
  have h1 := hL (s + 1)
  have h2 := hL (s + 2)
  rcases (show k = 0 ∨ k = 1 ∨ k = 2 ∨ k = 3 by omega) with rfl | rfl | rfl | rfl <;> simp only [t_val, Nat.add_zero] <;> omega
def t_appI (I : Nat → Int) : Nat → Int := if I 1 < 200 then sU I 1 (I 1 + 1) else I
def t_appL (I L : Nat → Int) (x : Int) : Nat → Int := if I 1 < 200 then sU L (I 1).toNat x else L
theorem t_num_r (L : Nat → Int) (n s e lo hi : Int) : t_num L n s e lo hi = -1 ∨ (lo ≤ t_num L n s e lo hi ∧ t_num L n s e lo hi ≤ hi) := by
  unfold t_num
  (repeat' split) <;> omega
set_option maxRecDepth 100000 in
set_option maxHeartbeats 4000000 in
theorem c_X4_letterCount (l : Launch) (D : va_G) (Y : Nat → ClassId) {E : (Nat → Prop) → State → Heap → Prop} (hE : g_Stab E) (q : Nat → Nat) (I : Nat → Int) (L : Nat → Int) : g_Ct l yX4_letterCount cX4_letterCount 1 (some FieldType.int) ({ frames := 0, cells := 0, slots := 0, locals := 0 } : Room) D (tysY Y) E [.ref (q 99)] (wText q Y I L) 0 0 (g_det (some (.int (iI (I 1)))) (wText q Y I L)) := by
  refine g_ofG (own := RX4) hE (by decide) rfl (Nat.le_of_ble_eq_true rfl) [(0, .ref (q 99))] rfl ?_
  intro p9 e9 s9 m9 b9 t9 c9 A9 C hr hlk hnm
  refine g_aload_n C (n' := 1) 0 rfl dX4_letterCount_0 rfl rfl ?_
  refine g_get C (n' := 4) (Cn := RX4) (T := TX4) (N := 5) (ci := 3) (v := .int (iI (I 1))) ga_X4 0 rfl rfl 1 (by decide) kw_32 rfl rfl dX4_letterCount_1 rfl ?_
  refine g_iret C hr hlk rfl ⟨congrArg (fun z : Int => some (Value.int (iI z))) ?_, ?_⟩ dX4_letterCount_4
  · first | rfl | omega | ((repeat' split) <;> first | rfl | omega | (exfalso; omega))
  · first | rfl | omega | ((repeat' split) <;> first | rfl | omega | (exfalso; omega))
set_option maxRecDepth 100000 in
set_option maxHeartbeats 4000000 in
theorem c_X4_clauseCount (l : Launch) (D : va_G) (Y : Nat → ClassId) {E : (Nat → Prop) → State → Heap → Prop} (hE : g_Stab E) (q : Nat → Nat) (I : Nat → Int) (L : Nat → Int) : g_Ct l yX4_clauseCount cX4_clauseCount 1 (some FieldType.int) ({ frames := 0, cells := 0, slots := 0, locals := 0 } : Room) D (tysY Y) E [.ref (q 99)] (wText q Y I L) 0 0 (g_det (some (.int (iI (I 2)))) (wText q Y I L)) := by
  refine g_ofG (own := RX4) hE (by decide) rfl (Nat.le_of_ble_eq_true rfl) [(0, .ref (q 99))] rfl ?_
  intro p9 e9 s9 m9 b9 t9 c9 A9 C hr hlk hnm
  refine g_aload_n C (n' := 1) 0 rfl dX4_clauseCount_0 rfl rfl ?_
  refine g_get C (n' := 4) (Cn := RX4) (T := TX4) (N := 5) (ci := 3) (v := .int (iI (I 2))) ga_X4 0 rfl rfl 2 (by decide) kw_33 rfl rfl dX4_clauseCount_1 rfl ?_
  refine g_iret C hr hlk rfl ⟨congrArg (fun z : Int => some (Value.int (iI z))) ?_, ?_⟩ dX4_clauseCount_4
  · first | rfl | omega | ((repeat' split) <;> first | rfl | omega | (exfalso; omega))
  · first | rfl | omega | ((repeat' split) <;> first | rfl | omega | (exfalso; omega))
set_option maxRecDepth 100000 in
set_option maxHeartbeats 4000000 in
theorem c_X4_clear (l : Launch) (D : va_G) (Y : Nat → ClassId) {E : (Nat → Prop) → State → Heap → Prop} (hE : g_Stab E) (q : Nat → Nat) (I : Nat → Int) (L : Nat → Int) : g_Ct l yX4_clear cX4_clear 1 none ({ frames := 0, cells := 0, slots := 0, locals := 0 } : Room) D (tysY Y) E [.ref (q 99)] (wText q Y I L) 0 0 (g_det none (wText q Y (sU I 1 0) L)) := by
  refine g_ofG (own := RX4) hE (by decide) rfl (Nat.le_of_ble_eq_true rfl) [(0, .ref (q 99))] rfl ?_
  intro p9 e9 s9 m9 b9 t9 c9 A9 C hr hlk hnm
  refine g_aload_n C (n' := 1) 0 rfl dX4_clear_0 rfl rfl ?_
  refine g_iconst C (n' := 2) dX4_clear_1 rfl ?_
  refine g_put C (n' := 5) (Cn := RX4) (T := TX4) (N := 5) (ci := 3) (v := .int (iI 0)) ga_X4 0 rfl rfl 1 (by decide) kw_32 rfl tyX4 tyX4_ok nmX4 rfl rfl rfl rfl (Nat.le_of_ble_eq_true rfl) (wText q Y (sU I 1 0) L) rfl dX4_clear_2 rfl ?_
  refine g_vret C hr hlk ⟨rfl, ?_⟩ dX4_clear_5
  first | rfl | omega | ((repeat' split) <;> first | rfl | omega | (exfalso; omega))
set_option maxRecDepth 100000 in
set_option maxHeartbeats 4000000 in
theorem c_X4_isAtEnd (l : Launch) (D : va_G) (Y : Nat → ClassId) {E : (Nat → Prop) → State → Heap → Prop} (hE : g_Stab E) (q : Nat → Nat) (I : Nat → Int) (L : Nat → Int) (hsI : smI I) (hsL : smL L) : g_Ct l yX4_isAtEnd cX4_isAtEnd 1 (some FieldType.boolean) ({ frames := 0, cells := 0, slots := 0, locals := 0 } : Room) D (tysY Y) E [.ref (q 99)] (wText q Y I L) 0 0 (g_det (some (.int (iI (if I 1 ≤ I 3 then 1 else 0)))) (wText q Y I L)) := by
  refine g_ofG (own := RX4) hE (by decide) rfl (Nat.le_of_ble_eq_true rfl) [(0, .ref (q 99))] rfl ?_
  intro p9 e9 s9 m9 b9 t9 c9 A9 C hr hlk hnm
  have hI := hsI
  have hL := hsL
  unfold smI at hI
  unfold smL at hL
  refine g_aload_n C (n' := 1) 0 rfl dX4_isAtEnd_0 rfl rfl ?_
  refine g_get C (n' := 4) (Cn := RX4) (T := TX4) (N := 5) (ci := 3) (v := .int (iI (I 3))) ga_X4 0 rfl rfl 3 (by decide) kw_34 rfl rfl dX4_isAtEnd_1 rfl ?_
  have h_1 := hI 3
  refine g_aload_n C (n' := 5) 0 rfl dX4_isAtEnd_4 rfl rfl ?_
  refine g_get C (n' := 8) (Cn := RX4) (T := TX4) (N := 5) (ci := 3) (v := .int (iI (I 1))) ga_X4 0 rfl rfl 1 (by decide) kw_32 rfl rfl dX4_isAtEnd_5 rfl ?_
  have h_5 := hI 1
  refine g_icmp_lt C (n' := 11) 15 dX4_isAtEnd_8 (by decide) rfl (by unfold inR; omega) (by unfold inR; omega) (fun c1 => ?_) (fun c1 => ?_)
  · skip
    refine g_iconst C (n' := 16) dX4_isAtEnd_15 rfl ?_
    refine g_iret C hr hlk (nar_z (by omega)) ⟨congrArg (fun z : Int => some (Value.int (iI z))) ?_, ?_⟩ dX4_isAtEnd_16
    · first | rfl | omega | ((repeat' split) <;> first | rfl | omega | (exfalso; omega))
    · first | rfl | omega | ((repeat' split) <;> first | rfl | omega | (exfalso; omega))
  · skip
    refine g_iconst C (n' := 12) dX4_isAtEnd_11 rfl ?_
    refine g_goto C 16 dX4_isAtEnd_12 (by decide) ?_
    refine g_iret C hr hlk (nar_z (by omega)) ⟨congrArg (fun z : Int => some (Value.int (iI z))) ?_, ?_⟩ dX4_isAtEnd_16
    · first | rfl | omega | ((repeat' split) <;> first | rfl | omega | (exfalso; omega))
    · first | rfl | omega | ((repeat' split) <;> first | rfl | omega | (exfalso; omega))
set_option maxRecDepth 100000 in
set_option maxHeartbeats 4000000 in
theorem c_X4_append (l : Launch) (D : va_G) (Y : Nat → ClassId) {E : (Nat → Prop) → State → Heap → Prop} (hE : g_Stab E) (q : Nat → Nat) (I : Nat → Int) (L : Nat → Int) (x : Int) (hsI : smI I) (hsL : smL L) (h1 : 0 ≤ I 1 ∧ I 1 ≤ 200) (hx : 0 ≤ x ∧ x < 65536) : g_Ct l yX4_append cX4_append 2 (some FieldType.boolean) ({ frames := 0, cells := 0, slots := 0, locals := 0 } : Room) D (tysY Y) E [.ref (q 99), .int (iI x)] (wText q Y I L) 0 0 (g_det (some (.int (iI (if I 1 < 200 then 1 else 0)))) (wText q Y (t_appI I) (t_appL I L x))) := by
  refine g_ofG (own := RX4) hE (by decide) rfl (Nat.le_of_ble_eq_true rfl) [(0, .ref (q 99)), (1, .int (iI x))] rfl ?_
  intro p9 e9 s9 m9 b9 t9 c9 A9 C hr hlk hnm
  have hI := hsI
  have hL := hsL
  unfold smI at hI
  unfold smL at hL
  refine g_aload_n C (n' := 1) 0 rfl dX4_append_0 rfl rfl ?_
  refine g_get C (n' := 4) (Cn := RX4) (T := TX4) (N := 5) (ci := 3) (v := .int (iI (I 1))) ga_X4 0 rfl rfl 1 (by decide) kw_32 rfl rfl dX4_append_1 rfl ?_
  have h_1 := hI 1
  refine g_sipush C (n' := 7) (by decide) dX4_append_4 rfl ?_
  refine g_icmp_lt C (n' := 10) 12 dX4_append_7 (by decide) rfl (by unfold inR; omega) (by unfold inR; omega) (fun c1 => ?_) (fun c1 => ?_)
  · skip
    refine g_aload_n C (n' := 13) 0 rfl dX4_append_12 rfl rfl ?_
    refine g_get C (n' := 16) (Cn := RX4) (T := TX4) (N := 5) (ci := 3) (v := .ref (q 0)) ga_X4 0 rfl rfl 0 (by decide) kw_31 rfl rfl dX4_append_13 rfl ?_
    refine g_aload_n C (n' := 17) 0 rfl dX4_append_16 rfl rfl ?_
    refine g_get C (n' := 20) (Cn := RX4) (T := TX4) (N := 5) (ci := 3) (v := .int (iI (I 1))) ga_X4 0 rfl rfl 1 (by decide) kw_32 rfl rfl dX4_append_17 rfl ?_
    have h_17 := hI 1
    refine g_iload_n C (n' := 21) 1 rfl dX4_append_20 rfl rfl ?_
    refine g_cast C (n' := 22) (f := L) 1 1 rfl rfl (by omega) (by omega) (by decide) (by omega) (by omega) rfl dX4_append_21 rfl (wText q Y I (sU L (I 1).toNat x)) rfl ?_
    refine g_aload_n C (n' := 23) 0 rfl dX4_append_22 rfl rfl ?_
    refine g_dup C (n' := 24) rfl dX4_append_23 rfl ?_
    refine g_get C (n' := 27) (Cn := RX4) (T := TX4) (N := 5) (ci := 3) (v := .int (iI (I 1))) ga_X4 0 rfl rfl 1 (by decide) kw_32 rfl rfl dX4_append_24 rfl ?_
    have h_24 := hI 1
    refine g_iconst C (n' := 28) dX4_append_27 rfl ?_
    refine g_iadd C (n' := 29) dX4_append_28 rfl ?_
    refine g_put C (n' := 32) (Cn := RX4) (T := TX4) (N := 5) (ci := 3) (v := .int (iI ((I 1) + 1))) ga_X4 0 rfl rfl 1 (by decide) kw_32 rfl tyX4 tyX4_ok nmX4 rfl rfl rfl rfl (Nat.le_of_ble_eq_true rfl) (wText q Y (sU I 1 ((I 1) + 1)) (sU L (I 1).toNat x)) rfl dX4_append_29 rfl ?_
    refine g_iconst C (n' := 33) dX4_append_32 rfl ?_
    refine g_iret C hr hlk (nar_z (by omega)) ⟨congrArg (fun z : Int => some (Value.int (iI z))) ?_, ?_⟩ dX4_append_33
    · (try unfold t_appI t_appL) <;> (repeat' split) <;> first | rfl | omega
    · (try unfold t_appI t_appL) <;> (repeat' split) <;> first | rfl | omega
  · skip
    refine g_iconst C (n' := 11) dX4_append_10 rfl ?_
    refine g_iret C hr hlk (nar_z (by omega)) ⟨congrArg (fun z : Int => some (Value.int (iI z))) ?_, ?_⟩ dX4_append_11
    · (try unfold t_appI t_appL) <;> (repeat' split) <;> first | rfl | omega
    · (try unfold t_appI t_appL) <;> (repeat' split) <;> first | rfl | omega
set_option maxRecDepth 100000 in
set_option maxHeartbeats 4000000 in
theorem lp_X4_adv1 {p9 : Program} {l : Launch} {e9 : Env} {s9 : State} {m9 : MethodId} {a9 : Array Value} {b9 : List Frame} {t9 : Method} {c9 : Code} {D : va_G} {A9 : Nat → Prop} {Q9 : State → Prop} {E : (Nat → Prop) → State → Heap → Prop} {Y : Nat → ClassId} (C : g_Cx p9 s9 m9 a9 c9 cX4_advance 2 RX4 D (tysY Y) A9 E) (q : Nat → Nat) (I L : Nat → Int) (hsI : smI I) (hsL : smL L) (hT : tokOK I) : ∀ (n9 : Nat) (i : Int), 0 ≤ i → i ≤ 200 → I 1 - i ≤ n9 → (g_G p9 l e9 ({ frames := 1, cells := 0, slots := 0, locals := 20 } : Room) s9 m9 a9 b9 t9 c9 2 D A9 Q9 0 0 (wText q Y (sU I 3 (t_skip L (I 1) n9 i)) L) [(0, .ref (q 99))] 46 []) → g_G p9 l e9 ({ frames := 1, cells := 0, slots := 0, locals := 20 } : Room) s9 m9 a9 b9 t9 c9 2 D A9 Q9 0 0 (wText q Y (sU I 3 i) L) [(0, .ref (q 99))] 8 [] := by
  have hE := C.2.2.2.2.2.2.2.2.1
  intro n9
  induction n9 with
  | zero =>
    intro i hi hi2 hm K
    have hI := hsI
    have hL := hsL
    unfold smI at hI
    unfold smL at hL
    have hT9 := hT
    unfold tokOK at hT9
    refine g_aload_n C (n' := 9) 0 rfl dX4_advance_8 rfl rfl ?_
    refine g_get C (n' := 12) (Cn := RX4) (T := TX4) (N := 5) (ci := 3) (v := .int (iI i)) ga_X4 0 rfl rfl 3 (by decide) kw_34 rfl rfl dX4_advance_9 rfl ?_
    refine g_aload_n C (n' := 13) 0 rfl dX4_advance_12 rfl rfl ?_
    refine g_get C (n' := 16) (Cn := RX4) (T := TX4) (N := 5) (ci := 3) (v := .int (iI (I 1))) ga_X4 0 rfl rfl 1 (by decide) kw_32 rfl rfl dX4_advance_13 rfl ?_
    have h_13 := hI 1
    refine g_icmp_ge C (n' := 19) 46 dX4_advance_16 (by decide) rfl (by unfold inR; omega) (by unfold inR; omega) (fun c1 => ?_) (fun c1 => ?_)
    · skip
      exact K
    · skip
      exfalso
      omega
  | succ n9 ih =>
    intro i hi hi2 hm K
    have hI := hsI
    have hL := hsL
    unfold smI at hI
    unfold smL at hL
    have hT9 := hT
    unfold tokOK at hT9
    refine g_aload_n C (n' := 9) 0 rfl dX4_advance_8 rfl rfl ?_
    refine g_get C (n' := 12) (Cn := RX4) (T := TX4) (N := 5) (ci := 3) (v := .int (iI i)) ga_X4 0 rfl rfl 3 (by decide) kw_34 rfl rfl dX4_advance_9 rfl ?_
    refine g_aload_n C (n' := 13) 0 rfl dX4_advance_12 rfl rfl ?_
    refine g_get C (n' := 16) (Cn := RX4) (T := TX4) (N := 5) (ci := 3) (v := .int (iI (I 1))) ga_X4 0 rfl rfl 1 (by decide) kw_32 rfl rfl dX4_advance_13 rfl ?_
    have h_13 := hI 1
    refine g_icmp_ge C (n' := 19) 46 dX4_advance_16 (by decide) rfl (by unfold inR; omega) (by unfold inR; omega) (fun c1 => ?_) (fun c1 => ?_)
    · skip
      rw [t_skip, if_neg (by omega)] at K
      exact K
    · skip
      refine g_aload_n C (n' := 20) 0 rfl dX4_advance_19 rfl rfl ?_
      refine g_get C (n' := 23) (Cn := RX4) (T := TX4) (N := 5) (ci := 3) (v := .ref (q 0)) ga_X4 0 rfl rfl 0 (by decide) kw_31 rfl rfl dX4_advance_20 rfl ?_
      refine g_aload_n C (n' := 24) 0 rfl dX4_advance_23 rfl rfl ?_
      refine g_get C (n' := 27) (Cn := RX4) (T := TX4) (N := 5) (ci := 3) (v := .int (iI i)) ga_X4 0 rfl rfl 3 (by decide) kw_34 rfl rfl dX4_advance_24 rfl ?_
      refine g_cald C (n' := 28) (f := L) 1 1 rfl rfl (by omega) (by omega) (by decide) rfl dX4_advance_27 rfl ?_
      have h_27 := hL i.toNat
      refine g_bipush C (n' := 30) (by decide) dX4_advance_28 rfl ?_
      refine g_icmp_ne C (n' := 33) 46 dX4_advance_30 (by decide) rfl (by unfold inR; omega) (by unfold inR; omega) (fun c2 => ?_) (fun c2 => ?_)
      · skip
        rw [t_skip, if_neg (by omega)] at K
        exact K
      · skip
        refine g_aload_n C (n' := 34) 0 rfl dX4_advance_33 rfl rfl ?_
        refine g_dup C (n' := 35) rfl dX4_advance_34 rfl ?_
        refine g_get C (n' := 38) (Cn := RX4) (T := TX4) (N := 5) (ci := 3) (v := .int (iI i)) ga_X4 0 rfl rfl 3 (by decide) kw_34 rfl rfl dX4_advance_35 rfl ?_
        refine g_iconst C (n' := 39) dX4_advance_38 rfl ?_
        refine g_iadd C (n' := 40) dX4_advance_39 rfl ?_
        refine g_put C (n' := 43) (Cn := RX4) (T := TX4) (N := 5) (ci := 3) (v := .int (iI (i + 1))) ga_X4 0 rfl rfl 3 (by decide) kw_34 rfl tyX4 tyX4_ok nmX4 rfl rfl rfl rfl (Nat.le_of_ble_eq_true rfl) (wText q Y (sU I 3 (i + 1)) L) rfl dX4_advance_40 rfl ?_
        refine g_goto C 8 dX4_advance_43 (by decide) ?_
        rw [t_skip, if_pos (by omega)] at K
        exact ih (i + 1) (by omega) (by omega) (by omega) K
set_option maxRecDepth 100000 in
set_option maxHeartbeats 4000000 in
theorem lp_X4_adv2 {p9 : Program} {l : Launch} {e9 : Env} {s9 : State} {m9 : MethodId} {a9 : Array Value} {b9 : List Frame} {t9 : Method} {c9 : Code} {D : va_G} {A9 : Nat → Prop} {Q9 : State → Prop} {E : (Nat → Prop) → State → Heap → Prop} {Y : Nat → ClassId} (C : g_Cx p9 s9 m9 a9 c9 cX4_advance 2 RX4 D (tysY Y) A9 E) (q : Nat → Nat) (I L : Nat → Int) (s : Int) (hsI : smI I) (hsL : smL L) (hT : tokOK I) (hs : 0 ≤ s ∧ s ≤ 200) : ∀ (n9 : Nat) (i : Int), 0 ≤ i → i ≤ 200 → I 1 - i ≤ n9 → (g_G p9 l e9 ({ frames := 1, cells := 0, slots := 0, locals := 20 } : Room) s9 m9 a9 b9 t9 c9 2 D A9 Q9 0 0 (wText q Y (sU (sU I 3 s) 4 (t_run L (I 1) (t_cls (L s.toNat)) n9 i)) L) [(1, .int (iI (L s.toNat))), (0, .ref (q 99))] 159 []) → g_G p9 l e9 ({ frames := 1, cells := 0, slots := 0, locals := 20 } : Room) s9 m9 a9 b9 t9 c9 2 D A9 Q9 0 0 (wText q Y (sU (sU I 3 s) 4 i) L) [(1, .int (iI (L s.toNat))), (0, .ref (q 99))] 97 [] := by
  have hE := C.2.2.2.2.2.2.2.2.1
  intro n9
  induction n9 with
  | zero =>
    intro i hi hi2 hm K
    have hI := hsI
    have hL := hsL
    unfold smI at hI
    unfold smL at hL
    have hT9 := hT
    unfold tokOK at hT9
    have h_s := hL s.toNat
    refine g_aload_n C (n' := 98) 1 rfl dX4_advance_97 rfl rfl ?_
    refine g_get C (n' := 101) (Cn := RX4) (T := TX4) (N := 5) (ci := 3) (v := .int (iI i)) ga_X4 0 rfl rfl 4 (by decide) kw_35 rfl rfl dX4_advance_98 rfl ?_
    refine g_aload_n C (n' := 102) 1 rfl dX4_advance_101 rfl rfl ?_
    refine g_get C (n' := 105) (Cn := RX4) (T := TX4) (N := 5) (ci := 3) (v := .int (iI (I 1))) ga_X4 0 rfl rfl 1 (by decide) kw_32 rfl rfl dX4_advance_102 rfl ?_
    have h_102 := hI 1
    refine g_icmp_ge C (n' := 108) 159 dX4_advance_105 (by decide) rfl (by unfold inR; omega) (by unfold inR; omega) (fun c1 => ?_) (fun c1 => ?_)
    · skip
      exact K
    · skip
      exfalso
      omega
  | succ n9 ih =>
    intro i hi hi2 hm K
    have hI := hsI
    have hL := hsL
    unfold smI at hI
    unfold smL at hL
    have hT9 := hT
    unfold tokOK at hT9
    have h_s := hL s.toNat
    refine g_aload_n C (n' := 98) 1 rfl dX4_advance_97 rfl rfl ?_
    refine g_get C (n' := 101) (Cn := RX4) (T := TX4) (N := 5) (ci := 3) (v := .int (iI i)) ga_X4 0 rfl rfl 4 (by decide) kw_35 rfl rfl dX4_advance_98 rfl ?_
    refine g_aload_n C (n' := 102) 1 rfl dX4_advance_101 rfl rfl ?_
    refine g_get C (n' := 105) (Cn := RX4) (T := TX4) (N := 5) (ci := 3) (v := .int (iI (I 1))) ga_X4 0 rfl rfl 1 (by decide) kw_32 rfl rfl dX4_advance_102 rfl ?_
    have h_102 := hI 1
    refine g_icmp_ge C (n' := 108) 159 dX4_advance_105 (by decide) rfl (by unfold inR; omega) (by unfold inR; omega) (fun c1 => ?_) (fun c1 => ?_)
    · skip
      rw [t_run, if_neg (fun z => absurd z.1 (by omega))] at K
      exact K
    · skip
      refine g_aload_n C (n' := 109) 1 rfl dX4_advance_108 rfl rfl ?_
      refine g_get C (n' := 112) (Cn := RX4) (T := TX4) (N := 5) (ci := 3) (v := .ref (q 0)) ga_X4 0 rfl rfl 0 (by decide) kw_31 rfl rfl dX4_advance_109 rfl ?_
      refine g_aload_n C (n' := 113) 1 rfl dX4_advance_112 rfl rfl ?_
      refine g_get C (n' := 116) (Cn := RX4) (T := TX4) (N := 5) (ci := 3) (v := .int (iI i)) ga_X4 0 rfl rfl 4 (by decide) kw_35 rfl rfl dX4_advance_113 rfl ?_
      refine g_cald C (n' := 117) (f := L) 1 1 rfl rfl (by omega) (by omega) (by decide) rfl dX4_advance_116 rfl ?_
      have h_116 := hL i.toNat
      refine g_cSv C (n' := 120) (v := .int (iI (if 97 ≤ (L i.toNat) ∧ (L i.toNat) ≤ 122 then 1 else 0))) (c_X4_isSmall l D Y C.2.2.2.2.2.2.2.2.1 (L i.toNat) (by unfold inR at *; omega)) 1 kw_259 kc_X4_isSmall (by decide +kernel) (pm_n _) rfl ⟨Nat.le_of_ble_eq_true rfl, Nat.le_of_ble_eq_true rfl⟩ ⟨rfl, rfl⟩ ⟨Nat.le_of_ble_eq_true rfl, Nat.le_of_ble_eq_true rfl⟩ (Nat.le_of_ble_eq_true rfl) dX4_advance_117 rfl rfl (wText q Y (sU (sU I 3 s) 4 i) L) (pm_n _) ?_
      refine g_iload_n C (n' := 121) 0 rfl dX4_advance_120 rfl rfl ?_
      refine g_cSv C (n' := 124) (v := .int (iI (if 97 ≤ (L s.toNat) ∧ (L s.toNat) ≤ 122 then 1 else 0))) (c_X4_isSmall l D Y C.2.2.2.2.2.2.2.2.1 (L s.toNat) (by unfold inR at *; omega)) 1 kw_259 kc_X4_isSmall (by decide +kernel) (pm_n _) rfl ⟨Nat.le_of_ble_eq_true rfl, Nat.le_of_ble_eq_true rfl⟩ ⟨rfl, rfl⟩ ⟨Nat.le_of_ble_eq_true rfl, Nat.le_of_ble_eq_true rfl⟩ (Nat.le_of_ble_eq_true rfl) dX4_advance_121 rfl rfl (wText q Y (sU (sU I 3 s) 4 i) L) (pm_n _) ?_
      refine g_icmp_ne C (n' := 127) 159 dX4_advance_124 (by decide) rfl bz_r bz_r (fun c2 => ?_) (fun c2 => ?_)
      · skip
        replace c2 := (not_congr bz_iff).mp c2
        rw [t_run, if_neg (fun z => absurd (t_cls_iff.mp z.2).1 c2)] at K
        exact K
      · skip
        replace c2 := bz_iff.mp (Decidable.not_not.mp c2)
        refine g_aload_n C (n' := 128) 1 rfl dX4_advance_127 rfl rfl ?_
        refine g_get C (n' := 131) (Cn := RX4) (T := TX4) (N := 5) (ci := 3) (v := .ref (q 0)) ga_X4 0 rfl rfl 0 (by decide) kw_31 rfl rfl dX4_advance_128 rfl ?_
        refine g_aload_n C (n' := 132) 1 rfl dX4_advance_131 rfl rfl ?_
        refine g_get C (n' := 135) (Cn := RX4) (T := TX4) (N := 5) (ci := 3) (v := .int (iI i)) ga_X4 0 rfl rfl 4 (by decide) kw_35 rfl rfl dX4_advance_132 rfl ?_
        refine g_cald C (n' := 136) (f := L) 1 1 rfl rfl (by omega) (by omega) (by decide) rfl dX4_advance_135 rfl ?_
        have h_135 := hL i.toNat
        refine g_cSv C (n' := 139) (v := .int (iI (if 48 ≤ (L i.toNat) ∧ (L i.toNat) ≤ 57 then 1 else 0))) (c_X4_isDigit l D Y C.2.2.2.2.2.2.2.2.1 (L i.toNat) (by unfold inR at *; omega)) 1 kw_262 kc_X4_isDigit (by decide +kernel) (pm_n _) rfl ⟨Nat.le_of_ble_eq_true rfl, Nat.le_of_ble_eq_true rfl⟩ ⟨rfl, rfl⟩ ⟨Nat.le_of_ble_eq_true rfl, Nat.le_of_ble_eq_true rfl⟩ (Nat.le_of_ble_eq_true rfl) dX4_advance_136 rfl rfl (wText q Y (sU (sU I 3 s) 4 i) L) (pm_n _) ?_
        refine g_iload_n C (n' := 140) 0 rfl dX4_advance_139 rfl rfl ?_
        refine g_cSv C (n' := 143) (v := .int (iI (if 48 ≤ (L s.toNat) ∧ (L s.toNat) ≤ 57 then 1 else 0))) (c_X4_isDigit l D Y C.2.2.2.2.2.2.2.2.1 (L s.toNat) (by unfold inR at *; omega)) 1 kw_262 kc_X4_isDigit (by decide +kernel) (pm_n _) rfl ⟨Nat.le_of_ble_eq_true rfl, Nat.le_of_ble_eq_true rfl⟩ ⟨rfl, rfl⟩ ⟨Nat.le_of_ble_eq_true rfl, Nat.le_of_ble_eq_true rfl⟩ (Nat.le_of_ble_eq_true rfl) dX4_advance_140 rfl rfl (wText q Y (sU (sU I 3 s) 4 i) L) (pm_n _) ?_
        refine g_icmp_ne C (n' := 146) 159 dX4_advance_143 (by decide) rfl bz_r bz_r (fun c3 => ?_) (fun c3 => ?_)
        · skip
          replace c3 := (not_congr bz_iff).mp c3
          rw [t_run, if_neg (fun z => absurd (t_cls_iff.mp z.2).2 c3)] at K
          exact K
        · skip
          replace c3 := bz_iff.mp (Decidable.not_not.mp c3)
          refine g_aload_n C (n' := 147) 1 rfl dX4_advance_146 rfl rfl ?_
          refine g_dup C (n' := 148) rfl dX4_advance_147 rfl ?_
          refine g_get C (n' := 151) (Cn := RX4) (T := TX4) (N := 5) (ci := 3) (v := .int (iI i)) ga_X4 0 rfl rfl 4 (by decide) kw_35 rfl rfl dX4_advance_148 rfl ?_
          refine g_iconst C (n' := 152) dX4_advance_151 rfl ?_
          refine g_iadd C (n' := 153) dX4_advance_152 rfl ?_
          refine g_put C (n' := 156) (Cn := RX4) (T := TX4) (N := 5) (ci := 3) (v := .int (iI (i + 1))) ga_X4 0 rfl rfl 4 (by decide) kw_35 rfl tyX4 tyX4_ok nmX4 rfl rfl rfl rfl (Nat.le_of_ble_eq_true rfl) (wText q Y (sU (sU I 3 s) 4 (i + 1)) L) rfl dX4_advance_153 rfl ?_
          refine g_goto C 97 dX4_advance_156 (by decide) ?_
          rw [t_run, if_pos ⟨by omega, t_cls_iff.mpr ⟨c2, c3⟩⟩] at K
          exact ih (i + 1) (by omega) (by omega) (by omega) K
set_option maxRecDepth 100000 in
set_option maxHeartbeats 4000000 in
theorem c_X4_advance (l : Launch) (D : va_G) (Y : Nat → ClassId) {E : (Nat → Prop) → State → Heap → Prop} (hE : g_Stab E) (q : Nat → Nat) (I : Nat → Int) (L : Nat → Int) (hsI : smI I) (hsL : smL L) (hT : tokOK I) : g_Ct l yX4_advance cX4_advance 2 none ({ frames := 1, cells := 0, slots := 0, locals := 20 } : Room) D (tysY Y) E [.ref (q 99)] (wText q Y I L) 0 0 (g_det none (wText q Y (t_adv I L) L)) := by
  refine g_ofG (own := RX4) hE (by decide) rfl (Nat.le_of_ble_eq_true rfl) [(0, .ref (q 99))] rfl ?_
  intro p9 e9 s9 m9 b9 t9 c9 A9 C hr hlk hnm
  have hI := hsI
  have hL := hsL
  unfold smI at hI
  unfold smL at hL
  have hT9 := hT
  unfold tokOK at hT9
  refine g_aload_n C (n' := 1) 0 rfl dX4_advance_0 rfl rfl ?_
  refine g_aload_n C (n' := 2) 0 rfl dX4_advance_1 rfl rfl ?_
  refine g_get C (n' := 5) (Cn := RX4) (T := TX4) (N := 5) (ci := 3) (v := .int (iI (I 4))) ga_X4 0 rfl rfl 4 (by decide) kw_35 rfl rfl dX4_advance_2 rfl ?_
  have h_2 := hI 4
  refine g_put C (n' := 8) (Cn := RX4) (T := TX4) (N := 5) (ci := 3) (v := .int (iI (I 4))) ga_X4 0 rfl rfl 3 (by decide) kw_34 rfl tyX4 tyX4_ok nmX4 rfl rfl rfl rfl (Nat.le_of_ble_eq_true rfl) (wText q Y (sU I 3 (I 4)) L) rfl dX4_advance_5 rfl ?_
  have hk := t_skip_r L (I 1) 200 (I 4)
  refine lp_X4_adv1 C q I L hsI hsL hT 200 (I 4) (by omega) (by omega) (by omega) ?_
  generalize hsk : t_skip L (I 1) 200 (I 4) = s at hk ⊢
  refine g_aload_n C (n' := 47) 0 rfl dX4_advance_46 rfl rfl ?_
  refine g_aload_n C (n' := 48) 0 rfl dX4_advance_47 rfl rfl ?_
  refine g_get C (n' := 51) (Cn := RX4) (T := TX4) (N := 5) (ci := 3) (v := .int (iI s)) ga_X4 0 rfl rfl 3 (by decide) kw_34 rfl rfl dX4_advance_48 rfl ?_
  refine g_put C (n' := 54) (Cn := RX4) (T := TX4) (N := 5) (ci := 3) (v := .int (iI s)) ga_X4 0 rfl rfl 4 (by decide) kw_35 rfl tyX4 tyX4_ok nmX4 rfl rfl rfl rfl (Nat.le_of_ble_eq_true rfl) (wText q Y (sU (sU I 3 s) 4 s) L) rfl dX4_advance_51 rfl ?_
  refine g_aload_n C (n' := 55) 0 rfl dX4_advance_54 rfl rfl ?_
  refine g_cVv C (n' := 58) (v := .int (iI (if (I 1) ≤ s then 1 else 0))) (c_X4_isAtEnd l D Y C.2.2.2.2.2.2.2.2.1 q (sU (sU I 3 s) 4 s) L (sm_put (sm_put hsI (by omega)) (by omega)) hsL) 0 kw_255 kc_X4_isAtEnd (by decide +kernel) (pm0 _) 0 (ci := 3) rfl rfl rfl rfl ⟨Nat.le_of_ble_eq_true rfl, Nat.le_of_ble_eq_true rfl⟩ ⟨rfl, rfl⟩ ⟨Nat.le_of_ble_eq_true rfl, Nat.le_of_ble_eq_true rfl⟩ (Nat.le_of_ble_eq_true rfl) dX4_advance_55 rfl rfl (wText q Y (sU (sU I 3 s) 4 s) L) (pm0' _) ?_
  refine g_if_eq C (n' := 61) 62 dX4_advance_58 (by decide) rfl bz_r (fun c1 => ?_) (fun c1 => ?_)
  · skip
    replace c1 := bz_eq.mp c1
    refine g_aload_n C (n' := 63) 0 rfl dX4_advance_62 rfl rfl ?_
    refine g_get C (n' := 66) (Cn := RX4) (T := TX4) (N := 5) (ci := 3) (v := .ref (q 0)) ga_X4 0 rfl rfl 0 (by decide) kw_31 rfl rfl dX4_advance_63 rfl ?_
    refine g_aload_n C (n' := 67) 0 rfl dX4_advance_66 rfl rfl ?_
    refine g_get C (n' := 70) (Cn := RX4) (T := TX4) (N := 5) (ci := 3) (v := .int (iI s)) ga_X4 0 rfl rfl 3 (by decide) kw_34 rfl rfl dX4_advance_67 rfl ?_
    refine g_cald C (n' := 71) (f := L) 1 1 rfl rfl (by omega) (by omega) (by decide) rfl dX4_advance_70 rfl ?_
    have h_70 := hL s.toNat
    refine g_istore_n C (n' := 72) [(1, .int (iI (L s.toNat))), (0, .ref (q 99))] dX4_advance_71 rfl rfl (by decide) rfl ?_
    refine g_aload_n C (n' := 73) 1 rfl dX4_advance_72 rfl rfl ?_
    refine g_dup C (n' := 74) rfl dX4_advance_73 rfl ?_
    refine g_get C (n' := 77) (Cn := RX4) (T := TX4) (N := 5) (ci := 3) (v := .int (iI s)) ga_X4 0 rfl rfl 4 (by decide) kw_35 rfl rfl dX4_advance_74 rfl ?_
    refine g_iconst C (n' := 78) dX4_advance_77 rfl ?_
    refine g_iadd C (n' := 79) dX4_advance_78 rfl ?_
    refine g_put C (n' := 82) (Cn := RX4) (T := TX4) (N := 5) (ci := 3) (v := .int (iI (s + 1))) ga_X4 0 rfl rfl 4 (by decide) kw_35 rfl tyX4 tyX4_ok nmX4 rfl rfl rfl rfl (Nat.le_of_ble_eq_true rfl) (wText q Y (sU (sU I 3 s) 4 (s + 1)) L) rfl dX4_advance_79 rfl ?_
    refine g_iload_n C (n' := 83) 0 rfl dX4_advance_82 rfl rfl ?_
    refine g_cSv C (n' := 86) (v := .int (iI (if 97 ≤ (L s.toNat) ∧ (L s.toNat) ≤ 122 then 1 else 0))) (c_X4_isSmall l D Y C.2.2.2.2.2.2.2.2.1 (L s.toNat) (by unfold inR at *; omega)) 1 kw_259 kc_X4_isSmall (by decide +kernel) (pm_n _) rfl ⟨Nat.le_of_ble_eq_true rfl, Nat.le_of_ble_eq_true rfl⟩ ⟨rfl, rfl⟩ ⟨Nat.le_of_ble_eq_true rfl, Nat.le_of_ble_eq_true rfl⟩ (Nat.le_of_ble_eq_true rfl) dX4_advance_83 rfl rfl (wText q Y (sU (sU I 3 s) 4 (s + 1)) L) (pm_n _) ?_
    refine g_if_ne C (n' := 89) 97 dX4_advance_86 (by decide) rfl bz_r (fun c2 => ?_) (fun c2 => ?_)
    · skip
      replace c2 := bz_ne.mp c2
      refine lp_X4_adv2 C q I L s hsI hsL hT (by omega) 200 (s + 1) (by omega) (by omega) (by omega) ?_
      refine g_vret C hr hlk ⟨rfl, ?_⟩ dX4_advance_159
      unfold t_adv t_end
      rw [hsk]
      rw [if_neg (by omega), if_neg (t_cls_n0 (by omega))]
    · skip
      replace c2 := bz_nne.mp c2
      refine g_iload_n C (n' := 90) 0 rfl dX4_advance_89 rfl rfl ?_
      refine g_cSv C (n' := 93) (v := .int (iI (if 48 ≤ (L s.toNat) ∧ (L s.toNat) ≤ 57 then 1 else 0))) (c_X4_isDigit l D Y C.2.2.2.2.2.2.2.2.1 (L s.toNat) (by unfold inR at *; omega)) 1 kw_262 kc_X4_isDigit (by decide +kernel) (pm_n _) rfl ⟨Nat.le_of_ble_eq_true rfl, Nat.le_of_ble_eq_true rfl⟩ ⟨rfl, rfl⟩ ⟨Nat.le_of_ble_eq_true rfl, Nat.le_of_ble_eq_true rfl⟩ (Nat.le_of_ble_eq_true rfl) dX4_advance_90 rfl rfl (wText q Y (sU (sU I 3 s) 4 (s + 1)) L) (pm_n _) ?_
      refine g_if_ne C (n' := 96) 97 dX4_advance_93 (by decide) rfl bz_r (fun c3 => ?_) (fun c3 => ?_)
      · skip
        replace c3 := bz_ne.mp c3
        refine lp_X4_adv2 C q I L s hsI hsL hT (by omega) 200 (s + 1) (by omega) (by omega) (by omega) ?_
        refine g_vret C hr hlk ⟨rfl, ?_⟩ dX4_advance_159
        unfold t_adv t_end
        rw [hsk]
        rw [if_neg (by omega), if_neg (t_cls_n0 (by omega))]
      · skip
        replace c3 := bz_nne.mp c3
        refine g_vret C hr hlk ⟨rfl, ?_⟩ dX4_advance_96
        unfold t_adv t_end
        rw [hsk]
        rw [if_neg (by omega), if_pos (t_cls_0 (by omega) (by omega))]
  · skip
    replace c1 := bz_neq.mp c1
    refine g_vret C hr hlk ⟨rfl, ?_⟩ dX4_advance_61
    unfold t_adv t_end
    rw [hsk]
    rw [if_pos (by omega)]
set_option maxRecDepth 100000 in
set_option maxHeartbeats 4000000 in
theorem lp_X4_num {p9 : Program} {l : Launch} {e9 : Env} {s9 : State} {m9 : MethodId} {a9 : Array Value} {b9 : List Frame} {t9 : Method} {c9 : Code} {D : va_G} {A9 : Nat → Prop} {Q9 : State → Prop} {E : (Nat → Prop) → State → Heap → Prop} {Y : Nat → ClassId} (C : g_Cx p9 s9 m9 a9 c9 cX4_readNumber 5 RX4 D (tysY Y) A9 E) (q : Nat → Nat) (I L : Nat → Int) (lo hi : Int) (hsI : smI I) (hsL : smL L) (hT : tokOK I) (h3 : I 4 - I 3 ≤ 3) : ∀ (n9 : Nat) (k : Nat), (k : Int) + n9 = I 4 - I 3 → (g_G p9 l e9 ({ frames := 2, cells := 0, slots := 0, locals := 41 } : Room) s9 m9 a9 b9 t9 c9 5 D A9 Q9 0 0 (wText q Y I L) [(4, .int (iI (I 3 + (((I 4 - I 3).toNat : Nat) : Int)))), (3, .int (iI (t_val L (I 3).toNat ((I 4 - I 3).toNat)))), (0, .ref (q 99)), (1, .int (iI lo)), (2, .int (iI hi))] 76 []) → g_G p9 l e9 ({ frames := 2, cells := 0, slots := 0, locals := 41 } : Room) s9 m9 a9 b9 t9 c9 5 D A9 Q9 0 0 (wText q Y I L) [(4, .int (iI (I 3 + ((k : Nat) : Int)))), (3, .int (iI (t_val L (I 3).toNat k))), (0, .ref (q 99)), (1, .int (iI lo)), (2, .int (iI hi))] 45 [] := by
  have hE := C.2.2.2.2.2.2.2.2.1
  intro n9
  induction n9 with
  | zero =>
    intro k hk K
    have hI := hsI
    have hL := hsL
    unfold smI at hI
    unfold smL at hL
    have hT9 := hT
    unfold tokOK at hT9
    refine g_iload C (n' := 47) 0 rfl dX4_readNumber_45 rfl ?_
    refine g_aload_n C (n' := 48) 2 rfl dX4_readNumber_47 rfl rfl ?_
    refine g_get C (n' := 51) (Cn := RX4) (T := TX4) (N := 5) (ci := 3) (v := .int (iI (I 4))) ga_X4 0 rfl rfl 4 (by decide) kw_35 rfl rfl dX4_readNumber_48 rfl ?_
    have h_48 := hI 4
    refine g_icmp_ge C (n' := 54) 76 dX4_readNumber_51 (by decide) rfl (by unfold inR; omega) (by unfold inR; omega) (fun c1 => ?_) (fun c1 => ?_)
    · skip
      have ek : (I 4 - I 3).toNat = k := by omega
      rw [ek] at K
      exact K
    · skip
      exfalso
      omega
  | succ n9 ih =>
    intro k hk K
    have hI := hsI
    have hL := hsL
    unfold smI at hI
    unfold smL at hL
    have hT9 := hT
    unfold tokOK at hT9
    have hv := t_val_r hsL (I 3).toNat k (by omega)
    refine g_iload C (n' := 47) 0 rfl dX4_readNumber_45 rfl ?_
    refine g_aload_n C (n' := 48) 2 rfl dX4_readNumber_47 rfl rfl ?_
    refine g_get C (n' := 51) (Cn := RX4) (T := TX4) (N := 5) (ci := 3) (v := .int (iI (I 4))) ga_X4 0 rfl rfl 4 (by decide) kw_35 rfl rfl dX4_readNumber_48 rfl ?_
    have h_48 := hI 4
    refine g_icmp_ge C (n' := 54) 76 dX4_readNumber_51 (by decide) rfl (by unfold inR; omega) (by unfold inR; omega) (fun c1 => ?_) (fun c1 => ?_)
    · skip
      exfalso
      omega
    · skip
      refine g_iload_n C (n' := 55) 1 rfl dX4_readNumber_54 rfl rfl ?_
      refine g_bipush C (n' := 57) (by decide) dX4_readNumber_55 rfl ?_
      refine g_imul C (n' := 58) dX4_readNumber_57 rfl ?_
      refine g_aload_n C (n' := 59) 2 rfl dX4_readNumber_58 rfl rfl ?_
      refine g_get C (n' := 62) (Cn := RX4) (T := TX4) (N := 5) (ci := 3) (v := .ref (q 0)) ga_X4 0 rfl rfl 0 (by decide) kw_31 rfl rfl dX4_readNumber_59 rfl ?_
      refine g_iload C (n' := 64) 0 rfl dX4_readNumber_62 rfl ?_
      refine g_cald C (n' := 65) (f := L) 1 1 rfl rfl (by omega) (by omega) (by decide) rfl dX4_readNumber_64 rfl ?_
      have h_64 := hL ((I 3 + ((k : Nat) : Int)).toNat)
      refine g_bipush C (n' := 67) (by decide) dX4_readNumber_65 rfl ?_
      refine g_isub C (n' := 68) dX4_readNumber_67 rfl ?_
      refine g_iadd C (n' := 69) dX4_readNumber_68 rfl ?_
      refine g_istore_n C (n' := 70) [(3, .int (iI (((t_val L (I 3).toNat k) * 10) + ((L (I 3 + ((k : Nat) : Int)).toNat) - 48)))), (4, .int (iI (I 3 + ((k : Nat) : Int)))), (0, .ref (q 99)), (1, .int (iI lo)), (2, .int (iI hi))] dX4_readNumber_69 rfl rfl (by decide) rfl ?_
      refine g_iinc C (n' := 73) 1 [(4, .int (iI ((I 3 + ((k : Nat) : Int)) + 1))), (3, .int (iI (((t_val L (I 3).toNat k) * 10) + ((L (I 3 + ((k : Nat) : Int)).toNat) - 48)))), (0, .ref (q 99)), (1, .int (iI lo)), (2, .int (iI hi))] rfl dX4_readNumber_70 rfl (by decide) rfl ?_
      refine g_goto C 45 dX4_readNumber_73 (by decide) ?_
      rw [show ((((t_val L (I 3).toNat k) * 10) + ((L (I 3 + ((k : Nat) : Int)).toNat) - 48)) : Int) = t_val L (I 3).toNat (k + 1) from by rw [t_val, show (I 3 + ((k : Nat) : Int)).toNat = (I 3).toNat + k by omega]]
      rw [show (((I 3 + ((k : Nat) : Int)) + 1) : Int) = I 3 + ((k + 1 : Nat) : Int) from by omega]
      refine g_lv [0, 1, 2, 3, 4] rfl ?_
      exact ih (k + 1) (by omega) K
set_option maxRecDepth 100000 in
set_option maxHeartbeats 4000000 in
theorem c_X4_readNumber (l : Launch) (D : va_G) (Y : Nat → ClassId) {E : (Nat → Prop) → State → Heap → Prop} (hE : g_Stab E) (q : Nat → Nat) (I : Nat → Int) (L : Nat → Int) (lo : Int) (hi : Int) (hsI : smI I) (hsL : smL L) (hT : tokOK I) (hlo : 0 ≤ lo ∧ lo ≤ 1000) (hhi : -10 ≤ hi ∧ hi ≤ 1000000) : g_Ct l yX4_readNumber cX4_readNumber 5 (some FieldType.int) ({ frames := 2, cells := 0, slots := 0, locals := 41 } : Room) D (tysY Y) E [.ref (q 99), .int (iI lo), .int (iI hi)] (wText q Y I L) 0 0 (g_det (some (.int (iI (t_num L (I 1) (I 3) (I 4) lo hi)))) (wText q Y (if (t_num L (I 1) (I 3) (I 4) lo hi) = -1 then I else (t_adv I L)) L)) := by
  refine g_ofG (own := RX4) hE (by decide) rfl (Nat.le_of_ble_eq_true rfl) [(0, .ref (q 99)), (1, .int (iI lo)), (2, .int (iI hi))] rfl ?_
  intro p9 e9 s9 m9 b9 t9 c9 A9 C hr hlk hnm
  have hI := hsI
  have hL := hsL
  unfold smI at hI
  unfold smL at hL
  have hT9 := hT
  unfold tokOK at hT9
  refine g_aload_n C (n' := 1) 0 rfl dX4_readNumber_0 rfl rfl ?_
  refine g_cVv C (n' := 4) (v := .int (iI (if (I 1) ≤ (I 3) then 1 else 0))) (c_X4_isAtEnd l D Y C.2.2.2.2.2.2.2.2.1 q I L hsI hsL) 0 kw_255 kc_X4_isAtEnd (by decide +kernel) (pm0 _) 0 (ci := 3) rfl rfl rfl rfl ⟨Nat.le_of_ble_eq_true rfl, Nat.le_of_ble_eq_true rfl⟩ ⟨rfl, rfl⟩ ⟨Nat.le_of_ble_eq_true rfl, Nat.le_of_ble_eq_true rfl⟩ (Nat.le_of_ble_eq_true rfl) dX4_readNumber_1 rfl rfl (wText q Y I L) (pm0' _) ?_
  refine g_if_ne C (n' := 7) 35 dX4_readNumber_4 (by decide) rfl bz_r (fun c1 => ?_) (fun c1 => ?_)
  · skip
    replace c1 := bz_ne.mp c1
    refine g_iconst C (n' := 36) dX4_readNumber_35 rfl ?_
    have hN : t_num L (I 1) (I 3) (I 4) lo hi = (-1) := by
      unfold t_num
      (repeat' split) <;> first | rfl | omega
    refine g_iret C hr hlk rfl ⟨by rw [hN], ?_⟩ dX4_readNumber_36
    rw [if_pos hN]
  · skip
    replace c1 := bz_nne.mp c1
    refine g_aload_n C (n' := 8) 0 rfl dX4_readNumber_7 rfl rfl ?_
    refine g_get C (n' := 11) (Cn := RX4) (T := TX4) (N := 5) (ci := 3) (v := .ref (q 0)) ga_X4 0 rfl rfl 0 (by decide) kw_31 rfl rfl dX4_readNumber_8 rfl ?_
    refine g_aload_n C (n' := 12) 0 rfl dX4_readNumber_11 rfl rfl ?_
    refine g_get C (n' := 15) (Cn := RX4) (T := TX4) (N := 5) (ci := 3) (v := .int (iI (I 3))) ga_X4 0 rfl rfl 3 (by decide) kw_34 rfl rfl dX4_readNumber_12 rfl ?_
    have h_12 := hI 3
    refine g_cald C (n' := 16) (f := L) 1 1 rfl rfl (by omega) (by omega) (by decide) rfl dX4_readNumber_15 rfl ?_
    have h_15 := hL ((I 3).toNat)
    refine g_cSv C (n' := 19) (v := .int (iI (if 48 ≤ (L (I 3).toNat) ∧ (L (I 3).toNat) ≤ 57 then 1 else 0))) (c_X4_isDigit l D Y C.2.2.2.2.2.2.2.2.1 (L (I 3).toNat) (by unfold inR at *; omega)) 1 kw_262 kc_X4_isDigit (by decide +kernel) (pm_n _) rfl ⟨Nat.le_of_ble_eq_true rfl, Nat.le_of_ble_eq_true rfl⟩ ⟨rfl, rfl⟩ ⟨Nat.le_of_ble_eq_true rfl, Nat.le_of_ble_eq_true rfl⟩ (Nat.le_of_ble_eq_true rfl) dX4_readNumber_16 rfl rfl (wText q Y I L) (pm_n _) ?_
    refine g_if_eq C (n' := 22) 35 dX4_readNumber_19 (by decide) rfl bz_r (fun c2 => ?_) (fun c2 => ?_)
    · skip
      replace c2 := bz_eq.mp c2
      refine g_iconst C (n' := 36) dX4_readNumber_35 rfl ?_
      have hN : t_num L (I 1) (I 3) (I 4) lo hi = (-1) := by
        unfold t_num
        (repeat' split) <;> first | rfl | omega
      refine g_iret C hr hlk rfl ⟨by rw [hN], ?_⟩ dX4_readNumber_36
      rw [if_pos hN]
    · skip
      replace c2 := bz_neq.mp c2
      refine g_aload_n C (n' := 23) 0 rfl dX4_readNumber_22 rfl rfl ?_
      refine g_get C (n' := 26) (Cn := RX4) (T := TX4) (N := 5) (ci := 3) (v := .int (iI (I 4))) ga_X4 0 rfl rfl 4 (by decide) kw_35 rfl rfl dX4_readNumber_23 rfl ?_
      have h_23 := hI 4
      refine g_aload_n C (n' := 27) 0 rfl dX4_readNumber_26 rfl rfl ?_
      refine g_get C (n' := 30) (Cn := RX4) (T := TX4) (N := 5) (ci := 3) (v := .int (iI (I 3))) ga_X4 0 rfl rfl 3 (by decide) kw_34 rfl rfl dX4_readNumber_27 rfl ?_
      have h_27 := hI 3
      refine g_isub C (n' := 31) dX4_readNumber_30 rfl ?_
      refine g_iconst C (n' := 32) dX4_readNumber_31 rfl ?_
      refine g_icmp_le C (n' := 35) 37 dX4_readNumber_32 (by decide) rfl (by unfold inR; omega) (by unfold inR; omega) (fun c3 => ?_) (fun c3 => ?_)
      · skip
        refine g_iconst C (n' := 38) dX4_readNumber_37 rfl ?_
        refine g_istore_n C (n' := 39) [(3, .int (iI 0)), (0, .ref (q 99)), (1, .int (iI lo)), (2, .int (iI hi))] dX4_readNumber_38 rfl rfl (by decide) rfl ?_
        refine g_aload_n C (n' := 40) 1 rfl dX4_readNumber_39 rfl rfl ?_
        refine g_get C (n' := 43) (Cn := RX4) (T := TX4) (N := 5) (ci := 3) (v := .int (iI (I 3))) ga_X4 0 rfl rfl 3 (by decide) kw_34 rfl rfl dX4_readNumber_40 rfl ?_
        have h_40 := hI 3
        refine g_istore C (n' := 45) [(4, .int (iI (I 3))), (3, .int (iI 0)), (0, .ref (q 99)), (1, .int (iI lo)), (2, .int (iI hi))] dX4_readNumber_43 rfl (by decide) rfl ?_
        refine g_lv (lv' := [(4, .int (iI (I 3 + ((0 : Nat) : Int)))), (3, .int (iI (t_val L (I 3).toNat 0))), (0, .ref (q 99)), (1, .int (iI lo)), (2, .int (iI hi))]) [0, 1, 2, 3, 4] (by simp only [lv_pick, List.filterMap]; rw [show (I 3 + ((0 : Nat) : Int)) = I 3 by omega]; rfl) ?_
        refine lp_X4_num C q I L lo hi hsI hsL hT (by omega) (I 4 - I 3).toNat 0 (by omega) ?_
        have hv := t_val_r hsL (I 3).toNat (I 4 - I 3).toNat (by omega)
        refine g_iload_n C (n' := 77) 1 rfl dX4_readNumber_76 rfl rfl ?_
        refine g_iload_n C (n' := 78) 3 rfl dX4_readNumber_77 rfl rfl ?_
        refine g_iload_n C (n' := 79) 4 rfl dX4_readNumber_78 rfl rfl ?_
        refine g_cNv C (n' := 82) (v := .int (iI (if lo ≤ (t_val L (I 3).toNat ((I 4 - I 3).toNat)) ∧ (t_val L (I 3).toNat ((I 4 - I 3).toNat)) ≤ hi then 1 else 0))) (c_X7_isWithin l D Y C.2.2.2.2.2.2.2.2.1 (t_val L (I 3).toNat ((I 4 - I 3).toNat)) lo hi (by unfold inR at *; omega) (by unfold inR at *; omega) (by unfold inR at *; omega)) 3 (List.mem_of_getElem? (i := 25) rfl) kc_X7_isWithin (by decide +kernel) (pm_n _) rfl ⟨Nat.le_of_ble_eq_true rfl, Nat.le_of_ble_eq_true rfl⟩ ⟨rfl, rfl⟩ ⟨Nat.le_of_ble_eq_true rfl, Nat.le_of_ble_eq_true rfl⟩ (Nat.le_of_ble_eq_true rfl) dX4_readNumber_79 rfl rfl (wText q Y I L) (pm_n _) ?_
        refine g_if_ne C (n' := 85) 87 dX4_readNumber_82 (by decide) rfl bz_r (fun c4 => ?_) (fun c4 => ?_)
        · skip
          replace c4 := bz_ne.mp c4
          refine g_aload_n C (n' := 88) 2 rfl dX4_readNumber_87 rfl rfl ?_
          refine g_cVn C (n' := 91) (c_X4_advance l D Y C.2.2.2.2.2.2.2.2.1 q I L hsI hsL hT) 0 kw_251 kc_X4_advance (by decide +kernel) (pm0 _) 0 (ci := 3) rfl rfl rfl rfl ⟨Nat.le_of_ble_eq_true rfl, Nat.le_of_ble_eq_true rfl⟩ ⟨rfl, rfl⟩ ⟨Nat.le_of_ble_eq_true rfl, Nat.le_of_ble_eq_true rfl⟩ (Nat.le_of_ble_eq_true rfl) dX4_readNumber_88 rfl rfl (wText q Y (t_adv I L) L) (pm0' _) ?_
          have hf5 : tokOK (t_adv I L) := t_adv_ok hT
          have hf6 : smI (t_adv I L) := t_adv_sm hsI hT
          generalize hg_I7 : (t_adv I L) = I7 at hf5 hf6 ⊢
          have hI7 := hf_of hf6
          refine g_iload_n C (n' := 92) 1 rfl dX4_readNumber_91 rfl rfl ?_
          have hN : t_num L (I 1) (I 3) (I 4) lo hi = t_val L (I 3).toNat (I 4 - I 3).toNat := by
            unfold t_num
            (repeat' split) <;> first | rfl | omega
          refine g_iret C hr hlk rfl ⟨by rw [hN], ?_⟩ dX4_readNumber_92
          rw [if_neg (by omega)]
          all_goals (try rw [hg_I7])
        · skip
          replace c4 := bz_nne.mp c4
          refine g_iconst C (n' := 86) dX4_readNumber_85 rfl ?_
          have hN : t_num L (I 1) (I 3) (I 4) lo hi = (-1) := by
            unfold t_num
            (repeat' split) <;> first | rfl | omega
          refine g_iret C hr hlk rfl ⟨by rw [hN], ?_⟩ dX4_readNumber_86
          rw [if_pos hN]
      · skip
        refine g_iconst C (n' := 36) dX4_readNumber_35 rfl ?_
        have hN : t_num L (I 1) (I 3) (I 4) lo hi = (-1) := by
          unfold t_num
          (repeat' split) <;> first | rfl | omega
        refine g_iret C hr hlk rfl ⟨by rw [hN], ?_⟩ dX4_readNumber_36
        rw [if_pos hN]
end
section
/-! difference bounds: shifts lowered from 0 come to the greatest solution, in as many rounds as there are registers -/
def bc (p : Nat → Bool) : Nat → Nat
  | 0 => 0
  | n + 1 => bc p n + (if p n then 1 else 0)
theorem bc_le (p : Nat → Bool) : ∀ n, bc p n ≤ n
  | 0 => Nat.le_refl _
  | n + 1 => by
    have h := bc_le p n
    rw [bc]
    split <;> omega
theorem bc_sub {p q : Nat → Bool} : ∀ {n : Nat}, (∀ k, k < n → p k = true → q k = true) → bc p n ≤ bc q n
  | 0, _ => Nat.le_refl _
  | n + 1, h => by
    have h1 := bc_sub (n := n) (p := p) (q := q) (fun k hk => h k (by omega))
    have h2 := h n (by omega)
    rw [bc, bc]
    by_cases a : p n = true
    · rw [a, h2 a]
      omega
    · rw [if_neg a]
      split <;> omega
theorem bc_lt {p q : Nat → Bool} : ∀ {n : Nat}, (∀ k, k < n → p k = true → q k = true) → (∃ i, i < n ∧ q i = true ∧ p i = false) → bc p n < bc q n
  | 0, _, h => by
    obtain ⟨i, hi, -⟩ := h
    omega
  | n + 1, h, ⟨i, hi, h1, h2⟩ => by
    rw [bc, bc]
    by_cases e : i = n
    · subst e
      have h3 := bc_sub (n := i) (p := p) (q := q) (fun k hk => h k (by omega))
      rw [h1, h2]
      simp
      omega
    · have h3 := bc_lt (n := n) (p := p) (q := q) (fun k hk => h k (by omega)) ⟨i, by omega, h1, h2⟩
      have h4 := h n (by omega)
      by_cases a : p n = true
      · rw [a, h4 a]
        omega
      · rw [if_neg a]
        split <;> omega
theorem bc_all {p : Nat → Bool} : ∀ {n : Nat}, bc p n = n → ∀ k, k < n → p k = true
  | 0, _, k, hk => by omega
  | n + 1, h, k, hk => by
    rw [bc] at h
    have h1 := bc_le p n
    by_cases a : p n = true
    · rw [if_pos a] at h
      by_cases e : k = n
      · rw [e]
        exact a
      · exact bc_all (n := n) (by omega) k (by omega)
    · rw [if_neg a] at h
      omega
def bsum (f : Nat → Int) : Nat → Int
  | 0 => 0
  | n + 1 => bsum f n + f n
theorem bsum_le {f g : Nat → Int} : ∀ {n : Nat}, (∀ k, k < n → f k ≤ g k) → bsum f n ≤ bsum g n
  | 0, _ => Int.le_refl _
  | n + 1, h => by
    have h1 := bsum_le (n := n) (f := f) (g := g) (fun k hk => h k (by omega))
    have h2 := h n (by omega)
    rw [bsum, bsum]
    omega
theorem bsum_lt {f g : Nat → Int} : ∀ {n : Nat}, (∀ k, k < n → f k ≤ g k) → (∃ i, i < n ∧ f i < g i) → bsum f n < bsum g n
  | 0, _, ⟨i, hi, _⟩ => by omega
  | n + 1, h, ⟨i, hi, h1⟩ => by
    have h2 := h n (by omega)
    rw [bsum, bsum]
    by_cases e : i = n
    · subst e
      have h3 := bsum_le (n := i) (f := f) (g := g) (fun k hk => h k (by omega))
      omega
    · have h3 := bsum_lt (n := n) (f := f) (g := g) (fun k hk => h k (by omega)) ⟨i, by omega, h1⟩
      omega
theorem bsum_np {f : Nat → Int} : ∀ {n : Nat}, (∀ k, k < n → f k ≤ 0) → bsum f n ≤ 0
  | 0, _ => Int.le_refl _
  | n + 1, h => by
    have h1 := bsum_np (n := n) (f := f) (fun k hk => h k (by omega))
    have h2 := h n (by omega)
    rw [bsum]
    omega
/-- a solution of the bounds -/
def bsol (Ed : Nat → Nat → Int → Prop) (s : Nat → Int) : Prop := ∀ (a b : Nat) (c : Int), Ed a b c → s a ≤ s b + c
/-- the greatest solution of those that are nowhere above 0 -/
def bG (n : Nat) (Ed : Nat → Nat → Int → Prop) (g : Nat → Int) : Prop := bsol Ed g ∧ (∀ a, a < n → g a ≤ 0) ∧ ∀ s : Nat → Int, bsol Ed s → (∀ a, a < n → s a ≤ 0) → ∀ a, a < n → s a ≤ g a
theorem bG_one {n : Nat} {Ed : Nat → Nat → Int → Prop} {g h : Nat → Int} (hg : bG n Ed g) (hh : bG n Ed h) : ∀ a, a < n → g a = h a := fun a ha => by
  have h1 := hg.2.2 h hh.1 hh.2.1 a ha
  have h2 := hh.2.2 g hg.1 hg.2.1 a ha
  omega
theorem b_max (f : Nat → Int) : ∀ n : Nat, ∃ m : Int, ∀ a, a < n → f a ≤ m
  | 0 => ⟨0, fun a ha => by omega⟩
  | n + 1 => by
    obtain ⟨m, hm⟩ := b_max f n
    refine ⟨if f n ≤ m then m else f n, fun a ha => ?_⟩
    by_cases e : a = n
    · subst e
      split <;> omega
    · have := hm a (by omega)
      split <;> omega
theorem b_has {n : Nat} {Ed : Nat → Nat → Int → Prop} (h : ∃ s, bsol Ed s) : ∃ g, bG n Ed g := by
  obtain ⟨s, hs⟩ := h
  obtain ⟨m, hm⟩ := b_max s n
  have h0 : ∃ k : Nat, ∃ s : Nat → Int, bsol Ed s ∧ (∀ a, a < n → s a ≤ 0) ∧ bsum s n = -(k : Int) := by
    refine ⟨(-(bsum (fun a => s a - m) n)).toNat, fun a => s a - m, fun a b c hc => ?_, fun a ha => ?_, ?_⟩
    · have := hs a b c hc
      show s a - m ≤ s b - m + c
      omega
    · have := hm a ha
      show s a - m ≤ 0
      omega
    · have := bsum_np (f := fun a => s a - m) (n := n) (fun a ha => by have := hm a ha; show s a - m ≤ 0; omega)
      omega
  obtain ⟨k, ⟨g, g1, g2, g3⟩, hk⟩ := pk_least _ h0
  refine ⟨g, g1, g2, fun s' t1 t2 a ha => ?_⟩
  by_cases q : s' a ≤ g a
  · exact q
  exfalso
  have u1 : bsol Ed (fun x => if g x ≤ s' x then s' x else g x) := fun x y c hc => by
    have e1 := g1 x y c hc
    have e2 := t1 x y c hc
    show (if g x ≤ s' x then s' x else g x) ≤ (if g y ≤ s' y then s' y else g y) + c
    split <;> split <;> omega
  have u2 : ∀ x, x < n → (fun x => if g x ≤ s' x then s' x else g x) x ≤ 0 := fun x hx => by
    have e1 := g2 x hx
    have e2 := t2 x hx
    show (if g x ≤ s' x then s' x else g x) ≤ 0
    split <;> omega
  have u3 : bsum g n < bsum (fun x => if g x ≤ s' x then s' x else g x) n := bsum_lt (fun x hx => by
    show g x ≤ (if g x ≤ s' x then s' x else g x)
    split <;> omega) ⟨a, ha, by
    show g a < (if g a ≤ s' a then s' a else g a)
    rw [if_pos (by omega)]
    omega⟩
  have u4 := bsum_np u2
  refine hk (-(bsum (fun x => if g x ≤ s' x then s' x else g x) n)).toNat ?_ ⟨_, u1, u2, ?_⟩
  · omega
  · omega
/-- rounds S 0, S 1 ..: from 0 on, each lowers, stays above every solution, and keeps each bound by the round before -/
def bRd (n : Nat) (Ed : Nat → Nat → Int → Prop) (S : Nat → Nat → Int) : Prop := (∀ a, a < n → S 0 a = 0) ∧ (∀ k a, a < n → S (k + 1) a ≤ S k a) ∧ (∀ k g, bsol Ed g → (∀ a, a < n → g a ≤ S k a) → ∀ a, a < n → g a ≤ S (k + 1) a) ∧ ∀ k a b c, Ed a b c → S (k + 1) a ≤ S k b + c
theorem bRd_np {n : Nat} {Ed : Nat → Nat → Int → Prop} {S : Nat → Nat → Int} (h : bRd n Ed S) : ∀ k a, a < n → S k a ≤ 0
  | 0, a, ha => by rw [h.1 a ha]; omega
  | k + 1, a, ha => by
    have h1 := bRd_np h k a ha
    have h2 := h.2.1 k a ha
    omega
theorem bRd_ge {n : Nat} {Ed : Nat → Nat → Int → Prop} {S : Nat → Nat → Int} (h : bRd n Ed S) {g : Nat → Int} (hg : bsol Ed g) (h0 : ∀ a, a < n → g a ≤ 0) : ∀ k a, a < n → g a ≤ S k a
  | 0, a, ha => by rw [h.1 a ha]; exact h0 a ha
  | k + 1, a, ha => h.2.2.1 k g hg (bRd_ge h hg h0 k) a ha
/-- a round that changes nothing: the greatest solution stands -/
theorem bRd_rest {n : Nat} {Ed : Nat → Nat → Int → Prop} {S : Nat → Nat → Int} (hE : ∀ a b c, Ed a b c → a < n ∧ b < n) (h : bRd n Ed S) {k : Nat} (hk : ∀ a, a < n → S (k + 1) a = S k a) : bG n Ed (S k) :=
  ⟨fun a b c hc => by rw [← hk a (hE a b c hc).1]; exact h.2.2.2 k a b c hc, bRd_np h k, fun s s1 s2 a ha => bRd_ge h s1 s2 k a ha⟩
theorem bRd_grow {n : Nat} {Ed : Nat → Nat → Int → Prop} {S : Nat → Nat → Int} (hE : ∀ a b c, Ed a b c → a < n ∧ b < n) (h : bRd n Ed S) {g : Nat → Int} (hg : bG n Ed g) (k : Nat) (hn : ∃ a, a < n ∧ S k a ≠ g a) : ∃ a, a < n ∧ S (k + 1) a = g a ∧ S k a ≠ g a := by
  obtain ⟨z, hz, hz2⟩ := hn
  have ge := bRd_ge h hg.1 hg.2.1
  have np := bRd_np h
  by_cases q : ∃ a, a < n ∧ S (k + 1) a = g a ∧ S k a ≠ g a
  · exact q
  exfalso
  have no : ∀ a, a < n → S k a ≠ g a → g a + 1 ≤ S (k + 1) a := fun a ha h1 => by
    have h2 := ge (k + 1) a ha
    by_cases e : S (k + 1) a = g a
    · exact absurd ⟨a, ha, e, h1⟩ q
    · omega
  have u1 : bsol Ed (fun a => if S k a = g a then g a else g a + 1) := fun a b c hc => by
    have ha := (hE a b c hc).1
    have e1 := hg.1 a b c hc
    have e2 := h.2.2.2 k a b c hc
    have e3 := no a ha
    show (if S k a = g a then g a else g a + 1) ≤ (if S k b = g b then g b else g b + 1) + c
    split <;> split
    · omega
    · omega
    · next x y =>
      have := e3 x
      omega
    · omega
  have u2 : ∀ a, a < n → (fun a => if S k a = g a then g a else g a + 1) a ≤ 0 := fun a ha => by
    have e1 := ge k a ha
    have e2 := np k a ha
    have e3 := hg.2.1 a ha
    show (if S k a = g a then g a else g a + 1) ≤ 0
    split <;> omega
  have u3 := hg.2.2 _ u1 u2 z hz
  have u4 : (if S k z = g z then g z else g z + 1) ≤ g z := u3
  rw [if_neg hz2] at u4
  omega
theorem bRd_first {n : Nat} {Ed : Nat → Nat → Int → Prop} {S : Nat → Nat → Int} (h : bRd n Ed S) {g : Nat → Int} (hg : bG n Ed g) (hn : 0 < n) : ∃ a, a < n ∧ S 0 a = g a := by
  by_cases q : ∃ a, a < n ∧ S 0 a = g a
  · exact q
  exfalso
  have u0 : ∀ a, a < n → g a + 1 ≤ 0 := fun a ha => by
    have h1 := h.1 a ha
    have h2 := hg.2.1 a ha
    by_cases e : S 0 a = g a
    · exact absurd ⟨a, ha, e⟩ q
    · omega
  have u3 := hg.2.2 (fun a => g a + 1) (fun a b c hc => by
    have := hg.1 a b c hc
    show g a + 1 ≤ g b + 1 + c
    omega) u0 0 hn
  have u4 : g 0 + 1 ≤ g 0 := u3
  omega
theorem bRd_count {n : Nat} {Ed : Nat → Nat → Int → Prop} {S : Nat → Nat → Int} (hE : ∀ a b c, Ed a b c → a < n ∧ b < n) (h : bRd n Ed S) {g : Nat → Int} (hg : bG n Ed g) (hn : 0 < n) : ∀ k : Nat, k + 1 ≤ bc (fun a => decide (S k a = g a)) n ∨ bc (fun a => decide (S k a = g a)) n = n
  | 0 => by
    obtain ⟨a, ha, e⟩ := bRd_first h hg hn
    left
    have h1 := bc_lt (n := n) (p := fun _ => false) (q := fun a => decide (S 0 a = g a)) (fun k hk q => by cases q) ⟨a, ha, by simpa using e, rfl⟩
    omega
  | k + 1 => by
    have ge := bRd_ge h hg.1 hg.2.1
    have sub : ∀ a, a < n → decide (S k a = g a) = true → decide (S (k + 1) a = g a) = true := fun a ha e => by
      have e1 : S k a = g a := by simpa using e
      have e2 := h.2.1 k a ha
      have e3 := ge (k + 1) a ha
      simp
      omega
    rcases bRd_count hE h hg hn k with q | q
    · by_cases z : ∃ a, a < n ∧ S k a ≠ g a
      · obtain ⟨a, ha, e1, e2⟩ := bRd_grow hE h hg k z
        left
        have := bc_lt (n := n) sub ⟨a, ha, by simpa using e1, by simpa using e2⟩
        omega
      · right
        have h1 : ∀ a, a < n → S k a = g a := fun a ha => by
          by_cases e : S k a = g a
          · exact e
          · exact absurd ⟨a, ha, e⟩ z
        have h2 := bc_sub (n := n) (p := fun _ => true) (q := fun a => decide (S (k + 1) a = g a)) (fun a ha _ => sub a ha (by simpa using h1 a ha))
        have h3 := bc_le (fun a => decide (S (k + 1) a = g a)) n
        have h4 : ∀ m : Nat, bc (fun _ => true) m = m := fun m => by
          induction m with
          | zero => rfl
          | succ m ih => rw [bc, ih]; rfl
        rw [h4] at h2
        omega
    · right
      have h2 := bc_sub (n := n) sub
      have h3 := bc_le (fun a => decide (S (k + 1) a = g a)) n
      omega
/-- if there is a solution, the round behind the first n - 1 rounds changes nothing -/
theorem bRd_done {n : Nat} {Ed : Nat → Nat → Int → Prop} {S : Nat → Nat → Int} (hE : ∀ a b c, Ed a b c → a < n ∧ b < n) (h : bRd n Ed S) (hn : 0 < n) (hs : ∃ s, bsol Ed s) : ∀ k, n ≤ k + 1 → ∀ a, a < n → S (k + 1) a = S k a := by
  obtain ⟨g, hg⟩ := b_has (n := n) hs
  intro k hk a ha
  have ge := bRd_ge h hg.1 hg.2.1
  have h1 : bc (fun a => decide (S k a = g a)) n = n := by
    have h2 := bc_le (fun a => decide (S k a = g a)) n
    rcases bRd_count hE h hg hn k with q | q <;> omega
  have h2 : S k a = g a := by simpa using bc_all h1 a ha
  have h3 := h.2.1 k a ha
  have h4 := ge (k + 1) a ha
  omega
end
section
/-! Planner -/
def wPlan (q : Nat → Nat) (Y : Nat → ClassId) (I : Nat → Int) (A B : Nat → Nat → Int) : va_W := [(q 99, .inr (2, [.ref (q 0), .ref (q 1), .ref (q 2), .int (iI (I 3)), .int (iI (I 4)), .int (iI (I 5)), .int (iI (I 6))])), (q 0, .inl (Y 7, 8, .inr (.inr (.inr (.inr (fun i => if i < 8 then some (q (20 + i)) else none)))))), (q 1, .inl (Y 0, 8, .inl (iA (A 1)))), (q 2, .inl (Y 0, 8, .inl (iA (A 2)))), (q (20 + 0), .inl (Y 0, 8, .inl (iA (B 0)))), (q (20 + 1), .inl (Y 0, 8, .inl (iA (B 1)))), (q (20 + 2), .inl (Y 0, 8, .inl (iA (B 2)))), (q (20 + 3), .inl (Y 0, 8, .inl (iA (B 3)))), (q (20 + 4), .inl (Y 0, 8, .inl (iA (B 4)))), (q (20 + 5), .inl (Y 0, 8, .inl (iA (B 5)))), (q (20 + 6), .inl (Y 0, 8, .inl (iA (B 6)))), (q (20 + 7), .inl (Y 0, 8, .inl (iA (B 7))))]
theorem pl_row {q : Nat → Nat} {Y : Nat → ClassId} {I : Nat → Int} {A B : Nat → Nat → Int} {a : Nat} (h : a < 8) : (wPlan q Y I A B)[4 + a]? = some (q (20 + a), .inl (Y 0, 8, .inl (iA (B a)))) := by
  rcases (show a = 0 ∨ a = 1 ∨ a = 2 ∨ a = 3 ∨ a = 4 ∨ a = 5 ∨ a = 6 ∨ a = 7 by omega) with rfl | rfl | rfl | rfl | rfl | rfl | rfl | rfl <;> rfl
theorem pl_set {q : Nat → Nat} {Y : Nat → ClassId} {I : Nat → Int} {A B : Nat → Nat → Int} {a : Nat} {f : Nat → Int} (h : a < 8) : (wPlan q Y I A B).set (4 + a) (q (20 + a), .inl (Y 0, 8, .inl (iA f))) = wPlan q Y I A (sU B a f) := by
  rcases (show a = 0 ∨ a = 1 ∨ a = 2 ∨ a = 3 ∨ a = 4 ∨ a = 5 ∨ a = 6 ∨ a = 7 by omega) with rfl | rfl | rfl | rfl | rfl | rfl | rfl | rfl <;> rfl
theorem pl_row2 {q : Nat → Nat} {Y : Nat → ClassId} {I : Nat → Int} {A B : Nat → Nat → Int} {w : va_W} {a : Nat} (h : a < 8) : (wPlan q Y I A B ++ w)[4 + a]? = some (q (20 + a), .inl (Y 0, 8, .inl (iA (B a)))) := by
  rw [List.getElem?_append_left (by show 4 + a < 12; omega)]
  exact pl_row h
theorem pl_set2 {q : Nat → Nat} {Y : Nat → ClassId} {I : Nat → Int} {A B : Nat → Nat → Int} {w : va_W} {a : Nat} {f : Nat → Int} (h : a < 8) : (wPlan q Y I A B ++ w).set (4 + a) (q (20 + a), .inl (Y 0, 8, .inl (iA f))) = wPlan q Y I A (sU B a f) ++ w := by
  rw [List.set_append_left _ _ (by show 4 + a < 12; omega), pl_set h]
def okB (B : Nat → Nat → Int) : Prop := ∀ a b : Nat, B a b = 2147483647 ∨ (-1700 ≤ B a b ∧ B a b ≤ 10000)
def p_tight (B : Nat → Nat → Int) (a b : Nat) (x : Int) : Nat → Nat → Int := sU B a (sU (B a) b (if B a b ≤ x then B a b else x))
theorem ed_r {x s : Int} (h1 : -1700 ≤ x ∧ x ≤ 10000) (hs : 1 ≤ s) : -1700 ≤ x / s ∧ x / s ≤ 10000 := by
  constructor
  · exact Int.le_ediv_of_mul_le (by omega) (by omega)
  · by_cases q : 0 ≤ x
    · have := Int.ediv_le_self s q
      omega
    · have := Int.ediv_neg_of_neg_of_pos (show x < 0 by omega) (show 0 < s by omega)
      omega
theorem p_tight_ok {B : Nat → Nat → Int} (h : okB B) {a b : Nat} {x : Int} (hx : -1700 ≤ x ∧ x ≤ 10000) : okB (p_tight B a b x) := by
  intro i j
  unfold p_tight
  by_cases e : i = a
  · subst e
    rw [sU_s]
    by_cases e2 : j = b
    · subst e2
      rw [sU_s]
      have := h i j
      split <;> omega
    · rw [sU_n _ _ e2]
      exact h i j
  · rw [sU_n _ _ e]
    exact h i j
set_option maxRecDepth 100000 in
set_option maxHeartbeats 4000000 in
theorem c_X3_shiftOf (l : Launch) (D : va_G) (Y : Nat → ClassId) {E : (Nat → Prop) → State → Heap → Prop} (hE : g_Stab E) (q : Nat → Nat) (I : Nat → Int) (A : Nat → Nat → Int) (B : Nat → Nat → Int) (r : Int) (hr : 0 ≤ r ∧ r < 8) : g_Ct l yX3_shiftOf cX3_shiftOf 2 (some FieldType.int) ({ frames := 0, cells := 0, slots := 0, locals := 0 } : Room) D (tysY Y) E [.ref (q 99), .int (iI r)] (wPlan q Y I A B) 0 0 (g_det (some (.int (iI (A 1 r.toNat)))) (wPlan q Y I A B)) := by
  refine g_ofG (own := RX3) hE (by decide) rfl (Nat.le_of_ble_eq_true rfl) [(0, .ref (q 99)), (1, .int (iI r))] rfl ?_
  intro p9 e9 s9 m9 b9 t9 c9 A9 C hr hlk hnm
  refine g_aload_n C (n' := 1) 0 rfl dX3_shiftOf_0 rfl rfl ?_
  refine g_get C (n' := 4) (Cn := RX3) (T := TX3) (N := 7) (ci := 2) (v := .ref (q 1)) ga_X3 0 rfl rfl 1 (by decide) kw_140 rfl rfl dX3_shiftOf_1 rfl ?_
  refine g_iload_n C (n' := 5) 1 rfl dX3_shiftOf_4 rfl rfl ?_
  refine g_iald C (n' := 6) (f := (A 1)) 2 0 rfl rfl (by omega) (by omega) (by decide) rfl dX3_shiftOf_5 rfl ?_
  refine g_iret C hr hlk rfl ⟨congrArg (fun z : Int => some (Value.int (iI z))) ?_, ?_⟩ dX3_shiftOf_6
  · first | rfl | omega | ((repeat' split) <;> first | rfl | omega | (exfalso; omega))
  · first | rfl | omega | ((repeat' split) <;> first | rfl | omega | (exfalso; omega))
set_option maxRecDepth 100000 in
set_option maxHeartbeats 4000000 in
theorem c_X3_ringLength (l : Launch) (D : va_G) (Y : Nat → ClassId) {E : (Nat → Prop) → State → Heap → Prop} (hE : g_Stab E) (q : Nat → Nat) (I : Nat → Int) (A : Nat → Nat → Int) (B : Nat → Nat → Int) : g_Ct l yX3_ringLength cX3_ringLength 1 (some FieldType.int) ({ frames := 0, cells := 0, slots := 0, locals := 0 } : Room) D (tysY Y) E [.ref (q 99)] (wPlan q Y I A B) 0 0 (g_det (some (.int (iI (I 4)))) (wPlan q Y I A B)) := by
  refine g_ofG (own := RX3) hE (by decide) rfl (Nat.le_of_ble_eq_true rfl) [(0, .ref (q 99))] rfl ?_
  intro p9 e9 s9 m9 b9 t9 c9 A9 C hr hlk hnm
  refine g_aload_n C (n' := 1) 0 rfl dX3_ringLength_0 rfl rfl ?_
  refine g_get C (n' := 4) (Cn := RX3) (T := TX3) (N := 7) (ci := 2) (v := .int (iI (I 4))) ga_X3 0 rfl rfl 4 (by decide) kw_143 rfl rfl dX3_ringLength_1 rfl ?_
  refine g_iret C hr hlk rfl ⟨congrArg (fun z : Int => some (Value.int (iI z))) ?_, ?_⟩ dX3_ringLength_4
  · first | rfl | omega | ((repeat' split) <;> first | rfl | omega | (exfalso; omega))
  · first | rfl | omega | ((repeat' split) <;> first | rfl | omega | (exfalso; omega))
set_option maxRecDepth 100000 in
set_option maxHeartbeats 4000000 in
theorem c_X3_ringRegister (l : Launch) (D : va_G) (Y : Nat → ClassId) {E : (Nat → Prop) → State → Heap → Prop} (hE : g_Stab E) (q : Nat → Nat) (I : Nat → Int) (A : Nat → Nat → Int) (B : Nat → Nat → Int) (r : Int) (hr : 0 ≤ r ∧ r < 8) : g_Ct l yX3_ringRegister cX3_ringRegister 2 (some FieldType.int) ({ frames := 0, cells := 0, slots := 0, locals := 0 } : Room) D (tysY Y) E [.ref (q 99), .int (iI r)] (wPlan q Y I A B) 0 0 (g_det (some (.int (iI (A 2 r.toNat)))) (wPlan q Y I A B)) := by
  refine g_ofG (own := RX3) hE (by decide) rfl (Nat.le_of_ble_eq_true rfl) [(0, .ref (q 99)), (1, .int (iI r))] rfl ?_
  intro p9 e9 s9 m9 b9 t9 c9 A9 C hr hlk hnm
  refine g_aload_n C (n' := 1) 0 rfl dX3_ringRegister_0 rfl rfl ?_
  refine g_get C (n' := 4) (Cn := RX3) (T := TX3) (N := 7) (ci := 2) (v := .ref (q 2)) ga_X3 0 rfl rfl 2 (by decide) kw_141 rfl rfl dX3_ringRegister_1 rfl ?_
  refine g_iload_n C (n' := 5) 1 rfl dX3_ringRegister_4 rfl rfl ?_
  refine g_iald C (n' := 6) (f := (A 2)) 3 0 rfl rfl (by omega) (by omega) (by decide) rfl dX3_ringRegister_5 rfl ?_
  refine g_iret C hr hlk rfl ⟨congrArg (fun z : Int => some (Value.int (iI z))) ?_, ?_⟩ dX3_ringRegister_6
  · first | rfl | omega | ((repeat' split) <;> first | rfl | omega | (exfalso; omega))
  · first | rfl | omega | ((repeat' split) <;> first | rfl | omega | (exfalso; omega))
set_option maxRecDepth 100000 in
set_option maxHeartbeats 4000000 in
theorem c_X3_rateAbove (l : Launch) (D : va_G) (Y : Nat → ClassId) {E : (Nat → Prop) → State → Heap → Prop} (hE : g_Stab E) (q : Nat → Nat) (I : Nat → Int) (A : Nat → Nat → Int) (B : Nat → Nat → Int) : g_Ct l yX3_rateAbove cX3_rateAbove 1 (some FieldType.int) ({ frames := 0, cells := 0, slots := 0, locals := 0 } : Room) D (tysY Y) E [.ref (q 99)] (wPlan q Y I A B) 0 0 (g_det (some (.int (iI (I 5)))) (wPlan q Y I A B)) := by
  refine g_ofG (own := RX3) hE (by decide) rfl (Nat.le_of_ble_eq_true rfl) [(0, .ref (q 99))] rfl ?_
  intro p9 e9 s9 m9 b9 t9 c9 A9 C hr hlk hnm
  refine g_aload_n C (n' := 1) 0 rfl dX3_rateAbove_0 rfl rfl ?_
  refine g_get C (n' := 4) (Cn := RX3) (T := TX3) (N := 7) (ci := 2) (v := .int (iI (I 5))) ga_X3 0 rfl rfl 5 (by decide) kw_144 rfl rfl dX3_rateAbove_1 rfl ?_
  refine g_iret C hr hlk rfl ⟨congrArg (fun z : Int => some (Value.int (iI z))) ?_, ?_⟩ dX3_rateAbove_4
  · first | rfl | omega | ((repeat' split) <;> first | rfl | omega | (exfalso; omega))
  · first | rfl | omega | ((repeat' split) <;> first | rfl | omega | (exfalso; omega))
set_option maxRecDepth 100000 in
set_option maxHeartbeats 4000000 in
theorem c_X3_rateBelow (l : Launch) (D : va_G) (Y : Nat → ClassId) {E : (Nat → Prop) → State → Heap → Prop} (hE : g_Stab E) (q : Nat → Nat) (I : Nat → Int) (A : Nat → Nat → Int) (B : Nat → Nat → Int) : g_Ct l yX3_rateBelow cX3_rateBelow 1 (some FieldType.int) ({ frames := 0, cells := 0, slots := 0, locals := 0 } : Room) D (tysY Y) E [.ref (q 99)] (wPlan q Y I A B) 0 0 (g_det (some (.int (iI (I 6)))) (wPlan q Y I A B)) := by
  refine g_ofG (own := RX3) hE (by decide) rfl (Nat.le_of_ble_eq_true rfl) [(0, .ref (q 99))] rfl ?_
  intro p9 e9 s9 m9 b9 t9 c9 A9 C hr hlk hnm
  refine g_aload_n C (n' := 1) 0 rfl dX3_rateBelow_0 rfl rfl ?_
  refine g_get C (n' := 4) (Cn := RX3) (T := TX3) (N := 7) (ci := 2) (v := .int (iI (I 6))) ga_X3 0 rfl rfl 6 (by decide) kw_145 rfl rfl dX3_rateBelow_1 rfl ?_
  refine g_iret C hr hlk rfl ⟨congrArg (fun z : Int => some (Value.int (iI z))) ?_, ?_⟩ dX3_rateBelow_4
  · first | rfl | omega | ((repeat' split) <;> first | rfl | omega | (exfalso; omega))
  · first | rfl | omega | ((repeat' split) <;> first | rfl | omega | (exfalso; omega))
set_option maxRecDepth 100000 in
set_option maxHeartbeats 4000000 in
theorem c_X3_tighten (l : Launch) (D : va_G) (Y : Nat → ClassId) {E : (Nat → Prop) → State → Heap → Prop} (hE : g_Stab E) (q : Nat → Nat) (I : Nat → Int) (A : Nat → Nat → Int) (B : Nat → Nat → Int) (a : Int) (b : Int) (x : Int) (t : Int) (hsI : smI I) (hsA : smA A) (hsB : okB B) (ha : 0 ≤ a ∧ a < 8) (hb : 0 ≤ b ∧ b < 8) (hx : -1700 ≤ x ∧ x ≤ 10000) (ht : 1 ≤ t ∧ t ≤ 9) : g_Ct l yX3_tighten cX3_tighten 5 none ({ frames := 1, cells := 0, slots := 0, locals := 22 } : Room) D (tysY Y) E [.ref (q 99), .int (iI a), .int (iI b), .int (iI x), .int (iI t)] (wPlan q Y I A B) 0 0 (g_det none (wPlan q Y I A (p_tight B a.toNat b.toNat (x / t)))) := by
  refine g_ofG (own := RX3) hE (by decide) rfl (Nat.le_of_ble_eq_true rfl) [(0, .ref (q 99)), (1, .int (iI a)), (2, .int (iI b)), (3, .int (iI x)), (4, .int (iI t))] rfl ?_
  intro p9 e9 s9 m9 b9 t9 c9 A9 C hr hlk hnm
  have hI := hsI
  have hA := hsA
  have hB := hsB
  unfold smI at hI
  unfold smA at hA
  unfold okB at hB
  refine g_iload C (n' := 2) 4 rfl dX3_tighten_0 rfl ?_
  refine g_if_le C (n' := 5) 30 dX3_tighten_2 (by decide) rfl (by unfold inR; omega) (fun c1 => ?_) (fun c1 => ?_)
  · skip
    exfalso
    omega
  · skip
    refine g_aload_n C (n' := 6) 0 rfl dX3_tighten_5 rfl rfl ?_
    refine g_get C (n' := 9) (Cn := RX3) (T := TX3) (N := 7) (ci := 2) (v := .ref (q 0)) ga_X3 0 rfl rfl 0 (by decide) kw_139 rfl rfl dX3_tighten_6 rfl ?_
    refine g_iload_n C (n' := 10) 1 rfl dX3_tighten_9 rfl rfl ?_
    refine g_aalA C (n' := 11) (v := q (20 + a.toNat)) 1 7 rfl rfl (by omega) (by omega) (by decide) (if_pos (by omega)) dX3_tighten_10 rfl ?_
    refine g_iload_n C (n' := 12) 2 rfl dX3_tighten_11 rfl rfl ?_
    refine g_aload_n C (n' := 13) 0 rfl dX3_tighten_12 rfl rfl ?_
    refine g_get C (n' := 16) (Cn := RX3) (T := TX3) (N := 7) (ci := 2) (v := .ref (q 0)) ga_X3 0 rfl rfl 0 (by decide) kw_139 rfl rfl dX3_tighten_13 rfl ?_
    refine g_iload_n C (n' := 17) 1 rfl dX3_tighten_16 rfl rfl ?_
    refine g_aalA C (n' := 18) (v := q (20 + a.toNat)) 1 7 rfl rfl (by omega) (by omega) (by decide) (if_pos (by omega)) dX3_tighten_17 rfl ?_
    refine g_iload_n C (n' := 19) 2 rfl dX3_tighten_18 rfl rfl ?_
    refine g_iald C (n' := 20) (4 + a.toNat) 0 (pl_row (by omega)) rfl (by omega) (by omega) (by decide) rfl dX3_tighten_19 rfl ?_
    have hb_19 := hB a.toNat b.toNat
    refine g_iload_n C (n' := 21) 3 rfl dX3_tighten_20 rfl rfl ?_
    refine g_iload C (n' := 23) 4 rfl dX3_tighten_21 rfl ?_
    refine g_cSv C (n' := 26) (v := .int (iI (x / t))) (c_J9_floorDiv_7cf53 l D Y C.2.2.2.2.2.2.2.2.1 x t (by unfold inR at *; omega) (by omega) (by omega)) 2 kw_461 kc_J9_floorDiv_7cf53 (by decide +kernel) (pm_n _) rfl ⟨Nat.le_of_ble_eq_true rfl, Nat.le_of_ble_eq_true rfl⟩ ⟨rfl, rfl⟩ ⟨Nat.le_of_ble_eq_true rfl, Nat.le_of_ble_eq_true rfl⟩ (Nat.le_of_ble_eq_true rfl) dX3_tighten_23 rfl rfl (wPlan q Y I A B) (pm_n _) ?_
    have hxt := ed_r hx ht.1
    refine g_cSv C (n' := 29) (v := .int (iI (if (B a.toNat b.toNat) ≤ (x / t) then (B a.toNat b.toNat) else (x / t)))) (c_J9_min_7cf53 l D Y C.2.2.2.2.2.2.2.2.1 (B a.toNat b.toNat) (x / t) (by unfold inR at *; omega) (by unfold inR at *; omega)) 2 kw_464 kc_J9_min_7cf53 (by decide +kernel) (pm_n _) rfl ⟨Nat.le_of_ble_eq_true rfl, Nat.le_of_ble_eq_true rfl⟩ ⟨rfl, rfl⟩ ⟨Nat.le_of_ble_eq_true rfl, Nat.le_of_ble_eq_true rfl⟩ (Nat.le_of_ble_eq_true rfl) dX3_tighten_26 rfl rfl (wPlan q Y I A B) (pm_n _) ?_
    refine g_iast C (n' := 30) (4 + a.toNat) 0 (pl_row (by omega)) rfl (by omega) (by omega) (by decide) rfl dX3_tighten_29 rfl (wPlan q Y I A (sU B a.toNat (sU (B a.toNat) b.toNat (if (B a.toNat b.toNat) ≤ (x / t) then (B a.toNat b.toNat) else (x / t))))) (pl_set (by omega)) ?_
    refine g_vret C hr hlk ⟨rfl, rfl⟩ dX3_tighten_30
def p_rel (B : Nat → Nat → Int) (a b : Nat) (x : (Nat → Int) × Int) : (Nat → Int) × Int := if B a b ≠ 2147483647 ∧ x.1 b + B a b < x.1 a then (sU x.1 a (x.1 b + B a b), 1) else x
def p_row (B : Nat → Nat → Int) (a : Nat) : Nat → (Nat → Int) × Int → (Nat → Int) × Int
  | 0, x => x
  | b + 1, x => p_rel B a b (p_row B a b x)
def p_mat (B : Nat → Nat → Int) (n : Nat) : Nat → (Nat → Int) × Int → (Nat → Int) × Int
  | 0, x => x
  | a + 1, x => p_row B a n (p_mat B n a x)
def p_bd (n : Nat) (m : Int) (x : (Nat → Int) × Int) : Prop := (∀ k : Nat, k < n → -m ≤ x.1 k ∧ x.1 k ≤ 0) ∧ (x.2 = 0 ∨ x.2 = 1)
theorem p_rel_r {B : Nat → Nat → Int} (hB : okB B) {a b n : Nat} (ha : a < n) (hb0 : b < n) {x : (Nat → Int) × Int} {m : Int} (h : p_bd n m x) : p_bd n (m + 1700) (p_rel B a b x) := by
  unfold p_rel
  have hb := hB a b
  have h1 := h.1 b hb0
  have h2 := h.1 a ha
  split
  · next q =>
    refine ⟨fun k hk => ?_, Or.inr rfl⟩
    show -(m + 1700) ≤ sU x.1 a (x.1 b + B a b) k ∧ sU x.1 a (x.1 b + B a b) k ≤ 0
    unfold sU
    split
    · omega
    · have := h.1 k hk
      omega
  · exact ⟨fun k hk => by have := h.1 k hk; omega, h.2⟩
theorem p_row_r {B : Nat → Nat → Int} (hB : okB B) {a n : Nat} (ha : a < n) {x : (Nat → Int) × Int} {m : Int} (h : p_bd n m x) : ∀ b : Nat, b ≤ n → p_bd n (m + 1700 * b) (p_row B a b x)
  | 0, _ => by simpa [p_row] using h
  | b + 1, hb => by
    have h1 := p_rel_r hB ha (show b < n by omega) (p_row_r hB ha h b (by omega))
    rw [p_row]
    rw [show m + 1700 * ((b + 1 : Nat) : Int) = m + 1700 * (b : Int) + 1700 by omega]
    exact h1
theorem p_mat_r {B : Nat → Nat → Int} (hB : okB B) (n : Nat) {x : (Nat → Int) × Int} {m : Int} (h : p_bd n m x) : ∀ a : Nat, a ≤ n → p_bd n (m + 1700 * (n * a : Nat)) (p_mat B n a x)
  | 0, _ => by simpa [p_mat] using h
  | a + 1, ha => by
    have h1 := p_row_r hB (show a < n by omega) (p_mat_r hB n h a (by omega)) n (Nat.le_refl n)
    rw [p_mat]
    rw [show m + 1700 * ((n * (a + 1) : Nat) : Int) = m + 1700 * (n * a : Nat) + 1700 * (n : Int) by rw [Nat.mul_succ]; omega]
    exact h1
theorem p_bd_le {n : Nat} {m m2 : Int} {x : (Nat → Int) × Int} (h : p_bd n m x) (hm : m ≤ m2) : p_bd n m2 x := ⟨fun k hk => by have := h.1 k hk; omega, h.2⟩
set_option maxRecDepth 100000 in
set_option maxHeartbeats 4000000 in
theorem lp_X3_lo_in {p9 : Program} {l : Launch} {e9 : Env} {s9 : State} {m9 : MethodId} {a9 : Array Value} {b9 : List Frame} {t9 : Method} {c9 : Code} {D : va_G} {A9 : Nat → Prop} {Q9 : State → Prop} {E : (Nat → Prop) → State → Heap → Prop} {Y : Nat → ClassId} (C : g_Cx p9 s9 m9 a9 c9 cX3_lowerOnce 5 RX3 D (tysY Y) A9 E) (q : Nat → Nat) (I : Nat → Int) (A B : Nat → Nat → Int) (a : Nat) (x : (Nat → Int) × Int) (m : Int) (hsI : smI I) (hsA : smA A) (hsB : okB B) (hn : 2 ≤ I 3 ∧ I 3 ≤ 8) (ha : a < (I 3).toNat) (hx : p_bd (I 3).toNat m x) (hm2 : 0 ≤ m ∧ m ≤ 860000) : ∀ (n9 : Nat) (b : Nat), (b : Int) + n9 = I 3 → (g_G p9 l e9 ({ frames := 0, cells := 0, slots := 0, locals := 0 } : Room) s9 m9 a9 b9 t9 c9 5 D A9 Q9 0 0 (wPlan q Y I (sU A 1 (p_row B a (I 3).toNat x).1) B) [(3, .int (iI (((I 3).toNat : Nat) : Int))), (2, .int (iI ((a : Nat) : Int))), (1, .int (iI ((p_row B a (I 3).toNat x).2))), (0, .ref (q 99))] 80 []) → g_G p9 l e9 ({ frames := 0, cells := 0, slots := 0, locals := 0 } : Room) s9 m9 a9 b9 t9 c9 5 D A9 Q9 0 0 (wPlan q Y I (sU A 1 (p_row B a b x).1) B) [(3, .int (iI ((b : Nat) : Int))), (2, .int (iI ((a : Nat) : Int))), (1, .int (iI ((p_row B a b x).2))), (0, .ref (q 99))] 14 [] := by
  have hE := C.2.2.2.2.2.2.2.2.1
  intro n9
  induction n9 with
  | zero =>
    intro b hb K
    have hI := hsI
    have hA := hsA
    have hB := hsB
    unfold smI at hI
    unfold smA at hA
    unfold okB at hB
    have hbd := p_row_r hsB ha hx b (by omega)
    have hrb := hbd.1 b
    have hra := hbd.1 a ha
    have hr2 := hbd.2
    refine g_iload_n C (n' := 15) 0 rfl dX3_lowerOnce_14 rfl rfl ?_
    refine g_aload_n C (n' := 16) 3 rfl dX3_lowerOnce_15 rfl rfl ?_
    refine g_get C (n' := 19) (Cn := RX3) (T := TX3) (N := 7) (ci := 2) (v := .int (iI (I 3))) ga_X3 0 rfl rfl 3 (by decide) kw_142 rfl rfl dX3_lowerOnce_16 rfl ?_
    have h_16 := hI 3
    refine g_icmp_ge C (n' := 22) 80 dX3_lowerOnce_19 (by decide) rfl (by unfold inR; omega) (by unfold inR; omega) (fun c1 => ?_) (fun c1 => ?_)
    · skip
      have eb : (I 3).toNat = b := by omega
      rw [eb] at K
      exact K
    · skip
      exfalso
      omega
  | succ n9 ih =>
    intro b hb K
    have hI := hsI
    have hA := hsA
    have hB := hsB
    unfold smI at hI
    unfold smA at hA
    unfold okB at hB
    have hbd := p_row_r hsB ha hx b (by omega)
    have hrb := hbd.1 b
    have hra := hbd.1 a ha
    have hr2 := hbd.2
    refine g_iload_n C (n' := 15) 0 rfl dX3_lowerOnce_14 rfl rfl ?_
    refine g_aload_n C (n' := 16) 3 rfl dX3_lowerOnce_15 rfl rfl ?_
    refine g_get C (n' := 19) (Cn := RX3) (T := TX3) (N := 7) (ci := 2) (v := .int (iI (I 3))) ga_X3 0 rfl rfl 3 (by decide) kw_142 rfl rfl dX3_lowerOnce_16 rfl ?_
    have h_16 := hI 3
    refine g_icmp_ge C (n' := 22) 80 dX3_lowerOnce_19 (by decide) rfl (by unfold inR; omega) (by unfold inR; omega) (fun c1 => ?_) (fun c1 => ?_)
    · skip
      exfalso
      omega
    · skip
      have hrb := hrb (by omega)
      refine g_aload_n C (n' := 23) 3 rfl dX3_lowerOnce_22 rfl rfl ?_
      refine g_get C (n' := 26) (Cn := RX3) (T := TX3) (N := 7) (ci := 2) (v := .ref (q 0)) ga_X3 0 rfl rfl 0 (by decide) kw_139 rfl rfl dX3_lowerOnce_23 rfl ?_
      refine g_iload_n C (n' := 27) 1 rfl dX3_lowerOnce_26 rfl rfl ?_
      refine g_aalAN C (n' := 28) (v := q (20 + a)) 1 7 rfl rfl (by omega) (by decide) (if_pos (by omega)) dX3_lowerOnce_27 rfl ?_
      refine g_iload_n C (n' := 29) 0 rfl dX3_lowerOnce_28 rfl rfl ?_
      refine g_ialdN C (n' := 30) (4 + a) 0 (pl_row (by omega)) rfl (by omega) (by decide) rfl dX3_lowerOnce_29 rfl ?_
      have hb_29 := hB a b
      refine g_istore C (n' := 32) [(4, .int (iI (B a b))), (3, .int (iI ((b : Nat) : Int))), (2, .int (iI ((a : Nat) : Int))), (1, .int (iI ((p_row B a b x).2))), (0, .ref (q 99))] dX3_lowerOnce_30 rfl (by decide) rfl ?_
      refine g_iload C (n' := 34) 0 rfl dX3_lowerOnce_32 rfl ?_
      refine g_ldc C (n' := 36) 2147483647 (by decide) kw_455 dX3_lowerOnce_34 rfl ?_
      refine g_icmp_eq C (n' := 39) 74 dX3_lowerOnce_36 (by decide) rfl (by unfold inR; omega) (by unfold inR; omega) (fun c2 => ?_) (fun c2 => ?_)
      · skip
        refine g_iinc C (n' := 77) 1 [(3, .int (iI (((b : Nat) : Int) + 1))), (4, .int (iI (B a b))), (2, .int (iI ((a : Nat) : Int))), (1, .int (iI ((p_row B a b x).2))), (0, .ref (q 99))] rfl dX3_lowerOnce_74 rfl (by decide) rfl ?_
        refine g_goto C 14 dX3_lowerOnce_77 (by decide) ?_
        have e1 : p_row B a b x = p_row B a (b + 1) x := by rw [p_row, p_rel, if_neg (by omega)]
        rw [e1]
        refine g_lv (lv' := [(3, .int (iI ((b + 1 : Nat) : Int))), (2, .int (iI ((a : Nat) : Int))), (1, .int (iI ((p_row B a (b + 1) x).2))), (0, .ref (q 99))]) [0, 2, 3, 4] rfl ?_
        exact ih (b + 1) (by omega) K
      · skip
        refine g_aload_n C (n' := 40) 4 rfl dX3_lowerOnce_39 rfl rfl ?_
        refine g_get C (n' := 43) (Cn := RX3) (T := TX3) (N := 7) (ci := 2) (v := .ref (q 1)) ga_X3 0 rfl rfl 1 (by decide) kw_140 rfl rfl dX3_lowerOnce_40 rfl ?_
        refine g_iload_n C (n' := 44) 1 rfl dX3_lowerOnce_43 rfl rfl ?_
        refine g_ialdN C (n' := 45) (f := (p_row B a b x).1) 2 0 rfl rfl (by omega) (by decide) rfl dX3_lowerOnce_44 rfl ?_
        refine g_iload C (n' := 47) 0 rfl dX3_lowerOnce_45 rfl ?_
        refine g_iadd C (n' := 48) dX3_lowerOnce_47 rfl ?_
        refine g_aload_n C (n' := 49) 4 rfl dX3_lowerOnce_48 rfl rfl ?_
        refine g_get C (n' := 52) (Cn := RX3) (T := TX3) (N := 7) (ci := 2) (v := .ref (q 1)) ga_X3 0 rfl rfl 1 (by decide) kw_140 rfl rfl dX3_lowerOnce_49 rfl ?_
        refine g_iload_n C (n' := 53) 2 rfl dX3_lowerOnce_52 rfl rfl ?_
        refine g_ialdN C (n' := 54) (f := (p_row B a b x).1) 2 0 rfl rfl (by omega) (by decide) rfl dX3_lowerOnce_53 rfl ?_
        refine g_icmp_ge C (n' := 57) 74 dX3_lowerOnce_54 (by decide) rfl (by unfold inR; omega) (by unfold inR; omega) (fun c3 => ?_) (fun c3 => ?_)
        · skip
          refine g_iinc C (n' := 77) 1 [(3, .int (iI (((b : Nat) : Int) + 1))), (4, .int (iI (B a b))), (2, .int (iI ((a : Nat) : Int))), (1, .int (iI ((p_row B a b x).2))), (0, .ref (q 99))] rfl dX3_lowerOnce_74 rfl (by decide) rfl ?_
          refine g_goto C 14 dX3_lowerOnce_77 (by decide) ?_
          have e1 : p_row B a b x = p_row B a (b + 1) x := by rw [p_row, p_rel, if_neg (by omega)]
          rw [e1]
          refine g_lv (lv' := [(3, .int (iI ((b + 1 : Nat) : Int))), (2, .int (iI ((a : Nat) : Int))), (1, .int (iI ((p_row B a (b + 1) x).2))), (0, .ref (q 99))]) [0, 2, 3, 4] rfl ?_
          exact ih (b + 1) (by omega) K
        · skip
          refine g_aload_n C (n' := 58) 4 rfl dX3_lowerOnce_57 rfl rfl ?_
          refine g_get C (n' := 61) (Cn := RX3) (T := TX3) (N := 7) (ci := 2) (v := .ref (q 1)) ga_X3 0 rfl rfl 1 (by decide) kw_140 rfl rfl dX3_lowerOnce_58 rfl ?_
          refine g_iload_n C (n' := 62) 2 rfl dX3_lowerOnce_61 rfl rfl ?_
          refine g_aload_n C (n' := 63) 4 rfl dX3_lowerOnce_62 rfl rfl ?_
          refine g_get C (n' := 66) (Cn := RX3) (T := TX3) (N := 7) (ci := 2) (v := .ref (q 1)) ga_X3 0 rfl rfl 1 (by decide) kw_140 rfl rfl dX3_lowerOnce_63 rfl ?_
          refine g_iload_n C (n' := 67) 1 rfl dX3_lowerOnce_66 rfl rfl ?_
          refine g_ialdN C (n' := 68) (f := (p_row B a b x).1) 2 0 rfl rfl (by omega) (by decide) rfl dX3_lowerOnce_67 rfl ?_
          refine g_iload C (n' := 70) 0 rfl dX3_lowerOnce_68 rfl ?_
          refine g_iadd C (n' := 71) dX3_lowerOnce_70 rfl ?_
          refine g_iastN C (n' := 72) (f := (p_row B a b x).1) 2 0 rfl rfl (by omega) (by decide) rfl dX3_lowerOnce_71 rfl (wPlan q Y I (sU A 1 (sU (p_row B a b x).1 a (((p_row B a b x).1 b) + (B a b)))) B) rfl ?_
          refine g_iconst C (n' := 73) dX3_lowerOnce_72 rfl ?_
          refine g_istore_n C (n' := 74) [(1, .int (iI 1)), (4, .int (iI (B a b))), (3, .int (iI ((b : Nat) : Int))), (2, .int (iI ((a : Nat) : Int))), (0, .ref (q 99))] dX3_lowerOnce_73 rfl rfl (by decide) rfl ?_
          refine g_iinc C (n' := 77) 2 [(3, .int (iI (((b : Nat) : Int) + 1))), (1, .int (iI 1)), (4, .int (iI (B a b))), (2, .int (iI ((a : Nat) : Int))), (0, .ref (q 99))] rfl dX3_lowerOnce_74 rfl (by decide) rfl ?_
          refine g_goto C 14 dX3_lowerOnce_77 (by decide) ?_
          rw [show ((sU (p_row B a b x).1 a (((p_row B a b x).1 b) + (B a b))) : Nat → Int) = (p_row B a (b + 1) x).1 from by rw [p_row, p_rel, if_pos ⟨by omega, by omega⟩]]
          have e2 : (1 : Int) = (p_row B a (b + 1) x).2 := by rw [p_row, p_rel, if_pos ⟨by omega, by omega⟩]
          refine g_lv (lv' := [(3, .int (iI ((b + 1 : Nat) : Int))), (2, .int (iI ((a : Nat) : Int))), (1, .int (iI ((p_row B a (b + 1) x).2))), (0, .ref (q 99))]) [0, 3, 1, 4] (by rw [← e2]; rfl) ?_
          exact ih (b + 1) (by omega) K
set_option maxRecDepth 100000 in
set_option maxHeartbeats 4000000 in
theorem lp_X3_lo_out {p9 : Program} {l : Launch} {e9 : Env} {s9 : State} {m9 : MethodId} {a9 : Array Value} {b9 : List Frame} {t9 : Method} {c9 : Code} {D : va_G} {A9 : Nat → Prop} {Q9 : State → Prop} {E : (Nat → Prop) → State → Heap → Prop} {Y : Nat → ClassId} (C : g_Cx p9 s9 m9 a9 c9 cX3_lowerOnce 5 RX3 D (tysY Y) A9 E) (q : Nat → Nat) (I : Nat → Int) (A B : Nat → Nat → Int) (m : Int) (hsI : smI I) (hsA : smA A) (hsB : okB B) (hn : 2 ≤ I 3 ∧ I 3 ≤ 8) (hm : p_bd (I 3).toNat m (A 1, 0)) (hm2 : 0 ≤ m ∧ m ≤ 761600) : ∀ (n9 : Nat) (a : Nat), (a : Int) + n9 = I 3 → (g_G p9 l e9 ({ frames := 0, cells := 0, slots := 0, locals := 0 } : Room) s9 m9 a9 b9 t9 c9 5 D A9 Q9 0 0 (wPlan q Y I (sU A 1 (p_mat B (I 3).toNat (I 3).toNat (A 1, (0 : Int))).1) B) [(2, .int (iI (((I 3).toNat : Nat) : Int))), (1, .int (iI ((p_mat B (I 3).toNat ((I 3).toNat) (A 1, (0 : Int))).2))), (0, .ref (q 99))] 86 []) → g_G p9 l e9 ({ frames := 0, cells := 0, slots := 0, locals := 0 } : Room) s9 m9 a9 b9 t9 c9 5 D A9 Q9 0 0 (wPlan q Y I (sU A 1 (p_mat B (I 3).toNat a (A 1, (0 : Int))).1) B) [(2, .int (iI ((a : Nat) : Int))), (1, .int (iI ((p_mat B (I 3).toNat a (A 1, (0 : Int))).2))), (0, .ref (q 99))] 4 [] := by
  have hE := C.2.2.2.2.2.2.2.2.1
  intro n9
  induction n9 with
  | zero =>
    intro a ha K
    have hI := hsI
    have hA := hsA
    have hB := hsB
    unfold smI at hI
    unfold smA at hA
    unfold okB at hB
    have hbd := p_mat_r hsB (I 3).toNat hm a (by omega)
    refine g_iload_n C (n' := 5) 0 rfl dX3_lowerOnce_4 rfl rfl ?_
    refine g_aload_n C (n' := 6) 2 rfl dX3_lowerOnce_5 rfl rfl ?_
    refine g_get C (n' := 9) (Cn := RX3) (T := TX3) (N := 7) (ci := 2) (v := .int (iI (I 3))) ga_X3 0 rfl rfl 3 (by decide) kw_142 rfl rfl dX3_lowerOnce_6 rfl ?_
    have h_6 := hI 3
    refine g_icmp_ge C (n' := 12) 86 dX3_lowerOnce_9 (by decide) rfl (by unfold inR; omega) (by unfold inR; omega) (fun c1 => ?_) (fun c1 => ?_)
    · skip
      have ea : (I 3).toNat = a := by omega
      rw [ea] at K
      rw [ea]
      exact K
    · skip
      exfalso
      omega
  | succ n9 ih =>
    intro a ha K
    have hI := hsI
    have hA := hsA
    have hB := hsB
    unfold smI at hI
    unfold smA at hA
    unfold okB at hB
    have hbd := p_mat_r hsB (I 3).toNat hm a (by omega)
    refine g_iload_n C (n' := 5) 0 rfl dX3_lowerOnce_4 rfl rfl ?_
    refine g_aload_n C (n' := 6) 2 rfl dX3_lowerOnce_5 rfl rfl ?_
    refine g_get C (n' := 9) (Cn := RX3) (T := TX3) (N := 7) (ci := 2) (v := .int (iI (I 3))) ga_X3 0 rfl rfl 3 (by decide) kw_142 rfl rfl dX3_lowerOnce_6 rfl ?_
    have h_6 := hI 3
    refine g_icmp_ge C (n' := 12) 86 dX3_lowerOnce_9 (by decide) rfl (by unfold inR; omega) (by unfold inR; omega) (fun c1 => ?_) (fun c1 => ?_)
    · skip
      exfalso
      omega
    · skip
      refine g_iconst C (n' := 13) dX3_lowerOnce_12 rfl ?_
      refine g_istore_n C (n' := 14) [(3, .int (iI 0)), (2, .int (iI ((a : Nat) : Int))), (1, .int (iI ((p_mat B (I 3).toNat a (A 1, (0 : Int))).2))), (0, .ref (q 99))] dX3_lowerOnce_13 rfl rfl (by decide) rfl ?_
      refine g_lv (lv' := [(3, .int (iI ((0 : Nat) : Int))), (2, .int (iI ((a : Nat) : Int))), (1, .int (iI ((p_row B a 0 (p_mat B (I 3).toNat a (A 1, (0 : Int)))).2))), (0, .ref (q 99))]) [0, 1, 2, 3] rfl ?_
      have hle : (I 3).toNat * a ≤ 8 * 7 := Nat.mul_le_mul (by omega) (by omega)
      refine lp_X3_lo_in C q I A B a (p_mat B (I 3).toNat a (A 1, (0 : Int))) _ hsI hsA hsB hn (by omega) hbd (by omega) (I 3).toNat 0 (by omega) ?_
      refine g_iinc C (n' := 83) 1 [(2, .int (iI (((a : Nat) : Int) + 1))), (3, .int (iI (((I 3).toNat : Nat) : Int))), (1, .int (iI ((p_row B a (I 3).toNat (p_mat B (I 3).toNat a (A 1, (0 : Int)))).2))), (0, .ref (q 99))] rfl dX3_lowerOnce_80 rfl (by decide) rfl ?_
      refine g_goto C 4 dX3_lowerOnce_83 (by decide) ?_
      have e1 : p_row B a (I 3).toNat (p_mat B (I 3).toNat a (A 1, (0 : Int))) = p_mat B (I 3).toNat (a + 1) (A 1, (0 : Int)) := rfl
      rw [e1]
      refine g_lv (lv' := [(2, .int (iI ((a + 1 : Nat) : Int))), (1, .int (iI ((p_mat B (I 3).toNat (a + 1) (A 1, (0 : Int))).2))), (0, .ref (q 99))]) [0, 2, 3] rfl ?_
      exact ih (a + 1) (by omega) K
set_option maxRecDepth 100000 in
set_option maxHeartbeats 4000000 in
theorem c_X3_lowerOnce (l : Launch) (D : va_G) (Y : Nat → ClassId) {E : (Nat → Prop) → State → Heap → Prop} (hE : g_Stab E) (q : Nat → Nat) (I : Nat → Int) (A : Nat → Nat → Int) (B : Nat → Nat → Int) (m : Int) (hsI : smI I) (hsA : smA A) (hsB : okB B) (hn : 2 ≤ I 3 ∧ I 3 ≤ 8) (hm : p_bd (I 3).toNat m (A 1, 0)) (hm2 : 0 ≤ m ∧ m ≤ 761600) : g_Ct l yX3_lowerOnce cX3_lowerOnce 5 (some FieldType.boolean) ({ frames := 0, cells := 0, slots := 0, locals := 0 } : Room) D (tysY Y) E [.ref (q 99)] (wPlan q Y I A B) 0 0 (g_det (some (.int (iI ((p_mat B (I 3).toNat (I 3).toNat (A 1, 0)).2)))) (wPlan q Y I (sU A 1 (p_mat B (I 3).toNat (I 3).toNat (A 1, 0)).1) B)) := by
  refine g_ofG (own := RX3) hE (by decide) rfl (Nat.le_of_ble_eq_true rfl) [(0, .ref (q 99))] rfl ?_
  intro p9 e9 s9 m9 b9 t9 c9 A9 C hr hlk hnm
  have hI := hsI
  have hA := hsA
  have hB := hsB
  unfold smI at hI
  unfold smA at hA
  unfold okB at hB
  refine g_iconst C (n' := 1) dX3_lowerOnce_0 rfl ?_
  refine g_istore_n C (n' := 2) [(1, .int (iI 0)), (0, .ref (q 99))] dX3_lowerOnce_1 rfl rfl (by decide) rfl ?_
  refine g_iconst C (n' := 3) dX3_lowerOnce_2 rfl ?_
  refine g_istore_n C (n' := 4) [(2, .int (iI 0)), (1, .int (iI 0)), (0, .ref (q 99))] dX3_lowerOnce_3 rfl rfl (by decide) rfl ?_
  refine g_wd (w' := (wPlan q Y I (sU A 1 (p_mat B (I 3).toNat 0 (A 1, (0 : Int))).1) B)) (by rw [show (p_mat B (I 3).toNat 0 (A 1, (0 : Int))).1 = A 1 from rfl, sU_id]) ?_
  refine g_lv (lv' := [(2, .int (iI ((0 : Nat) : Int))), (1, .int (iI ((p_mat B (I 3).toNat 0 (A 1, (0 : Int))).2))), (0, .ref (q 99))]) [0, 1, 2] rfl ?_
  refine lp_X3_lo_out C q I A B m hsI hsA hsB hn hm hm2 (I 3).toNat 0 (by omega) ?_
  have hbd := p_mat_r hsB (I 3).toNat hm (I 3).toNat (Nat.le_refl _)
  refine g_iload_n C (n' := 87) 1 rfl dX3_lowerOnce_86 rfl rfl ?_
  refine g_iret C hr hlk (nar_z hbd.2) ⟨congrArg (fun z : Int => some (Value.int (iI z))) ?_, ?_⟩ dX3_lowerOnce_87
  · first | rfl | omega | ((repeat' split) <;> first | rfl | omega | (exfalso; omega))
  · first | rfl | omega | ((repeat' split) <;> first | rfl | omega | (exfalso; omega))
end
section
/-! Planner: rounds come to rest at the greatest solution; bounds laid -/
def pEd (n : Nat) (B : Nat → Nat → Int) (a b : Nat) (c : Int) : Prop := a < n ∧ b < n ∧ B a b ≠ 2147483647 ∧ c = B a b
/-- what a stretch of lowerings does -/
def pT (n : Nat) (B : Nat → Nat → Int) (x y : (Nat → Int) × Int) : Prop := (∀ k, y.1 k ≤ x.1 k) ∧ (y = x ∨ (y.2 = 1 ∧ ∃ k, k < n ∧ y.1 k < x.1 k)) ∧ (∀ g : Nat → Int, bsol (pEd n B) g → (∀ k, k < n → g k ≤ x.1 k) → ∀ k, k < n → g k ≤ y.1 k) ∧ ∀ k, n ≤ k → y.1 k = x.1 k
theorem pT_refl {n : Nat} {B : Nat → Nat → Int} (x : (Nat → Int) × Int) : pT n B x x := ⟨fun _ => Int.le_refl _, Or.inl rfl, fun _ _ h => h, fun _ _ => rfl⟩
theorem pT_trans {n : Nat} {B : Nat → Nat → Int} {x y z : (Nat → Int) × Int} (h1 : pT n B x y) (h2 : pT n B y z) : pT n B x z := by
  refine ⟨fun k => Int.le_trans (h2.1 k) (h1.1 k), ?_, fun g hg h => h2.2.2.1 g hg (h1.2.2.1 g hg h), fun k hk => (h2.2.2.2 k hk).trans (h1.2.2.2 k hk)⟩
  rcases h2.2.1 with e | ⟨e, k, hk, h3⟩
  · rw [e]
    exact h1.2.1
  · exact Or.inr ⟨e, k, hk, by have := h1.1 k; omega⟩
theorem pT_rel {n : Nat} {B : Nat → Nat → Int} {a b : Nat} (ha : a < n) (hb : b < n) (x : (Nat → Int) × Int) : pT n B x (p_rel B a b x) := by
  unfold p_rel
  split
  · next q =>
    refine ⟨fun k => ?_, Or.inr ⟨rfl, a, ha, ?_⟩, fun g hg h k hk => ?_, fun k hk => ?_⟩
    · show sU x.1 a (x.1 b + B a b) k ≤ x.1 k
      unfold sU
      split
      · next e => rw [e]; omega
      · omega
    · show sU x.1 a (x.1 b + B a b) a < x.1 a
      rw [sU_s]
      exact q.2
    · show g k ≤ sU x.1 a (x.1 b + B a b) k
      unfold sU
      split
      · next e =>
        rw [e]
        have h1 := hg a b (B a b) ⟨ha, hb, q.1, rfl⟩
        have h2 := h b hb
        omega
      · exact h k hk
    · exact sU_n _ _ (by omega)
  · exact pT_refl x
theorem pT_row {n : Nat} {B : Nat → Nat → Int} {a : Nat} (ha : a < n) (x : (Nat → Int) × Int) : ∀ b, b ≤ n → pT n B x (p_row B a b x)
  | 0, _ => pT_refl x
  | b + 1, hb => pT_trans (pT_row ha x b (by omega)) (pT_rel ha (by omega) _)
theorem pT_mat {n : Nat} {B : Nat → Nat → Int} (x : (Nat → Int) × Int) : ∀ a, a ≤ n → pT n B x (p_mat B n a x)
  | 0, _ => pT_refl x
  | a + 1, ha => pT_trans (pT_mat x a (by omega)) (pT_row (by omega) _ n (Nat.le_refl n))
theorem p_row_e {n : Nat} {B : Nat → Nat → Int} {a : Nat} (ha : a < n) (x : (Nat → Int) × Int) : ∀ b', b' ≤ n → ∀ b, b < b' → B a b ≠ 2147483647 → (p_row B a b' x).1 a ≤ x.1 b + B a b
  | 0, _, b, hb, _ => by omega
  | b' + 1, h', b, hb, hc => by
    have t1 := pT_row (B := B) ha x b' (by omega)
    have t2 := pT_rel (B := B) ha (show b' < n by omega) (p_row B a b' x)
    by_cases e : b = b'
    · subst e
      have h1 := t1.1 b
      rw [p_row, p_rel]
      split
      · show sU (p_row B a b x).1 a ((p_row B a b x).1 b + B a b) a ≤ _
        rw [sU_s]
        omega
      · next q =>
        have : ¬ ((p_row B a b x).1 b + B a b < (p_row B a b x).1 a) := fun z => q ⟨hc, z⟩
        omega
    · have h1 := p_row_e ha x b' (by omega) b (by omega) hc
      have h2 := t2.1 a
      rw [p_row]
      omega
theorem p_mat_e {n : Nat} {B : Nat → Nat → Int} (x : (Nat → Int) × Int) : ∀ a', a' ≤ n → ∀ a b, a < a' → b < n → B a b ≠ 2147483647 → (p_mat B n a' x).1 a ≤ x.1 b + B a b
  | 0, _, a, b, ha, _, _ => by omega
  | a' + 1, h', a, b, ha, hb, hc => by
    have t1 := pT_mat (B := B) x a' (show a' ≤ n by omega)
    have t2 := pT_row (B := B) (show a' < n by omega) (p_mat B n a' x) n (Nat.le_refl n)
    rw [p_mat]
    by_cases e : a = a'
    · subst e
      have h1 := p_row_e (B := B) (show a < n by omega) (p_mat B n a x) n (Nat.le_refl n) b hb hc
      have h2 := t1.1 b
      omega
    · have h1 := p_mat_e x a' (by omega) a b (by omega) hb hc
      have h2 := t2.1 a
      omega
/-- the rounds of settle, from noughts -/
def p_S (B : Nat → Nat → Int) (n : Nat) (S0 : Nat → Int) : Nat → Nat → Int
  | 0 => S0
  | k + 1 => (p_mat B n n (p_S B n S0 k, 0)).1
theorem p_S_rd {B : Nat → Nat → Int} {n : Nat} {S0 : Nat → Int} (h0 : ∀ k, k < n → S0 k = 0) : bRd n (pEd n B) (p_S B n S0) := by
  refine ⟨h0, fun k a ha => ?_, fun k g hg h => ?_, fun k a b c hc => ?_⟩
  · exact (pT_mat (B := B) (p_S B n S0 k, 0) n (Nat.le_refl n)).1 a
  · exact (pT_mat (B := B) (p_S B n S0 k, 0) n (Nat.le_refl n)).2.2.1 g hg h
  · obtain ⟨h1, h2, h3, rfl⟩ := hc
    exact p_mat_e (p_S B n S0 k, 0) n (Nat.le_refl n) a b h1 h2 h3
theorem pEd_lt {n : Nat} {B : Nat → Nat → Int} : ∀ a b c, pEd n B a b c → a < n ∧ b < n := fun _ _ _ h => ⟨h.1, h.2.1⟩
theorem p_S_fl {B : Nat → Nat → Int} {n : Nat} {S0 : Nat → Int} (k : Nat) : ((p_mat B n n (p_S B n S0 k, 0)).2 = 0 ∧ p_S B n S0 (k + 1) = p_S B n S0 k) ∨ ((p_mat B n n (p_S B n S0 k, 0)).2 = 1 ∧ ∃ a, a < n ∧ p_S B n S0 (k + 1) a ≠ p_S B n S0 k a) := by
  rcases (pT_mat (B := B) (p_S B n S0 k, 0) n (Nat.le_refl n)).2.1 with e | ⟨e, a, ha, h⟩
  · left
    exact ⟨by rw [e], by rw [p_S, e]⟩
  · exact Or.inr ⟨e, a, ha, by rw [p_S]; have h2 : (p_mat B n n (p_S B n S0 k, 0)).1 a < p_S B n S0 k a := h; omega⟩
theorem p_S_bd {B : Nat → Nat → Int} (hB : okB B) {n : Nat} (hn : n ≤ 8) {S0 : Nat → Int} (h0 : ∀ k, k < n → S0 k = 0) : ∀ k : Nat, p_bd n (108800 * k) (p_S B n S0 k, 0)
  | 0 => ⟨fun a ha => by show -(108800 * ((0 : Nat) : Int)) ≤ S0 a ∧ S0 a ≤ 0; rw [h0 a ha]; omega, Or.inl rfl⟩
  | k + 1 => by
    have h1 := p_mat_r hB n (p_S_bd hB hn h0 k) n (Nat.le_refl n)
    have h2 : n * n ≤ 8 * 8 := Nat.mul_le_mul hn hn
    have h3 := p_bd_le h1 (m2 := 108800 * ((k + 1 : Nat) : Int)) (by omega)
    exact ⟨h3.1, Or.inl rfl⟩
theorem p_S_out {B : Nat → Nat → Int} {n : Nat} {S0 : Nat → Int} : ∀ k a, n ≤ a → p_S B n S0 k a = S0 a
  | 0, _, _ => rfl
  | k + 1, a, ha => ((pT_mat (B := B) (p_S B n S0 k, 0) n (Nat.le_refl n)).2.2.2 a ha).trans (p_S_out k a ha)
def p_z (f : Nat → Int) (n : Nat) : Nat → Int := fun k => if k < n then 0 else f k
theorem p_S_sm {B : Nat → Nat → Int} (hB : okB B) {n : Nat} (hn : n ≤ 8) {f : Nat → Int} (hf : smR f) {k : Nat} (hk : k ≤ 8) : smR (p_S B n (p_z f n) k) := fun a => by
  by_cases q : a < n
  · have := (p_S_bd hB hn (S0 := p_z f n) (fun k hk => if_pos hk) k).1 a q
    simp only at this
    omega
  · rw [p_S_out k a (by omega)]
    show -1000000 ≤ (if a < n then 0 else f a) ∧ (if a < n then 0 else f a) ≤ 1000000
    rw [if_neg q]
    exact hf a
theorem smA_R {A : Nat → Nat → Int} (h : smA A) (s : Nat) : smR (A s) := h s
set_option maxRecDepth 100000 in
set_option maxHeartbeats 4000000 in
theorem lp_X3_se_z {p9 : Program} {l : Launch} {e9 : Env} {s9 : State} {m9 : MethodId} {a9 : Array Value} {b9 : List Frame} {t9 : Method} {c9 : Code} {D : va_G} {A9 : Nat → Prop} {Q9 : State → Prop} {E : (Nat → Prop) → State → Heap → Prop} {Y : Nat → ClassId} (C : g_Cx p9 s9 m9 a9 c9 cX3_settle 2 RX3 D (tysY Y) A9 E) (q : Nat → Nat) (I : Nat → Int) (A B : Nat → Nat → Int) (hsI : smI I) (hsA : smA A) (hsB : okB B) (hn : 2 ≤ I 3 ∧ I 3 ≤ 8) : ∀ (n9 : Nat) (k : Nat), (k : Int) + n9 = I 3 → (g_G p9 l e9 ({ frames := 1, cells := 0, slots := 0, locals := 24 } : Room) s9 m9 a9 b9 t9 c9 2 D A9 Q9 0 0 (wPlan q Y I (sU A 1 (p_z (A 1) (I 3).toNat)) B) [(1, .int (iI (((I 3).toNat : Nat) : Int))), (0, .ref (q 99))] 23 []) → g_G p9 l e9 ({ frames := 1, cells := 0, slots := 0, locals := 24 } : Room) s9 m9 a9 b9 t9 c9 2 D A9 Q9 0 0 (wPlan q Y I (sU A 1 (p_z (A 1) k)) B) [(1, .int (iI ((k : Nat) : Int))), (0, .ref (q 99))] 2 [] := by
  have hE := C.2.2.2.2.2.2.2.2.1
  intro n9
  induction n9 with
  | zero =>
    intro k hk K
    have hI := hsI
    have hA := hsA
    have hB := hsB
    unfold smI at hI
    unfold smA at hA
    unfold okB at hB
    refine g_iload_n C (n' := 3) 0 rfl dX3_settle_2 rfl rfl ?_
    refine g_aload_n C (n' := 4) 1 rfl dX3_settle_3 rfl rfl ?_
    refine g_get C (n' := 7) (Cn := RX3) (T := TX3) (N := 7) (ci := 2) (v := .int (iI (I 3))) ga_X3 0 rfl rfl 3 (by decide) kw_142 rfl rfl dX3_settle_4 rfl ?_
    have h_4 := hI 3
    refine g_icmp_ge C (n' := 10) 23 dX3_settle_7 (by decide) rfl (by unfold inR; omega) (by unfold inR; omega) (fun c1 => ?_) (fun c1 => ?_)
    · skip
      have ek : (I 3).toNat = k := by omega
      rw [ek] at K
      exact K
    · skip
      exfalso
      omega
  | succ n9 ih =>
    intro k hk K
    have hI := hsI
    have hA := hsA
    have hB := hsB
    unfold smI at hI
    unfold smA at hA
    unfold okB at hB
    refine g_iload_n C (n' := 3) 0 rfl dX3_settle_2 rfl rfl ?_
    refine g_aload_n C (n' := 4) 1 rfl dX3_settle_3 rfl rfl ?_
    refine g_get C (n' := 7) (Cn := RX3) (T := TX3) (N := 7) (ci := 2) (v := .int (iI (I 3))) ga_X3 0 rfl rfl 3 (by decide) kw_142 rfl rfl dX3_settle_4 rfl ?_
    have h_4 := hI 3
    refine g_icmp_ge C (n' := 10) 23 dX3_settle_7 (by decide) rfl (by unfold inR; omega) (by unfold inR; omega) (fun c1 => ?_) (fun c1 => ?_)
    · skip
      exfalso
      omega
    · skip
      refine g_aload_n C (n' := 11) 1 rfl dX3_settle_10 rfl rfl ?_
      refine g_get C (n' := 14) (Cn := RX3) (T := TX3) (N := 7) (ci := 2) (v := .ref (q 1)) ga_X3 0 rfl rfl 1 (by decide) kw_140 rfl rfl dX3_settle_11 rfl ?_
      refine g_iload_n C (n' := 15) 0 rfl dX3_settle_14 rfl rfl ?_
      refine g_iconst C (n' := 16) dX3_settle_15 rfl ?_
      refine g_iastN C (n' := 17) (f := (p_z (A 1) k)) 2 0 rfl rfl (by omega) (by decide) rfl dX3_settle_16 rfl (wPlan q Y I (sU A 1 (sU (p_z (A 1) k) k 0)) B) rfl ?_
      refine g_iinc C (n' := 20) 0 [(1, .int (iI (((k : Nat) : Int) + 1))), (0, .ref (q 99))] rfl dX3_settle_17 rfl (by decide) rfl ?_
      refine g_goto C 2 dX3_settle_20 (by decide) ?_
      rw [show ((sU (p_z (A 1) k) k 0) : Nat → Int) = p_z (A 1) (k + 1) from by
        funext j
        unfold sU p_z
        (repeat' split) <;> first | rfl | omega]
      refine g_lv (lv' := [(1, .int (iI ((k + 1 : Nat) : Int))), (0, .ref (q 99))]) [0, 1] rfl ?_
      exact ih (k + 1) (by omega) K
set_option maxRecDepth 100000 in
set_option maxHeartbeats 4000000 in
theorem lp_X3_se_r {p9 : Program} {l : Launch} {e9 : Env} {s9 : State} {m9 : MethodId} {a9 : Array Value} {b9 : List Frame} {t9 : Method} {c9 : Code} {D : va_G} {A9 : Nat → Prop} {Q9 : State → Prop} {E : (Nat → Prop) → State → Heap → Prop} {Y : Nat → ClassId} (C : g_Cx p9 s9 m9 a9 c9 cX3_settle 2 RX3 D (tysY Y) A9 E) (q : Nat → Nat) (I : Nat → Int) (A B : Nat → Nat → Int) (hsI : smI I) (hsA : smA A) (hsB : okB B) (hn : 2 ≤ I 3 ∧ I 3 ≤ 8) : ∀ (n9 : Nat) (k : Nat), (k : Int) + n9 = I 3 → (∀ j, j < k → ∃ a, a < (I 3).toNat ∧ p_S B (I 3).toNat (p_z (A 1) (I 3).toNat) (j + 1) a ≠ p_S B (I 3).toNat (p_z (A 1) (I 3).toNat) j a) → (∀ k : Nat, k < (I 3).toNat → p_S B (I 3).toNat (p_z (A 1) (I 3).toNat) (k + 1) = p_S B (I 3).toNat (p_z (A 1) (I 3).toNat) k → g_G p9 l e9 ({ frames := 1, cells := 0, slots := 0, locals := 24 } : Room) s9 m9 a9 b9 t9 c9 2 D A9 Q9 0 0 (wPlan q Y I (sU A 1 (p_S B (I 3).toNat (p_z (A 1) (I 3).toNat) (k + 1))) B) [(1, .int (iI ((k : Nat) : Int))), (0, .ref (q 99))] 40 []) → ((∀ j, j < (I 3).toNat → ∃ a, a < (I 3).toNat ∧ p_S B (I 3).toNat (p_z (A 1) (I 3).toNat) (j + 1) a ≠ p_S B (I 3).toNat (p_z (A 1) (I 3).toNat) j a) → g_G p9 l e9 ({ frames := 1, cells := 0, slots := 0, locals := 24 } : Room) s9 m9 a9 b9 t9 c9 2 D A9 Q9 0 0 (wPlan q Y I (sU A 1 (p_S B (I 3).toNat (p_z (A 1) (I 3).toNat) (I 3).toNat)) B) [(1, .int (iI (((I 3).toNat : Nat) : Int))), (0, .ref (q 99))] 48 []) → g_G p9 l e9 ({ frames := 1, cells := 0, slots := 0, locals := 24 } : Room) s9 m9 a9 b9 t9 c9 2 D A9 Q9 0 0 (wPlan q Y I (sU A 1 (p_S B (I 3).toNat (p_z (A 1) (I 3).toNat) k)) B) [(1, .int (iI ((k : Nat) : Int))), (0, .ref (q 99))] 25 [] := by
  have hE := C.2.2.2.2.2.2.2.2.1
  intro n9
  induction n9 with
  | zero =>
    intro k hk hj K1 K0
    have hI := hsI
    have hA := hsA
    have hB := hsB
    unfold smI at hI
    unfold smA at hA
    unfold okB at hB
    refine g_iload_n C (n' := 26) 0 rfl dX3_settle_25 rfl rfl ?_
    refine g_aload_n C (n' := 27) 1 rfl dX3_settle_26 rfl rfl ?_
    refine g_get C (n' := 30) (Cn := RX3) (T := TX3) (N := 7) (ci := 2) (v := .int (iI (I 3))) ga_X3 0 rfl rfl 3 (by decide) kw_142 rfl rfl dX3_settle_27 rfl ?_
    have h_27 := hI 3
    refine g_icmp_ge C (n' := 33) 48 dX3_settle_30 (by decide) rfl (by unfold inR; omega) (by unfold inR; omega) (fun c1 => ?_) (fun c1 => ?_)
    · skip
      have ek : (I 3).toNat = k := by omega
      rw [ek] at K0 hj ⊢
      exact K0 hj
    · skip
      exfalso
      omega
  | succ n9 ih =>
    intro k hk hj K1 K0
    have hI := hsI
    have hA := hsA
    have hB := hsB
    unfold smI at hI
    unfold smA at hA
    unfold okB at hB
    refine g_iload_n C (n' := 26) 0 rfl dX3_settle_25 rfl rfl ?_
    refine g_aload_n C (n' := 27) 1 rfl dX3_settle_26 rfl rfl ?_
    refine g_get C (n' := 30) (Cn := RX3) (T := TX3) (N := 7) (ci := 2) (v := .int (iI (I 3))) ga_X3 0 rfl rfl 3 (by decide) kw_142 rfl rfl dX3_settle_27 rfl ?_
    have h_27 := hI 3
    refine g_icmp_ge C (n' := 33) 48 dX3_settle_30 (by decide) rfl (by unfold inR; omega) (by unfold inR; omega) (fun c1 => ?_) (fun c1 => ?_)
    · skip
      exfalso
      omega
    · skip
      refine g_aload_n C (n' := 34) 1 rfl dX3_settle_33 rfl rfl ?_
      refine g_cVv C (n' := 37) (v := .int (iI ((p_mat B ((I 3)).toNat ((I 3)).toNat ((p_S B (I 3).toNat (p_z (A 1) (I 3).toNat) k), 0)).2))) (c_X3_lowerOnce l D Y C.2.2.2.2.2.2.2.2.1 q I (sU A 1 (p_S B (I 3).toNat (p_z (A 1) (I 3).toNat) k)) B (108800 * ((k : Nat) : Int)) hsI (sm_putA hsA (p_S_sm hsB (by omega) (smA_R hsA 1) (by omega))) hsB hn (p_S_bd hsB (by omega) (fun j hj9 => if_pos hj9) k) (by omega)) 0 kw_469 kc_X3_lowerOnce (by decide +kernel) (pm0 _) 0 (ci := 2) rfl rfl rfl rfl ⟨Nat.le_of_ble_eq_true rfl, Nat.le_of_ble_eq_true rfl⟩ ⟨rfl, rfl⟩ ⟨Nat.le_of_ble_eq_true rfl, Nat.le_of_ble_eq_true rfl⟩ (Nat.le_of_ble_eq_true rfl) dX3_settle_34 rfl rfl (wPlan q Y I (sU A 1 (p_mat B ((I 3)).toNat ((I 3)).toNat ((p_S B (I 3).toNat (p_z (A 1) (I 3).toNat) k), 0)).1) B) (pm0' _) ?_
      have hfl : (p_mat B (I 3).toNat (I 3).toNat (p_S B (I 3).toNat (p_z (A 1) (I 3).toNat) k, 0)).2 = 0 ∨ (p_mat B (I 3).toNat (I 3).toNat (p_S B (I 3).toNat (p_z (A 1) (I 3).toNat) k, 0)).2 = 1 := (p_mat_r hsB _ (p_S_bd hsB (show (I 3).toNat ≤ 8 by omega) (S0 := p_z (A 1) (I 3).toNat) (fun j hj9 => if_pos hj9) k) _ (Nat.le_refl _)).2
      refine g_if_ne C (n' := 40) 42 dX3_settle_37 (by decide) rfl (by unfold inR; omega) (fun c2 => ?_) (fun c2 => ?_)
      · skip
        refine g_iinc C (n' := 45) 0 [(1, .int (iI (((k : Nat) : Int) + 1))), (0, .ref (q 99))] rfl dX3_settle_42 rfl (by decide) rfl ?_
        refine g_goto C 25 dX3_settle_45 (by decide) ?_
        rcases p_S_fl (B := B) (n := (I 3).toNat) (S0 := p_z (A 1) (I 3).toNat) k with ⟨q1, q2⟩ | ⟨q1, q2⟩
        · exfalso
          omega
        · skip
          refine g_lv (lv' := [(1, .int (iI ((k + 1 : Nat) : Int))), (0, .ref (q 99))]) [0, 1] rfl ?_
          refine ih (k + 1) (by omega) (fun j h9 => ?_) K1 K0
          by_cases e : j = k
          · rw [e]
            exact q2
          · exact hj j (by omega)
      · skip
        rcases p_S_fl (B := B) (n := (I 3).toNat) (S0 := p_z (A 1) (I 3).toNat) k with ⟨q1, q2⟩ | ⟨q1, q2⟩
        · exact K1 k (by omega) q2
        · exfalso
          omega
set_option maxRecDepth 100000 in
set_option maxHeartbeats 4000000 in
theorem c_X3_settle (l : Launch) (D : va_G) (Y : Nat → ClassId) {E : (Nat → Prop) → State → Heap → Prop} (hE : g_Stab E) (q : Nat → Nat) (I : Nat → Int) (A : Nat → Nat → Int) (B : Nat → Nat → Int) (hsI : smI I) (hsA : smA A) (hsB : okB B) (hn : 2 ≤ I 3 ∧ I 3 ≤ 8) : g_Ct l yX3_settle cX3_settle 2 (some FieldType.boolean) ({ frames := 1, cells := 0, slots := 0, locals := 24 } : Room) D (tysY Y) E [.ref (q 99)] (wPlan q Y I A B) 0 0 (fun r9 w9 => ∃ S : Nat → Int, w9 = wPlan q Y I (sU A 1 S) B ∧ smR S ∧ ((r9 = some (.int (iI 1)) ∧ bG (I 3).toNat (pEd (I 3).toNat B) S) ∨ (r9 = some (.int (iI 0)) ∧ ¬ ∃ z, bsol (pEd (I 3).toNat B) z))) := by
  refine g_ofG (own := RX3) hE (by decide) rfl (Nat.le_of_ble_eq_true rfl) [(0, .ref (q 99))] rfl ?_
  intro p9 e9 s9 m9 b9 t9 c9 A9 C hr hlk hnm
  have hI := hsI
  have hA := hsA
  have hB := hsB
  unfold smI at hI
  unfold smA at hA
  unfold okB at hB
  refine g_iconst C (n' := 1) dX3_settle_0 rfl ?_
  refine g_istore_n C (n' := 2) [(1, .int (iI 0)), (0, .ref (q 99))] dX3_settle_1 rfl rfl (by decide) rfl ?_
  refine g_wd (w' := (wPlan q Y I (sU A 1 (p_z (A 1) 0)) B)) (by rw [show p_z (A 1) 0 = A 1 from funext fun j => if_neg (by omega), sU_id]) ?_
  refine g_lv (lv' := [(1, .int (iI ((0 : Nat) : Int))), (0, .ref (q 99))]) [0, 1] rfl ?_
  refine lp_X3_se_z C q I A B hsI hsA hsB hn (I 3).toNat 0 (by omega) ?_
  refine g_iconst C (n' := 24) dX3_settle_23 rfl ?_
  refine g_istore_n C (n' := 25) [(1, .int (iI 0)), (0, .ref (q 99))] dX3_settle_24 rfl rfl (by decide) rfl ?_
  refine g_lv (lv' := [(1, .int (iI ((0 : Nat) : Int))), (0, .ref (q 99))]) [0, 1] rfl ?_
  refine lp_X3_se_r C q I A B hsI hsA hsB hn (I 3).toNat 0 (by omega) (fun j h9 => absurd h9 (Nat.not_lt_zero j)) (fun k hk he => ?_) (fun hj => ?_)
  · skip
    refine g_iconst C (n' := 41) dX3_settle_40 rfl ?_
    refine g_iret C hr hlk (nar_z (Or.inr rfl)) ⟨_, rfl, p_S_sm hsB (by omega) (smA_R hsA 1) (by omega), Or.inl ⟨rfl, ?_⟩⟩ dX3_settle_41
    have hz : ∀ j, j < (I 3).toNat → p_z (A 1) (I 3).toNat j = 0 := fun j h9 => if_pos h9
    rw [he]
    exact bRd_rest pEd_lt (p_S_rd hz) (fun a _ => by rw [he])
  · skip
    refine g_iconst C (n' := 49) dX3_settle_48 rfl ?_
    refine g_iret C hr hlk (nar_z (Or.inl rfl)) ⟨_, rfl, p_S_sm hsB (by omega) (smA_R hsA 1) (by omega), Or.inr ⟨rfl, fun hs => ?_⟩⟩ dX3_settle_49
    have hz : ∀ j, j < (I 3).toNat → p_z (A 1) (I 3).toNat j = 0 := fun j h9 => if_pos h9
    obtain ⟨a, ha, hne⟩ := hj ((I 3).toNat - 1) (by omega)
    exact hne (bRd_done pEd_lt (p_S_rd hz) (by omega) hs _ (by omega) a ha)
end
